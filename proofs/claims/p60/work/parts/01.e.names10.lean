set_option maxRecDepth 20000 in
theorem ggX10_init_X7_init : GoodIn wsX10_init wsX7_init := goodIn_r _ [42, 43, 2, 3, 44, 45, 46, 47, 48, 49, 50, 51, 52, 53, 54, 55, 56, 57, 58, 59, 60, 61, 62, 63, 64, 133, 134, 135, 136, 137, 138, 139, 140, 141, 142, 143, 144, 145, 146, 147, 148, 149] (by decide +kernel) (by decide +kernel)
set_option maxRecDepth 20000 in
theorem gX10_init_X7_init_n11 : GoodIn wsX10_init (wsX7_init) := ggX10_init_X7_init
set_option maxRecDepth 20000 in
theorem ggX10_init_X3_init : GoodIn wsX10_init wsX3_init := goodIn_r _ [67, 68, 2, 3, 69, 70, 71, 72, 5, 6, 41, 42, 43, 44, 45, 46, 47, 48, 49, 50, 51, 52, 53, 54, 55, 56, 57, 58, 59, 60, 61, 62, 63, 64, 163, 164, 165, 133, 134, 135, 136, 137, 138, 139, 140, 141, 142, 143, 144, 145, 146, 147, 148, 149] (by decide +kernel) (by decide +kernel)
set_option maxRecDepth 20000 in
theorem gX10_init_X3_init : GoodIn wsX10_init (wsX3_init) := ggX10_init_X3_init
set_option maxRecDepth 20000 in
theorem ggX10_init_X8_init : GoodIn wsX10_init wsX8_init := goodIn_r _ [74, 75, 2, 3, 46, 76, 44, 77, 78, 166, 167, 168] (by decide +kernel) (by decide +kernel)
set_option maxRecDepth 20000 in
theorem gX10_init_X8_init_n35 : GoodIn wsX10_init (wsX8_init) := ggX10_init_X8_init
set_option maxRecDepth 20000 in
theorem ggX10_init_X1_init : GoodIn wsX10_init wsX1_init := goodIn_r _ [81, 82, 2, 3, 83, 84, 169, 170] (by decide +kernel) (by decide +kernel)
set_option maxRecDepth 20000 in
theorem gX10_init_X1_init : GoodIn wsX10_init (wsX1_init) := ggX10_init_X1_init
set_option maxRecDepth 20000 in
theorem ggX10_init_X2_init : GoodIn wsX10_init wsX2_init := goodIn_r _ [87, 88, 2, 3, 89, 90, 171, 172] (by decide +kernel) (by decide +kernel)
set_option maxRecDepth 20000 in
theorem gX10_init_X2_init : GoodIn wsX10_init (wsX2_init) := ggX10_init_X2_init
set_option maxRecDepth 20000 in
theorem ggX10_init_X5_init : GoodIn wsX10_init wsX5_init := goodIn_r _ [93, 94, 2, 3, 44, 95, 96, 97, 98, 99, 100, 173, 174, 175, 176, 177, 178] (by decide +kernel) (by decide +kernel)
set_option maxRecDepth 20000 in
theorem gX10_init_X5_init : GoodIn wsX10_init (wsX5_init) := ggX10_init_X5_init
set_option maxRecDepth 20000 in
theorem ggX10_init_X6_init : GoodIn wsX10_init wsX6_init := goodIn_r _ [102, 103, 2, 3, 55, 104, 105, 106, 107, 108, 44, 109, 110, 111, 112, 179, 180, 181, 182, 183, 184, 185, 186] (by decide +kernel) (by decide +kernel)
set_option maxRecDepth 20000 in
theorem gX10_init_X6_init_n67 : GoodIn wsX10_init (wsX6_init) := ggX10_init_X6_init
set_option maxRecDepth 20000 in
theorem ggX10_init_J4_init_da8c8 : GoodIn wsX10_init wsJ4_init_da8c8 := goodIn_r _ [115, 116, 117, 118, 119, 120, 2, 3, 121, 122, 123, 124, 125, 126, 127, 128, 129, 130, 131, 132, 187, 188, 189, 190] (by decide +kernel) (by decide +kernel)
set_option maxRecDepth 20000 in
theorem gX10_init_J4_init_da8c8 : GoodIn wsX10_init (wsJ4_init_da8c8) := ggX10_init_J4_init_da8c8
theorem dX10_init_0 : decode cX10_init 0 = .ok (.aload_n 0, 1) := by decide +kernel
theorem dX10_init_1 : decode cX10_init 1 = .ok (.invokespecial 3, 3) := by decide +kernel
theorem dX10_init_4 : decode cX10_init 4 = .ok (.aload_n 0, 1) := by decide +kernel
theorem dX10_init_5 : decode cX10_init 5 = .ok (.new 9, 3) := by decide +kernel
theorem dX10_init_8 : decode cX10_init 8 = .ok (.dup, 1) := by decide +kernel
theorem dX10_init_9 : decode cX10_init 9 = .ok (.invokespecial 11, 3) := by decide +kernel
theorem dX10_init_12 : decode cX10_init 12 = .ok (.putfield 12, 3) := by decide +kernel
theorem dX10_init_15 : decode cX10_init 15 = .ok (.aload_n 0, 1) := by decide +kernel
theorem dX10_init_16 : decode cX10_init 16 = .ok (.new 9, 3) := by decide +kernel
theorem dX10_init_19 : decode cX10_init 19 = .ok (.dup, 1) := by decide +kernel
theorem dX10_init_20 : decode cX10_init 20 = .ok (.invokespecial 11, 3) := by decide +kernel
theorem dX10_init_23 : decode cX10_init 23 = .ok (.putfield 16, 3) := by decide +kernel
theorem dX10_init_26 : decode cX10_init 26 = .ok (.aload_n 0, 1) := by decide +kernel
theorem dX10_init_27 : decode cX10_init 27 = .ok (.new 9, 3) := by decide +kernel
theorem dX10_init_30 : decode cX10_init 30 = .ok (.dup, 1) := by decide +kernel
theorem dX10_init_31 : decode cX10_init 31 = .ok (.invokespecial 11, 3) := by decide +kernel
theorem dX10_init_34 : decode cX10_init 34 = .ok (.putfield 19, 3) := by decide +kernel
theorem dX10_init_37 : decode cX10_init 37 = .ok (.aload_n 0, 1) := by decide +kernel
theorem dX10_init_38 : decode cX10_init 38 = .ok (.iconst 0, 1) := by decide +kernel
theorem dX10_init_39 : decode cX10_init 39 = .ok (.putfield 22, 3) := by decide +kernel
theorem dX10_init_42 : decode cX10_init 42 = .ok (.aload_n 0, 1) := by decide +kernel
theorem dX10_init_43 : decode cX10_init 43 = .ok (.new 26, 3) := by decide +kernel
theorem dX10_init_46 : decode cX10_init 46 = .ok (.dup, 1) := by decide +kernel
theorem dX10_init_47 : decode cX10_init 47 = .ok (.invokespecial 28, 3) := by decide +kernel
theorem dX10_init_50 : decode cX10_init 50 = .ok (.putfield 29, 3) := by decide +kernel
theorem dX10_init_53 : decode cX10_init 53 = .ok (.aload_n 0, 1) := by decide +kernel
theorem dX10_init_54 : decode cX10_init 54 = .ok (.new 33, 3) := by decide +kernel
theorem dX10_init_57 : decode cX10_init 57 = .ok (.dup, 1) := by decide +kernel
theorem dX10_init_58 : decode cX10_init 58 = .ok (.invokespecial 35, 3) := by decide +kernel
theorem dX10_init_61 : decode cX10_init 61 = .ok (.putfield 36, 3) := by decide +kernel
theorem dX10_init_64 : decode cX10_init 64 = .ok (.aload_n 0, 1) := by decide +kernel
theorem dX10_init_65 : decode cX10_init 65 = .ok (.new 40, 3) := by decide +kernel
theorem dX10_init_68 : decode cX10_init 68 = .ok (.dup, 1) := by decide +kernel
theorem dX10_init_69 : decode cX10_init 69 = .ok (.aload_n 0, 1) := by decide +kernel
theorem dX10_init_70 : decode cX10_init 70 = .ok (.getfield 12, 3) := by decide +kernel
theorem dX10_init_73 : decode cX10_init 73 = .ok (.aload_n 0, 1) := by decide +kernel
theorem dX10_init_74 : decode cX10_init 74 = .ok (.getfield 36, 3) := by decide +kernel
theorem dX10_init_77 : decode cX10_init 77 = .ok (.invokespecial 42, 3) := by decide +kernel
theorem dX10_init_80 : decode cX10_init 80 = .ok (.putfield 45, 3) := by decide +kernel
theorem dX10_init_83 : decode cX10_init 83 = .ok (.aload_n 0, 1) := by decide +kernel
theorem dX10_init_84 : decode cX10_init 84 = .ok (.new 49, 3) := by decide +kernel
theorem dX10_init_87 : decode cX10_init 87 = .ok (.dup, 1) := by decide +kernel
theorem dX10_init_88 : decode cX10_init 88 = .ok (.aload_n 0, 1) := by decide +kernel
theorem dX10_init_89 : decode cX10_init 89 = .ok (.getfield 12, 3) := by decide +kernel
theorem dX10_init_92 : decode cX10_init 92 = .ok (.aload_n 0, 1) := by decide +kernel
theorem dX10_init_93 : decode cX10_init 93 = .ok (.getfield 36, 3) := by decide +kernel
theorem dX10_init_96 : decode cX10_init 96 = .ok (.invokespecial 51, 3) := by decide +kernel
theorem dX10_init_99 : decode cX10_init 99 = .ok (.putfield 52, 3) := by decide +kernel
theorem dX10_init_102 : decode cX10_init 102 = .ok (.aload_n 0, 1) := by decide +kernel
theorem dX10_init_103 : decode cX10_init 103 = .ok (.new 56, 3) := by decide +kernel
theorem dX10_init_106 : decode cX10_init 106 = .ok (.dup, 1) := by decide +kernel
theorem dX10_init_107 : decode cX10_init 107 = .ok (.aload_n 0, 1) := by decide +kernel
theorem dX10_init_108 : decode cX10_init 108 = .ok (.getfield 12, 3) := by decide +kernel
theorem dX10_init_111 : decode cX10_init 111 = .ok (.invokespecial 58, 3) := by decide +kernel
theorem dX10_init_114 : decode cX10_init 114 = .ok (.putfield 61, 3) := by decide +kernel
theorem dX10_init_117 : decode cX10_init 117 = .ok (.aload_n 0, 1) := by decide +kernel
theorem dX10_init_118 : decode cX10_init 118 = .ok (.new 65, 3) := by decide +kernel
theorem dX10_init_121 : decode cX10_init 121 = .ok (.dup, 1) := by decide +kernel
theorem dX10_init_122 : decode cX10_init 122 = .ok (.invokespecial 67, 3) := by decide +kernel
theorem dX10_init_125 : decode cX10_init 125 = .ok (.putfield 68, 3) := by decide +kernel
theorem dX10_init_128 : decode cX10_init 128 = .ok (.aload_n 0, 1) := by decide +kernel
theorem dX10_init_129 : decode cX10_init 129 = .ok (.new 72, 3) := by decide +kernel
theorem dX10_init_132 : decode cX10_init 132 = .ok (.dup, 1) := by decide +kernel
theorem dX10_init_133 : decode cX10_init 133 = .ok (.invokespecial 74, 3) := by decide +kernel
theorem dX10_init_136 : decode cX10_init 136 = .ok (.putfield 75, 3) := by decide +kernel
theorem dX10_init_139 : decode cX10_init 139 = .ok (.aload_n 0, 1) := by decide +kernel
theorem dX10_init_140 : decode cX10_init 140 = .ok (.iconst (-1), 1) := by decide +kernel
theorem dX10_init_141 : decode cX10_init 141 = .ok (.putfield 79, 3) := by decide +kernel
theorem dX10_init_144 : decode cX10_init 144 = .ok (.aload_n 0, 1) := by decide +kernel
theorem dX10_init_145 : decode cX10_init 145 = .ok (.iconst (-1), 1) := by decide +kernel
theorem dX10_init_146 : decode cX10_init 146 = .ok (.putfield 83, 3) := by decide +kernel
theorem dX10_init_149 : decode cX10_init 149 = .ok (.return_, 1) := by decide +kernel
set_option maxRecDepth 20000 in
theorem ggX10_addGear_X7_copyFrom : GoodIn wsX10_addGear wsX7_copyFrom := goodIn_ca (goodIn_r _ [8, 9, 10, 11, 12, 13, 14, 15, 16, 17, 18, 19, 20, 21, 22, 23, 24, 25, 78, 79, 80, 81, 82, 83, 84, 85, 86, 87, 88, 89, 90, 91, 92, 93, 94] (by decide +kernel) (by decide +kernel)) (goodIn_sub (fun _ h => List.mem_cons_of_mem _ (List.mem_append_left _ (List.mem_append_left _ (List.mem_append_left _ (List.mem_append_left _ (List.mem_append_left _ (List.mem_append_right _ h))))))) (by decide +kernel))
set_option maxRecDepth 20000 in
theorem gX10_addGear_X7_copyFrom : GoodIn wsX10_addGear (wsV RX10 86 RX7 yX7_copyFrom wsX7_copyFrom) := goodIn_app (goodIn_of _ (by decide +kernel)) ggX10_addGear_X7_copyFrom
set_option maxRecDepth 20000 in
theorem ggX10_addGear_X1_putGear : GoodIn wsX10_addGear wsX1_putGear := goodIn_ca (goodIn_r _ [30, 31, 32, 33, 34, 35, 29, 36, 95, 96, 78, 79, 80, 81, 82, 83, 84, 85, 86, 87, 88, 89, 90, 91, 92, 93, 94] (by decide +kernel) (by decide +kernel)) (goodIn_sub (fun _ h => List.mem_cons_of_mem _ (List.mem_append_left _ (List.mem_append_left _ (List.mem_append_left _ (List.mem_append_left _ (List.mem_append_left _ (List.mem_append_right _ h))))))) (by decide +kernel))
set_option maxRecDepth 20000 in
theorem gX10_addGear_X1_putGear : GoodIn wsX10_addGear (wsV RX10 89 RX1 yX1_putGear wsX1_putGear) := goodIn_app (goodIn_of _ (by decide +kernel)) ggX10_addGear_X1_putGear
set_option maxRecDepth 20000 in
theorem ggX10_addGear_X10_settle : GoodIn wsX10_addGear wsX10_settle := goodIn_ca (goodIn_ca (goodIn_ca (goodIn_ca (goodIn_ca (goodIn_ca (goodIn_r _ [41, 42, 1, 43, 44, 40, 45, 46, 47, 48, 49, 50, 51, 52, 53, 54, 55, 56, 57, 58, 59, 60, 61, 62, 63, 64, 5, 6, 7, 8, 9, 10, 11, 12, 13, 14, 15, 16, 17, 18, 19, 20, 21, 22, 23, 24, 25, 65, 66, 67, 68, 69, 70, 71, 72, 73, 74, 75, 76, 77, 97, 98, 99, 78, 79, 80, 81, 82, 83, 84, 85, 86, 87, 88, 89, 90, 91, 92, 93, 94] (by decide +kernel) (by decide +kernel)) (goodIn_sub (fun _ h => List.mem_cons_of_mem _ (List.mem_append_left _ (List.mem_append_left _ (List.mem_append_left _ (List.mem_append_left _ (List.mem_append_right _ h)))))) (by decide +kernel))) (goodIn_sub (fun _ h => List.mem_cons_of_mem _ (List.mem_append_left _ (List.mem_append_left _ (List.mem_append_left _ (List.mem_append_right _ h))))) (by decide +kernel))) (goodIn_sub (fun _ h => List.mem_cons_of_mem _ (List.mem_append_left _ (List.mem_append_left _ (List.mem_append_right _ h)))) (by decide +kernel))) (goodIn_sub (fun _ h => List.mem_cons_of_mem _ (List.mem_append_left _ (List.mem_append_right _ h))) (by decide +kernel))) (goodIn_sub (fun _ h => List.mem_cons_of_mem _ (List.mem_append_right _ h)) (by decide +kernel))) (goodIn_sub (fun _ h => List.mem_cons_of_mem _ (List.mem_append_left _ (List.mem_append_left _ (List.mem_append_left _ (List.mem_append_left _ (List.mem_append_left _ (List.mem_append_right _ h))))))) (by decide +kernel))
set_option maxRecDepth 20000 in
theorem gX10_addGear_X10_settle : GoodIn wsX10_addGear (wsV RX10 93 RX10 yX10_settle wsX10_settle) := goodIn_app (goodIn_of _ (by decide +kernel)) ggX10_addGear_X10_settle
theorem dX10_addGear_0 : decode cX10_addGear 0 = .ok (.aload_n 0, 1) := by decide +kernel
theorem dX10_addGear_1 : decode cX10_addGear 1 = .ok (.getfield 16, 3) := by decide +kernel
theorem dX10_addGear_4 : decode cX10_addGear 4 = .ok (.aload_n 0, 1) := by decide +kernel
theorem dX10_addGear_5 : decode cX10_addGear 5 = .ok (.getfield 12, 3) := by decide +kernel
theorem dX10_addGear_8 : decode cX10_addGear 8 = .ok (.invokevirtual 86, 3) := by decide +kernel
theorem dX10_addGear_11 : decode cX10_addGear 11 = .ok (.aload_n 0, 1) := by decide +kernel
theorem dX10_addGear_12 : decode cX10_addGear 12 = .ok (.aload_n 0, 1) := by decide +kernel
theorem dX10_addGear_13 : decode cX10_addGear 13 = .ok (.getfield 45, 3) := by decide +kernel
theorem dX10_addGear_16 : decode cX10_addGear 16 = .ok (.iload_n 1, 1) := by decide +kernel
theorem dX10_addGear_17 : decode cX10_addGear 17 = .ok (.invokevirtual 89, 3) := by decide +kernel
theorem dX10_addGear_20 : decode cX10_addGear 20 = .ok (.invokevirtual 93, 3) := by decide +kernel
theorem dX10_addGear_23 : decode cX10_addGear 23 = .ok (.ireturn, 1) := by decide +kernel
set_option maxRecDepth 20000 in
theorem ggX10_mesh_X7_copyFrom : GoodIn wsX10_mesh wsX7_copyFrom := goodIn_ca (goodIn_r _ [8, 9, 10, 11, 12, 13, 14, 15, 16, 17, 18, 19, 20, 21, 22, 23, 24, 25, 131, 132, 133, 134, 135, 136, 137, 138, 139, 140, 141, 142, 143, 144, 145, 146, 147] (by decide +kernel) (by decide +kernel)) (goodIn_sub (fun _ h => List.mem_cons_of_mem _ (List.mem_append_left _ (List.mem_append_left _ (List.mem_append_left _ (List.mem_append_left _ (List.mem_append_left _ (List.mem_append_right _ h))))))) (by decide +kernel))
set_option maxRecDepth 20000 in
theorem gX10_mesh_X7_copyFrom : GoodIn wsX10_mesh (wsV RX10 86 RX7 yX7_copyFrom wsX7_copyFrom) := goodIn_app (goodIn_of _ (by decide +kernel)) ggX10_mesh_X7_copyFrom
set_option maxRecDepth 20000 in
theorem ggX10_mesh_X1_join : GoodIn wsX10_mesh wsX1_join := goodIn_ca (goodIn_r _ [30, 31, 32, 33, 34, 35, 36, 37, 38, 39, 7, 40, 19, 41, 42, 43, 44, 45, 46, 47, 48, 49, 50, 51, 52, 53, 54, 55, 56, 57, 58, 17, 59, 60, 61, 62, 9, 63, 64, 65, 66, 67, 68, 69, 70, 71, 72, 73, 74, 75, 76, 77, 78, 79, 80, 81, 82, 14, 83, 84, 85, 86, 87, 88, 89, 148, 149, 131, 132, 133, 134, 135, 136, 137, 138, 139, 140, 141, 142, 143, 144, 145, 146, 147, 150, 151, 152] (by decide +kernel) (by decide +kernel)) (goodIn_sub (fun _ h => List.mem_cons_of_mem _ (List.mem_append_left _ (List.mem_append_left _ (List.mem_append_left _ (List.mem_append_left _ (List.mem_append_left _ (List.mem_append_right _ h))))))) (by decide +kernel))
set_option maxRecDepth 20000 in
theorem gX10_mesh_X1_join : GoodIn wsX10_mesh (wsV RX10 96 RX1 yX1_join wsX1_join) := goodIn_app (goodIn_of _ (by decide +kernel)) ggX10_mesh_X1_join
set_option maxRecDepth 20000 in
theorem ggX10_mesh_X10_settle : GoodIn wsX10_mesh wsX10_settle := goodIn_ca (goodIn_ca (goodIn_ca (goodIn_ca (goodIn_ca (goodIn_ca (goodIn_r _ [94, 95, 1, 96, 97, 93, 98, 99, 100, 101, 102, 103, 104, 105, 106, 107, 108, 109, 110, 111, 112, 113, 114, 115, 116, 117, 5, 6, 7, 8, 9, 10, 11, 12, 13, 14, 15, 16, 17, 18, 19, 20, 21, 22, 23, 24, 25, 118, 119, 120, 121, 122, 123, 124, 125, 126, 127, 128, 129, 130, 153, 154, 155, 131, 132, 133, 134, 135, 136, 137, 138, 139, 140, 141, 142, 143, 144, 145, 146, 147] (by decide +kernel) (by decide +kernel)) (goodIn_sub (fun _ h => List.mem_cons_of_mem _ (List.mem_append_left _ (List.mem_append_left _ (List.mem_append_left _ (List.mem_append_left _ (List.mem_append_right _ h)))))) (by decide +kernel))) (goodIn_sub (fun _ h => List.mem_cons_of_mem _ (List.mem_append_left _ (List.mem_append_left _ (List.mem_append_left _ (List.mem_append_right _ h))))) (by decide +kernel))) (goodIn_sub (fun _ h => List.mem_cons_of_mem _ (List.mem_append_left _ (List.mem_append_left _ (List.mem_append_right _ h)))) (by decide +kernel))) (goodIn_sub (fun _ h => List.mem_cons_of_mem _ (List.mem_append_left _ (List.mem_append_right _ h))) (by decide +kernel))) (goodIn_sub (fun _ h => List.mem_cons_of_mem _ (List.mem_append_right _ h)) (by decide +kernel))) (goodIn_sub (fun _ h => List.mem_cons_of_mem _ (List.mem_append_left _ (List.mem_append_left _ (List.mem_append_left _ (List.mem_append_left _ (List.mem_append_left _ (List.mem_append_right _ h))))))) (by decide +kernel))
set_option maxRecDepth 20000 in
theorem gX10_mesh_X10_settle : GoodIn wsX10_mesh (wsV RX10 93 RX10 yX10_settle wsX10_settle) := goodIn_app (goodIn_of _ (by decide +kernel)) ggX10_mesh_X10_settle
theorem dX10_mesh_0 : decode cX10_mesh 0 = .ok (.aload_n 0, 1) := by decide +kernel
theorem dX10_mesh_1 : decode cX10_mesh 1 = .ok (.getfield 16, 3) := by decide +kernel
theorem dX10_mesh_4 : decode cX10_mesh 4 = .ok (.aload_n 0, 1) := by decide +kernel
theorem dX10_mesh_5 : decode cX10_mesh 5 = .ok (.getfield 12, 3) := by decide +kernel
theorem dX10_mesh_8 : decode cX10_mesh 8 = .ok (.invokevirtual 86, 3) := by decide +kernel
theorem dX10_mesh_11 : decode cX10_mesh 11 = .ok (.aload_n 0, 1) := by decide +kernel
theorem dX10_mesh_12 : decode cX10_mesh 12 = .ok (.aload_n 0, 1) := by decide +kernel
theorem dX10_mesh_13 : decode cX10_mesh 13 = .ok (.getfield 45, 3) := by decide +kernel
theorem dX10_mesh_16 : decode cX10_mesh 16 = .ok (.iload_n 1, 1) := by decide +kernel
theorem dX10_mesh_17 : decode cX10_mesh 17 = .ok (.iload_n 2, 1) := by decide +kernel
theorem dX10_mesh_18 : decode cX10_mesh 18 = .ok (.bipush 109, 2) := by decide +kernel
theorem dX10_mesh_20 : decode cX10_mesh 20 = .ok (.invokevirtual 96, 3) := by decide +kernel
theorem dX10_mesh_23 : decode cX10_mesh 23 = .ok (.invokevirtual 93, 3) := by decide +kernel
theorem dX10_mesh_26 : decode cX10_mesh 26 = .ok (.ireturn, 1) := by decide +kernel
set_option maxRecDepth 20000 in
theorem ggX10_shareAxle_X7_copyFrom : GoodIn wsX10_shareAxle wsX7_copyFrom := goodIn_ca (goodIn_r _ [8, 9, 10, 11, 12, 13, 14, 15, 16, 17, 18, 19, 20, 21, 22, 23, 24, 25, 131, 132, 133, 134, 135, 136, 137, 138, 139, 140, 141, 142, 143, 144, 145, 146, 147] (by decide +kernel) (by decide +kernel)) (goodIn_sub (fun _ h => List.mem_cons_of_mem _ (List.mem_append_left _ (List.mem_append_left _ (List.mem_append_left _ (List.mem_append_left _ (List.mem_append_left _ (List.mem_append_right _ h))))))) (by decide +kernel))
set_option maxRecDepth 20000 in
theorem gX10_shareAxle_X7_copyFrom : GoodIn wsX10_shareAxle (wsV RX10 86 RX7 yX7_copyFrom wsX7_copyFrom) := goodIn_app (goodIn_of _ (by decide +kernel)) ggX10_shareAxle_X7_copyFrom
set_option maxRecDepth 20000 in
theorem ggX10_shareAxle_X1_join : GoodIn wsX10_shareAxle wsX1_join := goodIn_ca (goodIn_r _ [30, 31, 32, 33, 34, 35, 36, 37, 38, 39, 7, 40, 19, 41, 42, 43, 44, 45, 46, 47, 48, 49, 50, 51, 52, 53, 54, 55, 56, 57, 58, 17, 59, 60, 61, 62, 9, 63, 64, 65, 66, 67, 68, 69, 70, 71, 72, 73, 74, 75, 76, 77, 78, 79, 80, 81, 82, 14, 83, 84, 85, 86, 87, 88, 89, 148, 149, 131, 132, 133, 134, 135, 136, 137, 138, 139, 140, 141, 142, 143, 144, 145, 146, 147, 150, 151, 152] (by decide +kernel) (by decide +kernel)) (goodIn_sub (fun _ h => List.mem_cons_of_mem _ (List.mem_append_left _ (List.mem_append_left _ (List.mem_append_left _ (List.mem_append_left _ (List.mem_append_left _ (List.mem_append_right _ h))))))) (by decide +kernel))
set_option maxRecDepth 20000 in
theorem gX10_shareAxle_X1_join : GoodIn wsX10_shareAxle (wsV RX10 96 RX1 yX1_join wsX1_join) := goodIn_app (goodIn_of _ (by decide +kernel)) ggX10_shareAxle_X1_join
set_option maxRecDepth 20000 in
theorem ggX10_shareAxle_X10_settle : GoodIn wsX10_shareAxle wsX10_settle := goodIn_ca (goodIn_ca (goodIn_ca (goodIn_ca (goodIn_ca (goodIn_ca (goodIn_r _ [94, 95, 1, 96, 97, 93, 98, 99, 100, 101, 102, 103, 104, 105, 106, 107, 108, 109, 110, 111, 112, 113, 114, 115, 116, 117, 5, 6, 7, 8, 9, 10, 11, 12, 13, 14, 15, 16, 17, 18, 19, 20, 21, 22, 23, 24, 25, 118, 119, 120, 121, 122, 123, 124, 125, 126, 127, 128, 129, 130, 153, 154, 155, 131, 132, 133, 134, 135, 136, 137, 138, 139, 140, 141, 142, 143, 144, 145, 146, 147] (by decide +kernel) (by decide +kernel)) (goodIn_sub (fun _ h => List.mem_cons_of_mem _ (List.mem_append_left _ (List.mem_append_left _ (List.mem_append_left _ (List.mem_append_left _ (List.mem_append_right _ h)))))) (by decide +kernel))) (goodIn_sub (fun _ h => List.mem_cons_of_mem _ (List.mem_append_left _ (List.mem_append_left _ (List.mem_append_left _ (List.mem_append_right _ h))))) (by decide +kernel))) (goodIn_sub (fun _ h => List.mem_cons_of_mem _ (List.mem_append_left _ (List.mem_append_left _ (List.mem_append_right _ h)))) (by decide +kernel))) (goodIn_sub (fun _ h => List.mem_cons_of_mem _ (List.mem_append_left _ (List.mem_append_right _ h))) (by decide +kernel))) (goodIn_sub (fun _ h => List.mem_cons_of_mem _ (List.mem_append_right _ h)) (by decide +kernel))) (goodIn_sub (fun _ h => List.mem_cons_of_mem _ (List.mem_append_left _ (List.mem_append_left _ (List.mem_append_left _ (List.mem_append_left _ (List.mem_append_left _ (List.mem_append_right _ h))))))) (by decide +kernel))
set_option maxRecDepth 20000 in
theorem gX10_shareAxle_X10_settle : GoodIn wsX10_shareAxle (wsV RX10 93 RX10 yX10_settle wsX10_settle) := goodIn_app (goodIn_of _ (by decide +kernel)) ggX10_shareAxle_X10_settle
theorem dX10_shareAxle_0 : decode cX10_shareAxle 0 = .ok (.aload_n 0, 1) := by decide +kernel
theorem dX10_shareAxle_1 : decode cX10_shareAxle 1 = .ok (.getfield 16, 3) := by decide +kernel
theorem dX10_shareAxle_4 : decode cX10_shareAxle 4 = .ok (.aload_n 0, 1) := by decide +kernel
theorem dX10_shareAxle_5 : decode cX10_shareAxle 5 = .ok (.getfield 12, 3) := by decide +kernel
theorem dX10_shareAxle_8 : decode cX10_shareAxle 8 = .ok (.invokevirtual 86, 3) := by decide +kernel
theorem dX10_shareAxle_11 : decode cX10_shareAxle 11 = .ok (.aload_n 0, 1) := by decide +kernel
theorem dX10_shareAxle_12 : decode cX10_shareAxle 12 = .ok (.aload_n 0, 1) := by decide +kernel
theorem dX10_shareAxle_13 : decode cX10_shareAxle 13 = .ok (.getfield 45, 3) := by decide +kernel
theorem dX10_shareAxle_16 : decode cX10_shareAxle 16 = .ok (.iload_n 1, 1) := by decide +kernel
theorem dX10_shareAxle_17 : decode cX10_shareAxle 17 = .ok (.iload_n 2, 1) := by decide +kernel
theorem dX10_shareAxle_18 : decode cX10_shareAxle 18 = .ok (.bipush 97, 2) := by decide +kernel
theorem dX10_shareAxle_20 : decode cX10_shareAxle 20 = .ok (.invokevirtual 96, 3) := by decide +kernel
theorem dX10_shareAxle_23 : decode cX10_shareAxle 23 = .ok (.invokevirtual 93, 3) := by decide +kernel
theorem dX10_shareAxle_26 : decode cX10_shareAxle 26 = .ok (.ireturn, 1) := by decide +kernel
set_option maxRecDepth 20000 in
theorem ggX10_separate_X7_copyFrom : GoodIn wsX10_separate wsX7_copyFrom := goodIn_ca (goodIn_r _ [8, 9, 10, 11, 12, 13, 14, 15, 16, 17, 18, 19, 20, 21, 22, 23, 24, 25, 86, 87, 88, 89, 90, 91, 92, 93, 94, 95, 96, 97, 98, 99, 100, 101, 102] (by decide +kernel) (by decide +kernel)) (goodIn_sub (fun _ h => List.mem_cons_of_mem _ (List.mem_append_left _ (List.mem_append_left _ (List.mem_append_left _ (List.mem_append_left _ (List.mem_append_left _ (List.mem_append_right _ h))))))) (by decide +kernel))
set_option maxRecDepth 20000 in
theorem gX10_separate_X7_copyFrom : GoodIn wsX10_separate (wsV RX10 86 RX7 yX7_copyFrom wsX7_copyFrom) := goodIn_app (goodIn_of _ (by decide +kernel)) ggX10_separate_X7_copyFrom
set_option maxRecDepth 20000 in
theorem ggX10_separate_X1_cut : GoodIn wsX10_separate wsX1_cut := goodIn_ca (goodIn_r _ [30, 31, 32, 33, 34, 35, 7, 36, 19, 37, 38, 39, 40, 17, 41, 42, 43, 44, 103, 104, 86, 87, 88, 89, 90, 91, 92, 93, 94, 95, 96, 97, 98, 99, 100, 101, 102] (by decide +kernel) (by decide +kernel)) (goodIn_sub (fun _ h => List.mem_cons_of_mem _ (List.mem_append_left _ (List.mem_append_left _ (List.mem_append_left _ (List.mem_append_left _ (List.mem_append_left _ (List.mem_append_right _ h))))))) (by decide +kernel))
set_option maxRecDepth 20000 in
theorem gX10_separate_X1_cut : GoodIn wsX10_separate (wsV RX10 100 RX1 yX1_cut wsX1_cut) := goodIn_app (goodIn_of _ (by decide +kernel)) ggX10_separate_X1_cut
set_option maxRecDepth 20000 in
theorem ggX10_separate_X10_settle : GoodIn wsX10_separate wsX10_settle := goodIn_ca (goodIn_ca (goodIn_ca (goodIn_ca (goodIn_ca (goodIn_ca (goodIn_r _ [49, 50, 1, 51, 52, 48, 53, 54, 55, 56, 57, 58, 59, 60, 61, 62, 63, 64, 65, 66, 67, 68, 69, 70, 71, 72, 5, 6, 7, 8, 9, 10, 11, 12, 13, 14, 15, 16, 17, 18, 19, 20, 21, 22, 23, 24, 25, 73, 74, 75, 76, 77, 78, 79, 80, 81, 82, 83, 84, 85, 105, 106, 107, 86, 87, 88, 89, 90, 91, 92, 93, 94, 95, 96, 97, 98, 99, 100, 101, 102] (by decide +kernel) (by decide +kernel)) (goodIn_sub (fun _ h => List.mem_cons_of_mem _ (List.mem_append_left _ (List.mem_append_left _ (List.mem_append_left _ (List.mem_append_left _ (List.mem_append_right _ h)))))) (by decide +kernel))) (goodIn_sub (fun _ h => List.mem_cons_of_mem _ (List.mem_append_left _ (List.mem_append_left _ (List.mem_append_left _ (List.mem_append_right _ h))))) (by decide +kernel))) (goodIn_sub (fun _ h => List.mem_cons_of_mem _ (List.mem_append_left _ (List.mem_append_left _ (List.mem_append_right _ h)))) (by decide +kernel))) (goodIn_sub (fun _ h => List.mem_cons_of_mem _ (List.mem_append_left _ (List.mem_append_right _ h))) (by decide +kernel))) (goodIn_sub (fun _ h => List.mem_cons_of_mem _ (List.mem_append_right _ h)) (by decide +kernel))) (goodIn_sub (fun _ h => List.mem_cons_of_mem _ (List.mem_append_left _ (List.mem_append_left _ (List.mem_append_left _ (List.mem_append_left _ (List.mem_append_left _ (List.mem_append_right _ h))))))) (by decide +kernel))
set_option maxRecDepth 20000 in
theorem gX10_separate_X10_settle : GoodIn wsX10_separate (wsV RX10 93 RX10 yX10_settle wsX10_settle) := goodIn_app (goodIn_of _ (by decide +kernel)) ggX10_separate_X10_settle
theorem dX10_separate_0 : decode cX10_separate 0 = .ok (.aload_n 0, 1) := by decide +kernel
theorem dX10_separate_1 : decode cX10_separate 1 = .ok (.getfield 16, 3) := by decide +kernel
theorem dX10_separate_4 : decode cX10_separate 4 = .ok (.aload_n 0, 1) := by decide +kernel
theorem dX10_separate_5 : decode cX10_separate 5 = .ok (.getfield 12, 3) := by decide +kernel
theorem dX10_separate_8 : decode cX10_separate 8 = .ok (.invokevirtual 86, 3) := by decide +kernel
theorem dX10_separate_11 : decode cX10_separate 11 = .ok (.aload_n 0, 1) := by decide +kernel
theorem dX10_separate_12 : decode cX10_separate 12 = .ok (.aload_n 0, 1) := by decide +kernel
theorem dX10_separate_13 : decode cX10_separate 13 = .ok (.getfield 45, 3) := by decide +kernel
theorem dX10_separate_16 : decode cX10_separate 16 = .ok (.iload_n 1, 1) := by decide +kernel
theorem dX10_separate_17 : decode cX10_separate 17 = .ok (.iload_n 2, 1) := by decide +kernel
theorem dX10_separate_18 : decode cX10_separate 18 = .ok (.invokevirtual 100, 3) := by decide +kernel
theorem dX10_separate_21 : decode cX10_separate 21 = .ok (.invokevirtual 93, 3) := by decide +kernel
theorem dX10_separate_24 : decode cX10_separate 24 = .ok (.ireturn, 1) := by decide +kernel
set_option maxRecDepth 20000 in
theorem ggX10_setSpring_X7_copyFrom : GoodIn wsX10_setSpring wsX7_copyFrom := goodIn_ca (goodIn_r _ [8, 9, 10, 11, 12, 13, 14, 15, 16, 17, 18, 19, 20, 21, 22, 23, 24, 25, 126, 127, 128, 129, 130, 131, 132, 133, 134, 135, 136, 137, 138, 139, 140, 141, 142] (by decide +kernel) (by decide +kernel)) (goodIn_sub (fun _ h => List.mem_cons_of_mem _ (List.mem_append_left _ (List.mem_append_left _ (List.mem_append_left _ (List.mem_append_left _ (List.mem_append_left _ (List.mem_append_right _ h))))))) (by decide +kernel))
set_option maxRecDepth 20000 in
theorem gX10_setSpring_X7_copyFrom : GoodIn wsX10_setSpring (wsV RX10 86 RX7 yX7_copyFrom wsX7_copyFrom) := goodIn_app (goodIn_of _ (by decide +kernel)) ggX10_setSpring_X7_copyFrom
set_option maxRecDepth 20000 in
theorem ggX10_setSpring_X1_putSpring : GoodIn wsX10_setSpring wsX1_putSpring := goodIn_ca (goodIn_r _ [30, 31, 32, 33, 34, 35, 36, 7, 37, 19, 38, 39, 40, 41, 42, 43, 44, 45, 46, 47, 48, 49, 50, 51, 52, 53, 54, 55, 17, 56, 57, 58, 59, 9, 60, 61, 62, 63, 64, 65, 66, 67, 68, 69, 70, 71, 72, 73, 74, 75, 76, 77, 78, 79, 14, 80, 81, 82, 83, 84, 143, 144, 126, 127, 128, 129, 130, 131, 132, 133, 134, 135, 136, 137, 138, 139, 140, 141, 142, 145, 146, 147] (by decide +kernel) (by decide +kernel)) (goodIn_sub (fun _ h => List.mem_cons_of_mem _ (List.mem_append_left _ (List.mem_append_left _ (List.mem_append_left _ (List.mem_append_left _ (List.mem_append_left _ (List.mem_append_right _ h))))))) (by decide +kernel))
set_option maxRecDepth 20000 in
theorem gX10_setSpring_X1_putSpring : GoodIn wsX10_setSpring (wsV RX10 104 RX1 yX1_putSpring wsX1_putSpring) := goodIn_app (goodIn_of _ (by decide +kernel)) ggX10_setSpring_X1_putSpring
set_option maxRecDepth 20000 in
theorem ggX10_setSpring_X10_settle : GoodIn wsX10_setSpring wsX10_settle := goodIn_ca (goodIn_ca (goodIn_ca (goodIn_ca (goodIn_ca (goodIn_ca (goodIn_r _ [89, 90, 1, 91, 92, 88, 93, 94, 95, 96, 97, 98, 99, 100, 101, 102, 103, 104, 105, 106, 107, 108, 109, 110, 111, 112, 5, 6, 7, 8, 9, 10, 11, 12, 13, 14, 15, 16, 17, 18, 19, 20, 21, 22, 23, 24, 25, 113, 114, 115, 116, 117, 118, 119, 120, 121, 122, 123, 124, 125, 148, 149, 150, 126, 127, 128, 129, 130, 131, 132, 133, 134, 135, 136, 137, 138, 139, 140, 141, 142] (by decide +kernel) (by decide +kernel)) (goodIn_sub (fun _ h => List.mem_cons_of_mem _ (List.mem_append_left _ (List.mem_append_left _ (List.mem_append_left _ (List.mem_append_left _ (List.mem_append_right _ h)))))) (by decide +kernel))) (goodIn_sub (fun _ h => List.mem_cons_of_mem _ (List.mem_append_left _ (List.mem_append_left _ (List.mem_append_left _ (List.mem_append_right _ h))))) (by decide +kernel))) (goodIn_sub (fun _ h => List.mem_cons_of_mem _ (List.mem_append_left _ (List.mem_append_left _ (List.mem_append_right _ h)))) (by decide +kernel))) (goodIn_sub (fun _ h => List.mem_cons_of_mem _ (List.mem_append_left _ (List.mem_append_right _ h))) (by decide +kernel))) (goodIn_sub (fun _ h => List.mem_cons_of_mem _ (List.mem_append_right _ h)) (by decide +kernel))) (goodIn_sub (fun _ h => List.mem_cons_of_mem _ (List.mem_append_left _ (List.mem_append_left _ (List.mem_append_left _ (List.mem_append_left _ (List.mem_append_left _ (List.mem_append_right _ h))))))) (by decide +kernel))
set_option maxRecDepth 20000 in
theorem gX10_setSpring_X10_settle : GoodIn wsX10_setSpring (wsV RX10 93 RX10 yX10_settle wsX10_settle) := goodIn_app (goodIn_of _ (by decide +kernel)) ggX10_setSpring_X10_settle
theorem dX10_setSpring_0 : decode cX10_setSpring 0 = .ok (.aload_n 0, 1) := by decide +kernel
theorem dX10_setSpring_1 : decode cX10_setSpring 1 = .ok (.getfield 16, 3) := by decide +kernel
theorem dX10_setSpring_4 : decode cX10_setSpring 4 = .ok (.aload_n 0, 1) := by decide +kernel
theorem dX10_setSpring_5 : decode cX10_setSpring 5 = .ok (.getfield 12, 3) := by decide +kernel
theorem dX10_setSpring_8 : decode cX10_setSpring 8 = .ok (.invokevirtual 86, 3) := by decide +kernel
theorem dX10_setSpring_11 : decode cX10_setSpring 11 = .ok (.aload_n 0, 1) := by decide +kernel
theorem dX10_setSpring_12 : decode cX10_setSpring 12 = .ok (.aload_n 0, 1) := by decide +kernel
theorem dX10_setSpring_13 : decode cX10_setSpring 13 = .ok (.getfield 45, 3) := by decide +kernel
theorem dX10_setSpring_16 : decode cX10_setSpring 16 = .ok (.iload_n 1, 1) := by decide +kernel
theorem dX10_setSpring_17 : decode cX10_setSpring 17 = .ok (.iload_n 2, 1) := by decide +kernel
theorem dX10_setSpring_18 : decode cX10_setSpring 18 = .ok (.invokevirtual 104, 3) := by decide +kernel
theorem dX10_setSpring_21 : decode cX10_setSpring 21 = .ok (.invokevirtual 93, 3) := by decide +kernel
theorem dX10_setSpring_24 : decode cX10_setSpring 24 = .ok (.ireturn, 1) := by decide +kernel
set_option maxRecDepth 20000 in
theorem ggX10_wind_X7_copyFrom : GoodIn wsX10_wind wsX7_copyFrom := goodIn_ca (goodIn_r _ [8, 9, 10, 11, 12, 13, 14, 15, 16, 17, 18, 19, 20, 21, 22, 23, 24, 25, 84, 85, 86, 87, 88, 89, 90, 91, 92, 93, 94, 95, 96, 97, 98, 99, 100] (by decide +kernel) (by decide +kernel)) (goodIn_sub (fun _ h => List.mem_cons_of_mem _ (List.mem_append_left _ (List.mem_append_left _ (List.mem_append_left _ (List.mem_append_left _ (List.mem_append_left _ (List.mem_append_right _ h))))))) (by decide +kernel))
set_option maxRecDepth 20000 in
theorem gX10_wind_X7_copyFrom : GoodIn wsX10_wind (wsV RX10 86 RX7 yX7_copyFrom wsX7_copyFrom) := goodIn_app (goodIn_of _ (by decide +kernel)) ggX10_wind_X7_copyFrom
set_option maxRecDepth 20000 in
theorem ggX10_wind_X1_tighten : GoodIn wsX10_wind wsX1_tighten := goodIn_ca (goodIn_r _ [30, 31, 32, 33, 34, 35, 36, 37, 7, 38, 19, 39, 40, 41, 42, 14, 101, 102, 84, 85, 86, 87, 88, 89, 90, 91, 92, 93, 94, 95, 96, 97, 98, 99, 100] (by decide +kernel) (by decide +kernel)) (goodIn_sub (fun _ h => List.mem_cons_of_mem _ (List.mem_append_left _ (List.mem_append_left _ (List.mem_append_left _ (List.mem_append_left _ (List.mem_append_left _ (List.mem_append_right _ h))))))) (by decide +kernel))
set_option maxRecDepth 20000 in
theorem gX10_wind_X1_tighten : GoodIn wsX10_wind (wsV RX10 107 RX1 yX1_tighten wsX1_tighten) := goodIn_app (goodIn_of _ (by decide +kernel)) ggX10_wind_X1_tighten
set_option maxRecDepth 20000 in
theorem ggX10_wind_X10_settle : GoodIn wsX10_wind wsX10_settle := goodIn_ca (goodIn_ca (goodIn_ca (goodIn_ca (goodIn_ca (goodIn_ca (goodIn_r _ [47, 48, 1, 49, 50, 46, 51, 52, 53, 54, 55, 56, 57, 58, 59, 60, 61, 62, 63, 64, 65, 66, 67, 68, 69, 70, 5, 6, 7, 8, 9, 10, 11, 12, 13, 14, 15, 16, 17, 18, 19, 20, 21, 22, 23, 24, 25, 71, 72, 73, 74, 75, 76, 77, 78, 79, 80, 81, 82, 83, 103, 104, 105, 84, 85, 86, 87, 88, 89, 90, 91, 92, 93, 94, 95, 96, 97, 98, 99, 100] (by decide +kernel) (by decide +kernel)) (goodIn_sub (fun _ h => List.mem_cons_of_mem _ (List.mem_append_left _ (List.mem_append_left _ (List.mem_append_left _ (List.mem_append_left _ (List.mem_append_right _ h)))))) (by decide +kernel))) (goodIn_sub (fun _ h => List.mem_cons_of_mem _ (List.mem_append_left _ (List.mem_append_left _ (List.mem_append_left _ (List.mem_append_right _ h))))) (by decide +kernel))) (goodIn_sub (fun _ h => List.mem_cons_of_mem _ (List.mem_append_left _ (List.mem_append_left _ (List.mem_append_right _ h)))) (by decide +kernel))) (goodIn_sub (fun _ h => List.mem_cons_of_mem _ (List.mem_append_left _ (List.mem_append_right _ h))) (by decide +kernel))) (goodIn_sub (fun _ h => List.mem_cons_of_mem _ (List.mem_append_right _ h)) (by decide +kernel))) (goodIn_sub (fun _ h => List.mem_cons_of_mem _ (List.mem_append_left _ (List.mem_append_left _ (List.mem_append_left _ (List.mem_append_left _ (List.mem_append_left _ (List.mem_append_right _ h))))))) (by decide +kernel))
set_option maxRecDepth 20000 in
theorem gX10_wind_X10_settle : GoodIn wsX10_wind (wsV RX10 93 RX10 yX10_settle wsX10_settle) := goodIn_app (goodIn_of _ (by decide +kernel)) ggX10_wind_X10_settle
theorem dX10_wind_0 : decode cX10_wind 0 = .ok (.aload_n 0, 1) := by decide +kernel
theorem dX10_wind_1 : decode cX10_wind 1 = .ok (.getfield 16, 3) := by decide +kernel
theorem dX10_wind_4 : decode cX10_wind 4 = .ok (.aload_n 0, 1) := by decide +kernel
theorem dX10_wind_5 : decode cX10_wind 5 = .ok (.getfield 12, 3) := by decide +kernel
theorem dX10_wind_8 : decode cX10_wind 8 = .ok (.invokevirtual 86, 3) := by decide +kernel
theorem dX10_wind_11 : decode cX10_wind 11 = .ok (.aload_n 0, 1) := by decide +kernel
theorem dX10_wind_12 : decode cX10_wind 12 = .ok (.aload_n 0, 1) := by decide +kernel
theorem dX10_wind_13 : decode cX10_wind 13 = .ok (.getfield 45, 3) := by decide +kernel
theorem dX10_wind_16 : decode cX10_wind 16 = .ok (.iload_n 1, 1) := by decide +kernel
theorem dX10_wind_17 : decode cX10_wind 17 = .ok (.iload_n 2, 1) := by decide +kernel
theorem dX10_wind_18 : decode cX10_wind 18 = .ok (.invokevirtual 107, 3) := by decide +kernel
theorem dX10_wind_21 : decode cX10_wind 21 = .ok (.invokevirtual 93, 3) := by decide +kernel
theorem dX10_wind_24 : decode cX10_wind 24 = .ok (.ireturn, 1) := by decide +kernel
set_option maxRecDepth 20000 in
theorem ggX10_reverse_X7_copyFrom : GoodIn wsX10_reverse wsX7_copyFrom := goodIn_ca (goodIn_r _ [8, 9, 10, 11, 12, 13, 14, 15, 16, 17, 18, 19, 20, 21, 22, 23, 24, 25, 82, 83, 84, 85, 86, 87, 88, 89, 90, 91, 92, 93, 94, 95, 96, 97, 98] (by decide +kernel) (by decide +kernel)) (goodIn_sub (fun _ h => List.mem_cons_of_mem _ (List.mem_append_left _ (List.mem_append_left _ (List.mem_append_left _ (List.mem_append_left _ (List.mem_append_left _ (List.mem_append_right _ h))))))) (by decide +kernel))
set_option maxRecDepth 20000 in
theorem gX10_reverse_X7_copyFrom : GoodIn wsX10_reverse (wsV RX10 86 RX7 yX7_copyFrom wsX7_copyFrom) := goodIn_app (goodIn_of _ (by decide +kernel)) ggX10_reverse_X7_copyFrom
set_option maxRecDepth 20000 in
theorem ggX10_reverse_X1_turnRound : GoodIn wsX10_reverse wsX1_turnRound := goodIn_ca (goodIn_r _ [30, 31, 32, 33, 34, 35, 7, 36, 19, 37, 38, 39, 40, 14, 99, 100, 82, 83, 84, 85, 86, 87, 88, 89, 90, 91, 92, 93, 94, 95, 96, 97, 98] (by decide +kernel) (by decide +kernel)) (goodIn_sub (fun _ h => List.mem_cons_of_mem _ (List.mem_append_left _ (List.mem_append_left _ (List.mem_append_left _ (List.mem_append_left _ (List.mem_append_left _ (List.mem_append_right _ h))))))) (by decide +kernel))
set_option maxRecDepth 20000 in
theorem gX10_reverse_X1_turnRound : GoodIn wsX10_reverse (wsV RX10 110 RX1 yX1_turnRound wsX1_turnRound) := goodIn_app (goodIn_of _ (by decide +kernel)) ggX10_reverse_X1_turnRound
set_option maxRecDepth 20000 in
theorem ggX10_reverse_X10_settle : GoodIn wsX10_reverse wsX10_settle := goodIn_ca (goodIn_ca (goodIn_ca (goodIn_ca (goodIn_ca (goodIn_ca (goodIn_r _ [45, 46, 1, 47, 48, 44, 49, 50, 51, 52, 53, 54, 55, 56, 57, 58, 59, 60, 61, 62, 63, 64, 65, 66, 67, 68, 5, 6, 7, 8, 9, 10, 11, 12, 13, 14, 15, 16, 17, 18, 19, 20, 21, 22, 23, 24, 25, 69, 70, 71, 72, 73, 74, 75, 76, 77, 78, 79, 80, 81, 101, 102, 103, 82, 83, 84, 85, 86, 87, 88, 89, 90, 91, 92, 93, 94, 95, 96, 97, 98] (by decide +kernel) (by decide +kernel)) (goodIn_sub (fun _ h => List.mem_cons_of_mem _ (List.mem_append_left _ (List.mem_append_left _ (List.mem_append_left _ (List.mem_append_left _ (List.mem_append_right _ h)))))) (by decide +kernel))) (goodIn_sub (fun _ h => List.mem_cons_of_mem _ (List.mem_append_left _ (List.mem_append_left _ (List.mem_append_left _ (List.mem_append_right _ h))))) (by decide +kernel))) (goodIn_sub (fun _ h => List.mem_cons_of_mem _ (List.mem_append_left _ (List.mem_append_left _ (List.mem_append_right _ h)))) (by decide +kernel))) (goodIn_sub (fun _ h => List.mem_cons_of_mem _ (List.mem_append_left _ (List.mem_append_right _ h))) (by decide +kernel))) (goodIn_sub (fun _ h => List.mem_cons_of_mem _ (List.mem_append_right _ h)) (by decide +kernel))) (goodIn_sub (fun _ h => List.mem_cons_of_mem _ (List.mem_append_left _ (List.mem_append_left _ (List.mem_append_left _ (List.mem_append_left _ (List.mem_append_left _ (List.mem_append_right _ h))))))) (by decide +kernel))
set_option maxRecDepth 20000 in
theorem gX10_reverse_X10_settle : GoodIn wsX10_reverse (wsV RX10 93 RX10 yX10_settle wsX10_settle) := goodIn_app (goodIn_of _ (by decide +kernel)) ggX10_reverse_X10_settle
theorem dX10_reverse_0 : decode cX10_reverse 0 = .ok (.aload_n 0, 1) := by decide +kernel
theorem dX10_reverse_1 : decode cX10_reverse 1 = .ok (.getfield 16, 3) := by decide +kernel
theorem dX10_reverse_4 : decode cX10_reverse 4 = .ok (.aload_n 0, 1) := by decide +kernel
theorem dX10_reverse_5 : decode cX10_reverse 5 = .ok (.getfield 12, 3) := by decide +kernel
theorem dX10_reverse_8 : decode cX10_reverse 8 = .ok (.invokevirtual 86, 3) := by decide +kernel
theorem dX10_reverse_11 : decode cX10_reverse 11 = .ok (.aload_n 0, 1) := by decide +kernel
theorem dX10_reverse_12 : decode cX10_reverse 12 = .ok (.aload_n 0, 1) := by decide +kernel
theorem dX10_reverse_13 : decode cX10_reverse 13 = .ok (.getfield 45, 3) := by decide +kernel
theorem dX10_reverse_16 : decode cX10_reverse 16 = .ok (.iload_n 1, 1) := by decide +kernel
theorem dX10_reverse_17 : decode cX10_reverse 17 = .ok (.invokevirtual 110, 3) := by decide +kernel
theorem dX10_reverse_20 : decode cX10_reverse 20 = .ok (.invokevirtual 93, 3) := by decide +kernel
theorem dX10_reverse_23 : decode cX10_reverse 23 = .ok (.iconst 1, 1) := by decide +kernel
theorem dX10_reverse_24 : decode cX10_reverse 24 = .ok (.if_icmp .ne 7, 3) := by decide +kernel
theorem dX10_reverse_27 : decode cX10_reverse 27 = .ok (.iconst 1, 1) := by decide +kernel
theorem dX10_reverse_28 : decode cX10_reverse 28 = .ok (.goto 4, 3) := by decide +kernel
theorem dX10_reverse_31 : decode cX10_reverse 31 = .ok (.iconst 0, 1) := by decide +kernel
theorem dX10_reverse_32 : decode cX10_reverse 32 = .ok (.ireturn, 1) := by decide +kernel
set_option maxRecDepth 20000 in
theorem ggX10_release_X7_copyFrom : GoodIn wsX10_release wsX7_copyFrom := goodIn_ca (goodIn_r _ [8, 9, 10, 11, 12, 13, 14, 15, 16, 17, 18, 19, 20, 21, 22, 23, 24, 25, 160, 161, 162, 163, 164, 165, 166, 167, 168, 169, 170, 171, 172, 173, 174, 175, 176] (by decide +kernel) (by decide +kernel)) (goodIn_sub (fun _ h => List.mem_cons_of_mem _ (List.mem_append_left _ (List.mem_append_left _ (List.mem_append_left _ (List.mem_append_left _ (List.mem_append_left _ (List.mem_append_right _ h))))))) (by decide +kernel))
set_option maxRecDepth 20000 in
theorem gX10_release_X7_copyFrom : GoodIn wsX10_release (wsV RX10 86 RX7 yX7_copyFrom wsX7_copyFrom) := goodIn_app (goodIn_of _ (by decide +kernel)) ggX10_release_X7_copyFrom
set_option maxRecDepth 20000 in
theorem ggX10_release_X1_letGo : GoodIn wsX10_release wsX1_letGo := goodIn_ca (goodIn_r _ [30, 31, 32, 33, 34, 35, 36, 37, 38, 39, 40, 41, 42, 43, 7, 44, 19, 45, 46, 47, 48, 14, 49, 50, 51, 52, 53, 54, 55, 56, 57, 58, 59, 60, 61, 62, 63, 64, 65, 66, 17, 67, 68, 69, 70, 9, 71, 72, 73, 74, 75, 76, 77, 78, 79, 80, 81, 82, 83, 84, 85, 86, 87, 88, 89, 90, 91, 92, 93, 94, 95, 96, 97, 29, 98, 99, 100, 101, 102, 103, 104, 105, 106, 107, 108, 109, 110, 111, 112, 113, 114, 115, 116, 117, 118, 177, 178, 160, 161, 162, 163, 164, 165, 166, 167, 168, 169, 170, 171, 172, 173, 174, 175, 176, 179, 180, 181] (by decide +kernel) (by decide +kernel)) (goodIn_sub (fun _ h => List.mem_cons_of_mem _ (List.mem_append_left _ (List.mem_append_left _ (List.mem_append_left _ (List.mem_append_left _ (List.mem_append_left _ (List.mem_append_right _ h))))))) (by decide +kernel))
set_option maxRecDepth 20000 in
theorem gX10_release_X1_letGo : GoodIn wsX10_release (wsV RX10 113 RX1 yX1_letGo wsX1_letGo) := goodIn_app (goodIn_of _ (by decide +kernel)) ggX10_release_X1_letGo
set_option maxRecDepth 20000 in
theorem ggX10_release_X10_settle : GoodIn wsX10_release wsX10_settle := goodIn_ca (goodIn_ca (goodIn_ca (goodIn_ca (goodIn_ca (goodIn_ca (goodIn_r _ [123, 124, 1, 125, 126, 122, 127, 128, 129, 130, 131, 132, 133, 134, 135, 136, 137, 138, 139, 140, 141, 142, 143, 144, 145, 146, 5, 6, 7, 8, 9, 10, 11, 12, 13, 14, 15, 16, 17, 18, 19, 20, 21, 22, 23, 24, 25, 147, 148, 149, 150, 151, 152, 153, 154, 155, 156, 157, 158, 159, 182, 183, 184, 160, 161, 162, 163, 164, 165, 166, 167, 168, 169, 170, 171, 172, 173, 174, 175, 176] (by decide +kernel) (by decide +kernel)) (goodIn_sub (fun _ h => List.mem_cons_of_mem _ (List.mem_append_left _ (List.mem_append_left _ (List.mem_append_left _ (List.mem_append_left _ (List.mem_append_right _ h)))))) (by decide +kernel))) (goodIn_sub (fun _ h => List.mem_cons_of_mem _ (List.mem_append_left _ (List.mem_append_left _ (List.mem_append_left _ (List.mem_append_right _ h))))) (by decide +kernel))) (goodIn_sub (fun _ h => List.mem_cons_of_mem _ (List.mem_append_left _ (List.mem_append_left _ (List.mem_append_right _ h)))) (by decide +kernel))) (goodIn_sub (fun _ h => List.mem_cons_of_mem _ (List.mem_append_left _ (List.mem_append_right _ h))) (by decide +kernel))) (goodIn_sub (fun _ h => List.mem_cons_of_mem _ (List.mem_append_right _ h)) (by decide +kernel))) (goodIn_sub (fun _ h => List.mem_cons_of_mem _ (List.mem_append_left _ (List.mem_append_left _ (List.mem_append_left _ (List.mem_append_left _ (List.mem_append_left _ (List.mem_append_right _ h))))))) (by decide +kernel))
set_option maxRecDepth 20000 in
theorem gX10_release_X10_settle : GoodIn wsX10_release (wsV RX10 93 RX10 yX10_settle wsX10_settle) := goodIn_app (goodIn_of _ (by decide +kernel)) ggX10_release_X10_settle
theorem dX10_release_0 : decode cX10_release 0 = .ok (.aload_n 0, 1) := by decide +kernel
theorem dX10_release_1 : decode cX10_release 1 = .ok (.getfield 16, 3) := by decide +kernel
theorem dX10_release_4 : decode cX10_release 4 = .ok (.aload_n 0, 1) := by decide +kernel
theorem dX10_release_5 : decode cX10_release 5 = .ok (.getfield 12, 3) := by decide +kernel
theorem dX10_release_8 : decode cX10_release 8 = .ok (.invokevirtual 86, 3) := by decide +kernel
theorem dX10_release_11 : decode cX10_release 11 = .ok (.aload_n 0, 1) := by decide +kernel
theorem dX10_release_12 : decode cX10_release 12 = .ok (.aload_n 0, 1) := by decide +kernel
theorem dX10_release_13 : decode cX10_release 13 = .ok (.getfield 45, 3) := by decide +kernel
theorem dX10_release_16 : decode cX10_release 16 = .ok (.iload_n 1, 1) := by decide +kernel
theorem dX10_release_17 : decode cX10_release 17 = .ok (.iload_n 2, 1) := by decide +kernel
theorem dX10_release_18 : decode cX10_release 18 = .ok (.invokevirtual 113, 3) := by decide +kernel
theorem dX10_release_21 : decode cX10_release 21 = .ok (.invokevirtual 93, 3) := by decide +kernel
theorem dX10_release_24 : decode cX10_release 24 = .ok (.ireturn, 1) := by decide +kernel
set_option maxRecDepth 20000 in
theorem ggX10_setRatchet_X7_copyFrom : GoodIn wsX10_setRatchet wsX7_copyFrom := goodIn_ca (goodIn_r _ [8, 9, 10, 11, 12, 13, 14, 15, 16, 17, 18, 19, 20, 21, 22, 23, 24, 25, 78, 79, 80, 81, 82, 83, 84, 85, 86, 87, 88, 89, 90, 91, 92, 93, 94] (by decide +kernel) (by decide +kernel)) (goodIn_sub (fun _ h => List.mem_cons_of_mem _ (List.mem_append_left _ (List.mem_append_left _ (List.mem_append_left _ (List.mem_append_left _ (List.mem_append_left _ (List.mem_append_right _ h))))))) (by decide +kernel))
set_option maxRecDepth 20000 in
theorem gX10_setRatchet_X7_copyFrom : GoodIn wsX10_setRatchet (wsV RX10 86 RX7 yX7_copyFrom wsX7_copyFrom) := goodIn_app (goodIn_of _ (by decide +kernel)) ggX10_setRatchet_X7_copyFrom
set_option maxRecDepth 20000 in
theorem ggX10_setRatchet_X1_putRatchet : GoodIn wsX10_setRatchet wsX1_putRatchet := goodIn_ca (goodIn_r _ [30, 31, 32, 33, 34, 35, 7, 36, 19, 95, 96, 78, 79, 80, 81, 82, 83, 84, 85, 86, 87, 88, 89, 90, 91, 92, 93, 94] (by decide +kernel) (by decide +kernel)) (goodIn_sub (fun _ h => List.mem_cons_of_mem _ (List.mem_append_left _ (List.mem_append_left _ (List.mem_append_left _ (List.mem_append_left _ (List.mem_append_left _ (List.mem_append_right _ h))))))) (by decide +kernel))
set_option maxRecDepth 20000 in
theorem gX10_setRatchet_X1_putRatchet : GoodIn wsX10_setRatchet (wsV RX10 116 RX1 yX1_putRatchet wsX1_putRatchet) := goodIn_app (goodIn_of _ (by decide +kernel)) ggX10_setRatchet_X1_putRatchet
set_option maxRecDepth 20000 in
theorem ggX10_setRatchet_X10_settle : GoodIn wsX10_setRatchet wsX10_settle := goodIn_ca (goodIn_ca (goodIn_ca (goodIn_ca (goodIn_ca (goodIn_ca (goodIn_r _ [41, 42, 1, 43, 44, 40, 45, 46, 47, 48, 49, 50, 51, 52, 53, 54, 55, 56, 57, 58, 59, 60, 61, 62, 63, 64, 5, 6, 7, 8, 9, 10, 11, 12, 13, 14, 15, 16, 17, 18, 19, 20, 21, 22, 23, 24, 25, 65, 66, 67, 68, 69, 70, 71, 72, 73, 74, 75, 76, 77, 97, 98, 99, 78, 79, 80, 81, 82, 83, 84, 85, 86, 87, 88, 89, 90, 91, 92, 93, 94] (by decide +kernel) (by decide +kernel)) (goodIn_sub (fun _ h => List.mem_cons_of_mem _ (List.mem_append_left _ (List.mem_append_left _ (List.mem_append_left _ (List.mem_append_left _ (List.mem_append_right _ h)))))) (by decide +kernel))) (goodIn_sub (fun _ h => List.mem_cons_of_mem _ (List.mem_append_left _ (List.mem_append_left _ (List.mem_append_left _ (List.mem_append_right _ h))))) (by decide +kernel))) (goodIn_sub (fun _ h => List.mem_cons_of_mem _ (List.mem_append_left _ (List.mem_append_left _ (List.mem_append_right _ h)))) (by decide +kernel))) (goodIn_sub (fun _ h => List.mem_cons_of_mem _ (List.mem_append_left _ (List.mem_append_right _ h))) (by decide +kernel))) (goodIn_sub (fun _ h => List.mem_cons_of_mem _ (List.mem_append_right _ h)) (by decide +kernel))) (goodIn_sub (fun _ h => List.mem_cons_of_mem _ (List.mem_append_left _ (List.mem_append_left _ (List.mem_append_left _ (List.mem_append_left _ (List.mem_append_left _ (List.mem_append_right _ h))))))) (by decide +kernel))
set_option maxRecDepth 20000 in
theorem gX10_setRatchet_X10_settle : GoodIn wsX10_setRatchet (wsV RX10 93 RX10 yX10_settle wsX10_settle) := goodIn_app (goodIn_of _ (by decide +kernel)) ggX10_setRatchet_X10_settle
theorem dX10_setRatchet_0 : decode cX10_setRatchet 0 = .ok (.aload_n 0, 1) := by decide +kernel
theorem dX10_setRatchet_1 : decode cX10_setRatchet 1 = .ok (.getfield 16, 3) := by decide +kernel
theorem dX10_setRatchet_4 : decode cX10_setRatchet 4 = .ok (.aload_n 0, 1) := by decide +kernel
theorem dX10_setRatchet_5 : decode cX10_setRatchet 5 = .ok (.getfield 12, 3) := by decide +kernel
theorem dX10_setRatchet_8 : decode cX10_setRatchet 8 = .ok (.invokevirtual 86, 3) := by decide +kernel
theorem dX10_setRatchet_11 : decode cX10_setRatchet 11 = .ok (.aload_n 0, 1) := by decide +kernel
theorem dX10_setRatchet_12 : decode cX10_setRatchet 12 = .ok (.aload_n 0, 1) := by decide +kernel
theorem dX10_setRatchet_13 : decode cX10_setRatchet 13 = .ok (.getfield 45, 3) := by decide +kernel
theorem dX10_setRatchet_16 : decode cX10_setRatchet 16 = .ok (.iload_n 1, 1) := by decide +kernel
theorem dX10_setRatchet_17 : decode cX10_setRatchet 17 = .ok (.iload_n 2, 1) := by decide +kernel
theorem dX10_setRatchet_18 : decode cX10_setRatchet 18 = .ok (.invokevirtual 116, 3) := by decide +kernel
theorem dX10_setRatchet_21 : decode cX10_setRatchet 21 = .ok (.invokevirtual 93, 3) := by decide +kernel
theorem dX10_setRatchet_24 : decode cX10_setRatchet 24 = .ok (.iconst 1, 1) := by decide +kernel
theorem dX10_setRatchet_25 : decode cX10_setRatchet 25 = .ok (.if_icmp .ne 7, 3) := by decide +kernel
theorem dX10_setRatchet_28 : decode cX10_setRatchet 28 = .ok (.iconst 1, 1) := by decide +kernel
theorem dX10_setRatchet_29 : decode cX10_setRatchet 29 = .ok (.goto 4, 3) := by decide +kernel
theorem dX10_setRatchet_32 : decode cX10_setRatchet 32 = .ok (.iconst 0, 1) := by decide +kernel
theorem dX10_setRatchet_33 : decode cX10_setRatchet 33 = .ok (.ireturn, 1) := by decide +kernel
set_option maxRecDepth 20000 in
theorem ggX10_oil_X7_copyFrom : GoodIn wsX10_oil wsX7_copyFrom := goodIn_ca (goodIn_r _ [8, 9, 10, 11, 12, 13, 14, 15, 16, 17, 18, 19, 20, 21, 22, 23, 24, 25, 80, 81, 82, 83, 84, 85, 86, 87, 88, 89, 90, 91, 92, 93, 94, 95, 96] (by decide +kernel) (by decide +kernel)) (goodIn_sub (fun _ h => List.mem_cons_of_mem _ (List.mem_append_left _ (List.mem_append_left _ (List.mem_append_left _ (List.mem_append_left _ (List.mem_append_left _ (List.mem_append_right _ h))))))) (by decide +kernel))
set_option maxRecDepth 20000 in
theorem gX10_oil_X7_copyFrom : GoodIn wsX10_oil (wsV RX10 86 RX7 yX7_copyFrom wsX7_copyFrom) := goodIn_app (goodIn_of _ (by decide +kernel)) ggX10_oil_X7_copyFrom
set_option maxRecDepth 20000 in
theorem ggX10_oil_X1_putOil : GoodIn wsX10_oil wsX1_putOil := goodIn_ca (goodIn_r _ [30, 31, 32, 33, 34, 35, 36, 37, 7, 38, 19, 97, 98, 80, 81, 82, 83, 84, 85, 86, 87, 88, 89, 90, 91, 92, 93, 94, 95, 96] (by decide +kernel) (by decide +kernel)) (goodIn_sub (fun _ h => List.mem_cons_of_mem _ (List.mem_append_left _ (List.mem_append_left _ (List.mem_append_left _ (List.mem_append_left _ (List.mem_append_left _ (List.mem_append_right _ h))))))) (by decide +kernel))
set_option maxRecDepth 20000 in
theorem gX10_oil_X1_putOil : GoodIn wsX10_oil (wsV RX10 120 RX1 yX1_putOil wsX1_putOil) := goodIn_app (goodIn_of _ (by decide +kernel)) ggX10_oil_X1_putOil
set_option maxRecDepth 20000 in
theorem ggX10_oil_X10_settle : GoodIn wsX10_oil wsX10_settle := goodIn_ca (goodIn_ca (goodIn_ca (goodIn_ca (goodIn_ca (goodIn_ca (goodIn_r _ [43, 44, 1, 45, 46, 42, 47, 48, 49, 50, 51, 52, 53, 54, 55, 56, 57, 58, 59, 60, 61, 62, 63, 64, 65, 66, 5, 6, 7, 8, 9, 10, 11, 12, 13, 14, 15, 16, 17, 18, 19, 20, 21, 22, 23, 24, 25, 67, 68, 69, 70, 71, 72, 73, 74, 75, 76, 77, 78, 79, 99, 100, 101, 80, 81, 82, 83, 84, 85, 86, 87, 88, 89, 90, 91, 92, 93, 94, 95, 96] (by decide +kernel) (by decide +kernel)) (goodIn_sub (fun _ h => List.mem_cons_of_mem _ (List.mem_append_left _ (List.mem_append_left _ (List.mem_append_left _ (List.mem_append_left _ (List.mem_append_right _ h)))))) (by decide +kernel))) (goodIn_sub (fun _ h => List.mem_cons_of_mem _ (List.mem_append_left _ (List.mem_append_left _ (List.mem_append_left _ (List.mem_append_right _ h))))) (by decide +kernel))) (goodIn_sub (fun _ h => List.mem_cons_of_mem _ (List.mem_append_left _ (List.mem_append_left _ (List.mem_append_right _ h)))) (by decide +kernel))) (goodIn_sub (fun _ h => List.mem_cons_of_mem _ (List.mem_append_left _ (List.mem_append_right _ h))) (by decide +kernel))) (goodIn_sub (fun _ h => List.mem_cons_of_mem _ (List.mem_append_right _ h)) (by decide +kernel))) (goodIn_sub (fun _ h => List.mem_cons_of_mem _ (List.mem_append_left _ (List.mem_append_left _ (List.mem_append_left _ (List.mem_append_left _ (List.mem_append_left _ (List.mem_append_right _ h))))))) (by decide +kernel))
set_option maxRecDepth 20000 in
theorem gX10_oil_X10_settle : GoodIn wsX10_oil (wsV RX10 93 RX10 yX10_settle wsX10_settle) := goodIn_app (goodIn_of _ (by decide +kernel)) ggX10_oil_X10_settle
theorem dX10_oil_0 : decode cX10_oil 0 = .ok (.aload_n 0, 1) := by decide +kernel
theorem dX10_oil_1 : decode cX10_oil 1 = .ok (.getfield 16, 3) := by decide +kernel
theorem dX10_oil_4 : decode cX10_oil 4 = .ok (.aload_n 0, 1) := by decide +kernel
theorem dX10_oil_5 : decode cX10_oil 5 = .ok (.getfield 12, 3) := by decide +kernel
theorem dX10_oil_8 : decode cX10_oil 8 = .ok (.invokevirtual 86, 3) := by decide +kernel
theorem dX10_oil_11 : decode cX10_oil 11 = .ok (.aload_n 0, 1) := by decide +kernel
theorem dX10_oil_12 : decode cX10_oil 12 = .ok (.aload_n 0, 1) := by decide +kernel
theorem dX10_oil_13 : decode cX10_oil 13 = .ok (.getfield 45, 3) := by decide +kernel
theorem dX10_oil_16 : decode cX10_oil 16 = .ok (.iload_n 1, 1) := by decide +kernel
theorem dX10_oil_17 : decode cX10_oil 17 = .ok (.invokevirtual 120, 3) := by decide +kernel
theorem dX10_oil_20 : decode cX10_oil 20 = .ok (.invokevirtual 93, 3) := by decide +kernel
theorem dX10_oil_23 : decode cX10_oil 23 = .ok (.ireturn, 1) := by decide +kernel
set_option maxRecDepth 20000 in
theorem ggX10_buyOil_X7_copyFrom : GoodIn wsX10_buyOil wsX7_copyFrom := goodIn_ca (goodIn_r _ [8, 9, 10, 11, 12, 13, 14, 15, 16, 17, 18, 19, 20, 21, 22, 23, 24, 25, 74, 75, 76, 77, 78, 79, 80, 81, 82, 83, 84, 85, 86, 87, 88, 89, 90] (by decide +kernel) (by decide +kernel)) (goodIn_sub (fun _ h => List.mem_cons_of_mem _ (List.mem_append_left _ (List.mem_append_left _ (List.mem_append_left _ (List.mem_append_left _ (List.mem_append_left _ (List.mem_append_right _ h))))))) (by decide +kernel))
set_option maxRecDepth 20000 in
theorem gX10_buyOil_X7_copyFrom : GoodIn wsX10_buyOil (wsV RX10 86 RX7 yX7_copyFrom wsX7_copyFrom) := goodIn_app (goodIn_of _ (by decide +kernel)) ggX10_buyOil_X7_copyFrom
set_option maxRecDepth 20000 in
theorem ggX10_buyOil_X1_addDrops : GoodIn wsX10_buyOil wsX1_addDrops := goodIn_r _ [30, 31, 32, 91, 92, 74, 75, 76, 77, 78, 79, 80, 81, 82, 83, 84, 85, 86, 87, 88, 89, 90] (by decide +kernel) (by decide +kernel)
set_option maxRecDepth 20000 in
theorem gX10_buyOil_X1_addDrops : GoodIn wsX10_buyOil (wsV RX10 123 RX1 yX1_addDrops wsX1_addDrops) := goodIn_app (goodIn_of _ (by decide +kernel)) ggX10_buyOil_X1_addDrops
set_option maxRecDepth 20000 in
theorem ggX10_buyOil_X10_settle : GoodIn wsX10_buyOil wsX10_settle := goodIn_ca (goodIn_ca (goodIn_ca (goodIn_ca (goodIn_ca (goodIn_ca (goodIn_r _ [37, 38, 1, 39, 40, 36, 41, 42, 43, 44, 45, 46, 47, 48, 49, 50, 51, 52, 53, 54, 55, 56, 57, 58, 59, 60, 5, 6, 7, 8, 9, 10, 11, 12, 13, 14, 15, 16, 17, 18, 19, 20, 21, 22, 23, 24, 25, 61, 62, 63, 64, 65, 66, 67, 68, 69, 70, 71, 72, 73, 93, 94, 95, 74, 75, 76, 77, 78, 79, 80, 81, 82, 83, 84, 85, 86, 87, 88, 89, 90] (by decide +kernel) (by decide +kernel)) (goodIn_sub (fun _ h => List.mem_cons_of_mem _ (List.mem_append_left _ (List.mem_append_left _ (List.mem_append_left _ (List.mem_append_left _ (List.mem_append_right _ h)))))) (by decide +kernel))) (goodIn_sub (fun _ h => List.mem_cons_of_mem _ (List.mem_append_left _ (List.mem_append_left _ (List.mem_append_left _ (List.mem_append_right _ h))))) (by decide +kernel))) (goodIn_sub (fun _ h => List.mem_cons_of_mem _ (List.mem_append_left _ (List.mem_append_left _ (List.mem_append_right _ h)))) (by decide +kernel))) (goodIn_sub (fun _ h => List.mem_cons_of_mem _ (List.mem_append_left _ (List.mem_append_right _ h))) (by decide +kernel))) (goodIn_sub (fun _ h => List.mem_cons_of_mem _ (List.mem_append_right _ h)) (by decide +kernel))) (goodIn_sub (fun _ h => List.mem_cons_of_mem _ (List.mem_append_left _ (List.mem_append_left _ (List.mem_append_left _ (List.mem_append_left _ (List.mem_append_left _ (List.mem_append_right _ h))))))) (by decide +kernel))
set_option maxRecDepth 20000 in
theorem gX10_buyOil_X10_settle : GoodIn wsX10_buyOil (wsV RX10 93 RX10 yX10_settle wsX10_settle) := goodIn_app (goodIn_of _ (by decide +kernel)) ggX10_buyOil_X10_settle
theorem dX10_buyOil_0 : decode cX10_buyOil 0 = .ok (.aload_n 0, 1) := by decide +kernel
theorem dX10_buyOil_1 : decode cX10_buyOil 1 = .ok (.getfield 16, 3) := by decide +kernel
theorem dX10_buyOil_4 : decode cX10_buyOil 4 = .ok (.aload_n 0, 1) := by decide +kernel
theorem dX10_buyOil_5 : decode cX10_buyOil 5 = .ok (.getfield 12, 3) := by decide +kernel
theorem dX10_buyOil_8 : decode cX10_buyOil 8 = .ok (.invokevirtual 86, 3) := by decide +kernel
theorem dX10_buyOil_11 : decode cX10_buyOil 11 = .ok (.aload_n 0, 1) := by decide +kernel
theorem dX10_buyOil_12 : decode cX10_buyOil 12 = .ok (.aload_n 0, 1) := by decide +kernel
theorem dX10_buyOil_13 : decode cX10_buyOil 13 = .ok (.getfield 45, 3) := by decide +kernel
theorem dX10_buyOil_16 : decode cX10_buyOil 16 = .ok (.iload_n 1, 1) := by decide +kernel
theorem dX10_buyOil_17 : decode cX10_buyOil 17 = .ok (.invokevirtual 123, 3) := by decide +kernel
theorem dX10_buyOil_20 : decode cX10_buyOil 20 = .ok (.invokevirtual 93, 3) := by decide +kernel
theorem dX10_buyOil_23 : decode cX10_buyOil 23 = .ok (.ireturn, 1) := by decide +kernel
set_option maxRecDepth 20000 in
theorem ggX10_addPlanet_X7_copyFrom : GoodIn wsX10_addPlanet wsX7_copyFrom := goodIn_ca (goodIn_r _ [8, 9, 10, 11, 12, 13, 14, 15, 16, 17, 18, 19, 20, 21, 22, 23, 24, 25, 83, 84, 85, 86, 87, 88, 89, 90, 91, 92, 93, 94, 95, 96, 97, 98, 99] (by decide +kernel) (by decide +kernel)) (goodIn_sub (fun _ h => List.mem_cons_of_mem _ (List.mem_append_left _ (List.mem_append_left _ (List.mem_append_left _ (List.mem_append_left _ (List.mem_append_left _ (List.mem_append_right _ h))))))) (by decide +kernel))
set_option maxRecDepth 20000 in
theorem gX10_addPlanet_X7_copyFrom : GoodIn wsX10_addPlanet (wsV RX10 86 RX7 yX7_copyFrom wsX7_copyFrom) := goodIn_app (goodIn_of _ (by decide +kernel)) ggX10_addPlanet_X7_copyFrom
set_option maxRecDepth 20000 in
theorem ggX10_addPlanet_X1_putPlanet : GoodIn wsX10_addPlanet wsX1_putPlanet := goodIn_ca (goodIn_r _ [30, 31, 32, 33, 34, 35, 36, 7, 37, 19, 38, 39, 40, 41, 21, 18, 100, 101, 83, 84, 85, 86, 87, 88, 89, 90, 91, 92, 93, 94, 95, 96, 97, 98, 99] (by decide +kernel) (by decide +kernel)) (goodIn_sub (fun _ h => List.mem_cons_of_mem _ (List.mem_append_left _ (List.mem_append_left _ (List.mem_append_left _ (List.mem_append_left _ (List.mem_append_left _ (List.mem_append_right _ h))))))) (by decide +kernel))
set_option maxRecDepth 20000 in
theorem gX10_addPlanet_X1_putPlanet : GoodIn wsX10_addPlanet (wsV RX10 126 RX1 yX1_putPlanet wsX1_putPlanet) := goodIn_app (goodIn_of _ (by decide +kernel)) ggX10_addPlanet_X1_putPlanet
set_option maxRecDepth 20000 in
theorem ggX10_addPlanet_X10_settle : GoodIn wsX10_addPlanet wsX10_settle := goodIn_ca (goodIn_ca (goodIn_ca (goodIn_ca (goodIn_ca (goodIn_ca (goodIn_r _ [46, 47, 1, 48, 49, 45, 50, 51, 52, 53, 54, 55, 56, 57, 58, 59, 60, 61, 62, 63, 64, 65, 66, 67, 68, 69, 5, 6, 7, 8, 9, 10, 11, 12, 13, 14, 15, 16, 17, 18, 19, 20, 21, 22, 23, 24, 25, 70, 71, 72, 73, 74, 75, 76, 77, 78, 79, 80, 81, 82, 102, 103, 104, 83, 84, 85, 86, 87, 88, 89, 90, 91, 92, 93, 94, 95, 96, 97, 98, 99] (by decide +kernel) (by decide +kernel)) (goodIn_sub (fun _ h => List.mem_cons_of_mem _ (List.mem_append_left _ (List.mem_append_left _ (List.mem_append_left _ (List.mem_append_left _ (List.mem_append_right _ h)))))) (by decide +kernel))) (goodIn_sub (fun _ h => List.mem_cons_of_mem _ (List.mem_append_left _ (List.mem_append_left _ (List.mem_append_left _ (List.mem_append_right _ h))))) (by decide +kernel))) (goodIn_sub (fun _ h => List.mem_cons_of_mem _ (List.mem_append_left _ (List.mem_append_left _ (List.mem_append_right _ h)))) (by decide +kernel))) (goodIn_sub (fun _ h => List.mem_cons_of_mem _ (List.mem_append_left _ (List.mem_append_right _ h))) (by decide +kernel))) (goodIn_sub (fun _ h => List.mem_cons_of_mem _ (List.mem_append_right _ h)) (by decide +kernel))) (goodIn_sub (fun _ h => List.mem_cons_of_mem _ (List.mem_append_left _ (List.mem_append_left _ (List.mem_append_left _ (List.mem_append_left _ (List.mem_append_left _ (List.mem_append_right _ h))))))) (by decide +kernel))
set_option maxRecDepth 20000 in
theorem gX10_addPlanet_X10_settle : GoodIn wsX10_addPlanet (wsV RX10 93 RX10 yX10_settle wsX10_settle) := goodIn_app (goodIn_of _ (by decide +kernel)) ggX10_addPlanet_X10_settle
theorem dX10_addPlanet_0 : decode cX10_addPlanet 0 = .ok (.aload_n 0, 1) := by decide +kernel
theorem dX10_addPlanet_1 : decode cX10_addPlanet 1 = .ok (.getfield 16, 3) := by decide +kernel
theorem dX10_addPlanet_4 : decode cX10_addPlanet 4 = .ok (.aload_n 0, 1) := by decide +kernel
theorem dX10_addPlanet_5 : decode cX10_addPlanet 5 = .ok (.getfield 12, 3) := by decide +kernel
theorem dX10_addPlanet_8 : decode cX10_addPlanet 8 = .ok (.invokevirtual 86, 3) := by decide +kernel
theorem dX10_addPlanet_11 : decode cX10_addPlanet 11 = .ok (.aload_n 0, 1) := by decide +kernel
theorem dX10_addPlanet_12 : decode cX10_addPlanet 12 = .ok (.aload_n 0, 1) := by decide +kernel
theorem dX10_addPlanet_13 : decode cX10_addPlanet 13 = .ok (.getfield 45, 3) := by decide +kernel
theorem dX10_addPlanet_16 : decode cX10_addPlanet 16 = .ok (.iload_n 1, 1) := by decide +kernel
theorem dX10_addPlanet_17 : decode cX10_addPlanet 17 = .ok (.invokevirtual 126, 3) := by decide +kernel
theorem dX10_addPlanet_20 : decode cX10_addPlanet 20 = .ok (.invokevirtual 93, 3) := by decide +kernel
theorem dX10_addPlanet_23 : decode cX10_addPlanet 23 = .ok (.ireturn, 1) := by decide +kernel
theorem dX10_gearCount_0 : decode cX10_gearCount 0 = .ok (.aload_n 0, 1) := by decide +kernel
theorem dX10_gearCount_1 : decode cX10_gearCount 1 = .ok (.getfield 12, 3) := by decide +kernel
theorem dX10_gearCount_4 : decode cX10_gearCount 4 = .ok (.getfield 129, 3) := by decide +kernel
theorem dX10_gearCount_7 : decode cX10_gearCount 7 = .ok (.ireturn, 1) := by decide +kernel
set_option maxRecDepth 20000 in
theorem ggX10_teeth_X10_checkGear : GoodIn wsX10_teeth wsX10_checkGear := goodIn_ca (goodIn_r _ [7, 8, 9, 1, 10, 11, 12, 13, 14, 15, 16, 17, 18, 19, 20, 21, 22, 23, 24, 25, 26, 27, 28, 29, 30, 31, 32, 33, 34, 35, 36, 37, 38, 39, 40, 41, 42, 43, 44, 45] (by decide +kernel) (by decide +kernel)) (goodIn_sub (fun _ h => List.mem_cons_of_mem _ (List.mem_append_right _ h)) (by decide +kernel))
set_option maxRecDepth 20000 in
theorem gX10_teeth_X10_checkGear : GoodIn wsX10_teeth (wsV RX10 132 RX10 yX10_checkGear wsX10_checkGear) := goodIn_app (goodIn_of _ (by decide +kernel)) ggX10_teeth_X10_checkGear
theorem dX10_teeth_0 : decode cX10_teeth 0 = .ok (.aload_n 0, 1) := by decide +kernel
theorem dX10_teeth_1 : decode cX10_teeth 1 = .ok (.iload_n 1, 1) := by decide +kernel
theorem dX10_teeth_2 : decode cX10_teeth 2 = .ok (.invokevirtual 132, 3) := by decide +kernel
theorem dX10_teeth_5 : decode cX10_teeth 5 = .ok (.aload_n 0, 1) := by decide +kernel
theorem dX10_teeth_6 : decode cX10_teeth 6 = .ok (.getfield 12, 3) := by decide +kernel
theorem dX10_teeth_9 : decode cX10_teeth 9 = .ok (.getfield 136, 3) := by decide +kernel
theorem dX10_teeth_12 : decode cX10_teeth 12 = .ok (.iload_n 1, 1) := by decide +kernel
theorem dX10_teeth_13 : decode cX10_teeth 13 = .ok (.iaload, 1) := by decide +kernel
theorem dX10_teeth_14 : decode cX10_teeth 14 = .ok (.ireturn, 1) := by decide +kernel
set_option maxRecDepth 20000 in
theorem ggX10_joint_X10_checkGear : GoodIn wsX10_joint wsX10_checkGear := goodIn_ca (goodIn_r _ [8, 9, 10, 3, 11, 12, 13, 14, 15, 16, 22, 23, 24, 25, 26, 27, 28, 29, 30, 31, 32, 33, 34, 35, 36, 37, 38, 39, 40, 41, 42, 43, 44, 45, 46, 47, 48, 49, 50, 51] (by decide +kernel) (by decide +kernel)) (goodIn_sub (fun _ h => List.mem_cons_of_mem _ (List.mem_append_left _ (List.mem_append_right _ h))) (by decide +kernel))
set_option maxRecDepth 20000 in
theorem gX10_joint_X10_checkGear : GoodIn wsX10_joint (wsV RX10 132 RX10 yX10_checkGear wsX10_checkGear) := goodIn_app (goodIn_of _ (by decide +kernel)) ggX10_joint_X10_checkGear
set_option maxRecDepth 20000 in
theorem ggX10_joint_X7_jointOf : GoodIn wsX10_joint wsX7_jointOf := goodIn_ca (goodIn_r _ [20, 21, 35, 36, 37, 38, 39, 40, 41, 42, 43, 44, 45, 46, 47, 48, 49, 50, 51] (by decide +kernel) (by decide +kernel)) (goodIn_sub (fun _ h => List.mem_cons_of_mem _ (List.mem_append_right _ h)) (by decide +kernel))
set_option maxRecDepth 20000 in
theorem gX10_joint_X7_jointOf : GoodIn wsX10_joint (wsV RX10 140 RX7 yX7_jointOf wsX7_jointOf) := goodIn_app (goodIn_of _ (by decide +kernel)) ggX10_joint_X7_jointOf
theorem dX10_joint_0 : decode cX10_joint 0 = .ok (.aload_n 0, 1) := by decide +kernel
theorem dX10_joint_1 : decode cX10_joint 1 = .ok (.iload_n 1, 1) := by decide +kernel
theorem dX10_joint_2 : decode cX10_joint 2 = .ok (.invokevirtual 132, 3) := by decide +kernel
theorem dX10_joint_5 : decode cX10_joint 5 = .ok (.aload_n 0, 1) := by decide +kernel
theorem dX10_joint_6 : decode cX10_joint 6 = .ok (.iload_n 2, 1) := by decide +kernel
theorem dX10_joint_7 : decode cX10_joint 7 = .ok (.invokevirtual 132, 3) := by decide +kernel
theorem dX10_joint_10 : decode cX10_joint 10 = .ok (.aload_n 0, 1) := by decide +kernel
theorem dX10_joint_11 : decode cX10_joint 11 = .ok (.getfield 12, 3) := by decide +kernel
theorem dX10_joint_14 : decode cX10_joint 14 = .ok (.iload_n 1, 1) := by decide +kernel
theorem dX10_joint_15 : decode cX10_joint 15 = .ok (.iload_n 2, 1) := by decide +kernel
theorem dX10_joint_16 : decode cX10_joint 16 = .ok (.invokevirtual 140, 3) := by decide +kernel
theorem dX10_joint_19 : decode cX10_joint 19 = .ok (.istore_n 3, 1) := by decide +kernel
theorem dX10_joint_20 : decode cX10_joint 20 = .ok (.iload_n 3, 1) := by decide +kernel
theorem dX10_joint_21 : decode cX10_joint 21 = .ok (.ifCond .ne 11, 3) := by decide +kernel
theorem dX10_joint_24 : decode cX10_joint 24 = .ok (.new 144, 3) := by decide +kernel
theorem dX10_joint_27 : decode cX10_joint 27 = .ok (.dup, 1) := by decide +kernel
theorem dX10_joint_28 : decode cX10_joint 28 = .ok (.invokespecial 146, 3) := by decide +kernel
theorem dX10_joint_31 : decode cX10_joint 31 = .ok (.athrow, 1) := by decide +kernel
theorem dX10_joint_32 : decode cX10_joint 32 = .ok (.iload_n 3, 1) := by decide +kernel
theorem dX10_joint_33 : decode cX10_joint 33 = .ok (.ireturn, 1) := by decide +kernel
set_option maxRecDepth 20000 in
theorem ggX10_trainSize_X10_checkGear : GoodIn wsX10_trainSize wsX10_checkGear := goodIn_ca (goodIn_r _ [8, 9, 10, 2, 11, 12, 13, 14, 15, 16, 49, 50, 51, 52, 53, 54, 55, 56, 57, 58, 59, 60, 61, 65, 66, 67, 68, 69, 70, 71, 72, 73, 74, 75, 76, 77, 78, 79, 80, 81] (by decide +kernel) (by decide +kernel)) (goodIn_sub (fun _ h => List.mem_cons_of_mem _ (List.mem_append_left _ (List.mem_append_right _ h))) (by decide +kernel))
set_option maxRecDepth 20000 in
theorem gX10_trainSize_X10_checkGear : GoodIn wsX10_trainSize (wsV RX10 132 RX10 yX10_checkGear wsX10_checkGear) := goodIn_app (goodIn_of _ (by decide +kernel)) ggX10_trainSize_X10_checkGear
set_option maxRecDepth 20000 in
theorem ggX10_trainSize_X8_trace : GoodIn wsX10_trainSize wsX8_trace := goodIn_ca (goodIn_r _ [21, 22, 23, 24, 25, 26, 27, 28, 29, 20, 30, 31, 32, 33, 14, 34, 35, 36, 37, 38, 39, 40, 41, 42, 43, 44, 45, 46, 47, 48, 62, 63, 64, 65, 66, 67, 68, 69, 70, 71, 72, 73, 74, 75, 76, 77, 78, 79, 80, 81] (by decide +kernel) (by decide +kernel)) (goodIn_sub (fun _ h => List.mem_cons_of_mem _ (List.mem_append_right _ h)) (by decide +kernel))
set_option maxRecDepth 20000 in
theorem gX10_trainSize_X8_trace : GoodIn wsX10_trainSize (wsV RX10 150 RX8 yX8_trace wsX8_trace) := goodIn_app (goodIn_of _ (by decide +kernel)) ggX10_trainSize_X8_trace
theorem dX10_trainSize_0 : decode cX10_trainSize 0 = .ok (.aload_n 0, 1) := by decide +kernel
theorem dX10_trainSize_1 : decode cX10_trainSize 1 = .ok (.iload_n 1, 1) := by decide +kernel
theorem dX10_trainSize_2 : decode cX10_trainSize 2 = .ok (.invokevirtual 132, 3) := by decide +kernel
theorem dX10_trainSize_5 : decode cX10_trainSize 5 = .ok (.aload_n 0, 1) := by decide +kernel
theorem dX10_trainSize_6 : decode cX10_trainSize 6 = .ok (.getfield 36, 3) := by decide +kernel
theorem dX10_trainSize_9 : decode cX10_trainSize 9 = .ok (.aload_n 0, 1) := by decide +kernel
theorem dX10_trainSize_10 : decode cX10_trainSize 10 = .ok (.getfield 12, 3) := by decide +kernel
theorem dX10_trainSize_13 : decode cX10_trainSize 13 = .ok (.iload_n 1, 1) := by decide +kernel
theorem dX10_trainSize_14 : decode cX10_trainSize 14 = .ok (.invokevirtual 150, 3) := by decide +kernel
theorem dX10_trainSize_17 : decode cX10_trainSize 17 = .ok (.aload_n 0, 1) := by decide +kernel
theorem dX10_trainSize_18 : decode cX10_trainSize 18 = .ok (.getfield 36, 3) := by decide +kernel
theorem dX10_trainSize_21 : decode cX10_trainSize 21 = .ok (.getfield 154, 3) := by decide +kernel
theorem dX10_trainSize_24 : decode cX10_trainSize 24 = .ok (.ireturn, 1) := by decide +kernel
set_option maxRecDepth 20000 in
theorem ggX10_areInTrain_X10_checkGear : GoodIn wsX10_areInTrain wsX10_checkGear := goodIn_ca (goodIn_r _ [7, 8, 9, 2, 10, 11, 12, 13, 14, 15, 52, 53, 54, 55, 56, 57, 58, 59, 60, 61, 62, 63, 64, 65, 66, 67, 68, 69, 70, 71, 72, 73, 74, 75, 76, 77, 78, 79, 80, 81] (by decide +kernel) (by decide +kernel)) (goodIn_sub (fun _ h => List.mem_cons_of_mem _ (List.mem_append_left _ (List.mem_append_right _ h))) (by decide +kernel))
set_option maxRecDepth 20000 in
theorem gX10_areInTrain_X10_checkGear : GoodIn wsX10_areInTrain (wsV RX10 132 RX10 yX10_checkGear wsX10_checkGear) := goodIn_app (goodIn_of _ (by decide +kernel)) ggX10_areInTrain_X10_checkGear
set_option maxRecDepth 20000 in
theorem ggX10_areInTrain_X8_trace : GoodIn wsX10_areInTrain wsX8_trace := goodIn_ca (goodIn_r _ [20, 21, 22, 23, 24, 25, 26, 27, 28, 19, 29, 30, 31, 32, 13, 33, 34, 35, 36, 37, 38, 39, 40, 41, 42, 43, 44, 45, 46, 47, 82, 83, 84, 65, 66, 67, 68, 69, 70, 71, 72, 73, 74, 75, 76, 77, 78, 79, 80, 81] (by decide +kernel) (by decide +kernel)) (goodIn_sub (fun _ h => List.mem_cons_of_mem _ (List.mem_append_right _ h)) (by decide +kernel))
set_option maxRecDepth 20000 in
theorem gX10_areInTrain_X8_trace : GoodIn wsX10_areInTrain (wsV RX10 150 RX8 yX8_trace wsX8_trace) := goodIn_app (goodIn_of _ (by decide +kernel)) ggX10_areInTrain_X8_trace
set_option maxRecDepth 20000 in
theorem ggX10_areInTrain_X8_holds : GoodIn wsX10_areInTrain wsX8_holds := goodIn_ca (goodIn_r _ [51, 21, 82, 83, 84] (by decide +kernel) (by decide +kernel)) (goodIn_sub (fun _ h => List.mem_cons_of_mem _ (List.mem_append_right _ h)) (by decide +kernel))
set_option maxRecDepth 20000 in
theorem gX10_areInTrain_X8_holds : GoodIn wsX10_areInTrain (wsV RX10 157 RX8 yX8_holds wsX8_holds) := goodIn_app (goodIn_of _ (by decide +kernel)) ggX10_areInTrain_X8_holds
theorem dX10_areInTrain_0 : decode cX10_areInTrain 0 = .ok (.aload_n 0, 1) := by decide +kernel
theorem dX10_areInTrain_1 : decode cX10_areInTrain 1 = .ok (.iload_n 1, 1) := by decide +kernel
theorem dX10_areInTrain_2 : decode cX10_areInTrain 2 = .ok (.invokevirtual 132, 3) := by decide +kernel
theorem dX10_areInTrain_5 : decode cX10_areInTrain 5 = .ok (.aload_n 0, 1) := by decide +kernel
theorem dX10_areInTrain_6 : decode cX10_areInTrain 6 = .ok (.iload_n 2, 1) := by decide +kernel
theorem dX10_areInTrain_7 : decode cX10_areInTrain 7 = .ok (.invokevirtual 132, 3) := by decide +kernel
theorem dX10_areInTrain_10 : decode cX10_areInTrain 10 = .ok (.aload_n 0, 1) := by decide +kernel
theorem dX10_areInTrain_11 : decode cX10_areInTrain 11 = .ok (.getfield 36, 3) := by decide +kernel
theorem dX10_areInTrain_14 : decode cX10_areInTrain 14 = .ok (.aload_n 0, 1) := by decide +kernel
theorem dX10_areInTrain_15 : decode cX10_areInTrain 15 = .ok (.getfield 12, 3) := by decide +kernel
theorem dX10_areInTrain_18 : decode cX10_areInTrain 18 = .ok (.iload_n 1, 1) := by decide +kernel
theorem dX10_areInTrain_19 : decode cX10_areInTrain 19 = .ok (.invokevirtual 150, 3) := by decide +kernel
theorem dX10_areInTrain_22 : decode cX10_areInTrain 22 = .ok (.aload_n 0, 1) := by decide +kernel
theorem dX10_areInTrain_23 : decode cX10_areInTrain 23 = .ok (.getfield 36, 3) := by decide +kernel
theorem dX10_areInTrain_26 : decode cX10_areInTrain 26 = .ok (.iload_n 2, 1) := by decide +kernel
theorem dX10_areInTrain_27 : decode cX10_areInTrain 27 = .ok (.invokevirtual 157, 3) := by decide +kernel
theorem dX10_areInTrain_30 : decode cX10_areInTrain 30 = .ok (.ireturn, 1) := by decide +kernel
set_option maxRecDepth 20000 in
theorem ggX10_unitsPerTurn_X10_checkSameTrain : GoodIn wsX10_unitsPerTurn wsX10_checkSameTrain := goodIn_ca (goodIn_ca (goodIn_ca (goodIn_r _ [5, 6, 7, 8, 9, 10, 11, 12, 4, 13, 14, 15, 16, 17, 18, 19, 20, 21, 22, 23, 24, 25, 26, 27, 28, 29, 30, 31, 32, 33, 34, 35, 36, 37, 38, 39, 40, 41, 42, 43, 44, 45, 46, 47, 48, 49, 50, 51, 52, 53, 54, 55, 56, 57, 63, 64, 65, 66, 67, 68, 69, 70, 71, 72, 73, 74, 75, 76, 77, 78, 79, 80, 81, 82, 83, 84, 85, 86, 87, 88, 89, 90, 91, 92, 93, 94, 95] (by decide +kernel) (by decide +kernel)) (goodIn_sub (fun _ h => List.mem_cons_of_mem _ (List.mem_append_left _ (List.mem_append_left _ (List.mem_append_right _ h)))) (by decide +kernel))) (goodIn_sub (fun _ h => List.mem_cons_of_mem _ (List.mem_append_left _ (List.mem_append_right _ h))) (by decide +kernel))) (goodIn_sub (fun _ h => List.mem_cons_of_mem _ (List.mem_append_right _ h)) (by decide +kernel))
set_option maxRecDepth 20000 in
theorem gX10_unitsPerTurn_X10_checkSameTrain : GoodIn wsX10_unitsPerTurn (wsV RX10 161 RX10 yX10_checkSameTrain wsX10_checkSameTrain) := goodIn_app (goodIn_of _ (by decide +kernel)) ggX10_unitsPerTurn_X10_checkSameTrain
set_option maxRecDepth 20000 in
theorem ggX10_unitsPerTurn_X10_unitsByChain : GoodIn wsX10_unitsPerTurn wsX10_unitsByChain := goodIn_ca (goodIn_r _ [61, 8, 9, 62, 22, 23, 24, 25, 26, 27, 28, 29, 30, 31, 32, 33, 34, 35, 36, 37, 38, 19, 39, 40, 41, 42, 43, 44, 45, 46, 47, 48, 49, 50, 51, 52, 53, 63, 64, 65, 66, 67, 68, 69, 70, 71, 72, 73, 74, 75, 93, 94, 95, 76, 77, 78, 79, 80, 81, 82, 83, 84, 85, 86, 87, 88, 89, 90, 91, 92] (by decide +kernel) (by decide +kernel)) (goodIn_sub (fun _ h => List.mem_cons_of_mem _ (List.mem_append_right _ h)) (by decide +kernel))
set_option maxRecDepth 20000 in
theorem gX10_unitsPerTurn_X10_unitsByChain : GoodIn wsX10_unitsPerTurn (wsV RX10 165 RX10 yX10_unitsByChain wsX10_unitsByChain) := goodIn_app (goodIn_of _ (by decide +kernel)) ggX10_unitsPerTurn_X10_unitsByChain
theorem dX10_unitsPerTurn_0 : decode cX10_unitsPerTurn 0 = .ok (.aload_n 0, 1) := by decide +kernel
theorem dX10_unitsPerTurn_1 : decode cX10_unitsPerTurn 1 = .ok (.iload_n 1, 1) := by decide +kernel
theorem dX10_unitsPerTurn_2 : decode cX10_unitsPerTurn 2 = .ok (.iload_n 2, 1) := by decide +kernel
theorem dX10_unitsPerTurn_3 : decode cX10_unitsPerTurn 3 = .ok (.invokevirtual 161, 3) := by decide +kernel
theorem dX10_unitsPerTurn_6 : decode cX10_unitsPerTurn 6 = .ok (.aload_n 0, 1) := by decide +kernel
theorem dX10_unitsPerTurn_7 : decode cX10_unitsPerTurn 7 = .ok (.iload_n 1, 1) := by decide +kernel
theorem dX10_unitsPerTurn_8 : decode cX10_unitsPerTurn 8 = .ok (.iload_n 2, 1) := by decide +kernel
theorem dX10_unitsPerTurn_9 : decode cX10_unitsPerTurn 9 = .ok (.invokevirtual 165, 3) := by decide +kernel
theorem dX10_unitsPerTurn_12 : decode cX10_unitsPerTurn 12 = .ok (.lreturn, 1) := by decide +kernel
set_option maxRecDepth 20000 in
theorem ggX10_unitsPerTurnByLowest_X10_checkSameTrain : GoodIn wsX10_unitsPerTurnByLowest wsX10_checkSameTrain := goodIn_ca (goodIn_ca (goodIn_ca (goodIn_r _ [5, 6, 7, 8, 9, 10, 11, 12, 4, 13, 14, 15, 16, 17, 18, 19, 20, 21, 22, 23, 24, 25, 26, 27, 28, 29, 30, 31, 32, 33, 34, 35, 36, 37, 38, 39, 40, 41, 42, 43, 44, 45, 46, 47, 48, 49, 50, 51, 52, 53, 54, 55, 56, 57, 82, 83, 84, 85, 86, 87, 88, 89, 90, 91, 92, 93, 94, 95, 96, 97, 98, 99, 100, 101, 102, 103, 104, 105, 106, 107, 108, 109, 110, 111, 112, 113, 114] (by decide +kernel) (by decide +kernel)) (goodIn_sub (fun _ h => List.mem_cons_of_mem _ (List.mem_append_left _ (List.mem_append_left _ (List.mem_append_right _ h)))) (by decide +kernel))) (goodIn_sub (fun _ h => List.mem_cons_of_mem _ (List.mem_append_left _ (List.mem_append_right _ h))) (by decide +kernel))) (goodIn_sub (fun _ h => List.mem_cons_of_mem _ (List.mem_append_right _ h)) (by decide +kernel))
set_option maxRecDepth 20000 in
theorem gX10_unitsPerTurnByLowest_X10_checkSameTrain : GoodIn wsX10_unitsPerTurnByLowest (wsV RX10 161 RX10 yX10_checkSameTrain wsX10_checkSameTrain) := goodIn_app (goodIn_of _ (by decide +kernel)) ggX10_unitsPerTurnByLowest_X10_checkSameTrain
set_option maxRecDepth 20000 in
theorem ggX10_unitsPerTurnByLowest_X10_unitsByLowest : GoodIn wsX10_unitsPerTurnByLowest wsX10_unitsByLowest := goodIn_ca (goodIn_r _ [61, 8, 9, 62, 63, 22, 23, 24, 25, 26, 27, 28, 29, 30, 31, 32, 33, 34, 35, 36, 37, 38, 19, 39, 40, 41, 42, 43, 44, 45, 46, 47, 48, 49, 50, 51, 52, 53, 64, 65, 66, 67, 68, 69, 70, 71, 72, 73, 74, 75, 76, 77, 78, 79, 80, 81, 82, 83, 84, 85, 86, 87, 88, 89, 90, 91, 92, 93, 94, 112, 113, 114, 95, 96, 97, 98, 99, 100, 101, 102, 103, 104, 105, 106, 107, 108, 109, 110, 111] (by decide +kernel) (by decide +kernel)) (goodIn_sub (fun _ h => List.mem_cons_of_mem _ (List.mem_append_right _ h)) (by decide +kernel))
set_option maxRecDepth 20000 in
theorem gX10_unitsPerTurnByLowest_X10_unitsByLowest : GoodIn wsX10_unitsPerTurnByLowest (wsV RX10 169 RX10 yX10_unitsByLowest wsX10_unitsByLowest) := goodIn_app (goodIn_of _ (by decide +kernel)) ggX10_unitsPerTurnByLowest_X10_unitsByLowest
theorem dX10_unitsPerTurnByLowest_0 : decode cX10_unitsPerTurnByLowest 0 = .ok (.aload_n 0, 1) := by decide +kernel
theorem dX10_unitsPerTurnByLowest_1 : decode cX10_unitsPerTurnByLowest 1 = .ok (.iload_n 1, 1) := by decide +kernel
theorem dX10_unitsPerTurnByLowest_2 : decode cX10_unitsPerTurnByLowest 2 = .ok (.iload_n 2, 1) := by decide +kernel
theorem dX10_unitsPerTurnByLowest_3 : decode cX10_unitsPerTurnByLowest 3 = .ok (.invokevirtual 161, 3) := by decide +kernel
theorem dX10_unitsPerTurnByLowest_6 : decode cX10_unitsPerTurnByLowest 6 = .ok (.aload_n 0, 1) := by decide +kernel
theorem dX10_unitsPerTurnByLowest_7 : decode cX10_unitsPerTurnByLowest 7 = .ok (.iload_n 1, 1) := by decide +kernel
theorem dX10_unitsPerTurnByLowest_8 : decode cX10_unitsPerTurnByLowest 8 = .ok (.iload_n 2, 1) := by decide +kernel
theorem dX10_unitsPerTurnByLowest_9 : decode cX10_unitsPerTurnByLowest 9 = .ok (.invokevirtual 169, 3) := by decide +kernel
theorem dX10_unitsPerTurnByLowest_12 : decode cX10_unitsPerTurnByLowest 12 = .ok (.lreturn, 1) := by decide +kernel
set_option maxRecDepth 20000 in
theorem ggX10_angle_X10_checkGear : GoodIn wsX10_angle wsX10_checkGear := goodIn_ca (goodIn_r _ [7, 8, 9, 1, 10, 11, 12, 13, 14, 15, 16, 17, 18, 19, 20, 21, 22, 23, 24, 25, 26, 27, 28, 29, 30, 31, 32, 33, 34, 35, 36, 37, 38, 39, 40, 41, 42, 43, 44, 45] (by decide +kernel) (by decide +kernel)) (goodIn_sub (fun _ h => List.mem_cons_of_mem _ (List.mem_append_right _ h)) (by decide +kernel))
set_option maxRecDepth 20000 in
theorem gX10_angle_X10_checkGear : GoodIn wsX10_angle (wsV RX10 132 RX10 yX10_checkGear wsX10_checkGear) := goodIn_app (goodIn_of _ (by decide +kernel)) ggX10_angle_X10_checkGear
theorem dX10_angle_0 : decode cX10_angle 0 = .ok (.aload_n 0, 1) := by decide +kernel
theorem dX10_angle_1 : decode cX10_angle 1 = .ok (.iload_n 1, 1) := by decide +kernel
theorem dX10_angle_2 : decode cX10_angle 2 = .ok (.invokevirtual 132, 3) := by decide +kernel
theorem dX10_angle_5 : decode cX10_angle 5 = .ok (.aload_n 0, 1) := by decide +kernel
theorem dX10_angle_6 : decode cX10_angle 6 = .ok (.getfield 12, 3) := by decide +kernel
theorem dX10_angle_9 : decode cX10_angle 9 = .ok (.getfield 172, 3) := by decide +kernel
theorem dX10_angle_12 : decode cX10_angle 12 = .ok (.iload_n 1, 1) := by decide +kernel
theorem dX10_angle_13 : decode cX10_angle 13 = .ok (.laload, 1) := by decide +kernel
theorem dX10_angle_14 : decode cX10_angle 14 = .ok (.lreturn, 1) := by decide +kernel
set_option maxRecDepth 20000 in
theorem ggX10_tension_X10_checkSpring : GoodIn wsX10_tension wsX10_checkSpring := goodIn_ca (goodIn_ca (goodIn_ca (goodIn_r _ [7, 8, 9, 1, 10, 11, 12, 6, 13, 14, 15, 16, 17, 18, 19, 20, 21, 22, 23, 24, 25, 26, 27, 28, 29, 30, 31, 32, 33, 34, 35, 36, 37, 38, 39, 40, 41, 42, 43, 44, 45, 46, 47, 48, 49, 50, 51, 52, 53, 54, 55, 56] (by decide +kernel) (by decide +kernel)) (goodIn_sub (fun _ h => List.mem_cons_of_mem _ (List.mem_append_left _ (List.mem_append_right _ h))) (by decide +kernel))) (goodIn_sub (fun _ h => List.mem_cons_of_mem _ (List.mem_append_right _ h)) (by decide +kernel))) (goodIn_sub (fun _ h => List.mem_cons_of_mem _ (List.mem_append_left _ (List.mem_append_left _ (List.mem_append_right _ h)))) (by decide +kernel))
set_option maxRecDepth 20000 in
theorem gX10_tension_X10_checkSpring : GoodIn wsX10_tension (wsV RX10 178 RX10 yX10_checkSpring wsX10_checkSpring) := goodIn_app (goodIn_of _ (by decide +kernel)) ggX10_tension_X10_checkSpring
theorem dX10_tension_0 : decode cX10_tension 0 = .ok (.aload_n 0, 1) := by decide +kernel
theorem dX10_tension_1 : decode cX10_tension 1 = .ok (.iload_n 1, 1) := by decide +kernel
theorem dX10_tension_2 : decode cX10_tension 2 = .ok (.invokevirtual 178, 3) := by decide +kernel
theorem dX10_tension_5 : decode cX10_tension 5 = .ok (.aload_n 0, 1) := by decide +kernel
theorem dX10_tension_6 : decode cX10_tension 6 = .ok (.getfield 12, 3) := by decide +kernel
theorem dX10_tension_9 : decode cX10_tension 9 = .ok (.getfield 181, 3) := by decide +kernel
theorem dX10_tension_12 : decode cX10_tension 12 = .ok (.iload_n 1, 1) := by decide +kernel
theorem dX10_tension_13 : decode cX10_tension 13 = .ok (.iaload, 1) := by decide +kernel
theorem dX10_tension_14 : decode cX10_tension 14 = .ok (.ireturn, 1) := by decide +kernel
set_option maxRecDepth 20000 in
theorem ggX10_springSize_X10_checkSpring : GoodIn wsX10_springSize wsX10_checkSpring := goodIn_ca (goodIn_ca (goodIn_ca (goodIn_r _ [7, 8, 9, 1, 10, 11, 12, 6, 13, 14, 15, 16, 17, 18, 19, 20, 21, 22, 23, 24, 25, 26, 27, 28, 29, 30, 31, 32, 33, 34, 35, 36, 37, 38, 39, 40, 41, 42, 43, 44, 45, 46, 47, 48, 49, 50, 51, 52, 53, 54, 55, 56] (by decide +kernel) (by decide +kernel)) (goodIn_sub (fun _ h => List.mem_cons_of_mem _ (List.mem_append_left _ (List.mem_append_right _ h))) (by decide +kernel))) (goodIn_sub (fun _ h => List.mem_cons_of_mem _ (List.mem_append_right _ h)) (by decide +kernel))) (goodIn_sub (fun _ h => List.mem_cons_of_mem _ (List.mem_append_left _ (List.mem_append_left _ (List.mem_append_right _ h)))) (by decide +kernel))
set_option maxRecDepth 20000 in
theorem gX10_springSize_X10_checkSpring : GoodIn wsX10_springSize (wsV RX10 178 RX10 yX10_checkSpring wsX10_checkSpring) := goodIn_app (goodIn_of _ (by decide +kernel)) ggX10_springSize_X10_checkSpring
theorem dX10_springSize_0 : decode cX10_springSize 0 = .ok (.aload_n 0, 1) := by decide +kernel
theorem dX10_springSize_1 : decode cX10_springSize 1 = .ok (.iload_n 1, 1) := by decide +kernel
theorem dX10_springSize_2 : decode cX10_springSize 2 = .ok (.invokevirtual 178, 3) := by decide +kernel
theorem dX10_springSize_5 : decode cX10_springSize 5 = .ok (.aload_n 0, 1) := by decide +kernel
theorem dX10_springSize_6 : decode cX10_springSize 6 = .ok (.getfield 12, 3) := by decide +kernel
theorem dX10_springSize_9 : decode cX10_springSize 9 = .ok (.getfield 184, 3) := by decide +kernel
theorem dX10_springSize_12 : decode cX10_springSize 12 = .ok (.iload_n 1, 1) := by decide +kernel
theorem dX10_springSize_13 : decode cX10_springSize 13 = .ok (.iaload, 1) := by decide +kernel
theorem dX10_springSize_14 : decode cX10_springSize 14 = .ok (.ireturn, 1) := by decide +kernel
set_option maxRecDepth 20000 in
theorem ggX10_springOf_X10_checkGear : GoodIn wsX10_springOf wsX10_checkGear := goodIn_ca (goodIn_r _ [9, 10, 11, 4, 12, 13, 14, 15, 16, 17, 63, 64, 65, 66, 67, 68, 69, 70, 71, 72, 73, 74, 75, 76, 77, 78, 79, 80, 81, 82, 83, 84, 85, 86, 87, 88, 89, 90, 91, 92] (by decide +kernel) (by decide +kernel)) (goodIn_sub (fun _ h => List.mem_cons_of_mem _ (List.mem_append_left _ (List.mem_append_right _ h))) (by decide +kernel))
set_option maxRecDepth 20000 in
theorem gX10_springOf_X10_checkGear : GoodIn wsX10_springOf (wsV RX10 132 RX10 yX10_checkGear wsX10_checkGear) := goodIn_app (goodIn_of _ (by decide +kernel)) ggX10_springOf_X10_checkGear
set_option maxRecDepth 20000 in
theorem ggX10_springOf_X8_trace : GoodIn wsX10_springOf wsX8_trace := goodIn_ca (goodIn_r _ [22, 23, 24, 25, 26, 27, 28, 29, 30, 21, 31, 32, 33, 34, 15, 35, 36, 37, 38, 39, 40, 41, 42, 43, 44, 45, 46, 47, 48, 49, 93, 94, 95, 76, 77, 78, 79, 80, 81, 82, 83, 84, 85, 86, 87, 88, 89, 90, 91, 92] (by decide +kernel) (by decide +kernel)) (goodIn_sub (fun _ h => List.mem_cons_of_mem _ (List.mem_append_right _ h)) (by decide +kernel))
set_option maxRecDepth 20000 in
theorem gX10_springOf_X8_trace : GoodIn wsX10_springOf (wsV RX10 150 RX8 yX8_trace wsX8_trace) := goodIn_app (goodIn_of _ (by decide +kernel)) ggX10_springOf_X8_trace
set_option maxRecDepth 20000 in
theorem ggX10_springOf_X8_springGear : GoodIn wsX10_springOf wsX8_springGear := goodIn_ca (goodIn_r _ [53, 27, 54, 55, 56, 21, 57, 23, 58, 59, 60, 15, 61, 62, 76, 77, 78, 79, 80, 81, 82, 83, 84, 85, 86, 87, 88, 89, 90, 91, 92, 93, 94, 95] (by decide +kernel) (by decide +kernel)) (goodIn_sub (fun _ h => List.mem_cons_of_mem _ (List.mem_append_right _ h)) (by decide +kernel))
set_option maxRecDepth 20000 in
theorem gX10_springOf_X8_springGear : GoodIn wsX10_springOf (wsV RX10 187 RX8 yX8_springGear wsX8_springGear) := goodIn_app (goodIn_of _ (by decide +kernel)) ggX10_springOf_X8_springGear
theorem dX10_springOf_0 : decode cX10_springOf 0 = .ok (.aload_n 0, 1) := by decide +kernel
theorem dX10_springOf_1 : decode cX10_springOf 1 = .ok (.iload_n 1, 1) := by decide +kernel
theorem dX10_springOf_2 : decode cX10_springOf 2 = .ok (.invokevirtual 132, 3) := by decide +kernel
theorem dX10_springOf_5 : decode cX10_springOf 5 = .ok (.aload_n 0, 1) := by decide +kernel
theorem dX10_springOf_6 : decode cX10_springOf 6 = .ok (.getfield 36, 3) := by decide +kernel
theorem dX10_springOf_9 : decode cX10_springOf 9 = .ok (.aload_n 0, 1) := by decide +kernel
theorem dX10_springOf_10 : decode cX10_springOf 10 = .ok (.getfield 12, 3) := by decide +kernel
theorem dX10_springOf_13 : decode cX10_springOf 13 = .ok (.iload_n 1, 1) := by decide +kernel
theorem dX10_springOf_14 : decode cX10_springOf 14 = .ok (.invokevirtual 150, 3) := by decide +kernel
theorem dX10_springOf_17 : decode cX10_springOf 17 = .ok (.aload_n 0, 1) := by decide +kernel
theorem dX10_springOf_18 : decode cX10_springOf 18 = .ok (.getfield 36, 3) := by decide +kernel
theorem dX10_springOf_21 : decode cX10_springOf 21 = .ok (.aload_n 0, 1) := by decide +kernel
theorem dX10_springOf_22 : decode cX10_springOf 22 = .ok (.getfield 12, 3) := by decide +kernel
theorem dX10_springOf_25 : decode cX10_springOf 25 = .ok (.invokevirtual 187, 3) := by decide +kernel
theorem dX10_springOf_28 : decode cX10_springOf 28 = .ok (.istore_n 2, 1) := by decide +kernel
theorem dX10_springOf_29 : decode cX10_springOf 29 = .ok (.iload_n 2, 1) := by decide +kernel
theorem dX10_springOf_30 : decode cX10_springOf 30 = .ok (.iconst (-1), 1) := by decide +kernel
theorem dX10_springOf_31 : decode cX10_springOf 31 = .ok (.if_icmp .ne 11, 3) := by decide +kernel
theorem dX10_springOf_34 : decode cX10_springOf 34 = .ok (.new 144, 3) := by decide +kernel
theorem dX10_springOf_37 : decode cX10_springOf 37 = .ok (.dup, 1) := by decide +kernel
theorem dX10_springOf_38 : decode cX10_springOf 38 = .ok (.invokespecial 146, 3) := by decide +kernel
theorem dX10_springOf_41 : decode cX10_springOf 41 = .ok (.athrow, 1) := by decide +kernel
theorem dX10_springOf_42 : decode cX10_springOf 42 = .ok (.iload_n 2, 1) := by decide +kernel
theorem dX10_springOf_43 : decode cX10_springOf 43 = .ok (.ireturn, 1) := by decide +kernel
set_option maxRecDepth 20000 in
theorem ggX10_friction_X10_checkGear : GoodIn wsX10_friction wsX10_checkGear := goodIn_ca (goodIn_r _ [7, 8, 9, 2, 10, 11, 12, 13, 14, 15, 57, 58, 59, 60, 61, 62, 63, 64, 65, 66, 67, 68, 69, 70, 71, 72, 73, 74, 75, 76, 77, 78, 79, 80, 81, 82, 83, 84, 85, 86] (by decide +kernel) (by decide +kernel)) (goodIn_sub (fun _ h => List.mem_cons_of_mem _ (List.mem_append_left _ (List.mem_append_right _ h))) (by decide +kernel))
set_option maxRecDepth 20000 in
theorem gX10_friction_X10_checkGear : GoodIn wsX10_friction (wsV RX10 132 RX10 yX10_checkGear wsX10_checkGear) := goodIn_app (goodIn_of _ (by decide +kernel)) ggX10_friction_X10_checkGear
set_option maxRecDepth 20000 in
theorem ggX10_friction_X8_trace : GoodIn wsX10_friction wsX8_trace := goodIn_ca (goodIn_r _ [20, 21, 22, 23, 24, 25, 26, 27, 28, 19, 29, 30, 31, 32, 13, 33, 34, 35, 36, 37, 38, 39, 40, 41, 42, 43, 44, 45, 46, 47, 87, 88, 89, 70, 71, 72, 73, 74, 75, 76, 77, 78, 79, 80, 81, 82, 83, 84, 85, 86] (by decide +kernel) (by decide +kernel)) (goodIn_sub (fun _ h => List.mem_cons_of_mem _ (List.mem_append_right _ h)) (by decide +kernel))
set_option maxRecDepth 20000 in
theorem gX10_friction_X8_trace : GoodIn wsX10_friction (wsV RX10 150 RX8 yX8_trace wsX8_trace) := goodIn_app (goodIn_of _ (by decide +kernel)) ggX10_friction_X8_trace
set_option maxRecDepth 20000 in
theorem ggX10_friction_X8_drag : GoodIn wsX10_friction wsX8_drag := goodIn_ca (goodIn_r _ [51, 22, 25, 52, 53, 54, 55, 19, 56, 21, 87, 88, 89, 70, 71, 72, 73, 74, 75, 76, 77, 78, 79, 80, 81, 82, 83, 84, 85, 86] (by decide +kernel) (by decide +kernel)) (goodIn_sub (fun _ h => List.mem_cons_of_mem _ (List.mem_append_right _ h)) (by decide +kernel))
set_option maxRecDepth 20000 in
theorem gX10_friction_X8_drag : GoodIn wsX10_friction (wsV RX10 191 RX8 yX8_drag wsX8_drag) := goodIn_app (goodIn_of _ (by decide +kernel)) ggX10_friction_X8_drag
theorem dX10_friction_0 : decode cX10_friction 0 = .ok (.aload_n 0, 1) := by decide +kernel
theorem dX10_friction_1 : decode cX10_friction 1 = .ok (.iload_n 1, 1) := by decide +kernel
theorem dX10_friction_2 : decode cX10_friction 2 = .ok (.invokevirtual 132, 3) := by decide +kernel
theorem dX10_friction_5 : decode cX10_friction 5 = .ok (.aload_n 0, 1) := by decide +kernel
theorem dX10_friction_6 : decode cX10_friction 6 = .ok (.getfield 36, 3) := by decide +kernel
theorem dX10_friction_9 : decode cX10_friction 9 = .ok (.aload_n 0, 1) := by decide +kernel
theorem dX10_friction_10 : decode cX10_friction 10 = .ok (.getfield 12, 3) := by decide +kernel
theorem dX10_friction_13 : decode cX10_friction 13 = .ok (.iload_n 1, 1) := by decide +kernel
theorem dX10_friction_14 : decode cX10_friction 14 = .ok (.invokevirtual 150, 3) := by decide +kernel
theorem dX10_friction_17 : decode cX10_friction 17 = .ok (.aload_n 0, 1) := by decide +kernel
theorem dX10_friction_18 : decode cX10_friction 18 = .ok (.getfield 36, 3) := by decide +kernel
theorem dX10_friction_21 : decode cX10_friction 21 = .ok (.aload_n 0, 1) := by decide +kernel
theorem dX10_friction_22 : decode cX10_friction 22 = .ok (.getfield 12, 3) := by decide +kernel
theorem dX10_friction_25 : decode cX10_friction 25 = .ok (.invokevirtual 191, 3) := by decide +kernel
theorem dX10_friction_28 : decode cX10_friction 28 = .ok (.ireturn, 1) := by decide +kernel
set_option maxRecDepth 20000 in
theorem ggX10_turnsLeft_X10_checkSpring : GoodIn wsX10_turnsLeft wsX10_checkSpring := goodIn_ca (goodIn_ca (goodIn_ca (goodIn_r _ [8, 9, 10, 2, 11, 12, 13, 7, 14, 15, 16, 17, 18, 19, 20, 21, 22, 23, 24, 25, 26, 27, 70, 71, 72, 73, 74, 75, 76, 77, 78, 79, 80, 81, 82, 83, 84, 85, 86, 87, 88, 89, 90, 91, 92, 93, 94, 95, 96, 97, 98, 99] (by decide +kernel) (by decide +kernel)) (goodIn_sub (fun _ h => List.mem_cons_of_mem _ (List.mem_append_left _ (List.mem_append_right _ h))) (by decide +kernel))) (goodIn_sub (fun _ h => List.mem_cons_of_mem _ (List.mem_append_right _ h)) (by decide +kernel))) (goodIn_sub (fun _ h => List.mem_cons_of_mem _ (List.mem_append_left _ (List.mem_append_left _ (List.mem_append_right _ h)))) (by decide +kernel))
set_option maxRecDepth 20000 in
theorem gX10_turnsLeft_X10_checkSpring : GoodIn wsX10_turnsLeft (wsV RX10 178 RX10 yX10_checkSpring wsX10_checkSpring) := goodIn_app (goodIn_of _ (by decide +kernel)) ggX10_turnsLeft_X10_checkSpring
set_option maxRecDepth 20000 in
theorem ggX10_turnsLeft_X8_trace : GoodIn wsX10_turnsLeft wsX8_trace := goodIn_ca (goodIn_r _ [32, 33, 34, 35, 36, 37, 38, 39, 40, 31, 41, 42, 43, 44, 20, 45, 46, 47, 48, 49, 50, 51, 52, 53, 54, 55, 56, 57, 58, 59, 100, 101, 102, 83, 84, 85, 86, 87, 88, 89, 90, 91, 92, 93, 94, 95, 96, 97, 98, 99] (by decide +kernel) (by decide +kernel)) (goodIn_sub (fun _ h => List.mem_cons_of_mem _ (List.mem_append_left _ (List.mem_append_left _ (List.mem_append_right _ h)))) (by decide +kernel))
set_option maxRecDepth 20000 in
theorem gX10_turnsLeft_X8_trace : GoodIn wsX10_turnsLeft (wsV RX10 150 RX8 yX8_trace wsX8_trace) := goodIn_app (goodIn_of _ (by decide +kernel)) ggX10_turnsLeft_X8_trace
set_option maxRecDepth 20000 in
theorem ggX10_turnsLeft_X8_drag : GoodIn wsX10_turnsLeft wsX8_drag := goodIn_ca (goodIn_r _ [63, 34, 37, 64, 65, 66, 67, 31, 68, 33, 100, 101, 102, 83, 84, 85, 86, 87, 88, 89, 90, 91, 92, 93, 94, 95, 96, 97, 98, 99] (by decide +kernel) (by decide +kernel)) (goodIn_sub (fun _ h => List.mem_cons_of_mem _ (List.mem_append_left _ (List.mem_append_left _ (List.mem_append_right _ h)))) (by decide +kernel))
set_option maxRecDepth 20000 in
theorem gX10_turnsLeft_X8_drag : GoodIn wsX10_turnsLeft (wsV RX10 191 RX8 yX8_drag wsX8_drag) := goodIn_app (goodIn_of _ (by decide +kernel)) ggX10_turnsLeft_X8_drag
set_option maxRecDepth 20000 in
theorem ggX10_turnsLeft_X4_quotient : GoodIn wsX10_turnsLeft wsX4_quotient := goodIn_r _ [55, 56, 57, 58, 59] (by decide +kernel) (by decide +kernel)
set_option maxRecDepth 20000 in
theorem gX10_turnsLeft_X4_quotient : GoodIn wsX10_turnsLeft (va_wsS RX10 194 yX4_quotient wsX4_quotient) := goodIn_app (goodIn_of _ (by decide +kernel)) ggX10_turnsLeft_X4_quotient
theorem dX10_turnsLeft_0 : decode cX10_turnsLeft 0 = .ok (.aload_n 0, 1) := by decide +kernel
theorem dX10_turnsLeft_1 : decode cX10_turnsLeft 1 = .ok (.iload_n 1, 1) := by decide +kernel
theorem dX10_turnsLeft_2 : decode cX10_turnsLeft 2 = .ok (.invokevirtual 178, 3) := by decide +kernel
theorem dX10_turnsLeft_5 : decode cX10_turnsLeft 5 = .ok (.aload_n 0, 1) := by decide +kernel
theorem dX10_turnsLeft_6 : decode cX10_turnsLeft 6 = .ok (.getfield 36, 3) := by decide +kernel
theorem dX10_turnsLeft_9 : decode cX10_turnsLeft 9 = .ok (.aload_n 0, 1) := by decide +kernel
theorem dX10_turnsLeft_10 : decode cX10_turnsLeft 10 = .ok (.getfield 12, 3) := by decide +kernel
theorem dX10_turnsLeft_13 : decode cX10_turnsLeft 13 = .ok (.iload_n 1, 1) := by decide +kernel
theorem dX10_turnsLeft_14 : decode cX10_turnsLeft 14 = .ok (.invokevirtual 150, 3) := by decide +kernel
theorem dX10_turnsLeft_17 : decode cX10_turnsLeft 17 = .ok (.aload_n 0, 1) := by decide +kernel
theorem dX10_turnsLeft_18 : decode cX10_turnsLeft 18 = .ok (.getfield 12, 3) := by decide +kernel
theorem dX10_turnsLeft_21 : decode cX10_turnsLeft 21 = .ok (.getfield 181, 3) := by decide +kernel
theorem dX10_turnsLeft_24 : decode cX10_turnsLeft 24 = .ok (.iload_n 1, 1) := by decide +kernel
theorem dX10_turnsLeft_25 : decode cX10_turnsLeft 25 = .ok (.iaload, 1) := by decide +kernel
theorem dX10_turnsLeft_26 : decode cX10_turnsLeft 26 = .ok (.i2l, 1) := by decide +kernel
theorem dX10_turnsLeft_27 : decode cX10_turnsLeft 27 = .ok (.aload_n 0, 1) := by decide +kernel
theorem dX10_turnsLeft_28 : decode cX10_turnsLeft 28 = .ok (.getfield 36, 3) := by decide +kernel
theorem dX10_turnsLeft_31 : decode cX10_turnsLeft 31 = .ok (.aload_n 0, 1) := by decide +kernel
theorem dX10_turnsLeft_32 : decode cX10_turnsLeft 32 = .ok (.getfield 12, 3) := by decide +kernel
theorem dX10_turnsLeft_35 : decode cX10_turnsLeft 35 = .ok (.invokevirtual 191, 3) := by decide +kernel
theorem dX10_turnsLeft_38 : decode cX10_turnsLeft 38 = .ok (.i2l, 1) := by decide +kernel
theorem dX10_turnsLeft_39 : decode cX10_turnsLeft 39 = .ok (.invokestatic 194, 3) := by decide +kernel
theorem dX10_turnsLeft_42 : decode cX10_turnsLeft 42 = .ok (.l2i, 1) := by decide +kernel
theorem dX10_turnsLeft_43 : decode cX10_turnsLeft 43 = .ok (.ireturn, 1) := by decide +kernel
set_option maxRecDepth 20000 in
theorem ggX10_canRelease_X10_checkGear : GoodIn wsX10_canRelease wsX10_checkGear := goodIn_ca (goodIn_r _ [7, 8, 9, 2, 10, 11, 12, 13, 14, 15, 59, 60, 61, 62, 63, 64, 65, 66, 67, 68, 69, 70, 71, 72, 73, 74, 75, 76, 77, 78, 79, 80, 81, 82, 83, 84, 85, 86, 87, 88] (by decide +kernel) (by decide +kernel)) (goodIn_sub (fun _ h => List.mem_cons_of_mem _ (List.mem_append_left _ (List.mem_append_right _ h))) (by decide +kernel))
set_option maxRecDepth 20000 in
theorem gX10_canRelease_X10_checkGear : GoodIn wsX10_canRelease (wsV RX10 132 RX10 yX10_checkGear wsX10_checkGear) := goodIn_app (goodIn_of _ (by decide +kernel)) ggX10_canRelease_X10_checkGear
set_option maxRecDepth 20000 in
theorem ggX10_canRelease_X8_trace : GoodIn wsX10_canRelease wsX8_trace := goodIn_ca (goodIn_r _ [20, 21, 22, 23, 24, 25, 26, 27, 28, 19, 29, 30, 31, 32, 13, 33, 34, 35, 36, 37, 38, 39, 40, 41, 42, 43, 44, 45, 46, 47, 89, 90, 91, 72, 73, 74, 75, 76, 77, 78, 79, 80, 81, 82, 83, 84, 85, 86, 87, 88] (by decide +kernel) (by decide +kernel)) (goodIn_sub (fun _ h => List.mem_cons_of_mem _ (List.mem_append_right _ h)) (by decide +kernel))
set_option maxRecDepth 20000 in
theorem gX10_canRelease_X8_trace : GoodIn wsX10_canRelease (wsV RX10 150 RX8 yX8_trace wsX8_trace) := goodIn_app (goodIn_of _ (by decide +kernel)) ggX10_canRelease_X8_trace
set_option maxRecDepth 20000 in
theorem ggX10_canRelease_X7_hasSpring : GoodIn wsX10_canRelease wsX7_hasSpring := goodIn_ca (goodIn_r _ [51, 52, 72, 73, 74, 75, 76, 77, 78, 79, 80, 81, 82, 83, 84, 85, 86, 87, 88] (by decide +kernel) (by decide +kernel)) (goodIn_sub (fun _ h => List.mem_cons_of_mem _ (List.mem_append_right _ h)) (by decide +kernel))
set_option maxRecDepth 20000 in
theorem gX10_canRelease_X7_hasSpring : GoodIn wsX10_canRelease (wsV RX10 200 RX7 yX7_hasSpring wsX7_hasSpring) := goodIn_app (goodIn_of _ (by decide +kernel)) ggX10_canRelease_X7_hasSpring
set_option maxRecDepth 20000 in
theorem ggX10_canRelease_X8_isBlocked : GoodIn wsX10_canRelease wsX8_isBlocked := goodIn_ca (goodIn_r _ [56, 25, 57, 21, 58, 72, 73, 74, 75, 76, 77, 78, 79, 80, 81, 82, 83, 84, 85, 86, 87, 88, 89, 90, 91] (by decide +kernel) (by decide +kernel)) (goodIn_sub (fun _ h => List.mem_cons_of_mem _ (List.mem_append_right _ h)) (by decide +kernel))
set_option maxRecDepth 20000 in
theorem gX10_canRelease_X8_isBlocked : GoodIn wsX10_canRelease (wsV RX10 203 RX8 yX8_isBlocked wsX8_isBlocked) := goodIn_app (goodIn_of _ (by decide +kernel)) ggX10_canRelease_X8_isBlocked
theorem dX10_canRelease_0 : decode cX10_canRelease 0 = .ok (.aload_n 0, 1) := by decide +kernel
theorem dX10_canRelease_1 : decode cX10_canRelease 1 = .ok (.iload_n 1, 1) := by decide +kernel
theorem dX10_canRelease_2 : decode cX10_canRelease 2 = .ok (.invokevirtual 132, 3) := by decide +kernel
theorem dX10_canRelease_5 : decode cX10_canRelease 5 = .ok (.aload_n 0, 1) := by decide +kernel
theorem dX10_canRelease_6 : decode cX10_canRelease 6 = .ok (.getfield 36, 3) := by decide +kernel
theorem dX10_canRelease_9 : decode cX10_canRelease 9 = .ok (.aload_n 0, 1) := by decide +kernel
theorem dX10_canRelease_10 : decode cX10_canRelease 10 = .ok (.getfield 12, 3) := by decide +kernel
theorem dX10_canRelease_13 : decode cX10_canRelease 13 = .ok (.iload_n 1, 1) := by decide +kernel
theorem dX10_canRelease_14 : decode cX10_canRelease 14 = .ok (.invokevirtual 150, 3) := by decide +kernel
theorem dX10_canRelease_17 : decode cX10_canRelease 17 = .ok (.aload_n 0, 1) := by decide +kernel
theorem dX10_canRelease_18 : decode cX10_canRelease 18 = .ok (.getfield 12, 3) := by decide +kernel
theorem dX10_canRelease_21 : decode cX10_canRelease 21 = .ok (.iload_n 1, 1) := by decide +kernel
theorem dX10_canRelease_22 : decode cX10_canRelease 22 = .ok (.invokevirtual 200, 3) := by decide +kernel
theorem dX10_canRelease_25 : decode cX10_canRelease 25 = .ok (.ifCond .eq 22, 3) := by decide +kernel
theorem dX10_canRelease_28 : decode cX10_canRelease 28 = .ok (.aload_n 0, 1) := by decide +kernel
theorem dX10_canRelease_29 : decode cX10_canRelease 29 = .ok (.getfield 36, 3) := by decide +kernel
theorem dX10_canRelease_32 : decode cX10_canRelease 32 = .ok (.aload_n 0, 1) := by decide +kernel
theorem dX10_canRelease_33 : decode cX10_canRelease 33 = .ok (.getfield 12, 3) := by decide +kernel
theorem dX10_canRelease_36 : decode cX10_canRelease 36 = .ok (.iload_n 1, 1) := by decide +kernel
theorem dX10_canRelease_37 : decode cX10_canRelease 37 = .ok (.invokevirtual 203, 3) := by decide +kernel
theorem dX10_canRelease_40 : decode cX10_canRelease 40 = .ok (.ifCond .ne 7, 3) := by decide +kernel
theorem dX10_canRelease_43 : decode cX10_canRelease 43 = .ok (.iconst 1, 1) := by decide +kernel
theorem dX10_canRelease_44 : decode cX10_canRelease 44 = .ok (.goto 4, 3) := by decide +kernel
theorem dX10_canRelease_47 : decode cX10_canRelease 47 = .ok (.iconst 0, 1) := by decide +kernel
theorem dX10_canRelease_48 : decode cX10_canRelease 48 = .ok (.ireturn, 1) := by decide +kernel
set_option maxRecDepth 20000 in
theorem ggX10_hasRatchet_X10_checkGear : GoodIn wsX10_hasRatchet wsX10_checkGear := goodIn_ca (goodIn_r _ [7, 8, 9, 1, 10, 11, 12, 13, 14, 15, 16, 17, 18, 19, 20, 21, 22, 23, 24, 25, 26, 27, 28, 29, 30, 31, 32, 33, 34, 35, 36, 37, 38, 39, 40, 41, 42, 43, 44, 45] (by decide +kernel) (by decide +kernel)) (goodIn_sub (fun _ h => List.mem_cons_of_mem _ (List.mem_append_right _ h)) (by decide +kernel))
set_option maxRecDepth 20000 in
theorem gX10_hasRatchet_X10_checkGear : GoodIn wsX10_hasRatchet (wsV RX10 132 RX10 yX10_checkGear wsX10_checkGear) := goodIn_app (goodIn_of _ (by decide +kernel)) ggX10_hasRatchet_X10_checkGear
theorem dX10_hasRatchet_0 : decode cX10_hasRatchet 0 = .ok (.aload_n 0, 1) := by decide +kernel
theorem dX10_hasRatchet_1 : decode cX10_hasRatchet 1 = .ok (.iload_n 1, 1) := by decide +kernel
theorem dX10_hasRatchet_2 : decode cX10_hasRatchet 2 = .ok (.invokevirtual 132, 3) := by decide +kernel
theorem dX10_hasRatchet_5 : decode cX10_hasRatchet 5 = .ok (.aload_n 0, 1) := by decide +kernel
theorem dX10_hasRatchet_6 : decode cX10_hasRatchet 6 = .ok (.getfield 12, 3) := by decide +kernel
theorem dX10_hasRatchet_9 : decode cX10_hasRatchet 9 = .ok (.getfield 207, 3) := by decide +kernel
theorem dX10_hasRatchet_12 : decode cX10_hasRatchet 12 = .ok (.iload_n 1, 1) := by decide +kernel
theorem dX10_hasRatchet_13 : decode cX10_hasRatchet 13 = .ok (.baload, 1) := by decide +kernel
theorem dX10_hasRatchet_14 : decode cX10_hasRatchet 14 = .ok (.ireturn, 1) := by decide +kernel
set_option maxRecDepth 20000 in
theorem ggX10_isDry_X10_checkGear : GoodIn wsX10_isDry wsX10_checkGear := goodIn_ca (goodIn_r _ [7, 8, 9, 1, 10, 11, 12, 13, 14, 15, 16, 17, 18, 19, 20, 21, 22, 23, 24, 25, 26, 27, 28, 29, 30, 31, 32, 33, 34, 35, 36, 37, 38, 39, 40, 41, 42, 43, 44, 45] (by decide +kernel) (by decide +kernel)) (goodIn_sub (fun _ h => List.mem_cons_of_mem _ (List.mem_append_right _ h)) (by decide +kernel))
set_option maxRecDepth 20000 in
theorem gX10_isDry_X10_checkGear : GoodIn wsX10_isDry (wsV RX10 132 RX10 yX10_checkGear wsX10_checkGear) := goodIn_app (goodIn_of _ (by decide +kernel)) ggX10_isDry_X10_checkGear
theorem dX10_isDry_0 : decode cX10_isDry 0 = .ok (.aload_n 0, 1) := by decide +kernel
theorem dX10_isDry_1 : decode cX10_isDry 1 = .ok (.iload_n 1, 1) := by decide +kernel
theorem dX10_isDry_2 : decode cX10_isDry 2 = .ok (.invokevirtual 132, 3) := by decide +kernel
theorem dX10_isDry_5 : decode cX10_isDry 5 = .ok (.aload_n 0, 1) := by decide +kernel
theorem dX10_isDry_6 : decode cX10_isDry 6 = .ok (.getfield 12, 3) := by decide +kernel
theorem dX10_isDry_9 : decode cX10_isDry 9 = .ok (.getfield 211, 3) := by decide +kernel
theorem dX10_isDry_12 : decode cX10_isDry 12 = .ok (.iload_n 1, 1) := by decide +kernel
theorem dX10_isDry_13 : decode cX10_isDry 13 = .ok (.baload, 1) := by decide +kernel
theorem dX10_isDry_14 : decode cX10_isDry 14 = .ok (.ifCond .ne 7, 3) := by decide +kernel
theorem dX10_isDry_17 : decode cX10_isDry 17 = .ok (.iconst 1, 1) := by decide +kernel
theorem dX10_isDry_18 : decode cX10_isDry 18 = .ok (.goto 4, 3) := by decide +kernel
theorem dX10_isDry_21 : decode cX10_isDry 21 = .ok (.iconst 0, 1) := by decide +kernel
theorem dX10_isDry_22 : decode cX10_isDry 22 = .ok (.ireturn, 1) := by decide +kernel
set_option maxRecDepth 20000 in
theorem ggX10_wear_X10_checkGear : GoodIn wsX10_wear wsX10_checkGear := goodIn_ca (goodIn_r _ [11, 12, 13, 3, 14, 15, 16, 17, 18, 19, 28, 29, 30, 31, 32, 33, 34, 35, 36, 37, 38, 39, 40, 41, 42, 43, 44, 45, 46, 47, 48, 49, 50, 51, 52, 53, 54, 55, 56, 57] (by decide +kernel) (by decide +kernel)) (goodIn_sub (fun _ h => List.mem_cons_of_mem _ (List.mem_append_right _ h)) (by decide +kernel))
set_option maxRecDepth 20000 in
theorem gX10_wear_X10_checkGear : GoodIn wsX10_wear (wsV RX10 132 RX10 yX10_checkGear wsX10_checkGear) := goodIn_app (goodIn_of _ (by decide +kernel)) ggX10_wear_X10_checkGear
set_option maxRecDepth 20000 in
theorem ggX10_wear_X4_quotient : GoodIn wsX10_wear wsX4_quotient := goodIn_r _ [23, 24, 25, 26, 27] (by decide +kernel) (by decide +kernel)
set_option maxRecDepth 20000 in
theorem gX10_wear_X4_quotient : GoodIn wsX10_wear (va_wsS RX10 194 yX4_quotient wsX4_quotient) := goodIn_app (goodIn_of _ (by decide +kernel)) ggX10_wear_X4_quotient
theorem dX10_wear_0 : decode cX10_wear 0 = .ok (.aload_n 0, 1) := by decide +kernel
theorem dX10_wear_1 : decode cX10_wear 1 = .ok (.iload_n 1, 1) := by decide +kernel
theorem dX10_wear_2 : decode cX10_wear 2 = .ok (.invokevirtual 132, 3) := by decide +kernel
theorem dX10_wear_5 : decode cX10_wear 5 = .ok (.aload_n 0, 1) := by decide +kernel
theorem dX10_wear_6 : decode cX10_wear 6 = .ok (.getfield 12, 3) := by decide +kernel
theorem dX10_wear_9 : decode cX10_wear 9 = .ok (.getfield 211, 3) := by decide +kernel
theorem dX10_wear_12 : decode cX10_wear 12 = .ok (.iload_n 1, 1) := by decide +kernel
theorem dX10_wear_13 : decode cX10_wear 13 = .ok (.baload, 1) := by decide +kernel
theorem dX10_wear_14 : decode cX10_wear 14 = .ok (.ifCond .ne 11, 3) := by decide +kernel
theorem dX10_wear_17 : decode cX10_wear 17 = .ok (.new 144, 3) := by decide +kernel
theorem dX10_wear_20 : decode cX10_wear 20 = .ok (.dup, 1) := by decide +kernel
theorem dX10_wear_21 : decode cX10_wear 21 = .ok (.invokespecial 146, 3) := by decide +kernel
theorem dX10_wear_24 : decode cX10_wear 24 = .ok (.athrow, 1) := by decide +kernel
theorem dX10_wear_25 : decode cX10_wear 25 = .ok (.aload_n 0, 1) := by decide +kernel
theorem dX10_wear_26 : decode cX10_wear 26 = .ok (.getfield 12, 3) := by decide +kernel
theorem dX10_wear_29 : decode cX10_wear 29 = .ok (.getfield 214, 3) := by decide +kernel
theorem dX10_wear_32 : decode cX10_wear 32 = .ok (.iload_n 1, 1) := by decide +kernel
theorem dX10_wear_33 : decode cX10_wear 33 = .ok (.laload, 1) := by decide +kernel
theorem dX10_wear_34 : decode cX10_wear 34 = .ok (.ldc2_w 217, 3) := by decide +kernel
theorem dX10_wear_37 : decode cX10_wear 37 = .ok (.invokestatic 194, 3) := by decide +kernel
theorem dX10_wear_40 : decode cX10_wear 40 = .ok (.l2i, 1) := by decide +kernel
theorem dX10_wear_41 : decode cX10_wear 41 = .ok (.ireturn, 1) := by decide +kernel
theorem dX10_drops_0 : decode cX10_drops 0 = .ok (.aload_n 0, 1) := by decide +kernel
theorem dX10_drops_1 : decode cX10_drops 1 = .ok (.getfield 12, 3) := by decide +kernel
theorem dX10_drops_4 : decode cX10_drops 4 = .ok (.getfield 219, 3) := by decide +kernel
theorem dX10_drops_7 : decode cX10_drops 7 = .ok (.ireturn, 1) := by decide +kernel
theorem dX10_planetCount_0 : decode cX10_planetCount 0 = .ok (.aload_n 0, 1) := by decide +kernel
theorem dX10_planetCount_1 : decode cX10_planetCount 1 = .ok (.getfield 12, 3) := by decide +kernel
theorem dX10_planetCount_4 : decode cX10_planetCount 4 = .ok (.getfield 222, 3) := by decide +kernel
theorem dX10_planetCount_7 : decode cX10_planetCount 7 = .ok (.ireturn, 1) := by decide +kernel
set_option maxRecDepth 20000 in
theorem ggX10_gearOf_X10_checkPlanet : GoodIn wsX10_gearOf wsX10_checkPlanet := goodIn_ca (goodIn_r _ [7, 8, 9, 1, 10, 11, 12, 13, 14, 15, 16, 17, 18, 19, 20, 21, 22, 23, 24, 25, 26, 27, 28, 29, 30, 31, 32, 33, 34, 35, 36, 37, 38, 39, 40, 41, 42, 43, 44, 45] (by decide +kernel) (by decide +kernel)) (goodIn_sub (fun _ h => List.mem_cons_of_mem _ (List.mem_append_right _ h)) (by decide +kernel))
set_option maxRecDepth 20000 in
theorem gX10_gearOf_X10_checkPlanet : GoodIn wsX10_gearOf (wsV RX10 225 RX10 yX10_checkPlanet wsX10_checkPlanet) := goodIn_app (goodIn_of _ (by decide +kernel)) ggX10_gearOf_X10_checkPlanet
theorem dX10_gearOf_0 : decode cX10_gearOf 0 = .ok (.aload_n 0, 1) := by decide +kernel
theorem dX10_gearOf_1 : decode cX10_gearOf 1 = .ok (.iload_n 1, 1) := by decide +kernel
theorem dX10_gearOf_2 : decode cX10_gearOf 2 = .ok (.invokevirtual 225, 3) := by decide +kernel
theorem dX10_gearOf_5 : decode cX10_gearOf 5 = .ok (.aload_n 0, 1) := by decide +kernel
theorem dX10_gearOf_6 : decode cX10_gearOf 6 = .ok (.getfield 12, 3) := by decide +kernel
theorem dX10_gearOf_9 : decode cX10_gearOf 9 = .ok (.getfield 228, 3) := by decide +kernel
theorem dX10_gearOf_12 : decode cX10_gearOf 12 = .ok (.iload_n 1, 1) := by decide +kernel
theorem dX10_gearOf_13 : decode cX10_gearOf 13 = .ok (.iaload, 1) := by decide +kernel
theorem dX10_gearOf_14 : decode cX10_gearOf 14 = .ok (.ireturn, 1) := by decide +kernel
set_option maxRecDepth 20000 in
theorem ggX10_areInLine_X10_checkPlanet : GoodIn wsX10_areInLine wsX10_checkPlanet := goodIn_ca (goodIn_r _ [10, 11, 12, 3, 13, 14, 15, 16, 17, 18, 19, 20, 21, 22, 23, 24, 25, 26, 27, 28, 29, 30, 31, 32, 33, 34, 35, 36, 37, 38, 39, 40, 41, 42, 43, 44, 45, 46, 47, 48] (by decide +kernel) (by decide +kernel)) (goodIn_sub (fun _ h => List.mem_cons_of_mem _ (List.mem_append_right _ h)) (by decide +kernel))
set_option maxRecDepth 20000 in
theorem gX10_areInLine_X10_checkPlanet : GoodIn wsX10_areInLine (wsV RX10 225 RX10 yX10_checkPlanet wsX10_checkPlanet) := goodIn_app (goodIn_of _ (by decide +kernel)) ggX10_areInLine_X10_checkPlanet
theorem dX10_areInLine_0 : decode cX10_areInLine 0 = .ok (.aload_n 0, 1) := by decide +kernel
theorem dX10_areInLine_1 : decode cX10_areInLine 1 = .ok (.iload_n 1, 1) := by decide +kernel
theorem dX10_areInLine_2 : decode cX10_areInLine 2 = .ok (.invokevirtual 225, 3) := by decide +kernel
theorem dX10_areInLine_5 : decode cX10_areInLine 5 = .ok (.aload_n 0, 1) := by decide +kernel
theorem dX10_areInLine_6 : decode cX10_areInLine 6 = .ok (.iload_n 2, 1) := by decide +kernel
theorem dX10_areInLine_7 : decode cX10_areInLine 7 = .ok (.invokevirtual 225, 3) := by decide +kernel
theorem dX10_areInLine_10 : decode cX10_areInLine 10 = .ok (.iload_n 1, 1) := by decide +kernel
theorem dX10_areInLine_11 : decode cX10_areInLine 11 = .ok (.iload_n 2, 1) := by decide +kernel
theorem dX10_areInLine_12 : decode cX10_areInLine 12 = .ok (.if_icmp .ne 11, 3) := by decide +kernel
theorem dX10_areInLine_15 : decode cX10_areInLine 15 = .ok (.new 231, 3) := by decide +kernel
theorem dX10_areInLine_18 : decode cX10_areInLine 18 = .ok (.dup, 1) := by decide +kernel
theorem dX10_areInLine_19 : decode cX10_areInLine 19 = .ok (.invokespecial 233, 3) := by decide +kernel
theorem dX10_areInLine_22 : decode cX10_areInLine 22 = .ok (.athrow, 1) := by decide +kernel
theorem dX10_areInLine_23 : decode cX10_areInLine 23 = .ok (.aload_n 0, 1) := by decide +kernel
theorem dX10_areInLine_24 : decode cX10_areInLine 24 = .ok (.getfield 12, 3) := by decide +kernel
theorem dX10_areInLine_27 : decode cX10_areInLine 27 = .ok (.getfield 172, 3) := by decide +kernel
theorem dX10_areInLine_30 : decode cX10_areInLine 30 = .ok (.aload_n 0, 1) := by decide +kernel
theorem dX10_areInLine_31 : decode cX10_areInLine 31 = .ok (.getfield 12, 3) := by decide +kernel
theorem dX10_areInLine_34 : decode cX10_areInLine 34 = .ok (.getfield 228, 3) := by decide +kernel
theorem dX10_areInLine_37 : decode cX10_areInLine 37 = .ok (.iload_n 1, 1) := by decide +kernel
theorem dX10_areInLine_38 : decode cX10_areInLine 38 = .ok (.iaload, 1) := by decide +kernel
theorem dX10_areInLine_39 : decode cX10_areInLine 39 = .ok (.laload, 1) := by decide +kernel
theorem dX10_areInLine_40 : decode cX10_areInLine 40 = .ok (.aload_n 0, 1) := by decide +kernel
theorem dX10_areInLine_41 : decode cX10_areInLine 41 = .ok (.getfield 12, 3) := by decide +kernel
theorem dX10_areInLine_44 : decode cX10_areInLine 44 = .ok (.getfield 172, 3) := by decide +kernel
theorem dX10_areInLine_47 : decode cX10_areInLine 47 = .ok (.aload_n 0, 1) := by decide +kernel
theorem dX10_areInLine_48 : decode cX10_areInLine 48 = .ok (.getfield 12, 3) := by decide +kernel
theorem dX10_areInLine_51 : decode cX10_areInLine 51 = .ok (.getfield 228, 3) := by decide +kernel
theorem dX10_areInLine_54 : decode cX10_areInLine 54 = .ok (.iload_n 2, 1) := by decide +kernel
theorem dX10_areInLine_55 : decode cX10_areInLine 55 = .ok (.iaload, 1) := by decide +kernel
theorem dX10_areInLine_56 : decode cX10_areInLine 56 = .ok (.laload, 1) := by decide +kernel
theorem dX10_areInLine_57 : decode cX10_areInLine 57 = .ok (.lcmp, 1) := by decide +kernel
theorem dX10_areInLine_58 : decode cX10_areInLine 58 = .ok (.ifCond .ne 7, 3) := by decide +kernel
theorem dX10_areInLine_61 : decode cX10_areInLine 61 = .ok (.iconst 1, 1) := by decide +kernel
theorem dX10_areInLine_62 : decode cX10_areInLine 62 = .ok (.goto 4, 3) := by decide +kernel
theorem dX10_areInLine_65 : decode cX10_areInLine 65 = .ok (.iconst 0, 1) := by decide +kernel
theorem dX10_areInLine_66 : decode cX10_areInLine 66 = .ok (.ireturn, 1) := by decide +kernel
set_option maxRecDepth 20000 in
theorem ggX10_nextEclipse_X2_judge : GoodIn wsX10_nextEclipse wsX2_judge := goodIn_ca (goodIn_r _ [6, 7, 8, 9, 10, 11, 12, 13, 14, 15, 16, 17, 18, 19, 20, 21, 22, 23, 24, 25, 26, 27, 28, 29, 30, 31, 32, 33, 34, 35, 36, 37, 38, 39, 40, 41, 42, 43, 44, 45, 46, 47, 48, 49, 50, 51, 52, 53, 54, 55, 56, 117, 118, 119, 120, 121, 122, 123, 124, 125, 126, 127, 128, 129, 130, 131, 132, 133, 134, 135, 136, 137, 138] (by decide +kernel) (by decide +kernel)) (goodIn_sub (fun _ h => List.mem_cons_of_mem _ (List.mem_append_left _ (List.mem_append_left _ (List.mem_append_left _ (List.mem_append_left _ (List.mem_append_left _ (List.mem_append_right _ h))))))) (by decide +kernel))
set_option maxRecDepth 20000 in
theorem gX10_nextEclipse_X2_judge : GoodIn wsX10_nextEclipse (wsV RX10 234 RX2 yX2_judge wsX2_judge) := goodIn_app (goodIn_of _ (by decide +kernel)) ggX10_nextEclipse_X2_judge
set_option maxRecDepth 20000 in
theorem ggX10_nextEclipse_X10_refuse : GoodIn wsX10_nextEclipse wsX10_refuse := goodIn_ca (goodIn_ca (goodIn_ca (goodIn_ca (goodIn_ca (goodIn_r _ [60, 61, 62, 63, 64, 65, 66, 67, 68, 69, 70] (by decide +kernel) (by decide +kernel)) (goodIn_sub (fun _ h => List.mem_cons_of_mem _ (List.mem_append_left _ (List.mem_append_left _ (List.mem_append_left _ (List.mem_append_left _ (List.mem_append_right _ h)))))) (by decide +kernel))) (goodIn_sub (fun _ h => List.mem_cons_of_mem _ (List.mem_append_left _ (List.mem_append_left _ (List.mem_append_left _ (List.mem_append_right _ h))))) (by decide +kernel))) (goodIn_sub (fun _ h => List.mem_cons_of_mem _ (List.mem_append_left _ (List.mem_append_left _ (List.mem_append_right _ h)))) (by decide +kernel))) (goodIn_sub (fun _ h => List.mem_cons_of_mem _ (List.mem_append_left _ (List.mem_append_right _ h))) (by decide +kernel))) (goodIn_sub (fun _ h => List.mem_cons_of_mem _ (List.mem_append_right _ h)) (by decide +kernel))
set_option maxRecDepth 20000 in
theorem gX10_nextEclipse_X10_refuse : GoodIn wsX10_nextEclipse (va_wsS RX10 238 yX10_refuse wsX10_refuse) := goodIn_app (goodIn_of _ (by decide +kernel)) ggX10_nextEclipse_X10_refuse
set_option maxRecDepth 20000 in
theorem ggX10_nextEclipse_X2_bySolving : GoodIn wsX10_nextEclipse wsX2_bySolving := goodIn_ca (goodIn_r _ [74, 8, 7, 9, 75, 76, 77, 78, 21, 22, 23, 24, 25, 26, 27, 28, 29, 30, 31, 32, 33, 34, 35, 36, 37, 13, 38, 39, 40, 41, 42, 43, 44, 45, 46, 47, 48, 49, 50, 51, 52, 79, 80, 81, 82, 83, 84, 85, 86, 87, 88, 89, 90, 91, 92, 93, 94, 95, 96, 97, 98, 99, 100, 117, 118, 119, 120, 121, 122, 123, 124, 125, 126, 127, 128, 129, 130, 131, 132, 133, 134, 135, 136, 137, 138] (by decide +kernel) (by decide +kernel)) (goodIn_sub (fun _ h => List.mem_cons_of_mem _ (List.mem_append_left _ (List.mem_append_left _ (List.mem_append_left _ (List.mem_append_left _ (List.mem_append_left _ (List.mem_append_right _ h))))))) (by decide +kernel))
set_option maxRecDepth 20000 in
theorem gX10_nextEclipse_X2_bySolving : GoodIn wsX10_nextEclipse (wsV RX10 241 RX2 yX2_bySolving wsX2_bySolving) := goodIn_app (goodIn_of _ (by decide +kernel)) ggX10_nextEclipse_X2_bySolving
set_option maxRecDepth 20000 in
theorem ggX10_nextEclipse_X10_found : GoodIn wsX10_nextEclipse wsX10_found := goodIn_ca (goodIn_r _ [103, 69, 70] (by decide +kernel) (by decide +kernel)) (goodIn_sub (fun _ h => List.mem_cons_of_mem _ (List.mem_append_right _ h)) (by decide +kernel))
set_option maxRecDepth 20000 in
theorem gX10_nextEclipse_X10_found : GoodIn wsX10_nextEclipse (va_wsS RX10 244 yX10_found wsX10_found) := goodIn_app (goodIn_of _ (by decide +kernel)) ggX10_nextEclipse_X10_found
theorem dX10_nextEclipse_0 : decode cX10_nextEclipse 0 = .ok (.aload_n 0, 1) := by decide +kernel
theorem dX10_nextEclipse_1 : decode cX10_nextEclipse 1 = .ok (.getfield 52, 3) := by decide +kernel
theorem dX10_nextEclipse_4 : decode cX10_nextEclipse 4 = .ok (.iload_n 1, 1) := by decide +kernel
theorem dX10_nextEclipse_5 : decode cX10_nextEclipse 5 = .ok (.iload_n 2, 1) := by decide +kernel
theorem dX10_nextEclipse_6 : decode cX10_nextEclipse 6 = .ok (.iload_n 3, 1) := by decide +kernel
theorem dX10_nextEclipse_7 : decode cX10_nextEclipse 7 = .ok (.invokevirtual 234, 3) := by decide +kernel
theorem dX10_nextEclipse_10 : decode cX10_nextEclipse 10 = .ok (.invokestatic 238, 3) := by decide +kernel
theorem dX10_nextEclipse_13 : decode cX10_nextEclipse 13 = .ok (.aload_n 0, 1) := by decide +kernel
theorem dX10_nextEclipse_14 : decode cX10_nextEclipse 14 = .ok (.getfield 52, 3) := by decide +kernel
theorem dX10_nextEclipse_17 : decode cX10_nextEclipse 17 = .ok (.iload_n 1, 1) := by decide +kernel
theorem dX10_nextEclipse_18 : decode cX10_nextEclipse 18 = .ok (.iload_n 2, 1) := by decide +kernel
theorem dX10_nextEclipse_19 : decode cX10_nextEclipse 19 = .ok (.iload_n 3, 1) := by decide +kernel
theorem dX10_nextEclipse_20 : decode cX10_nextEclipse 20 = .ok (.invokevirtual 241, 3) := by decide +kernel
theorem dX10_nextEclipse_23 : decode cX10_nextEclipse 23 = .ok (.invokestatic 244, 3) := by decide +kernel
theorem dX10_nextEclipse_26 : decode cX10_nextEclipse 26 = .ok (.ireturn, 1) := by decide +kernel
set_option maxRecDepth 20000 in
theorem ggX10_nextEclipseByTurns_X2_judge : GoodIn wsX10_nextEclipseByTurns wsX2_judge := goodIn_ca (goodIn_r _ [6, 7, 8, 9, 10, 11, 12, 13, 14, 15, 16, 17, 18, 19, 20, 21, 22, 23, 24, 25, 26, 27, 28, 29, 30, 31, 32, 33, 34, 35, 36, 37, 38, 39, 40, 41, 42, 43, 44, 45, 46, 47, 48, 49, 50, 51, 52, 53, 54, 55, 56, 100, 101, 102, 103, 104, 105, 106, 107, 108, 109, 110, 111, 112, 113, 114, 115, 116, 117, 118, 119, 120, 121] (by decide +kernel) (by decide +kernel)) (goodIn_sub (fun _ h => List.mem_cons_of_mem _ (List.mem_append_left _ (List.mem_append_left _ (List.mem_append_left _ (List.mem_append_left _ (List.mem_append_left _ (List.mem_append_right _ h))))))) (by decide +kernel))
set_option maxRecDepth 20000 in
theorem gX10_nextEclipseByTurns_X2_judge : GoodIn wsX10_nextEclipseByTurns (wsV RX10 234 RX2 yX2_judge wsX2_judge) := goodIn_app (goodIn_of _ (by decide +kernel)) ggX10_nextEclipseByTurns_X2_judge
set_option maxRecDepth 20000 in
theorem ggX10_nextEclipseByTurns_X10_refuse : GoodIn wsX10_nextEclipseByTurns wsX10_refuse := goodIn_ca (goodIn_ca (goodIn_ca (goodIn_ca (goodIn_ca (goodIn_r _ [60, 61, 62, 63, 64, 65, 66, 67, 68, 69, 70] (by decide +kernel) (by decide +kernel)) (goodIn_sub (fun _ h => List.mem_cons_of_mem _ (List.mem_append_left _ (List.mem_append_left _ (List.mem_append_left _ (List.mem_append_left _ (List.mem_append_right _ h)))))) (by decide +kernel))) (goodIn_sub (fun _ h => List.mem_cons_of_mem _ (List.mem_append_left _ (List.mem_append_left _ (List.mem_append_left _ (List.mem_append_right _ h))))) (by decide +kernel))) (goodIn_sub (fun _ h => List.mem_cons_of_mem _ (List.mem_append_left _ (List.mem_append_left _ (List.mem_append_right _ h)))) (by decide +kernel))) (goodIn_sub (fun _ h => List.mem_cons_of_mem _ (List.mem_append_left _ (List.mem_append_right _ h))) (by decide +kernel))) (goodIn_sub (fun _ h => List.mem_cons_of_mem _ (List.mem_append_right _ h)) (by decide +kernel))
set_option maxRecDepth 20000 in
theorem gX10_nextEclipseByTurns_X10_refuse : GoodIn wsX10_nextEclipseByTurns (va_wsS RX10 238 yX10_refuse wsX10_refuse) := goodIn_app (goodIn_of _ (by decide +kernel)) ggX10_nextEclipseByTurns_X10_refuse
set_option maxRecDepth 20000 in
theorem ggX10_nextEclipseByTurns_X2_byTurning : GoodIn wsX10_nextEclipseByTurns wsX2_byTurning := goodIn_ca (goodIn_r _ [74, 8, 7, 9, 75, 76, 77, 21, 22, 23, 24, 25, 26, 27, 28, 29, 30, 31, 32, 33, 34, 35, 36, 37, 13, 38, 39, 40, 41, 42, 43, 44, 45, 46, 47, 48, 49, 50, 51, 52, 78, 79, 80, 81, 82, 83, 100, 101, 102, 103, 104, 105, 106, 107, 108, 109, 110, 111, 112, 113, 114, 115, 116, 117, 118, 119, 120, 121] (by decide +kernel) (by decide +kernel)) (goodIn_sub (fun _ h => List.mem_cons_of_mem _ (List.mem_append_left _ (List.mem_append_left _ (List.mem_append_left _ (List.mem_append_left _ (List.mem_append_left _ (List.mem_append_right _ h))))))) (by decide +kernel))
set_option maxRecDepth 20000 in
theorem gX10_nextEclipseByTurns_X2_byTurning : GoodIn wsX10_nextEclipseByTurns (wsV RX10 247 RX2 yX2_byTurning wsX2_byTurning) := goodIn_app (goodIn_of _ (by decide +kernel)) ggX10_nextEclipseByTurns_X2_byTurning
set_option maxRecDepth 20000 in
theorem ggX10_nextEclipseByTurns_X10_found : GoodIn wsX10_nextEclipseByTurns wsX10_found := goodIn_ca (goodIn_r _ [86, 69, 70] (by decide +kernel) (by decide +kernel)) (goodIn_sub (fun _ h => List.mem_cons_of_mem _ (List.mem_append_right _ h)) (by decide +kernel))
set_option maxRecDepth 20000 in
theorem gX10_nextEclipseByTurns_X10_found : GoodIn wsX10_nextEclipseByTurns (va_wsS RX10 244 yX10_found wsX10_found) := goodIn_app (goodIn_of _ (by decide +kernel)) ggX10_nextEclipseByTurns_X10_found
theorem dX10_nextEclipseByTurns_0 : decode cX10_nextEclipseByTurns 0 = .ok (.aload_n 0, 1) := by decide +kernel
theorem dX10_nextEclipseByTurns_1 : decode cX10_nextEclipseByTurns 1 = .ok (.getfield 52, 3) := by decide +kernel
theorem dX10_nextEclipseByTurns_4 : decode cX10_nextEclipseByTurns 4 = .ok (.iload_n 1, 1) := by decide +kernel
theorem dX10_nextEclipseByTurns_5 : decode cX10_nextEclipseByTurns 5 = .ok (.iload_n 2, 1) := by decide +kernel
theorem dX10_nextEclipseByTurns_6 : decode cX10_nextEclipseByTurns 6 = .ok (.iload_n 3, 1) := by decide +kernel
theorem dX10_nextEclipseByTurns_7 : decode cX10_nextEclipseByTurns 7 = .ok (.invokevirtual 234, 3) := by decide +kernel
theorem dX10_nextEclipseByTurns_10 : decode cX10_nextEclipseByTurns 10 = .ok (.invokestatic 238, 3) := by decide +kernel
theorem dX10_nextEclipseByTurns_13 : decode cX10_nextEclipseByTurns 13 = .ok (.aload_n 0, 1) := by decide +kernel
theorem dX10_nextEclipseByTurns_14 : decode cX10_nextEclipseByTurns 14 = .ok (.getfield 52, 3) := by decide +kernel
theorem dX10_nextEclipseByTurns_17 : decode cX10_nextEclipseByTurns 17 = .ok (.iload_n 1, 1) := by decide +kernel
theorem dX10_nextEclipseByTurns_18 : decode cX10_nextEclipseByTurns 18 = .ok (.iload_n 2, 1) := by decide +kernel
theorem dX10_nextEclipseByTurns_19 : decode cX10_nextEclipseByTurns 19 = .ok (.iload_n 3, 1) := by decide +kernel
theorem dX10_nextEclipseByTurns_20 : decode cX10_nextEclipseByTurns 20 = .ok (.invokevirtual 247, 3) := by decide +kernel
theorem dX10_nextEclipseByTurns_23 : decode cX10_nextEclipseByTurns 23 = .ok (.invokestatic 244, 3) := by decide +kernel
theorem dX10_nextEclipseByTurns_26 : decode cX10_nextEclipseByTurns 26 = .ok (.ireturn, 1) := by decide +kernel
set_option maxRecDepth 20000 in
theorem ggX10_fewestPairs_X10_checkRatio : GoodIn wsX10_fewestPairs wsX10_checkRatio := goodIn_ca (goodIn_r _ [5, 6, 7] (by decide +kernel) (by decide +kernel)) (goodIn_sub (fun _ h => List.mem_cons_of_mem _ (List.mem_append_left _ (List.mem_append_left _ (List.mem_append_right _ h)))) (by decide +kernel))
set_option maxRecDepth 20000 in
theorem gX10_fewestPairs_X10_checkRatio : GoodIn wsX10_fewestPairs (va_wsS RX10 253 yX10_checkRatio wsX10_checkRatio) := goodIn_app (goodIn_of _ (by decide +kernel)) ggX10_fewestPairs_X10_checkRatio
set_option maxRecDepth 20000 in
theorem ggX10_fewestPairs_X5_byTrying : GoodIn wsX10_fewestPairs wsX5_byTrying := goodIn_ca (goodIn_r _ [12, 13, 14, 15, 16, 17, 18, 11, 19, 38, 39, 40, 41, 42, 43, 44, 45, 46, 47, 48, 49, 50, 51, 52, 53, 54, 55, 56, 57, 58, 59, 60] (by decide +kernel) (by decide +kernel)) (goodIn_sub (fun _ h => List.mem_cons_of_mem _ (List.mem_append_left _ (List.mem_append_right _ h))) (by decide +kernel))
set_option maxRecDepth 20000 in
theorem gX10_fewestPairs_X5_byTrying : GoodIn wsX10_fewestPairs (wsV RX10 256 RX5 yX5_byTrying wsX5_byTrying) := goodIn_app (goodIn_of _ (by decide +kernel)) ggX10_fewestPairs_X5_byTrying
set_option maxRecDepth 20000 in
theorem ggX10_fewestPairs_X10_found : GoodIn wsX10_fewestPairs wsX10_found := goodIn_ca (goodIn_r _ [22, 23, 24] (by decide +kernel) (by decide +kernel)) (goodIn_sub (fun _ h => List.mem_cons_of_mem _ (List.mem_append_right _ h)) (by decide +kernel))
set_option maxRecDepth 20000 in
theorem gX10_fewestPairs_X10_found : GoodIn wsX10_fewestPairs (va_wsS RX10 244 yX10_found wsX10_found) := goodIn_app (goodIn_of _ (by decide +kernel)) ggX10_fewestPairs_X10_found
theorem dX10_fewestPairs_0 : decode cX10_fewestPairs 0 = .ok (.iload_n 1, 1) := by decide +kernel
theorem dX10_fewestPairs_1 : decode cX10_fewestPairs 1 = .ok (.iload_n 2, 1) := by decide +kernel
theorem dX10_fewestPairs_2 : decode cX10_fewestPairs 2 = .ok (.invokestatic 253, 3) := by decide +kernel
theorem dX10_fewestPairs_5 : decode cX10_fewestPairs 5 = .ok (.aload_n 0, 1) := by decide +kernel
theorem dX10_fewestPairs_6 : decode cX10_fewestPairs 6 = .ok (.getfield 61, 3) := by decide +kernel
theorem dX10_fewestPairs_9 : decode cX10_fewestPairs 9 = .ok (.iload_n 1, 1) := by decide +kernel
theorem dX10_fewestPairs_10 : decode cX10_fewestPairs 10 = .ok (.iload_n 2, 1) := by decide +kernel
theorem dX10_fewestPairs_11 : decode cX10_fewestPairs 11 = .ok (.invokevirtual 256, 3) := by decide +kernel
theorem dX10_fewestPairs_14 : decode cX10_fewestPairs 14 = .ok (.invokestatic 244, 3) := by decide +kernel
theorem dX10_fewestPairs_17 : decode cX10_fewestPairs 17 = .ok (.ireturn, 1) := by decide +kernel
set_option maxRecDepth 20000 in
theorem ggX10_fewestPairsByTable_X10_checkRatio : GoodIn wsX10_fewestPairsByTable wsX10_checkRatio := goodIn_ca (goodIn_r _ [5, 6, 7] (by decide +kernel) (by decide +kernel)) (goodIn_sub (fun _ h => List.mem_cons_of_mem _ (List.mem_append_left _ (List.mem_append_left _ (List.mem_append_right _ h)))) (by decide +kernel))
set_option maxRecDepth 20000 in
theorem gX10_fewestPairsByTable_X10_checkRatio : GoodIn wsX10_fewestPairsByTable (va_wsS RX10 253 yX10_checkRatio wsX10_checkRatio) := goodIn_app (goodIn_of _ (by decide +kernel)) ggX10_fewestPairsByTable_X10_checkRatio
set_option maxRecDepth 20000 in
theorem ggX10_fewestPairsByTable_X5_byTable : GoodIn wsX10_fewestPairsByTable wsX5_byTable := goodIn_ca (goodIn_r _ [12, 13, 14, 15, 16, 17, 18, 19, 20, 11, 21, 22, 23, 24, 25, 26, 27, 28, 29, 30, 31, 32, 33, 34, 35, 36, 37, 38, 39, 40, 41, 42, 43, 44, 45, 46, 47, 48, 49, 50, 51, 52, 53, 72, 73, 74, 75, 76, 77, 78, 79, 80, 81, 82, 83, 84, 85, 86, 87, 88, 89, 90, 91, 92, 93, 94] (by decide +kernel) (by decide +kernel)) (goodIn_sub (fun _ h => List.mem_cons_of_mem _ (List.mem_append_left _ (List.mem_append_right _ h))) (by decide +kernel))
set_option maxRecDepth 20000 in
theorem gX10_fewestPairsByTable_X5_byTable : GoodIn wsX10_fewestPairsByTable (wsV RX10 259 RX5 yX5_byTable wsX5_byTable) := goodIn_app (goodIn_of _ (by decide +kernel)) ggX10_fewestPairsByTable_X5_byTable
set_option maxRecDepth 20000 in
theorem ggX10_fewestPairsByTable_X10_found : GoodIn wsX10_fewestPairsByTable wsX10_found := goodIn_ca (goodIn_r _ [56, 57, 58] (by decide +kernel) (by decide +kernel)) (goodIn_sub (fun _ h => List.mem_cons_of_mem _ (List.mem_append_right _ h)) (by decide +kernel))
set_option maxRecDepth 20000 in
theorem gX10_fewestPairsByTable_X10_found : GoodIn wsX10_fewestPairsByTable (va_wsS RX10 244 yX10_found wsX10_found) := goodIn_app (goodIn_of _ (by decide +kernel)) ggX10_fewestPairsByTable_X10_found
theorem dX10_fewestPairsByTable_0 : decode cX10_fewestPairsByTable 0 = .ok (.iload_n 1, 1) := by decide +kernel
theorem dX10_fewestPairsByTable_1 : decode cX10_fewestPairsByTable 1 = .ok (.iload_n 2, 1) := by decide +kernel
theorem dX10_fewestPairsByTable_2 : decode cX10_fewestPairsByTable 2 = .ok (.invokestatic 253, 3) := by decide +kernel
theorem dX10_fewestPairsByTable_5 : decode cX10_fewestPairsByTable 5 = .ok (.aload_n 0, 1) := by decide +kernel
theorem dX10_fewestPairsByTable_6 : decode cX10_fewestPairsByTable 6 = .ok (.getfield 61, 3) := by decide +kernel
theorem dX10_fewestPairsByTable_9 : decode cX10_fewestPairsByTable 9 = .ok (.iload_n 1, 1) := by decide +kernel
theorem dX10_fewestPairsByTable_10 : decode cX10_fewestPairsByTable 10 = .ok (.iload_n 2, 1) := by decide +kernel
theorem dX10_fewestPairsByTable_11 : decode cX10_fewestPairsByTable 11 = .ok (.invokevirtual 259, 3) := by decide +kernel
theorem dX10_fewestPairsByTable_14 : decode cX10_fewestPairsByTable 14 = .ok (.invokestatic 244, 3) := by decide +kernel
theorem dX10_fewestPairsByTable_17 : decode cX10_fewestPairsByTable 17 = .ok (.ireturn, 1) := by decide +kernel
theorem dX10_woundTotal_0 : decode cX10_woundTotal 0 = .ok (.aload_n 0, 1) := by decide +kernel
theorem dX10_woundTotal_1 : decode cX10_woundTotal 1 = .ok (.getfield 12, 3) := by decide +kernel
theorem dX10_woundTotal_4 : decode cX10_woundTotal 4 = .ok (.getfield 262, 3) := by decide +kernel
theorem dX10_woundTotal_7 : decode cX10_woundTotal 7 = .ok (.ireturn, 1) := by decide +kernel
set_option maxRecDepth 20000 in
theorem ggX10_tensionTotal_X7_sumOfTensions : GoodIn wsX10_tensionTotal wsX7_sumOfTensions := goodIn_ca (goodIn_r _ [6, 7, 8, 22, 23, 24, 25, 26, 27, 28, 29, 30, 31, 32, 33, 34, 35, 36, 37, 38] (by decide +kernel) (by decide +kernel)) (goodIn_sub (fun _ h => List.mem_cons_of_mem _ (List.mem_append_right _ h)) (by decide +kernel))
set_option maxRecDepth 20000 in
theorem gX10_tensionTotal_X7_sumOfTensions : GoodIn wsX10_tensionTotal (wsV RX10 265 RX7 yX7_sumOfTensions wsX7_sumOfTensions) := goodIn_app (goodIn_of _ (by decide +kernel)) ggX10_tensionTotal_X7_sumOfTensions
theorem dX10_tensionTotal_0 : decode cX10_tensionTotal 0 = .ok (.aload_n 0, 1) := by decide +kernel
theorem dX10_tensionTotal_1 : decode cX10_tensionTotal 1 = .ok (.getfield 12, 3) := by decide +kernel
theorem dX10_tensionTotal_4 : decode cX10_tensionTotal 4 = .ok (.invokevirtual 265, 3) := by decide +kernel
theorem dX10_tensionTotal_7 : decode cX10_tensionTotal 7 = .ok (.ireturn, 1) := by decide +kernel
theorem dX10_tensionByAccounts_0 : decode cX10_tensionByAccounts 0 = .ok (.aload_n 0, 1) := by decide +kernel
theorem dX10_tensionByAccounts_1 : decode cX10_tensionByAccounts 1 = .ok (.getfield 12, 3) := by decide +kernel
theorem dX10_tensionByAccounts_4 : decode cX10_tensionByAccounts 4 = .ok (.getfield 262, 3) := by decide +kernel
theorem dX10_tensionByAccounts_7 : decode cX10_tensionByAccounts 7 = .ok (.aload_n 0, 1) := by decide +kernel
theorem dX10_tensionByAccounts_8 : decode cX10_tensionByAccounts 8 = .ok (.getfield 12, 3) := by decide +kernel
theorem dX10_tensionByAccounts_11 : decode cX10_tensionByAccounts 11 = .ok (.getfield 269, 3) := by decide +kernel
theorem dX10_tensionByAccounts_14 : decode cX10_tensionByAccounts 14 = .ok (.isub, 1) := by decide +kernel
theorem dX10_tensionByAccounts_15 : decode cX10_tensionByAccounts 15 = .ok (.ireturn, 1) := by decide +kernel
theorem dX10_releaseTotal_0 : decode cX10_releaseTotal 0 = .ok (.aload_n 0, 1) := by decide +kernel
theorem dX10_releaseTotal_1 : decode cX10_releaseTotal 1 = .ok (.getfield 12, 3) := by decide +kernel
theorem dX10_releaseTotal_4 : decode cX10_releaseTotal 4 = .ok (.getfield 272, 3) := by decide +kernel
theorem dX10_releaseTotal_7 : decode cX10_releaseTotal 7 = .ok (.ireturn, 1) := by decide +kernel
set_option maxRecDepth 20000 in
theorem ggX10_meanTeeth_X7_sumOfTeeth : GoodIn wsX10_meanTeeth wsX7_sumOfTeeth := goodIn_ca (goodIn_r _ [9, 10, 11, 25, 26, 27, 28, 29, 30, 31, 32, 33, 34, 35, 36, 37, 38, 39, 40, 41] (by decide +kernel) (by decide +kernel)) (goodIn_sub (fun _ h => List.mem_cons_of_mem _ (List.mem_append_right _ h)) (by decide +kernel))
set_option maxRecDepth 20000 in
theorem gX10_meanTeeth_X7_sumOfTeeth : GoodIn wsX10_meanTeeth (wsV RX10 278 RX7 yX7_sumOfTeeth wsX7_sumOfTeeth) := goodIn_app (goodIn_of _ (by decide +kernel)) ggX10_meanTeeth_X7_sumOfTeeth
theorem dX10_meanTeeth_0 : decode cX10_meanTeeth 0 = .ok (.aload_n 0, 1) := by decide +kernel
theorem dX10_meanTeeth_1 : decode cX10_meanTeeth 1 = .ok (.getfield 12, 3) := by decide +kernel
theorem dX10_meanTeeth_4 : decode cX10_meanTeeth 4 = .ok (.getfield 129, 3) := by decide +kernel
theorem dX10_meanTeeth_7 : decode cX10_meanTeeth 7 = .ok (.ifCond .ne 11, 3) := by decide +kernel
theorem dX10_meanTeeth_10 : decode cX10_meanTeeth 10 = .ok (.new 275, 3) := by decide +kernel
theorem dX10_meanTeeth_13 : decode cX10_meanTeeth 13 = .ok (.dup, 1) := by decide +kernel
theorem dX10_meanTeeth_14 : decode cX10_meanTeeth 14 = .ok (.invokespecial 277, 3) := by decide +kernel
theorem dX10_meanTeeth_17 : decode cX10_meanTeeth 17 = .ok (.athrow, 1) := by decide +kernel
theorem dX10_meanTeeth_18 : decode cX10_meanTeeth 18 = .ok (.aload_n 0, 1) := by decide +kernel
theorem dX10_meanTeeth_19 : decode cX10_meanTeeth 19 = .ok (.getfield 12, 3) := by decide +kernel
theorem dX10_meanTeeth_22 : decode cX10_meanTeeth 22 = .ok (.invokevirtual 278, 3) := by decide +kernel
theorem dX10_meanTeeth_25 : decode cX10_meanTeeth 25 = .ok (.i2d, 1) := by decide +kernel
theorem dX10_meanTeeth_26 : decode cX10_meanTeeth 26 = .ok (.aload_n 0, 1) := by decide +kernel
theorem dX10_meanTeeth_27 : decode cX10_meanTeeth 27 = .ok (.getfield 12, 3) := by decide +kernel
theorem dX10_meanTeeth_30 : decode cX10_meanTeeth 30 = .ok (.getfield 129, 3) := by decide +kernel
theorem dX10_meanTeeth_33 : decode cX10_meanTeeth 33 = .ok (.i2d, 1) := by decide +kernel
theorem dX10_meanTeeth_34 : decode cX10_meanTeeth 34 = .ok (.ddiv, 1) := by decide +kernel
theorem dX10_meanTeeth_35 : decode cX10_meanTeeth 35 = .ok (.dreturn, 1) := by decide +kernel
set_option maxRecDepth 20000 in
theorem ggX10_dryShare_X7_dryGears : GoodIn wsX10_dryShare wsX7_dryGears := goodIn_ca (goodIn_r _ [9, 10, 11, 25, 26, 27, 28, 29, 30, 31, 32, 33, 34, 35, 36, 37, 38, 39, 40, 41] (by decide +kernel) (by decide +kernel)) (goodIn_sub (fun _ h => List.mem_cons_of_mem _ (List.mem_append_right _ h)) (by decide +kernel))
set_option maxRecDepth 20000 in
theorem gX10_dryShare_X7_dryGears : GoodIn wsX10_dryShare (wsV RX10 281 RX7 yX7_dryGears wsX7_dryGears) := goodIn_app (goodIn_of _ (by decide +kernel)) ggX10_dryShare_X7_dryGears
theorem dX10_dryShare_0 : decode cX10_dryShare 0 = .ok (.aload_n 0, 1) := by decide +kernel
theorem dX10_dryShare_1 : decode cX10_dryShare 1 = .ok (.getfield 12, 3) := by decide +kernel
theorem dX10_dryShare_4 : decode cX10_dryShare 4 = .ok (.getfield 129, 3) := by decide +kernel
theorem dX10_dryShare_7 : decode cX10_dryShare 7 = .ok (.ifCond .ne 11, 3) := by decide +kernel
theorem dX10_dryShare_10 : decode cX10_dryShare 10 = .ok (.new 275, 3) := by decide +kernel
theorem dX10_dryShare_13 : decode cX10_dryShare 13 = .ok (.dup, 1) := by decide +kernel
theorem dX10_dryShare_14 : decode cX10_dryShare 14 = .ok (.invokespecial 277, 3) := by decide +kernel
theorem dX10_dryShare_17 : decode cX10_dryShare 17 = .ok (.athrow, 1) := by decide +kernel
theorem dX10_dryShare_18 : decode cX10_dryShare 18 = .ok (.aload_n 0, 1) := by decide +kernel
theorem dX10_dryShare_19 : decode cX10_dryShare 19 = .ok (.getfield 12, 3) := by decide +kernel
theorem dX10_dryShare_22 : decode cX10_dryShare 22 = .ok (.invokevirtual 281, 3) := by decide +kernel
theorem dX10_dryShare_25 : decode cX10_dryShare 25 = .ok (.i2f, 1) := by decide +kernel
theorem dX10_dryShare_26 : decode cX10_dryShare 26 = .ok (.aload_n 0, 1) := by decide +kernel
theorem dX10_dryShare_27 : decode cX10_dryShare 27 = .ok (.getfield 12, 3) := by decide +kernel
theorem dX10_dryShare_30 : decode cX10_dryShare 30 = .ok (.getfield 129, 3) := by decide +kernel
theorem dX10_dryShare_33 : decode cX10_dryShare 33 = .ok (.i2f, 1) := by decide +kernel
theorem dX10_dryShare_34 : decode cX10_dryShare 34 = .ok (.fdiv, 1) := by decide +kernel
theorem dX10_dryShare_35 : decode cX10_dryShare 35 = .ok (.freturn, 1) := by decide +kernel
set_option maxRecDepth 20000 in
theorem ggX10_isConsistent_X10_unitsAgree : GoodIn wsX10_isConsistent wsX10_unitsAgree := goodIn_ca (goodIn_r _ [10, 3, 11, 12, 13, 14, 9, 15, 16, 17, 18, 19, 20, 21, 22, 23, 24, 25, 26, 27, 28, 29, 30, 31, 32, 33, 34, 35, 36, 37, 38, 39, 40, 41, 42, 43, 44, 45, 46, 47, 48, 49, 50, 51, 52, 53, 54, 55, 56, 57, 58, 59, 60, 61, 62, 63, 64, 65, 66, 67, 68, 69, 70, 71, 72, 73, 168, 169, 170, 171, 172, 173, 174, 175, 176, 177, 178, 179, 180, 181, 182, 183, 184, 185, 186, 187, 188, 189, 190, 191, 192, 193, 194, 195, 196, 197, 198, 199, 200] (by decide +kernel) (by decide +kernel)) (goodIn_sub (fun _ h => List.mem_cons_of_mem _ (List.mem_append_right _ h)) (by decide +kernel))
set_option maxRecDepth 20000 in
theorem gX10_isConsistent_X10_unitsAgree : GoodIn wsX10_isConsistent (wsV RX10 284 RX10 yX10_unitsAgree wsX10_unitsAgree) := goodIn_app (goodIn_of _ (by decide +kernel)) ggX10_isConsistent_X10_unitsAgree
set_option maxRecDepth 20000 in
theorem ggX10_isConsistent_X2_bothWaysAgree : GoodIn wsX10_isConsistent wsX2_bothWaysAgree := goodIn_ca (goodIn_r _ [78, 79, 80, 81, 82, 83, 84, 77, 85, 86, 87, 88, 89, 35, 90, 91, 92, 93, 94, 95, 96, 97, 19, 20, 21, 22, 23, 24, 25, 26, 27, 28, 29, 30, 31, 32, 33, 34, 36, 37, 38, 39, 40, 41, 42, 43, 44, 45, 46, 47, 48, 49, 50, 98, 99, 100, 101, 102, 103, 104, 105, 106, 107, 108, 109, 110, 68, 69, 70, 71, 72, 111, 61, 62, 63, 64, 65, 66, 67, 112, 113, 114, 115, 116, 117, 118, 119, 120, 121, 122, 123, 201, 202, 181, 182, 183, 184, 185, 186, 187, 188, 189, 190, 191, 192, 193, 194, 195, 196, 197, 198, 199, 200] (by decide +kernel) (by decide +kernel)) (goodIn_sub (fun _ h => List.mem_cons_of_mem _ (List.mem_append_right _ h)) (by decide +kernel))
set_option maxRecDepth 20000 in
theorem gX10_isConsistent_X2_bothWaysAgree : GoodIn wsX10_isConsistent (wsV RX10 288 RX2 yX2_bothWaysAgree wsX2_bothWaysAgree) := goodIn_app (goodIn_of _ (by decide +kernel)) ggX10_isConsistent_X2_bothWaysAgree
set_option maxRecDepth 20000 in
theorem ggX10_isConsistent_X5_bothWaysAgree : GoodIn wsX10_isConsistent wsX5_bothWaysAgree := goodIn_ca (goodIn_r _ [128, 129, 130, 131, 127, 132, 133, 134, 135, 136, 137, 138, 139, 140, 141, 142, 143, 144, 145, 146, 147, 148, 149, 150, 151, 152, 153, 154, 155, 156, 157, 61, 45, 62, 63, 64, 65, 66, 67, 68, 69, 70, 71, 49, 72, 158, 44, 46, 47, 48, 50, 159, 160, 161, 162, 203, 204, 205, 206, 207, 208, 181, 182, 183, 184, 185, 186, 187, 188, 189, 190, 191, 192, 193, 194, 195, 196, 197] (by decide +kernel) (by decide +kernel)) (goodIn_sub (fun _ h => List.mem_cons_of_mem _ (List.mem_append_right _ h)) (by decide +kernel))
set_option maxRecDepth 20000 in
theorem gX10_isConsistent_X5_bothWaysAgree : GoodIn wsX10_isConsistent (wsV RX10 291 RX5 yX5_bothWaysAgree wsX5_bothWaysAgree) := goodIn_app (goodIn_of _ (by decide +kernel)) ggX10_isConsistent_X5_bothWaysAgree
set_option maxRecDepth 20000 in
theorem ggX10_isConsistent_X7_sumOfTensions : GoodIn wsX10_isConsistent wsX7_sumOfTensions := goodIn_ca (goodIn_r _ [166, 96, 167, 181, 182, 183, 184, 185, 186, 187, 188, 189, 190, 191, 192, 193, 194, 195, 196, 197] (by decide +kernel) (by decide +kernel)) (goodIn_sub (fun _ h => List.mem_cons_of_mem _ (List.mem_append_right _ h)) (by decide +kernel))
set_option maxRecDepth 20000 in
theorem gX10_isConsistent_X7_sumOfTensions : GoodIn wsX10_isConsistent (wsV RX10 265 RX7 yX7_sumOfTensions wsX7_sumOfTensions) := goodIn_app (goodIn_of _ (by decide +kernel)) ggX10_isConsistent_X7_sumOfTensions
theorem dX10_isConsistent_0 : decode cX10_isConsistent 0 = .ok (.aload_n 0, 1) := by decide +kernel
theorem dX10_isConsistent_1 : decode cX10_isConsistent 1 = .ok (.invokevirtual 284, 3) := by decide +kernel
theorem dX10_isConsistent_4 : decode cX10_isConsistent 4 = .ok (.ifCond .eq 52, 3) := by decide +kernel
theorem dX10_isConsistent_7 : decode cX10_isConsistent 7 = .ok (.aload_n 0, 1) := by decide +kernel
theorem dX10_isConsistent_8 : decode cX10_isConsistent 8 = .ok (.getfield 52, 3) := by decide +kernel
theorem dX10_isConsistent_11 : decode cX10_isConsistent 11 = .ok (.invokevirtual 288, 3) := by decide +kernel
theorem dX10_isConsistent_14 : decode cX10_isConsistent 14 = .ok (.ifCond .eq 42, 3) := by decide +kernel
theorem dX10_isConsistent_17 : decode cX10_isConsistent 17 = .ok (.aload_n 0, 1) := by decide +kernel
theorem dX10_isConsistent_18 : decode cX10_isConsistent 18 = .ok (.getfield 61, 3) := by decide +kernel
theorem dX10_isConsistent_21 : decode cX10_isConsistent 21 = .ok (.invokevirtual 291, 3) := by decide +kernel
theorem dX10_isConsistent_24 : decode cX10_isConsistent 24 = .ok (.ifCond .eq 32, 3) := by decide +kernel
theorem dX10_isConsistent_27 : decode cX10_isConsistent 27 = .ok (.aload_n 0, 1) := by decide +kernel
theorem dX10_isConsistent_28 : decode cX10_isConsistent 28 = .ok (.getfield 12, 3) := by decide +kernel
theorem dX10_isConsistent_31 : decode cX10_isConsistent 31 = .ok (.invokevirtual 265, 3) := by decide +kernel
theorem dX10_isConsistent_34 : decode cX10_isConsistent 34 = .ok (.aload_n 0, 1) := by decide +kernel
theorem dX10_isConsistent_35 : decode cX10_isConsistent 35 = .ok (.getfield 12, 3) := by decide +kernel
theorem dX10_isConsistent_38 : decode cX10_isConsistent 38 = .ok (.getfield 262, 3) := by decide +kernel
theorem dX10_isConsistent_41 : decode cX10_isConsistent 41 = .ok (.aload_n 0, 1) := by decide +kernel
theorem dX10_isConsistent_42 : decode cX10_isConsistent 42 = .ok (.getfield 12, 3) := by decide +kernel
theorem dX10_isConsistent_45 : decode cX10_isConsistent 45 = .ok (.getfield 269, 3) := by decide +kernel
theorem dX10_isConsistent_48 : decode cX10_isConsistent 48 = .ok (.isub, 1) := by decide +kernel
theorem dX10_isConsistent_49 : decode cX10_isConsistent 49 = .ok (.if_icmp .ne 7, 3) := by decide +kernel
theorem dX10_isConsistent_52 : decode cX10_isConsistent 52 = .ok (.iconst 1, 1) := by decide +kernel
theorem dX10_isConsistent_53 : decode cX10_isConsistent 53 = .ok (.goto 4, 3) := by decide +kernel
theorem dX10_isConsistent_56 : decode cX10_isConsistent 56 = .ok (.iconst 0, 1) := by decide +kernel
theorem dX10_isConsistent_57 : decode cX10_isConsistent 57 = .ok (.ireturn, 1) := by decide +kernel
set_option maxRecDepth 20000 in
theorem ggX10_renderGear_X10_checkGear : GoodIn wsX10_renderGear wsX10_checkGear := goodIn_ca (goodIn_r _ [13, 14, 15, 2, 16, 17, 18, 19, 20, 21, 216, 217, 218, 219, 220, 221, 222, 223, 224, 225, 226, 227, 228, 229, 230, 231, 232, 233, 234, 235, 236, 237, 238, 239, 240, 241, 242, 243, 244, 245] (by decide +kernel) (by decide +kernel)) (goodIn_sub (fun _ h => List.mem_cons_of_mem _ (List.mem_append_right _ h)) (by decide +kernel))
set_option maxRecDepth 20000 in
theorem gX10_renderGear_X10_checkGear : GoodIn wsX10_renderGear (wsV RX10 132 RX10 yX10_checkGear wsX10_checkGear) := goodIn_app (goodIn_of _ (by decide +kernel)) ggX10_renderGear_X10_checkGear
set_option maxRecDepth 20000 in
theorem ggX10_renderGear_J4_setLength_d00df : GoodIn wsX10_renderGear wsJ4_setLength_d00df := goodIn_r _ [26, 27, 28, 29, 30, 31, 32, 33, 34, 35, 36, 37, 38, 39, 40, 41, 42, 43, 44, 45, 46, 47, 48, 49, 50, 51, 52, 53, 54, 55, 56, 57, 58, 59, 60, 61, 62, 63, 64, 65, 66, 67, 68, 69, 70, 71, 72, 73, 74, 75, 76, 77, 78, 79, 80, 81, 82, 83, 84, 85, 86, 87, 88, 89, 90, 91, 92, 93, 94, 95, 96, 97, 98, 25, 99, 100, 101, 102, 103, 104, 105, 106, 246, 247, 248, 249, 250, 251, 252, 253, 254, 255, 256, 257, 258, 259, 260, 261] (by decide +kernel) (by decide +kernel)
set_option maxRecDepth 20000 in
theorem gX10_renderGear_J4_setLength_d00df : GoodIn wsX10_renderGear (wsV RX10 292 RJ4 yJ4_setLength_d00df wsJ4_setLength_d00df) := goodIn_app (goodIn_of _ (by decide +kernel)) ggX10_renderGear_J4_setLength_d00df
set_option maxRecDepth 20000 in
theorem ggX10_renderGear_J4_append_bf812 : GoodIn wsX10_renderGear wsJ4_append_bf812 := goodIn_r _ [110, 111, 112, 29, 113, 31, 114, 36, 37, 115, 116, 117, 118, 39, 40, 41, 42, 43, 44, 45, 46, 47, 48, 49, 50, 51, 52, 53, 54, 55, 56, 57, 58, 59, 60, 61, 62, 63, 64, 65, 66, 67, 68, 69, 70, 71, 72, 73, 74, 75, 76, 77, 78, 79, 80, 81, 82, 83, 84, 85, 86, 119, 120, 121, 122, 123, 124, 125, 104, 126, 127, 128, 129, 130, 131, 132, 133, 134, 135, 136, 137, 138, 139, 140, 141, 142, 143, 144, 145, 146, 147, 148, 149, 150, 151, 152, 252, 253, 254, 255] (by decide +kernel) (by decide +kernel)
set_option maxRecDepth 20000 in
theorem gX10_renderGear_J4_append_bf812 : GoodIn wsX10_renderGear (wsV RX10 295 RJ4 yJ4_append_bf812 wsJ4_append_bf812) := goodIn_app (goodIn_of _ (by decide +kernel)) ggX10_renderGear_J4_append_bf812
set_option maxRecDepth 20000 in
theorem ggX10_renderGear_J4_append_cf468 : GoodIn wsX10_renderGear wsJ4_append_cf468 := goodIn_r _ [156, 157, 158, 29, 159, 31, 160, 36, 37, 39, 40, 41, 42, 43, 44, 45, 46, 47, 48, 49, 50, 51, 52, 53, 54, 55, 56, 57, 58, 59, 60, 61, 62, 63, 64, 65, 66, 67, 68, 69, 70, 71, 72, 73, 74, 75, 76, 77, 78, 79, 80, 81, 82, 83, 84, 85, 86, 161, 162, 89, 163, 164, 165, 166, 167, 168, 169, 170, 104, 171, 172, 173, 174, 175, 176, 177, 178, 179, 180, 181, 182, 183, 184, 131, 132, 133, 185, 186, 136, 187, 138, 188, 189, 141, 190, 148, 149, 150, 127, 151, 152, 191, 192, 193, 194, 195, 196, 197, 198, 199, 200, 201, 202, 252, 253, 254, 255] (by decide +kernel) (by decide +kernel)
set_option maxRecDepth 20000 in
theorem gX10_renderGear_J4_append_cf468 : GoodIn wsX10_renderGear (wsV RX10 299 RJ4 yJ4_append_cf468 wsJ4_append_cf468) := goodIn_app (goodIn_of _ (by decide +kernel)) ggX10_renderGear_J4_append_cf468
set_option maxRecDepth 20000 in
theorem ggX10_renderGear_X7_hasSpring : GoodIn wsX10_renderGear wsX7_hasSpring := goodIn_ca (goodIn_r _ [206, 207, 229, 230, 231, 232, 233, 234, 235, 236, 237, 238, 239, 240, 241, 242, 243, 244, 245] (by decide +kernel) (by decide +kernel)) (goodIn_sub (fun _ h => List.mem_cons_of_mem _ (List.mem_append_left _ (List.mem_append_right _ h))) (by decide +kernel))
set_option maxRecDepth 20000 in
theorem gX10_renderGear_X7_hasSpring : GoodIn wsX10_renderGear (wsV RX10 200 RX7 yX7_hasSpring wsX7_hasSpring) := goodIn_app (goodIn_of _ (by decide +kernel)) ggX10_renderGear_X7_hasSpring
set_option maxRecDepth 20000 in
theorem ggX10_renderGear_J4_length_8abf5 : GoodIn wsX10_renderGear wsJ4_length_8abf5 := goodIn_r _ [211, 212, 213, 29, 214, 31, 215, 36, 252, 253, 254, 255] (by decide +kernel) (by decide +kernel)
set_option maxRecDepth 20000 in
theorem gX10_renderGear_J4_length_8abf5 : GoodIn wsX10_renderGear (wsV RX10 305 RJ4 yJ4_length_8abf5 wsJ4_length_8abf5) := goodIn_app (goodIn_of _ (by decide +kernel)) ggX10_renderGear_J4_length_8abf5
theorem dX10_renderGear_0 : decode cX10_renderGear 0 = .ok (.aload_n 0, 1) := by decide +kernel
theorem dX10_renderGear_1 : decode cX10_renderGear 1 = .ok (.iload_n 1, 1) := by decide +kernel
theorem dX10_renderGear_2 : decode cX10_renderGear 2 = .ok (.invokevirtual 132, 3) := by decide +kernel
theorem dX10_renderGear_5 : decode cX10_renderGear 5 = .ok (.aload_n 0, 1) := by decide +kernel
theorem dX10_renderGear_6 : decode cX10_renderGear 6 = .ok (.getfield 75, 3) := by decide +kernel
theorem dX10_renderGear_9 : decode cX10_renderGear 9 = .ok (.iconst 0, 1) := by decide +kernel
theorem dX10_renderGear_10 : decode cX10_renderGear 10 = .ok (.invokevirtual 292, 3) := by decide +kernel
theorem dX10_renderGear_13 : decode cX10_renderGear 13 = .ok (.aload_n 0, 1) := by decide +kernel
theorem dX10_renderGear_14 : decode cX10_renderGear 14 = .ok (.getfield 75, 3) := by decide +kernel
theorem dX10_renderGear_17 : decode cX10_renderGear 17 = .ok (.iload_n 1, 1) := by decide +kernel
theorem dX10_renderGear_18 : decode cX10_renderGear 18 = .ok (.invokevirtual 295, 3) := by decide +kernel
theorem dX10_renderGear_21 : decode cX10_renderGear 21 = .ok (.bipush 58, 2) := by decide +kernel
theorem dX10_renderGear_23 : decode cX10_renderGear 23 = .ok (.invokevirtual 299, 3) := by decide +kernel
theorem dX10_renderGear_26 : decode cX10_renderGear 26 = .ok (.aload_n 0, 1) := by decide +kernel
theorem dX10_renderGear_27 : decode cX10_renderGear 27 = .ok (.getfield 12, 3) := by decide +kernel
theorem dX10_renderGear_30 : decode cX10_renderGear 30 = .ok (.getfield 136, 3) := by decide +kernel
theorem dX10_renderGear_33 : decode cX10_renderGear 33 = .ok (.iload_n 1, 1) := by decide +kernel
theorem dX10_renderGear_34 : decode cX10_renderGear 34 = .ok (.iaload, 1) := by decide +kernel
theorem dX10_renderGear_35 : decode cX10_renderGear 35 = .ok (.invokevirtual 295, 3) := by decide +kernel
theorem dX10_renderGear_38 : decode cX10_renderGear 38 = .ok (.pop, 1) := by decide +kernel
theorem dX10_renderGear_39 : decode cX10_renderGear 39 = .ok (.aload_n 0, 1) := by decide +kernel
theorem dX10_renderGear_40 : decode cX10_renderGear 40 = .ok (.getfield 12, 3) := by decide +kernel
theorem dX10_renderGear_43 : decode cX10_renderGear 43 = .ok (.getfield 211, 3) := by decide +kernel
theorem dX10_renderGear_46 : decode cX10_renderGear 46 = .ok (.iload_n 1, 1) := by decide +kernel
theorem dX10_renderGear_47 : decode cX10_renderGear 47 = .ok (.baload, 1) := by decide +kernel
theorem dX10_renderGear_48 : decode cX10_renderGear 48 = .ok (.ifCond .ne 13, 3) := by decide +kernel
theorem dX10_renderGear_51 : decode cX10_renderGear 51 = .ok (.aload_n 0, 1) := by decide +kernel
theorem dX10_renderGear_52 : decode cX10_renderGear 52 = .ok (.getfield 75, 3) := by decide +kernel
theorem dX10_renderGear_55 : decode cX10_renderGear 55 = .ok (.bipush 100, 2) := by decide +kernel
theorem dX10_renderGear_57 : decode cX10_renderGear 57 = .ok (.invokevirtual 299, 3) := by decide +kernel
theorem dX10_renderGear_60 : decode cX10_renderGear 60 = .ok (.pop, 1) := by decide +kernel
theorem dX10_renderGear_61 : decode cX10_renderGear 61 = .ok (.aload_n 0, 1) := by decide +kernel
theorem dX10_renderGear_62 : decode cX10_renderGear 62 = .ok (.getfield 12, 3) := by decide +kernel
theorem dX10_renderGear_65 : decode cX10_renderGear 65 = .ok (.getfield 207, 3) := by decide +kernel
theorem dX10_renderGear_68 : decode cX10_renderGear 68 = .ok (.iload_n 1, 1) := by decide +kernel
theorem dX10_renderGear_69 : decode cX10_renderGear 69 = .ok (.baload, 1) := by decide +kernel
theorem dX10_renderGear_70 : decode cX10_renderGear 70 = .ok (.ifCond .eq 13, 3) := by decide +kernel
theorem dX10_renderGear_73 : decode cX10_renderGear 73 = .ok (.aload_n 0, 1) := by decide +kernel
theorem dX10_renderGear_74 : decode cX10_renderGear 74 = .ok (.getfield 75, 3) := by decide +kernel
theorem dX10_renderGear_77 : decode cX10_renderGear 77 = .ok (.bipush 114, 2) := by decide +kernel
theorem dX10_renderGear_79 : decode cX10_renderGear 79 = .ok (.invokevirtual 299, 3) := by decide +kernel
theorem dX10_renderGear_82 : decode cX10_renderGear 82 = .ok (.pop, 1) := by decide +kernel
theorem dX10_renderGear_83 : decode cX10_renderGear 83 = .ok (.aload_n 0, 1) := by decide +kernel
theorem dX10_renderGear_84 : decode cX10_renderGear 84 = .ok (.getfield 12, 3) := by decide +kernel
theorem dX10_renderGear_87 : decode cX10_renderGear 87 = .ok (.iload_n 1, 1) := by decide +kernel
theorem dX10_renderGear_88 : decode cX10_renderGear 88 = .ok (.invokevirtual 200, 3) := by decide +kernel
theorem dX10_renderGear_91 : decode cX10_renderGear 91 = .ok (.ifCond .eq 64, 3) := by decide +kernel
theorem dX10_renderGear_94 : decode cX10_renderGear 94 = .ok (.aload_n 0, 1) := by decide +kernel
theorem dX10_renderGear_95 : decode cX10_renderGear 95 = .ok (.getfield 75, 3) := by decide +kernel
theorem dX10_renderGear_98 : decode cX10_renderGear 98 = .ok (.bipush 115, 2) := by decide +kernel
theorem dX10_renderGear_100 : decode cX10_renderGear 100 = .ok (.invokevirtual 299, 3) := by decide +kernel
theorem dX10_renderGear_103 : decode cX10_renderGear 103 = .ok (.aload_n 0, 1) := by decide +kernel
theorem dX10_renderGear_104 : decode cX10_renderGear 104 = .ok (.getfield 12, 3) := by decide +kernel
theorem dX10_renderGear_107 : decode cX10_renderGear 107 = .ok (.getfield 181, 3) := by decide +kernel
theorem dX10_renderGear_110 : decode cX10_renderGear 110 = .ok (.iload_n 1, 1) := by decide +kernel
theorem dX10_renderGear_111 : decode cX10_renderGear 111 = .ok (.iaload, 1) := by decide +kernel
theorem dX10_renderGear_112 : decode cX10_renderGear 112 = .ok (.invokevirtual 295, 3) := by decide +kernel
theorem dX10_renderGear_115 : decode cX10_renderGear 115 = .ok (.bipush 47, 2) := by decide +kernel
theorem dX10_renderGear_117 : decode cX10_renderGear 117 = .ok (.invokevirtual 299, 3) := by decide +kernel
theorem dX10_renderGear_120 : decode cX10_renderGear 120 = .ok (.aload_n 0, 1) := by decide +kernel
theorem dX10_renderGear_121 : decode cX10_renderGear 121 = .ok (.getfield 12, 3) := by decide +kernel
theorem dX10_renderGear_124 : decode cX10_renderGear 124 = .ok (.getfield 184, 3) := by decide +kernel
theorem dX10_renderGear_127 : decode cX10_renderGear 127 = .ok (.iload_n 1, 1) := by decide +kernel
theorem dX10_renderGear_128 : decode cX10_renderGear 128 = .ok (.iaload, 1) := by decide +kernel
theorem dX10_renderGear_129 : decode cX10_renderGear 129 = .ok (.invokevirtual 295, 3) := by decide +kernel
theorem dX10_renderGear_132 : decode cX10_renderGear 132 = .ok (.pop, 1) := by decide +kernel
theorem dX10_renderGear_133 : decode cX10_renderGear 133 = .ok (.aload_n 0, 1) := by decide +kernel
theorem dX10_renderGear_134 : decode cX10_renderGear 134 = .ok (.getfield 12, 3) := by decide +kernel
theorem dX10_renderGear_137 : decode cX10_renderGear 137 = .ok (.getfield 302, 3) := by decide +kernel
theorem dX10_renderGear_140 : decode cX10_renderGear 140 = .ok (.iload_n 1, 1) := by decide +kernel
theorem dX10_renderGear_141 : decode cX10_renderGear 141 = .ok (.baload, 1) := by decide +kernel
theorem dX10_renderGear_142 : decode cX10_renderGear 142 = .ok (.ifCond .eq 13, 3) := by decide +kernel
theorem dX10_renderGear_145 : decode cX10_renderGear 145 = .ok (.aload_n 0, 1) := by decide +kernel
theorem dX10_renderGear_146 : decode cX10_renderGear 146 = .ok (.getfield 75, 3) := by decide +kernel
theorem dX10_renderGear_149 : decode cX10_renderGear 149 = .ok (.bipush 45, 2) := by decide +kernel
theorem dX10_renderGear_151 : decode cX10_renderGear 151 = .ok (.invokevirtual 299, 3) := by decide +kernel
theorem dX10_renderGear_154 : decode cX10_renderGear 154 = .ok (.pop, 1) := by decide +kernel
theorem dX10_renderGear_155 : decode cX10_renderGear 155 = .ok (.aload_n 0, 1) := by decide +kernel
theorem dX10_renderGear_156 : decode cX10_renderGear 156 = .ok (.getfield 75, 3) := by decide +kernel
theorem dX10_renderGear_159 : decode cX10_renderGear 159 = .ok (.invokevirtual 305, 3) := by decide +kernel
theorem dX10_renderGear_162 : decode cX10_renderGear 162 = .ok (.ireturn, 1) := by decide +kernel
set_option maxRecDepth 20000 in
theorem ggX10_renderTrain_X10_checkGear : GoodIn wsX10_renderTrain wsX10_checkGear := goodIn_ca (goodIn_r _ [9, 10, 11, 2, 12, 13, 14, 15, 16, 17, 249, 250, 251, 252, 253, 254, 255, 256, 257, 258, 259, 260, 261, 262, 263, 264, 265, 266, 267, 268, 269, 270, 271, 272, 273, 274, 275, 276, 277, 278] (by decide +kernel) (by decide +kernel)) (goodIn_sub (fun _ h => List.mem_cons_of_mem _ (List.mem_append_left _ (List.mem_append_right _ h))) (by decide +kernel))
set_option maxRecDepth 20000 in
theorem gX10_renderTrain_X10_checkGear : GoodIn wsX10_renderTrain (wsV RX10 132 RX10 yX10_checkGear wsX10_checkGear) := goodIn_app (goodIn_of _ (by decide +kernel)) ggX10_renderTrain_X10_checkGear
set_option maxRecDepth 20000 in
theorem ggX10_renderTrain_X8_trace : GoodIn wsX10_renderTrain wsX8_trace := goodIn_ca (goodIn_r _ [22, 23, 24, 25, 26, 27, 28, 29, 30, 21, 31, 32, 33, 34, 15, 35, 36, 37, 38, 39, 40, 41, 42, 43, 44, 45, 46, 47, 48, 49, 279, 280, 281, 262, 263, 264, 265, 266, 267, 268, 269, 270, 271, 272, 273, 274, 275, 276, 277, 278] (by decide +kernel) (by decide +kernel)) (goodIn_sub (fun _ h => List.mem_cons_of_mem _ (List.mem_append_right _ h)) (by decide +kernel))
set_option maxRecDepth 20000 in
theorem gX10_renderTrain_X8_trace : GoodIn wsX10_renderTrain (wsV RX10 150 RX8 yX8_trace wsX8_trace) := goodIn_app (goodIn_of _ (by decide +kernel)) ggX10_renderTrain_X8_trace
set_option maxRecDepth 20000 in
theorem ggX10_renderTrain_J4_setLength_d00df : GoodIn wsX10_renderTrain wsJ4_setLength_d00df := goodIn_r _ [54, 55, 56, 57, 58, 59, 60, 61, 62, 63, 64, 65, 66, 67, 68, 69, 70, 71, 72, 73, 74, 75, 76, 77, 78, 79, 80, 81, 82, 83, 84, 85, 86, 87, 88, 89, 90, 91, 92, 93, 94, 95, 96, 97, 98, 99, 100, 101, 102, 103, 104, 105, 106, 107, 108, 109, 110, 111, 112, 113, 114, 115, 116, 117, 118, 119, 120, 121, 122, 123, 124, 125, 126, 53, 127, 128, 129, 130, 131, 132, 133, 134, 282, 283, 284, 285, 286, 287, 288, 289, 290, 291, 292, 293, 294, 295, 296, 297] (by decide +kernel) (by decide +kernel)
set_option maxRecDepth 20000 in
theorem gX10_renderTrain_J4_setLength_d00df : GoodIn wsX10_renderTrain (wsV RX10 292 RJ4 yJ4_setLength_d00df wsJ4_setLength_d00df) := goodIn_app (goodIn_of _ (by decide +kernel)) ggX10_renderTrain_J4_setLength_d00df
set_option maxRecDepth 20000 in
theorem ggX10_renderTrain_X8_holds : GoodIn wsX10_renderTrain wsX8_holds := goodIn_ca (goodIn_r _ [138, 23, 279, 280, 281] (by decide +kernel) (by decide +kernel)) (goodIn_sub (fun _ h => List.mem_cons_of_mem _ (List.mem_append_right _ h)) (by decide +kernel))
set_option maxRecDepth 20000 in
theorem gX10_renderTrain_X8_holds : GoodIn wsX10_renderTrain (wsV RX10 157 RX8 yX8_holds wsX8_holds) := goodIn_app (goodIn_of _ (by decide +kernel)) ggX10_renderTrain_X8_holds
set_option maxRecDepth 20000 in
theorem ggX10_renderTrain_J4_length_8abf5 : GoodIn wsX10_renderTrain wsJ4_length_8abf5 := goodIn_r _ [142, 143, 144, 57, 145, 59, 146, 64, 288, 289, 290, 291] (by decide +kernel) (by decide +kernel)
set_option maxRecDepth 20000 in
theorem gX10_renderTrain_J4_length_8abf5 : GoodIn wsX10_renderTrain (wsV RX10 305 RJ4 yJ4_length_8abf5 wsJ4_length_8abf5) := goodIn_app (goodIn_of _ (by decide +kernel)) ggX10_renderTrain_J4_length_8abf5
set_option maxRecDepth 20000 in
theorem ggX10_renderTrain_J4_append_cf468 : GoodIn wsX10_renderTrain wsJ4_append_cf468 := goodIn_r _ [150, 151, 152, 57, 153, 59, 154, 64, 65, 67, 68, 69, 70, 71, 72, 73, 74, 75, 76, 77, 78, 79, 80, 81, 82, 83, 84, 85, 86, 87, 88, 89, 90, 91, 92, 93, 94, 95, 96, 97, 98, 99, 100, 101, 102, 103, 104, 105, 106, 107, 108, 109, 110, 111, 112, 113, 114, 155, 156, 117, 157, 158, 159, 160, 161, 162, 163, 164, 132, 165, 166, 167, 168, 169, 170, 171, 172, 173, 174, 175, 176, 177, 178, 179, 180, 181, 182, 183, 184, 185, 186, 187, 188, 189, 190, 191, 192, 193, 194, 195, 196, 197, 198, 199, 200, 201, 202, 203, 204, 205, 206, 207, 208, 288, 289, 290, 291] (by decide +kernel) (by decide +kernel)
set_option maxRecDepth 20000 in
theorem gX10_renderTrain_J4_append_cf468 : GoodIn wsX10_renderTrain (wsV RX10 299 RJ4 yJ4_append_cf468 wsJ4_append_cf468) := goodIn_app (goodIn_of _ (by decide +kernel)) ggX10_renderTrain_J4_append_cf468
set_option maxRecDepth 20000 in
theorem ggX10_renderTrain_J4_append_bf812 : GoodIn wsX10_renderTrain wsJ4_append_bf812 := goodIn_r _ [212, 213, 214, 57, 215, 59, 216, 64, 65, 217, 218, 219, 220, 67, 68, 69, 70, 71, 72, 73, 74, 75, 76, 77, 78, 79, 80, 81, 82, 83, 84, 85, 86, 87, 88, 89, 90, 91, 92, 93, 94, 95, 96, 97, 98, 99, 100, 101, 102, 103, 104, 105, 106, 107, 108, 109, 110, 111, 112, 113, 114, 221, 222, 223, 224, 225, 226, 227, 132, 228, 194, 229, 230, 231, 179, 180, 181, 232, 233, 184, 234, 186, 235, 236, 189, 237, 238, 239, 240, 241, 242, 191, 192, 193, 195, 196, 288, 289, 290, 291] (by decide +kernel) (by decide +kernel)
set_option maxRecDepth 20000 in
theorem gX10_renderTrain_J4_append_bf812 : GoodIn wsX10_renderTrain (wsV RX10 295 RJ4 yJ4_append_bf812 wsJ4_append_bf812) := goodIn_app (goodIn_of _ (by decide +kernel)) ggX10_renderTrain_J4_append_bf812
set_option maxRecDepth 20000 in
theorem ggX10_renderTrain_X7_carriesPlanet : GoodIn wsX10_renderTrain wsX7_carriesPlanet := goodIn_ca (goodIn_r _ [246, 247, 248, 262, 263, 264, 265, 266, 267, 268, 269, 270, 271, 272, 273, 274, 275, 276, 277, 278] (by decide +kernel) (by decide +kernel)) (goodIn_sub (fun _ h => List.mem_cons_of_mem _ (List.mem_append_right _ h)) (by decide +kernel))
set_option maxRecDepth 20000 in
theorem gX10_renderTrain_X7_carriesPlanet : GoodIn wsX10_renderTrain (wsV RX10 308 RX7 yX7_carriesPlanet wsX7_carriesPlanet) := goodIn_app (goodIn_of _ (by decide +kernel)) ggX10_renderTrain_X7_carriesPlanet
theorem dX10_renderTrain_0 : decode cX10_renderTrain 0 = .ok (.aload_n 0, 1) := by decide +kernel
theorem dX10_renderTrain_1 : decode cX10_renderTrain 1 = .ok (.iload_n 1, 1) := by decide +kernel
theorem dX10_renderTrain_2 : decode cX10_renderTrain 2 = .ok (.invokevirtual 132, 3) := by decide +kernel
theorem dX10_renderTrain_5 : decode cX10_renderTrain 5 = .ok (.aload_n 0, 1) := by decide +kernel
theorem dX10_renderTrain_6 : decode cX10_renderTrain 6 = .ok (.getfield 36, 3) := by decide +kernel
theorem dX10_renderTrain_9 : decode cX10_renderTrain 9 = .ok (.aload_n 0, 1) := by decide +kernel
theorem dX10_renderTrain_10 : decode cX10_renderTrain 10 = .ok (.getfield 12, 3) := by decide +kernel
theorem dX10_renderTrain_13 : decode cX10_renderTrain 13 = .ok (.iload_n 1, 1) := by decide +kernel
theorem dX10_renderTrain_14 : decode cX10_renderTrain 14 = .ok (.invokevirtual 150, 3) := by decide +kernel
theorem dX10_renderTrain_17 : decode cX10_renderTrain 17 = .ok (.aload_n 0, 1) := by decide +kernel
theorem dX10_renderTrain_18 : decode cX10_renderTrain 18 = .ok (.getfield 75, 3) := by decide +kernel
theorem dX10_renderTrain_21 : decode cX10_renderTrain 21 = .ok (.iconst 0, 1) := by decide +kernel
theorem dX10_renderTrain_22 : decode cX10_renderTrain 22 = .ok (.invokevirtual 292, 3) := by decide +kernel
theorem dX10_renderTrain_25 : decode cX10_renderTrain 25 = .ok (.iconst 0, 1) := by decide +kernel
theorem dX10_renderTrain_26 : decode cX10_renderTrain 26 = .ok (.istore_n 2, 1) := by decide +kernel
theorem dX10_renderTrain_27 : decode cX10_renderTrain 27 = .ok (.iload_n 2, 1) := by decide +kernel
theorem dX10_renderTrain_28 : decode cX10_renderTrain 28 = .ok (.aload_n 0, 1) := by decide +kernel
theorem dX10_renderTrain_29 : decode cX10_renderTrain 29 = .ok (.getfield 12, 3) := by decide +kernel
theorem dX10_renderTrain_32 : decode cX10_renderTrain 32 = .ok (.getfield 129, 3) := by decide +kernel
theorem dX10_renderTrain_35 : decode cX10_renderTrain 35 = .ok (.if_icmp .ge 70, 3) := by decide +kernel
theorem dX10_renderTrain_38 : decode cX10_renderTrain 38 = .ok (.aload_n 0, 1) := by decide +kernel
theorem dX10_renderTrain_39 : decode cX10_renderTrain 39 = .ok (.getfield 36, 3) := by decide +kernel
theorem dX10_renderTrain_42 : decode cX10_renderTrain 42 = .ok (.iload_n 2, 1) := by decide +kernel
theorem dX10_renderTrain_43 : decode cX10_renderTrain 43 = .ok (.invokevirtual 157, 3) := by decide +kernel
theorem dX10_renderTrain_46 : decode cX10_renderTrain 46 = .ok (.ifCond .eq 53, 3) := by decide +kernel
theorem dX10_renderTrain_49 : decode cX10_renderTrain 49 = .ok (.aload_n 0, 1) := by decide +kernel
theorem dX10_renderTrain_50 : decode cX10_renderTrain 50 = .ok (.getfield 75, 3) := by decide +kernel
theorem dX10_renderTrain_53 : decode cX10_renderTrain 53 = .ok (.invokevirtual 305, 3) := by decide +kernel
theorem dX10_renderTrain_56 : decode cX10_renderTrain 56 = .ok (.ifCond .le 13, 3) := by decide +kernel
theorem dX10_renderTrain_59 : decode cX10_renderTrain 59 = .ok (.aload_n 0, 1) := by decide +kernel
theorem dX10_renderTrain_60 : decode cX10_renderTrain 60 = .ok (.getfield 75, 3) := by decide +kernel
theorem dX10_renderTrain_63 : decode cX10_renderTrain 63 = .ok (.bipush 44, 2) := by decide +kernel
theorem dX10_renderTrain_65 : decode cX10_renderTrain 65 = .ok (.invokevirtual 299, 3) := by decide +kernel
theorem dX10_renderTrain_68 : decode cX10_renderTrain 68 = .ok (.pop, 1) := by decide +kernel
theorem dX10_renderTrain_69 : decode cX10_renderTrain 69 = .ok (.aload_n 0, 1) := by decide +kernel
theorem dX10_renderTrain_70 : decode cX10_renderTrain 70 = .ok (.getfield 75, 3) := by decide +kernel
theorem dX10_renderTrain_73 : decode cX10_renderTrain 73 = .ok (.iload_n 2, 1) := by decide +kernel
theorem dX10_renderTrain_74 : decode cX10_renderTrain 74 = .ok (.invokevirtual 295, 3) := by decide +kernel
theorem dX10_renderTrain_77 : decode cX10_renderTrain 77 = .ok (.pop, 1) := by decide +kernel
theorem dX10_renderTrain_78 : decode cX10_renderTrain 78 = .ok (.aload_n 0, 1) := by decide +kernel
theorem dX10_renderTrain_79 : decode cX10_renderTrain 79 = .ok (.getfield 12, 3) := by decide +kernel
theorem dX10_renderTrain_82 : decode cX10_renderTrain 82 = .ok (.iload_n 2, 1) := by decide +kernel
theorem dX10_renderTrain_83 : decode cX10_renderTrain 83 = .ok (.invokevirtual 308, 3) := by decide +kernel
theorem dX10_renderTrain_86 : decode cX10_renderTrain 86 = .ok (.ifCond .eq 13, 3) := by decide +kernel
theorem dX10_renderTrain_89 : decode cX10_renderTrain 89 = .ok (.aload_n 0, 1) := by decide +kernel
theorem dX10_renderTrain_90 : decode cX10_renderTrain 90 = .ok (.getfield 75, 3) := by decide +kernel
theorem dX10_renderTrain_93 : decode cX10_renderTrain 93 = .ok (.bipush 42, 2) := by decide +kernel
theorem dX10_renderTrain_95 : decode cX10_renderTrain 95 = .ok (.invokevirtual 299, 3) := by decide +kernel
theorem dX10_renderTrain_98 : decode cX10_renderTrain 98 = .ok (.pop, 1) := by decide +kernel
theorem dX10_renderTrain_99 : decode cX10_renderTrain 99 = .ok (.iinc 2 1, 3) := by decide +kernel
theorem dX10_renderTrain_102 : decode cX10_renderTrain 102 = .ok (.goto (-75), 3) := by decide +kernel
theorem dX10_renderTrain_105 : decode cX10_renderTrain 105 = .ok (.aload_n 0, 1) := by decide +kernel
theorem dX10_renderTrain_106 : decode cX10_renderTrain 106 = .ok (.getfield 75, 3) := by decide +kernel
theorem dX10_renderTrain_109 : decode cX10_renderTrain 109 = .ok (.invokevirtual 305, 3) := by decide +kernel
theorem dX10_renderTrain_112 : decode cX10_renderTrain 112 = .ok (.ireturn, 1) := by decide +kernel
set_option maxRecDepth 20000 in
theorem ggX10_outputAt_J4_length_8abf5 : GoodIn wsX10_outputAt wsJ4_length_8abf5 := goodIn_r _ [8, 9, 10, 11, 12, 13, 14, 15, 62, 63, 64, 65] (by decide +kernel) (by decide +kernel)
set_option maxRecDepth 20000 in
theorem gX10_outputAt_J4_length_8abf5 : GoodIn wsX10_outputAt (wsV RX10 305 RJ4 yJ4_length_8abf5 wsJ4_length_8abf5) := goodIn_app (goodIn_of _ (by decide +kernel)) ggX10_outputAt_J4_length_8abf5
set_option maxRecDepth 20000 in
theorem ggX10_outputAt_J4_charAt_5068e : GoodIn wsX10_outputAt wsJ4_charAt_5068e := goodIn_r _ [19, 20, 21, 11, 22, 13, 23, 24, 25, 15, 26, 27, 28, 29, 30, 31, 32, 33, 34, 35, 36, 37, 38, 39, 40, 41, 42, 43, 44, 45, 46, 47, 48, 62, 63, 64, 65] (by decide +kernel) (by decide +kernel)
set_option maxRecDepth 20000 in
theorem gX10_outputAt_J4_charAt_5068e : GoodIn wsX10_outputAt (wsV RX10 314 RJ4 yJ4_charAt_5068e wsJ4_charAt_5068e) := goodIn_app (goodIn_of _ (by decide +kernel)) ggX10_outputAt_J4_charAt_5068e
theorem dX10_outputAt_0 : decode cX10_outputAt 0 = .ok (.iload_n 1, 1) := by decide +kernel
theorem dX10_outputAt_1 : decode cX10_outputAt 1 = .ok (.ifCond .lt 14, 3) := by decide +kernel
theorem dX10_outputAt_4 : decode cX10_outputAt 4 = .ok (.iload_n 1, 1) := by decide +kernel
theorem dX10_outputAt_5 : decode cX10_outputAt 5 = .ok (.aload_n 0, 1) := by decide +kernel
theorem dX10_outputAt_6 : decode cX10_outputAt 6 = .ok (.getfield 75, 3) := by decide +kernel
theorem dX10_outputAt_9 : decode cX10_outputAt 9 = .ok (.invokevirtual 305, 3) := by decide +kernel
theorem dX10_outputAt_12 : decode cX10_outputAt 12 = .ok (.if_icmp .lt 11, 3) := by decide +kernel
theorem dX10_outputAt_15 : decode cX10_outputAt 15 = .ok (.new 311, 3) := by decide +kernel
theorem dX10_outputAt_18 : decode cX10_outputAt 18 = .ok (.dup, 1) := by decide +kernel
theorem dX10_outputAt_19 : decode cX10_outputAt 19 = .ok (.invokespecial 313, 3) := by decide +kernel
theorem dX10_outputAt_22 : decode cX10_outputAt 22 = .ok (.athrow, 1) := by decide +kernel
theorem dX10_outputAt_23 : decode cX10_outputAt 23 = .ok (.aload_n 0, 1) := by decide +kernel
theorem dX10_outputAt_24 : decode cX10_outputAt 24 = .ok (.getfield 75, 3) := by decide +kernel
theorem dX10_outputAt_27 : decode cX10_outputAt 27 = .ok (.iload_n 1, 1) := by decide +kernel
theorem dX10_outputAt_28 : decode cX10_outputAt 28 = .ok (.invokevirtual 314, 3) := by decide +kernel
theorem dX10_outputAt_31 : decode cX10_outputAt 31 = .ok (.ireturn, 1) := by decide +kernel
set_option maxRecDepth 20000 in
theorem ggX10_type_X6_add : GoodIn wsX10_type wsX6_add := goodIn_ca (goodIn_r _ [11, 12, 13, 27, 28, 29, 30, 31, 32, 33, 34] (by decide +kernel) (by decide +kernel)) (goodIn_sub (fun _ h => List.mem_cons_of_mem _ (List.mem_append_right _ h)) (by decide +kernel))
set_option maxRecDepth 20000 in
theorem gX10_type_X6_add : GoodIn wsX10_type (wsV RX10 323 RX6 yX6_add wsX6_add) := goodIn_app (goodIn_of _ (by decide +kernel)) ggX10_type_X6_add
theorem dX10_type_0 : decode cX10_type 0 = .ok (.iload_n 1, 1) := by decide +kernel
theorem dX10_type_1 : decode cX10_type 1 = .ok (.bipush 32, 2) := by decide +kernel
theorem dX10_type_3 : decode cX10_type 3 = .ok (.if_icmp .lt 9, 3) := by decide +kernel
theorem dX10_type_6 : decode cX10_type 6 = .ok (.iload_n 1, 1) := by decide +kernel
theorem dX10_type_7 : decode cX10_type 7 = .ok (.bipush 126, 2) := by decide +kernel
theorem dX10_type_9 : decode cX10_type 9 = .ok (.if_icmp .le 11, 3) := by decide +kernel
theorem dX10_type_12 : decode cX10_type 12 = .ok (.new 231, 3) := by decide +kernel
theorem dX10_type_15 : decode cX10_type 15 = .ok (.dup, 1) := by decide +kernel
theorem dX10_type_16 : decode cX10_type 16 = .ok (.invokespecial 233, 3) := by decide +kernel
theorem dX10_type_19 : decode cX10_type 19 = .ok (.athrow, 1) := by decide +kernel
theorem dX10_type_20 : decode cX10_type 20 = .ok (.aload_n 0, 1) := by decide +kernel
theorem dX10_type_21 : decode cX10_type 21 = .ok (.getfield 68, 3) := by decide +kernel
theorem dX10_type_24 : decode cX10_type 24 = .ok (.getfield 318, 3) := by decide +kernel
theorem dX10_type_27 : decode cX10_type 27 = .ok (.bipush 60, 2) := by decide +kernel
theorem dX10_type_29 : decode cX10_type 29 = .ok (.if_icmp .lt 11, 3) := by decide +kernel
theorem dX10_type_32 : decode cX10_type 32 = .ok (.new 320, 3) := by decide +kernel
theorem dX10_type_35 : decode cX10_type 35 = .ok (.dup, 1) := by decide +kernel
theorem dX10_type_36 : decode cX10_type 36 = .ok (.invokespecial 322, 3) := by decide +kernel
theorem dX10_type_39 : decode cX10_type 39 = .ok (.athrow, 1) := by decide +kernel
theorem dX10_type_40 : decode cX10_type 40 = .ok (.aload_n 0, 1) := by decide +kernel
theorem dX10_type_41 : decode cX10_type 41 = .ok (.getfield 68, 3) := by decide +kernel
theorem dX10_type_44 : decode cX10_type 44 = .ok (.iload_n 1, 1) := by decide +kernel
theorem dX10_type_45 : decode cX10_type 45 = .ok (.invokevirtual 323, 3) := by decide +kernel
theorem dX10_type_48 : decode cX10_type 48 = .ok (.aload_n 0, 1) := by decide +kernel
theorem dX10_type_49 : decode cX10_type 49 = .ok (.getfield 68, 3) := by decide +kernel
theorem dX10_type_52 : decode cX10_type 52 = .ok (.getfield 318, 3) := by decide +kernel
theorem dX10_type_55 : decode cX10_type 55 = .ok (.ireturn, 1) := by decide +kernel
set_option maxRecDepth 20000 in
theorem ggX10_runScript_X6_parse : GoodIn wsX10_runScript wsX6_parse := goodIn_ca (goodIn_r _ [16, 17, 18, 19, 20, 21, 22, 15, 23, 24, 25, 26, 27, 28, 29, 30, 31, 32, 33, 34, 35, 36, 37, 38, 39, 40, 41, 42, 43, 44, 45, 46, 47, 48, 49, 50, 51, 52, 53, 54, 55, 56, 57, 58, 59, 60, 61, 62, 63, 64, 65, 66, 67, 68, 69, 70, 71, 72, 73, 74, 75, 76, 77, 78, 79, 80, 81, 82, 83, 84, 85, 86, 87, 88, 89, 90, 91, 92, 93, 94, 95, 96, 97, 98, 99, 100, 101, 102, 103, 334, 335, 336, 337, 338, 339, 340, 341, 342, 343, 344, 345] (by decide +kernel) (by decide +kernel)) (goodIn_sub (fun _ h => List.mem_cons_of_mem _ (List.mem_append_right _ h)) (by decide +kernel))
set_option maxRecDepth 20000 in
theorem gX10_runScript_X6_parse : GoodIn wsX10_runScript (wsV RX10 327 RX6 yX6_parse wsX6_parse) := goodIn_app (goodIn_of _ (by decide +kernel)) ggX10_runScript_X6_parse
set_option maxRecDepth 20000 in
theorem ggX10_runScript_X6_empty : GoodIn wsX10_runScript wsX6_empty := goodIn_r _ [107, 19, 334, 335, 336, 337, 338, 339, 340, 341] (by decide +kernel) (by decide +kernel)
set_option maxRecDepth 20000 in
theorem gX10_runScript_X6_empty : GoodIn wsX10_runScript (wsV RX10 330 RX6 yX6_empty wsX6_empty) := goodIn_app (goodIn_of _ (by decide +kernel)) ggX10_runScript_X6_empty
set_option maxRecDepth 20000 in
theorem ggX10_runScript_X7_copyFrom : GoodIn wsX10_runScript wsX7_copyFrom := goodIn_ca (goodIn_r _ [112, 113, 114, 115, 116, 117, 118, 119, 120, 121, 122, 123, 124, 125, 126, 127, 128, 129, 346, 347, 348, 349, 350, 351, 352, 353, 354, 355, 356, 357, 358, 359, 360, 361, 362] (by decide +kernel) (by decide +kernel)) (goodIn_sub (fun _ h => List.mem_cons_of_mem _ (List.mem_append_right _ h)) (by decide +kernel))
set_option maxRecDepth 20000 in
theorem gX10_runScript_X7_copyFrom : GoodIn wsX10_runScript (wsV RX10 86 RX7 yX7_copyFrom wsX7_copyFrom) := goodIn_app (goodIn_of _ (by decide +kernel)) ggX10_runScript_X7_copyFrom
set_option maxRecDepth 20000 in
theorem ggX10_runScript_X10_carryOut : GoodIn wsX10_runScript wsX10_carryOut := goodIn_ca (goodIn_r _ [134, 5, 135, 136, 137, 138, 139, 140, 141, 142, 143, 144, 145, 146, 147, 148, 149, 150, 151, 152, 153, 154, 155, 156, 157, 158, 159, 160, 161, 162, 163, 164, 165, 166, 167, 168, 169, 111, 170, 123, 171, 172, 173, 174, 175, 176, 177, 178, 179, 180, 181, 182, 183, 184, 185, 186, 187, 188, 121, 189, 190, 191, 192, 113, 193, 194, 195, 196, 197, 198, 199, 200, 201, 202, 203, 204, 205, 206, 207, 208, 209, 210, 211, 212, 118, 213, 214, 215, 216, 217, 218, 219, 220, 221, 222, 223, 224, 225, 226, 227, 228, 229, 230, 231, 232, 233, 234, 235, 236, 237, 238, 239, 240, 241, 242, 243, 244, 245, 246, 247, 248, 249, 250, 251, 36, 252, 253, 254, 255, 256, 257, 258, 259, 260, 261, 262, 263, 264, 265, 266, 267, 268, 269, 270, 271, 272, 273, 274, 275, 276, 277, 278, 279, 280, 281, 282, 283, 284, 285, 286, 287, 288, 289, 290, 291, 292, 293, 294, 295, 296, 297, 298, 299, 300, 301, 302, 303, 304, 305, 306, 307, 308, 309, 310, 311, 125, 122, 321, 322, 323, 324, 325, 326, 327, 328, 329, 330, 331, 332, 333, 334, 335, 336, 337, 338, 339, 340, 341, 363, 364, 346, 347, 348, 349, 350, 351, 352, 353, 354, 355, 356, 357, 358, 359, 360, 361, 362, 365, 366, 367] (by decide +kernel) (by decide +kernel)) (goodIn_sub (fun _ h => List.mem_cons_of_mem _ (List.mem_append_right _ h)) (by decide +kernel))
set_option maxRecDepth 20000 in
theorem gX10_runScript_X10_carryOut : GoodIn wsX10_runScript (wsV RX10 336 RX10 yX10_carryOut wsX10_carryOut) := goodIn_app (goodIn_of _ (by decide +kernel)) ggX10_runScript_X10_carryOut
set_option maxRecDepth 20000 in
theorem ggX10_runScript_X3_push : GoodIn wsX10_runScript wsX3_push := goodIn_ca (goodIn_r _ [316, 317, 318, 319, 320, 109, 110, 111, 112, 113, 114, 115, 116, 117, 118, 119, 120, 121, 122, 123, 124, 125, 126, 127, 128, 129, 368, 369, 370, 346, 347, 348, 349, 350, 351, 352, 353, 354, 355, 356, 357, 358, 359, 360, 361, 362] (by decide +kernel) (by decide +kernel)) (goodIn_sub (fun _ h => List.mem_cons_of_mem _ (List.mem_append_right _ h)) (by decide +kernel))
set_option maxRecDepth 20000 in
theorem gX10_runScript_X3_push : GoodIn wsX10_runScript (wsV RX10 339 RX3 yX3_push wsX3_push) := goodIn_app (goodIn_of _ (by decide +kernel)) ggX10_runScript_X3_push
theorem dX10_runScript_0 : decode cX10_runScript 0 = .ok (.aload_n 0, 1) := by decide +kernel
theorem dX10_runScript_1 : decode cX10_runScript 1 = .ok (.getfield 68, 3) := by decide +kernel
theorem dX10_runScript_4 : decode cX10_runScript 4 = .ok (.invokevirtual 327, 3) := by decide +kernel
theorem dX10_runScript_7 : decode cX10_runScript 7 = .ok (.istore_n 1, 1) := by decide +kernel
theorem dX10_runScript_8 : decode cX10_runScript 8 = .ok (.aload_n 0, 1) := by decide +kernel
theorem dX10_runScript_9 : decode cX10_runScript 9 = .ok (.getfield 68, 3) := by decide +kernel
theorem dX10_runScript_12 : decode cX10_runScript 12 = .ok (.invokevirtual 330, 3) := by decide +kernel
theorem dX10_runScript_15 : decode cX10_runScript 15 = .ok (.iload_n 1, 1) := by decide +kernel
theorem dX10_runScript_16 : decode cX10_runScript 16 = .ok (.iconst (-1), 1) := by decide +kernel
theorem dX10_runScript_17 : decode cX10_runScript 17 = .ok (.if_icmp .eq 16, 3) := by decide +kernel
theorem dX10_runScript_20 : decode cX10_runScript 20 = .ok (.aload_n 0, 1) := by decide +kernel
theorem dX10_runScript_21 : decode cX10_runScript 21 = .ok (.iload_n 1, 1) := by decide +kernel
theorem dX10_runScript_22 : decode cX10_runScript 22 = .ok (.putfield 79, 3) := by decide +kernel
theorem dX10_runScript_25 : decode cX10_runScript 25 = .ok (.new 231, 3) := by decide +kernel
theorem dX10_runScript_28 : decode cX10_runScript 28 = .ok (.dup, 1) := by decide +kernel
theorem dX10_runScript_29 : decode cX10_runScript 29 = .ok (.invokespecial 233, 3) := by decide +kernel
theorem dX10_runScript_32 : decode cX10_runScript 32 = .ok (.athrow, 1) := by decide +kernel
theorem dX10_runScript_33 : decode cX10_runScript 33 = .ok (.aload_n 0, 1) := by decide +kernel
theorem dX10_runScript_34 : decode cX10_runScript 34 = .ok (.getfield 16, 3) := by decide +kernel
theorem dX10_runScript_37 : decode cX10_runScript 37 = .ok (.aload_n 0, 1) := by decide +kernel
theorem dX10_runScript_38 : decode cX10_runScript 38 = .ok (.getfield 12, 3) := by decide +kernel
theorem dX10_runScript_41 : decode cX10_runScript 41 = .ok (.invokevirtual 86, 3) := by decide +kernel
theorem dX10_runScript_44 : decode cX10_runScript 44 = .ok (.iconst 0, 1) := by decide +kernel
theorem dX10_runScript_45 : decode cX10_runScript 45 = .ok (.istore_n 2, 1) := by decide +kernel
theorem dX10_runScript_46 : decode cX10_runScript 46 = .ok (.iload_n 2, 1) := by decide +kernel
theorem dX10_runScript_47 : decode cX10_runScript 47 = .ok (.aload_n 0, 1) := by decide +kernel
theorem dX10_runScript_48 : decode cX10_runScript 48 = .ok (.getfield 68, 3) := by decide +kernel
theorem dX10_runScript_51 : decode cX10_runScript 51 = .ok (.getfield 333, 3) := by decide +kernel
theorem dX10_runScript_54 : decode cX10_runScript 54 = .ok (.if_icmp .ge 41, 3) := by decide +kernel
theorem dX10_runScript_57 : decode cX10_runScript 57 = .ok (.aload_n 0, 1) := by decide +kernel
theorem dX10_runScript_58 : decode cX10_runScript 58 = .ok (.iload_n 2, 1) := by decide +kernel
theorem dX10_runScript_59 : decode cX10_runScript 59 = .ok (.invokevirtual 336, 3) := by decide +kernel
theorem dX10_runScript_62 : decode cX10_runScript 62 = .ok (.ifCond .ge 27, 3) := by decide +kernel
theorem dX10_runScript_65 : decode cX10_runScript 65 = .ok (.aload_n 0, 1) := by decide +kernel
theorem dX10_runScript_66 : decode cX10_runScript 66 = .ok (.getfield 12, 3) := by decide +kernel
theorem dX10_runScript_69 : decode cX10_runScript 69 = .ok (.aload_n 0, 1) := by decide +kernel
theorem dX10_runScript_70 : decode cX10_runScript 70 = .ok (.getfield 16, 3) := by decide +kernel
theorem dX10_runScript_73 : decode cX10_runScript 73 = .ok (.invokevirtual 86, 3) := by decide +kernel
theorem dX10_runScript_76 : decode cX10_runScript 76 = .ok (.aload_n 0, 1) := by decide +kernel
theorem dX10_runScript_77 : decode cX10_runScript 77 = .ok (.iload_n 2, 1) := by decide +kernel
theorem dX10_runScript_78 : decode cX10_runScript 78 = .ok (.putfield 83, 3) := by decide +kernel
theorem dX10_runScript_81 : decode cX10_runScript 81 = .ok (.new 320, 3) := by decide +kernel
theorem dX10_runScript_84 : decode cX10_runScript 84 = .ok (.dup, 1) := by decide +kernel
theorem dX10_runScript_85 : decode cX10_runScript 85 = .ok (.invokespecial 322, 3) := by decide +kernel
theorem dX10_runScript_88 : decode cX10_runScript 88 = .ok (.athrow, 1) := by decide +kernel
theorem dX10_runScript_89 : decode cX10_runScript 89 = .ok (.iinc 2 1, 3) := by decide +kernel
theorem dX10_runScript_92 : decode cX10_runScript 92 = .ok (.goto (-46), 3) := by decide +kernel
theorem dX10_runScript_95 : decode cX10_runScript 95 = .ok (.aload_n 0, 1) := by decide +kernel
theorem dX10_runScript_96 : decode cX10_runScript 96 = .ok (.getfield 29, 3) := by decide +kernel
theorem dX10_runScript_99 : decode cX10_runScript 99 = .ok (.aload_n 0, 1) := by decide +kernel
theorem dX10_runScript_100 : decode cX10_runScript 100 = .ok (.getfield 16, 3) := by decide +kernel
theorem dX10_runScript_103 : decode cX10_runScript 103 = .ok (.invokevirtual 339, 3) := by decide +kernel
theorem dX10_runScript_106 : decode cX10_runScript 106 = .ok (.aload_n 0, 1) := by decide +kernel
theorem dX10_runScript_107 : decode cX10_runScript 107 = .ok (.getfield 68, 3) := by decide +kernel
theorem dX10_runScript_110 : decode cX10_runScript 110 = .ok (.getfield 333, 3) := by decide +kernel
theorem dX10_runScript_113 : decode cX10_runScript 113 = .ok (.ireturn, 1) := by decide +kernel
theorem dX10_errorPosition_0 : decode cX10_errorPosition 0 = .ok (.aload_n 0, 1) := by decide +kernel
theorem dX10_errorPosition_1 : decode cX10_errorPosition 1 = .ok (.getfield 79, 3) := by decide +kernel
theorem dX10_errorPosition_4 : decode cX10_errorPosition 4 = .ok (.iconst (-1), 1) := by decide +kernel
theorem dX10_errorPosition_5 : decode cX10_errorPosition 5 = .ok (.if_icmp .ne 11, 3) := by decide +kernel
theorem dX10_errorPosition_8 : decode cX10_errorPosition 8 = .ok (.new 144, 3) := by decide +kernel
theorem dX10_errorPosition_11 : decode cX10_errorPosition 11 = .ok (.dup, 1) := by decide +kernel
theorem dX10_errorPosition_12 : decode cX10_errorPosition 12 = .ok (.invokespecial 146, 3) := by decide +kernel
theorem dX10_errorPosition_15 : decode cX10_errorPosition 15 = .ok (.athrow, 1) := by decide +kernel
theorem dX10_errorPosition_16 : decode cX10_errorPosition 16 = .ok (.aload_n 0, 1) := by decide +kernel
theorem dX10_errorPosition_17 : decode cX10_errorPosition 17 = .ok (.getfield 79, 3) := by decide +kernel
theorem dX10_errorPosition_20 : decode cX10_errorPosition 20 = .ok (.ireturn, 1) := by decide +kernel
theorem dX10_failedCommand_0 : decode cX10_failedCommand 0 = .ok (.aload_n 0, 1) := by decide +kernel
theorem dX10_failedCommand_1 : decode cX10_failedCommand 1 = .ok (.getfield 83, 3) := by decide +kernel
theorem dX10_failedCommand_4 : decode cX10_failedCommand 4 = .ok (.iconst (-1), 1) := by decide +kernel
theorem dX10_failedCommand_5 : decode cX10_failedCommand 5 = .ok (.if_icmp .ne 11, 3) := by decide +kernel
theorem dX10_failedCommand_8 : decode cX10_failedCommand 8 = .ok (.new 144, 3) := by decide +kernel
theorem dX10_failedCommand_11 : decode cX10_failedCommand 11 = .ok (.dup, 1) := by decide +kernel
theorem dX10_failedCommand_12 : decode cX10_failedCommand 12 = .ok (.invokespecial 146, 3) := by decide +kernel
theorem dX10_failedCommand_15 : decode cX10_failedCommand 15 = .ok (.athrow, 1) := by decide +kernel
theorem dX10_failedCommand_16 : decode cX10_failedCommand 16 = .ok (.aload_n 0, 1) := by decide +kernel
theorem dX10_failedCommand_17 : decode cX10_failedCommand 17 = .ok (.getfield 83, 3) := by decide +kernel
theorem dX10_failedCommand_20 : decode cX10_failedCommand 20 = .ok (.ireturn, 1) := by decide +kernel
set_option maxRecDepth 20000 in
theorem ggX10_undo_X3_popInto : GoodIn wsX10_undo wsX3_popInto := goodIn_ca (goodIn_r _ [10, 11, 12, 13, 14, 15, 16, 17, 18, 19, 20, 21, 22, 23, 24, 25, 26, 27, 28, 29, 30, 31, 32, 33, 34, 35, 49, 50, 51, 52, 53, 54, 55, 56, 57, 58, 59, 60, 61, 62, 63, 64, 65, 66, 67, 68] (by decide +kernel) (by decide +kernel)) (goodIn_sub (fun _ h => List.mem_cons_of_mem _ (List.mem_append_right _ h)) (by decide +kernel))
set_option maxRecDepth 20000 in
theorem gX10_undo_X3_popInto : GoodIn wsX10_undo (wsV RX10 345 RX3 yX3_popInto wsX3_popInto) := goodIn_app (goodIn_of _ (by decide +kernel)) ggX10_undo_X3_popInto
theorem dX10_undo_0 : decode cX10_undo 0 = .ok (.aload_n 0, 1) := by decide +kernel
theorem dX10_undo_1 : decode cX10_undo 1 = .ok (.getfield 29, 3) := by decide +kernel
theorem dX10_undo_4 : decode cX10_undo 4 = .ok (.getfield 342, 3) := by decide +kernel
theorem dX10_undo_7 : decode cX10_undo 7 = .ok (.ifCond .ne 11, 3) := by decide +kernel
theorem dX10_undo_10 : decode cX10_undo 10 = .ok (.new 144, 3) := by decide +kernel
theorem dX10_undo_13 : decode cX10_undo 13 = .ok (.dup, 1) := by decide +kernel
theorem dX10_undo_14 : decode cX10_undo 14 = .ok (.invokespecial 146, 3) := by decide +kernel
theorem dX10_undo_17 : decode cX10_undo 17 = .ok (.athrow, 1) := by decide +kernel
theorem dX10_undo_18 : decode cX10_undo 18 = .ok (.aload_n 0, 1) := by decide +kernel
theorem dX10_undo_19 : decode cX10_undo 19 = .ok (.getfield 29, 3) := by decide +kernel
theorem dX10_undo_22 : decode cX10_undo 22 = .ok (.aload_n 0, 1) := by decide +kernel
theorem dX10_undo_23 : decode cX10_undo 23 = .ok (.getfield 12, 3) := by decide +kernel
theorem dX10_undo_26 : decode cX10_undo 26 = .ok (.invokevirtual 345, 3) := by decide +kernel
theorem dX10_undo_29 : decode cX10_undo 29 = .ok (.aload_n 0, 1) := by decide +kernel
theorem dX10_undo_30 : decode cX10_undo 30 = .ok (.getfield 29, 3) := by decide +kernel
theorem dX10_undo_33 : decode cX10_undo 33 = .ok (.getfield 342, 3) := by decide +kernel
theorem dX10_undo_36 : decode cX10_undo 36 = .ok (.ireturn, 1) := by decide +kernel
set_option maxRecDepth 20000 in
theorem ggX10_save_X7_copyFrom : GoodIn wsX10_save wsX7_copyFrom := goodIn_ca (goodIn_r _ [9, 10, 11, 12, 13, 14, 15, 16, 17, 18, 19, 20, 21, 22, 23, 24, 25, 26, 40, 41, 42, 43, 44, 45, 46, 47, 48, 49, 50, 51, 52, 53, 54, 55, 56] (by decide +kernel) (by decide +kernel)) (goodIn_sub (fun _ h => List.mem_cons_of_mem _ (List.mem_append_right _ h)) (by decide +kernel))
set_option maxRecDepth 20000 in
theorem gX10_save_X7_copyFrom : GoodIn wsX10_save (wsV RX10 86 RX7 yX7_copyFrom wsX7_copyFrom) := goodIn_app (goodIn_of _ (by decide +kernel)) ggX10_save_X7_copyFrom
theorem dX10_save_0 : decode cX10_save 0 = .ok (.aload_n 0, 1) := by decide +kernel
theorem dX10_save_1 : decode cX10_save 1 = .ok (.getfield 19, 3) := by decide +kernel
theorem dX10_save_4 : decode cX10_save 4 = .ok (.aload_n 0, 1) := by decide +kernel
theorem dX10_save_5 : decode cX10_save 5 = .ok (.getfield 12, 3) := by decide +kernel
theorem dX10_save_8 : decode cX10_save 8 = .ok (.invokevirtual 86, 3) := by decide +kernel
theorem dX10_save_11 : decode cX10_save 11 = .ok (.aload_n 0, 1) := by decide +kernel
theorem dX10_save_12 : decode cX10_save 12 = .ok (.iconst 1, 1) := by decide +kernel
theorem dX10_save_13 : decode cX10_save 13 = .ok (.putfield 22, 3) := by decide +kernel
theorem dX10_save_16 : decode cX10_save 16 = .ok (.aload_n 0, 1) := by decide +kernel
theorem dX10_save_17 : decode cX10_save 17 = .ok (.getfield 12, 3) := by decide +kernel
theorem dX10_save_20 : decode cX10_save 20 = .ok (.getfield 129, 3) := by decide +kernel
theorem dX10_save_23 : decode cX10_save 23 = .ok (.ireturn, 1) := by decide +kernel
set_option maxRecDepth 20000 in
theorem ggX10_restore_X7_copyFrom : GoodIn wsX10_restore wsX7_copyFrom := goodIn_ca (goodIn_r _ [12, 13, 14, 15, 16, 17, 18, 19, 20, 21, 22, 23, 24, 25, 26, 27, 28, 29, 49, 50, 51, 52, 53, 54, 55, 56, 57, 58, 59, 60, 61, 62, 63, 64, 65] (by decide +kernel) (by decide +kernel)) (goodIn_sub (fun _ h => List.mem_cons_of_mem _ (List.mem_append_right _ h)) (by decide +kernel))
set_option maxRecDepth 20000 in
theorem gX10_restore_X7_copyFrom : GoodIn wsX10_restore (wsV RX10 86 RX7 yX7_copyFrom wsX7_copyFrom) := goodIn_app (goodIn_of _ (by decide +kernel)) ggX10_restore_X7_copyFrom
set_option maxRecDepth 20000 in
theorem ggX10_restore_X3_empty : GoodIn wsX10_restore wsX3_empty := goodIn_r _ [34, 35, 66, 67, 68] (by decide +kernel) (by decide +kernel)
set_option maxRecDepth 20000 in
theorem gX10_restore_X3_empty : GoodIn wsX10_restore (wsV RX10 348 RX3 yX3_empty wsX3_empty) := goodIn_app (goodIn_of _ (by decide +kernel)) ggX10_restore_X3_empty
theorem dX10_restore_0 : decode cX10_restore 0 = .ok (.aload_n 0, 1) := by decide +kernel
theorem dX10_restore_1 : decode cX10_restore 1 = .ok (.getfield 22, 3) := by decide +kernel
theorem dX10_restore_4 : decode cX10_restore 4 = .ok (.ifCond .ne 11, 3) := by decide +kernel
theorem dX10_restore_7 : decode cX10_restore 7 = .ok (.new 320, 3) := by decide +kernel
theorem dX10_restore_10 : decode cX10_restore 10 = .ok (.dup, 1) := by decide +kernel
theorem dX10_restore_11 : decode cX10_restore 11 = .ok (.invokespecial 322, 3) := by decide +kernel
theorem dX10_restore_14 : decode cX10_restore 14 = .ok (.athrow, 1) := by decide +kernel
theorem dX10_restore_15 : decode cX10_restore 15 = .ok (.aload_n 0, 1) := by decide +kernel
theorem dX10_restore_16 : decode cX10_restore 16 = .ok (.getfield 12, 3) := by decide +kernel
theorem dX10_restore_19 : decode cX10_restore 19 = .ok (.aload_n 0, 1) := by decide +kernel
theorem dX10_restore_20 : decode cX10_restore 20 = .ok (.getfield 19, 3) := by decide +kernel
theorem dX10_restore_23 : decode cX10_restore 23 = .ok (.invokevirtual 86, 3) := by decide +kernel
theorem dX10_restore_26 : decode cX10_restore 26 = .ok (.aload_n 0, 1) := by decide +kernel
theorem dX10_restore_27 : decode cX10_restore 27 = .ok (.getfield 29, 3) := by decide +kernel
theorem dX10_restore_30 : decode cX10_restore 30 = .ok (.invokevirtual 348, 3) := by decide +kernel
theorem dX10_restore_33 : decode cX10_restore 33 = .ok (.aload_n 0, 1) := by decide +kernel
theorem dX10_restore_34 : decode cX10_restore 34 = .ok (.getfield 12, 3) := by decide +kernel
theorem dX10_restore_37 : decode cX10_restore 37 = .ok (.getfield 129, 3) := by decide +kernel
theorem dX10_restore_40 : decode cX10_restore 40 = .ok (.ireturn, 1) := by decide +kernel
set_option maxRecDepth 20000 in
theorem ggX10_settle_X10_refuse : GoodIn wsX10_settle wsX10_refuse := goodIn_ca (goodIn_ca (goodIn_ca (goodIn_ca (goodIn_ca (goodIn_r _ [6, 7, 8, 9, 10, 11, 12, 13, 14, 15, 16] (by decide +kernel) (by decide +kernel)) (goodIn_sub (fun _ h => List.mem_cons_of_mem _ (List.mem_append_left _ (List.mem_append_left _ (List.mem_append_left _ (List.mem_append_left _ (List.mem_append_left _ (List.mem_append_right _ h))))))) (by decide +kernel))) (goodIn_sub (fun _ h => List.mem_cons_of_mem _ (List.mem_append_left _ (List.mem_append_left _ (List.mem_append_left _ (List.mem_append_left _ (List.mem_append_right _ h)))))) (by decide +kernel))) (goodIn_sub (fun _ h => List.mem_cons_of_mem _ (List.mem_append_left _ (List.mem_append_left _ (List.mem_append_left _ (List.mem_append_right _ h))))) (by decide +kernel))) (goodIn_sub (fun _ h => List.mem_cons_of_mem _ (List.mem_append_left _ (List.mem_append_left _ (List.mem_append_right _ h)))) (by decide +kernel))) (goodIn_sub (fun _ h => List.mem_cons_of_mem _ (List.mem_append_left _ (List.mem_append_right _ h))) (by decide +kernel))
set_option maxRecDepth 20000 in
theorem gX10_settle_X10_refuse : GoodIn wsX10_settle (va_wsS RX10 238 yX10_refuse wsX10_refuse) := goodIn_app (goodIn_of _ (by decide +kernel)) ggX10_settle_X10_refuse
set_option maxRecDepth 20000 in
theorem ggX10_settle_X3_push : GoodIn wsX10_settle wsX3_push := goodIn_ca (goodIn_r _ [21, 22, 23, 24, 25, 26, 27, 28, 29, 30, 31, 32, 33, 34, 35, 36, 37, 38, 39, 40, 41, 42, 43, 44, 45, 46, 60, 61, 62, 63, 64, 65, 66, 67, 68, 69, 70, 71, 72, 73, 74, 75, 76, 77, 78, 79] (by decide +kernel) (by decide +kernel)) (goodIn_sub (fun _ h => List.mem_cons_of_mem _ (List.mem_append_right _ h)) (by decide +kernel))
set_option maxRecDepth 20000 in
theorem gX10_settle_X3_push : GoodIn wsX10_settle (wsV RX10 339 RX3 yX3_push wsX3_push) := goodIn_app (goodIn_of _ (by decide +kernel)) ggX10_settle_X3_push
theorem dX10_settle_0 : decode cX10_settle 0 = .ok (.iload_n 1, 1) := by decide +kernel
theorem dX10_settle_1 : decode cX10_settle 1 = .ok (.invokestatic 238, 3) := by decide +kernel
theorem dX10_settle_4 : decode cX10_settle 4 = .ok (.aload_n 0, 1) := by decide +kernel
theorem dX10_settle_5 : decode cX10_settle 5 = .ok (.getfield 29, 3) := by decide +kernel
theorem dX10_settle_8 : decode cX10_settle 8 = .ok (.aload_n 0, 1) := by decide +kernel
theorem dX10_settle_9 : decode cX10_settle 9 = .ok (.getfield 16, 3) := by decide +kernel
theorem dX10_settle_12 : decode cX10_settle 12 = .ok (.invokevirtual 339, 3) := by decide +kernel
theorem dX10_settle_15 : decode cX10_settle 15 = .ok (.iload_n 1, 1) := by decide +kernel
theorem dX10_settle_16 : decode cX10_settle 16 = .ok (.ireturn, 1) := by decide +kernel
theorem dX10_refuse_0 : decode cX10_refuse 0 = .ok (.iload_n 0, 1) := by decide +kernel
theorem dX10_refuse_1 : decode cX10_refuse 1 = .ok (.tableswitch 75 (-5) (-1) #[67, 59, 51, 43, 35], 35) := by decide +kernel
theorem dX10_refuse_36 : decode cX10_refuse 36 = .ok (.new 311, 3) := by decide +kernel
theorem dX10_refuse_39 : decode cX10_refuse 39 = .ok (.dup, 1) := by decide +kernel
theorem dX10_refuse_40 : decode cX10_refuse 40 = .ok (.invokespecial 313, 3) := by decide +kernel
theorem dX10_refuse_43 : decode cX10_refuse 43 = .ok (.athrow, 1) := by decide +kernel
theorem dX10_refuse_44 : decode cX10_refuse 44 = .ok (.new 231, 3) := by decide +kernel
theorem dX10_refuse_47 : decode cX10_refuse 47 = .ok (.dup, 1) := by decide +kernel
theorem dX10_refuse_48 : decode cX10_refuse 48 = .ok (.invokespecial 233, 3) := by decide +kernel
theorem dX10_refuse_51 : decode cX10_refuse 51 = .ok (.athrow, 1) := by decide +kernel
theorem dX10_refuse_52 : decode cX10_refuse 52 = .ok (.new 320, 3) := by decide +kernel
theorem dX10_refuse_55 : decode cX10_refuse 55 = .ok (.dup, 1) := by decide +kernel
theorem dX10_refuse_56 : decode cX10_refuse 56 = .ok (.invokespecial 322, 3) := by decide +kernel
theorem dX10_refuse_59 : decode cX10_refuse 59 = .ok (.athrow, 1) := by decide +kernel
theorem dX10_refuse_60 : decode cX10_refuse 60 = .ok (.new 349, 3) := by decide +kernel
theorem dX10_refuse_63 : decode cX10_refuse 63 = .ok (.dup, 1) := by decide +kernel
theorem dX10_refuse_64 : decode cX10_refuse 64 = .ok (.invokespecial 351, 3) := by decide +kernel
theorem dX10_refuse_67 : decode cX10_refuse 67 = .ok (.athrow, 1) := by decide +kernel
theorem dX10_refuse_68 : decode cX10_refuse 68 = .ok (.new 144, 3) := by decide +kernel
theorem dX10_refuse_71 : decode cX10_refuse 71 = .ok (.dup, 1) := by decide +kernel
theorem dX10_refuse_72 : decode cX10_refuse 72 = .ok (.invokespecial 146, 3) := by decide +kernel
theorem dX10_refuse_75 : decode cX10_refuse 75 = .ok (.athrow, 1) := by decide +kernel
theorem dX10_refuse_76 : decode cX10_refuse 76 = .ok (.return_, 1) := by decide +kernel
theorem dX10_found_0 : decode cX10_found 0 = .ok (.iload_n 0, 1) := by decide +kernel
theorem dX10_found_1 : decode cX10_found 1 = .ok (.ifCond .ne 11, 3) := by decide +kernel
theorem dX10_found_4 : decode cX10_found 4 = .ok (.new 144, 3) := by decide +kernel
theorem dX10_found_7 : decode cX10_found 7 = .ok (.dup, 1) := by decide +kernel
theorem dX10_found_8 : decode cX10_found 8 = .ok (.invokespecial 146, 3) := by decide +kernel
theorem dX10_found_11 : decode cX10_found 11 = .ok (.athrow, 1) := by decide +kernel
theorem dX10_found_12 : decode cX10_found 12 = .ok (.iload_n 0, 1) := by decide +kernel
theorem dX10_found_13 : decode cX10_found 13 = .ok (.ireturn, 1) := by decide +kernel
set_option maxRecDepth 20000 in
theorem ggX10_checkGear_X7_isGear : GoodIn wsX10_checkGear wsX7_isGear := goodIn_r _ [8, 9, 23, 24, 25, 26, 27, 28, 29, 30, 31, 32, 33, 34, 35, 36, 37, 38, 39] (by decide +kernel) (by decide +kernel)
set_option maxRecDepth 20000 in
theorem gX10_checkGear_X7_isGear : GoodIn wsX10_checkGear (wsV RX10 352 RX7 yX7_isGear wsX7_isGear) := goodIn_app (goodIn_of _ (by decide +kernel)) ggX10_checkGear_X7_isGear
theorem dX10_checkGear_0 : decode cX10_checkGear 0 = .ok (.aload_n 0, 1) := by decide +kernel
theorem dX10_checkGear_1 : decode cX10_checkGear 1 = .ok (.getfield 12, 3) := by decide +kernel
theorem dX10_checkGear_4 : decode cX10_checkGear 4 = .ok (.iload_n 1, 1) := by decide +kernel
theorem dX10_checkGear_5 : decode cX10_checkGear 5 = .ok (.invokevirtual 352, 3) := by decide +kernel
theorem dX10_checkGear_8 : decode cX10_checkGear 8 = .ok (.ifCond .ne 11, 3) := by decide +kernel
theorem dX10_checkGear_11 : decode cX10_checkGear 11 = .ok (.new 311, 3) := by decide +kernel
theorem dX10_checkGear_14 : decode cX10_checkGear 14 = .ok (.dup, 1) := by decide +kernel
theorem dX10_checkGear_15 : decode cX10_checkGear 15 = .ok (.invokespecial 313, 3) := by decide +kernel
theorem dX10_checkGear_18 : decode cX10_checkGear 18 = .ok (.athrow, 1) := by decide +kernel
theorem dX10_checkGear_19 : decode cX10_checkGear 19 = .ok (.return_, 1) := by decide +kernel
set_option maxRecDepth 20000 in
theorem ggX10_checkPlanet_X7_isPlanet : GoodIn wsX10_checkPlanet wsX7_isPlanet := goodIn_r _ [8, 9, 23, 24, 25, 26, 27, 28, 29, 30, 31, 32, 33, 34, 35, 36, 37, 38, 39] (by decide +kernel) (by decide +kernel)
set_option maxRecDepth 20000 in
theorem gX10_checkPlanet_X7_isPlanet : GoodIn wsX10_checkPlanet (wsV RX10 355 RX7 yX7_isPlanet wsX7_isPlanet) := goodIn_app (goodIn_of _ (by decide +kernel)) ggX10_checkPlanet_X7_isPlanet
theorem dX10_checkPlanet_0 : decode cX10_checkPlanet 0 = .ok (.aload_n 0, 1) := by decide +kernel
theorem dX10_checkPlanet_1 : decode cX10_checkPlanet 1 = .ok (.getfield 12, 3) := by decide +kernel
theorem dX10_checkPlanet_4 : decode cX10_checkPlanet 4 = .ok (.iload_n 1, 1) := by decide +kernel
theorem dX10_checkPlanet_5 : decode cX10_checkPlanet 5 = .ok (.invokevirtual 355, 3) := by decide +kernel
theorem dX10_checkPlanet_8 : decode cX10_checkPlanet 8 = .ok (.ifCond .ne 11, 3) := by decide +kernel
theorem dX10_checkPlanet_11 : decode cX10_checkPlanet 11 = .ok (.new 311, 3) := by decide +kernel
theorem dX10_checkPlanet_14 : decode cX10_checkPlanet 14 = .ok (.dup, 1) := by decide +kernel
theorem dX10_checkPlanet_15 : decode cX10_checkPlanet 15 = .ok (.invokespecial 313, 3) := by decide +kernel
theorem dX10_checkPlanet_18 : decode cX10_checkPlanet 18 = .ok (.athrow, 1) := by decide +kernel
theorem dX10_checkPlanet_19 : decode cX10_checkPlanet 19 = .ok (.return_, 1) := by decide +kernel
set_option maxRecDepth 20000 in
theorem ggX10_checkSpring_X10_checkGear : GoodIn wsX10_checkSpring wsX10_checkGear := goodIn_ca (goodIn_r _ [8, 9, 10, 3, 11, 12, 13, 14, 15, 16, 22, 23, 24, 25, 26, 27, 28, 29, 30, 31, 32, 33, 34, 35, 36, 37, 38, 39, 40, 41, 42, 43, 44, 45, 46, 47, 48, 49, 50, 51] (by decide +kernel) (by decide +kernel)) (goodIn_sub (fun _ h => List.mem_cons_of_mem _ (List.mem_append_left _ (List.mem_append_right _ h))) (by decide +kernel))
set_option maxRecDepth 20000 in
theorem gX10_checkSpring_X10_checkGear : GoodIn wsX10_checkSpring (wsV RX10 132 RX10 yX10_checkGear wsX10_checkGear) := goodIn_app (goodIn_of _ (by decide +kernel)) ggX10_checkSpring_X10_checkGear
set_option maxRecDepth 20000 in
theorem ggX10_checkSpring_X7_hasSpring : GoodIn wsX10_checkSpring wsX7_hasSpring := goodIn_ca (goodIn_r _ [20, 21, 35, 36, 37, 38, 39, 40, 41, 42, 43, 44, 45, 46, 47, 48, 49, 50, 51] (by decide +kernel) (by decide +kernel)) (goodIn_sub (fun _ h => List.mem_cons_of_mem _ (List.mem_append_right _ h)) (by decide +kernel))
set_option maxRecDepth 20000 in
theorem gX10_checkSpring_X7_hasSpring : GoodIn wsX10_checkSpring (wsV RX10 200 RX7 yX7_hasSpring wsX7_hasSpring) := goodIn_app (goodIn_of _ (by decide +kernel)) ggX10_checkSpring_X7_hasSpring
theorem dX10_checkSpring_0 : decode cX10_checkSpring 0 = .ok (.aload_n 0, 1) := by decide +kernel
theorem dX10_checkSpring_1 : decode cX10_checkSpring 1 = .ok (.iload_n 1, 1) := by decide +kernel
theorem dX10_checkSpring_2 : decode cX10_checkSpring 2 = .ok (.invokevirtual 132, 3) := by decide +kernel
theorem dX10_checkSpring_5 : decode cX10_checkSpring 5 = .ok (.aload_n 0, 1) := by decide +kernel
theorem dX10_checkSpring_6 : decode cX10_checkSpring 6 = .ok (.getfield 12, 3) := by decide +kernel
theorem dX10_checkSpring_9 : decode cX10_checkSpring 9 = .ok (.iload_n 1, 1) := by decide +kernel
theorem dX10_checkSpring_10 : decode cX10_checkSpring 10 = .ok (.invokevirtual 200, 3) := by decide +kernel
theorem dX10_checkSpring_13 : decode cX10_checkSpring 13 = .ok (.ifCond .ne 11, 3) := by decide +kernel
theorem dX10_checkSpring_16 : decode cX10_checkSpring 16 = .ok (.new 144, 3) := by decide +kernel
theorem dX10_checkSpring_19 : decode cX10_checkSpring 19 = .ok (.dup, 1) := by decide +kernel
theorem dX10_checkSpring_20 : decode cX10_checkSpring 20 = .ok (.invokespecial 146, 3) := by decide +kernel
theorem dX10_checkSpring_23 : decode cX10_checkSpring 23 = .ok (.athrow, 1) := by decide +kernel
theorem dX10_checkSpring_24 : decode cX10_checkSpring 24 = .ok (.return_, 1) := by decide +kernel
set_option maxRecDepth 20000 in
theorem ggX10_checkSameTrain_X10_checkGear : GoodIn wsX10_checkSameTrain wsX10_checkGear := goodIn_ca (goodIn_r _ [9, 10, 11, 4, 12, 13, 14, 15, 16, 17, 54, 55, 56, 57, 58, 59, 60, 61, 62, 63, 64, 65, 66, 67, 68, 69, 70, 71, 72, 73, 74, 75, 76, 77, 78, 79, 80, 81, 82, 83] (by decide +kernel) (by decide +kernel)) (goodIn_sub (fun _ h => List.mem_cons_of_mem _ (List.mem_append_left _ (List.mem_append_right _ h))) (by decide +kernel))
set_option maxRecDepth 20000 in
theorem gX10_checkSameTrain_X10_checkGear : GoodIn wsX10_checkSameTrain (wsV RX10 132 RX10 yX10_checkGear wsX10_checkGear) := goodIn_app (goodIn_of _ (by decide +kernel)) ggX10_checkSameTrain_X10_checkGear
set_option maxRecDepth 20000 in
theorem ggX10_checkSameTrain_X8_trace : GoodIn wsX10_checkSameTrain wsX8_trace := goodIn_ca (goodIn_r _ [22, 23, 24, 25, 26, 27, 28, 29, 30, 21, 31, 32, 33, 34, 15, 35, 36, 37, 38, 39, 40, 41, 42, 43, 44, 45, 46, 47, 48, 49, 84, 85, 86, 67, 68, 69, 70, 71, 72, 73, 74, 75, 76, 77, 78, 79, 80, 81, 82, 83] (by decide +kernel) (by decide +kernel)) (goodIn_sub (fun _ h => List.mem_cons_of_mem _ (List.mem_append_right _ h)) (by decide +kernel))
set_option maxRecDepth 20000 in
theorem gX10_checkSameTrain_X8_trace : GoodIn wsX10_checkSameTrain (wsV RX10 150 RX8 yX8_trace wsX8_trace) := goodIn_app (goodIn_of _ (by decide +kernel)) ggX10_checkSameTrain_X8_trace
set_option maxRecDepth 20000 in
theorem ggX10_checkSameTrain_X8_holds : GoodIn wsX10_checkSameTrain wsX8_holds := goodIn_ca (goodIn_r _ [53, 23, 84, 85, 86] (by decide +kernel) (by decide +kernel)) (goodIn_sub (fun _ h => List.mem_cons_of_mem _ (List.mem_append_right _ h)) (by decide +kernel))
set_option maxRecDepth 20000 in
theorem gX10_checkSameTrain_X8_holds : GoodIn wsX10_checkSameTrain (wsV RX10 157 RX8 yX8_holds wsX8_holds) := goodIn_app (goodIn_of _ (by decide +kernel)) ggX10_checkSameTrain_X8_holds
theorem dX10_checkSameTrain_0 : decode cX10_checkSameTrain 0 = .ok (.aload_n 0, 1) := by decide +kernel
theorem dX10_checkSameTrain_1 : decode cX10_checkSameTrain 1 = .ok (.iload_n 1, 1) := by decide +kernel
theorem dX10_checkSameTrain_2 : decode cX10_checkSameTrain 2 = .ok (.invokevirtual 132, 3) := by decide +kernel
theorem dX10_checkSameTrain_5 : decode cX10_checkSameTrain 5 = .ok (.aload_n 0, 1) := by decide +kernel
theorem dX10_checkSameTrain_6 : decode cX10_checkSameTrain 6 = .ok (.iload_n 2, 1) := by decide +kernel
theorem dX10_checkSameTrain_7 : decode cX10_checkSameTrain 7 = .ok (.invokevirtual 132, 3) := by decide +kernel
theorem dX10_checkSameTrain_10 : decode cX10_checkSameTrain 10 = .ok (.aload_n 0, 1) := by decide +kernel
theorem dX10_checkSameTrain_11 : decode cX10_checkSameTrain 11 = .ok (.getfield 36, 3) := by decide +kernel
theorem dX10_checkSameTrain_14 : decode cX10_checkSameTrain 14 = .ok (.aload_n 0, 1) := by decide +kernel
theorem dX10_checkSameTrain_15 : decode cX10_checkSameTrain 15 = .ok (.getfield 12, 3) := by decide +kernel
theorem dX10_checkSameTrain_18 : decode cX10_checkSameTrain 18 = .ok (.iload_n 1, 1) := by decide +kernel
theorem dX10_checkSameTrain_19 : decode cX10_checkSameTrain 19 = .ok (.invokevirtual 150, 3) := by decide +kernel
theorem dX10_checkSameTrain_22 : decode cX10_checkSameTrain 22 = .ok (.aload_n 0, 1) := by decide +kernel
theorem dX10_checkSameTrain_23 : decode cX10_checkSameTrain 23 = .ok (.getfield 36, 3) := by decide +kernel
theorem dX10_checkSameTrain_26 : decode cX10_checkSameTrain 26 = .ok (.iload_n 2, 1) := by decide +kernel
theorem dX10_checkSameTrain_27 : decode cX10_checkSameTrain 27 = .ok (.invokevirtual 157, 3) := by decide +kernel
theorem dX10_checkSameTrain_30 : decode cX10_checkSameTrain 30 = .ok (.ifCond .ne 11, 3) := by decide +kernel
theorem dX10_checkSameTrain_33 : decode cX10_checkSameTrain 33 = .ok (.new 144, 3) := by decide +kernel
theorem dX10_checkSameTrain_36 : decode cX10_checkSameTrain 36 = .ok (.dup, 1) := by decide +kernel
theorem dX10_checkSameTrain_37 : decode cX10_checkSameTrain 37 = .ok (.invokespecial 146, 3) := by decide +kernel
theorem dX10_checkSameTrain_40 : decode cX10_checkSameTrain 40 = .ok (.athrow, 1) := by decide +kernel
theorem dX10_checkSameTrain_41 : decode cX10_checkSameTrain 41 = .ok (.return_, 1) := by decide +kernel
theorem dX10_checkRatio_0 : decode cX10_checkRatio 0 = .ok (.iload_n 0, 1) := by decide +kernel
theorem dX10_checkRatio_1 : decode cX10_checkRatio 1 = .ok (.iconst 1, 1) := by decide +kernel
theorem dX10_checkRatio_2 : decode cX10_checkRatio 2 = .ok (.if_icmp .lt 20, 3) := by decide +kernel
theorem dX10_checkRatio_5 : decode cX10_checkRatio 5 = .ok (.iload_n 0, 1) := by decide +kernel
theorem dX10_checkRatio_6 : decode cX10_checkRatio 6 = .ok (.bipush 60, 2) := by decide +kernel
theorem dX10_checkRatio_8 : decode cX10_checkRatio 8 = .ok (.if_icmp .gt 14, 3) := by decide +kernel
theorem dX10_checkRatio_11 : decode cX10_checkRatio 11 = .ok (.iload_n 1, 1) := by decide +kernel
theorem dX10_checkRatio_12 : decode cX10_checkRatio 12 = .ok (.iconst 1, 1) := by decide +kernel
theorem dX10_checkRatio_13 : decode cX10_checkRatio 13 = .ok (.if_icmp .lt 9, 3) := by decide +kernel
theorem dX10_checkRatio_16 : decode cX10_checkRatio 16 = .ok (.iload_n 1, 1) := by decide +kernel
theorem dX10_checkRatio_17 : decode cX10_checkRatio 17 = .ok (.bipush 60, 2) := by decide +kernel
theorem dX10_checkRatio_19 : decode cX10_checkRatio 19 = .ok (.if_icmp .le 11, 3) := by decide +kernel
theorem dX10_checkRatio_22 : decode cX10_checkRatio 22 = .ok (.new 231, 3) := by decide +kernel
theorem dX10_checkRatio_25 : decode cX10_checkRatio 25 = .ok (.dup, 1) := by decide +kernel
theorem dX10_checkRatio_26 : decode cX10_checkRatio 26 = .ok (.invokespecial 233, 3) := by decide +kernel
theorem dX10_checkRatio_29 : decode cX10_checkRatio 29 = .ok (.athrow, 1) := by decide +kernel
theorem dX10_checkRatio_30 : decode cX10_checkRatio 30 = .ok (.return_, 1) := by decide +kernel
set_option maxRecDepth 20000 in
theorem ggX10_unitsByChain_X8_trace : GoodIn wsX10_unitsByChain wsX8_trace := goodIn_ca (goodIn_r _ [8, 9, 10, 11, 12, 13, 14, 15, 16, 7, 17, 18, 19, 20, 21, 22, 23, 24, 25, 26, 27, 28, 29, 30, 31, 32, 33, 34, 35, 36, 50, 51, 52, 53, 54, 55, 56, 57, 58, 59, 60, 61, 62, 63, 64, 65, 66, 67, 68, 69] (by decide +kernel) (by decide +kernel)) (goodIn_sub (fun _ h => List.mem_cons_of_mem _ (List.mem_append_right _ h)) (by decide +kernel))
set_option maxRecDepth 20000 in
theorem gX10_unitsByChain_X8_trace : GoodIn wsX10_unitsByChain (wsV RX10 150 RX8 yX8_trace wsX8_trace) := goodIn_app (goodIn_of _ (by decide +kernel)) ggX10_unitsByChain_X8_trace
theorem dX10_unitsByChain_0 : decode cX10_unitsByChain 0 = .ok (.aload_n 0, 1) := by decide +kernel
theorem dX10_unitsByChain_1 : decode cX10_unitsByChain 1 = .ok (.getfield 36, 3) := by decide +kernel
theorem dX10_unitsByChain_4 : decode cX10_unitsByChain 4 = .ok (.aload_n 0, 1) := by decide +kernel
theorem dX10_unitsByChain_5 : decode cX10_unitsByChain 5 = .ok (.getfield 12, 3) := by decide +kernel
theorem dX10_unitsByChain_8 : decode cX10_unitsByChain 8 = .ok (.iload_n 1, 1) := by decide +kernel
theorem dX10_unitsByChain_9 : decode cX10_unitsByChain 9 = .ok (.invokevirtual 150, 3) := by decide +kernel
theorem dX10_unitsByChain_12 : decode cX10_unitsByChain 12 = .ok (.aload_n 0, 1) := by decide +kernel
theorem dX10_unitsByChain_13 : decode cX10_unitsByChain 13 = .ok (.getfield 36, 3) := by decide +kernel
theorem dX10_unitsByChain_16 : decode cX10_unitsByChain 16 = .ok (.getfield 358, 3) := by decide +kernel
theorem dX10_unitsByChain_19 : decode cX10_unitsByChain 19 = .ok (.iload_n 2, 1) := by decide +kernel
theorem dX10_unitsByChain_20 : decode cX10_unitsByChain 20 = .ok (.laload, 1) := by decide +kernel
theorem dX10_unitsByChain_21 : decode cX10_unitsByChain 21 = .ok (.lreturn, 1) := by decide +kernel
set_option maxRecDepth 20000 in
theorem ggX10_unitsByLowest_X8_trace : GoodIn wsX10_unitsByLowest wsX8_trace := goodIn_ca (goodIn_r _ [9, 10, 11, 12, 13, 14, 15, 16, 17, 8, 18, 19, 20, 21, 22, 23, 24, 25, 26, 27, 28, 29, 30, 31, 32, 33, 34, 35, 36, 37, 69, 70, 71, 72, 73, 74, 75, 76, 77, 78, 79, 80, 81, 82, 83, 84, 85, 86, 87, 88] (by decide +kernel) (by decide +kernel)) (goodIn_sub (fun _ h => List.mem_cons_of_mem _ (List.mem_append_right _ h)) (by decide +kernel))
set_option maxRecDepth 20000 in
theorem gX10_unitsByLowest_X8_trace : GoodIn wsX10_unitsByLowest (wsV RX10 150 RX8 yX8_trace wsX8_trace) := goodIn_app (goodIn_of _ (by decide +kernel)) ggX10_unitsByLowest_X8_trace
set_option maxRecDepth 20000 in
theorem ggX10_unitsByLowest_X8_lowestGear : GoodIn wsX10_unitsByLowest wsX8_lowestGear := goodIn_ca (goodIn_r _ [41, 10, 69, 70, 71] (by decide +kernel) (by decide +kernel)) (goodIn_sub (fun _ h => List.mem_cons_of_mem _ (List.mem_append_right _ h)) (by decide +kernel))
set_option maxRecDepth 20000 in
theorem gX10_unitsByLowest_X8_lowestGear : GoodIn wsX10_unitsByLowest (wsV RX10 361 RX8 yX8_lowestGear wsX8_lowestGear) := goodIn_app (goodIn_of _ (by decide +kernel)) ggX10_unitsByLowest_X8_lowestGear
set_option maxRecDepth 20000 in
theorem ggX10_unitsByLowest_X4_commonDivisor : GoodIn wsX10_unitsByLowest wsX4_commonDivisor := goodIn_r _ [44, 45, 46, 47, 48, 49, 50, 32, 51, 52, 53, 36, 54] (by decide +kernel) (by decide +kernel)
set_option maxRecDepth 20000 in
theorem gX10_unitsByLowest_X4_commonDivisor : GoodIn wsX10_unitsByLowest (va_wsS RX10 364 yX4_commonDivisor wsX4_commonDivisor) := goodIn_app (goodIn_of _ (by decide +kernel)) ggX10_unitsByLowest_X4_commonDivisor
set_option maxRecDepth 20000 in
theorem ggX10_unitsByLowest_X4_quotient : GoodIn wsX10_unitsByLowest wsX4_quotient := goodIn_r _ [33, 34, 35, 36, 37] (by decide +kernel) (by decide +kernel)
set_option maxRecDepth 20000 in
theorem gX10_unitsByLowest_X4_quotient : GoodIn wsX10_unitsByLowest (va_wsS RX10 194 yX4_quotient wsX4_quotient) := goodIn_app (goodIn_of _ (by decide +kernel)) ggX10_unitsByLowest_X4_quotient
theorem dX10_unitsByLowest_0 : decode cX10_unitsByLowest 0 = .ok (.aload_n 0, 1) := by decide +kernel
theorem dX10_unitsByLowest_1 : decode cX10_unitsByLowest 1 = .ok (.getfield 36, 3) := by decide +kernel
theorem dX10_unitsByLowest_4 : decode cX10_unitsByLowest 4 = .ok (.aload_n 0, 1) := by decide +kernel
theorem dX10_unitsByLowest_5 : decode cX10_unitsByLowest 5 = .ok (.getfield 12, 3) := by decide +kernel
theorem dX10_unitsByLowest_8 : decode cX10_unitsByLowest 8 = .ok (.iload_n 1, 1) := by decide +kernel
theorem dX10_unitsByLowest_9 : decode cX10_unitsByLowest 9 = .ok (.invokevirtual 150, 3) := by decide +kernel
theorem dX10_unitsByLowest_12 : decode cX10_unitsByLowest 12 = .ok (.aload_n 0, 1) := by decide +kernel
theorem dX10_unitsByLowest_13 : decode cX10_unitsByLowest 13 = .ok (.getfield 36, 3) := by decide +kernel
theorem dX10_unitsByLowest_16 : decode cX10_unitsByLowest 16 = .ok (.aload_n 0, 1) := by decide +kernel
theorem dX10_unitsByLowest_17 : decode cX10_unitsByLowest 17 = .ok (.getfield 12, 3) := by decide +kernel
theorem dX10_unitsByLowest_20 : decode cX10_unitsByLowest 20 = .ok (.aload_n 0, 1) := by decide +kernel
theorem dX10_unitsByLowest_21 : decode cX10_unitsByLowest 21 = .ok (.getfield 36, 3) := by decide +kernel
theorem dX10_unitsByLowest_24 : decode cX10_unitsByLowest 24 = .ok (.invokevirtual 361, 3) := by decide +kernel
theorem dX10_unitsByLowest_27 : decode cX10_unitsByLowest 27 = .ok (.invokevirtual 150, 3) := by decide +kernel
theorem dX10_unitsByLowest_30 : decode cX10_unitsByLowest 30 = .ok (.aload_n 0, 1) := by decide +kernel
theorem dX10_unitsByLowest_31 : decode cX10_unitsByLowest 31 = .ok (.getfield 36, 3) := by decide +kernel
theorem dX10_unitsByLowest_34 : decode cX10_unitsByLowest 34 = .ok (.getfield 358, 3) := by decide +kernel
theorem dX10_unitsByLowest_37 : decode cX10_unitsByLowest 37 = .ok (.iload_n 1, 1) := by decide +kernel
theorem dX10_unitsByLowest_38 : decode cX10_unitsByLowest 38 = .ok (.laload, 1) := by decide +kernel
theorem dX10_unitsByLowest_39 : decode cX10_unitsByLowest 39 = .ok (.lstore_n 3, 1) := by decide +kernel
theorem dX10_unitsByLowest_40 : decode cX10_unitsByLowest 40 = .ok (.aload_n 0, 1) := by decide +kernel
theorem dX10_unitsByLowest_41 : decode cX10_unitsByLowest 41 = .ok (.getfield 36, 3) := by decide +kernel
theorem dX10_unitsByLowest_44 : decode cX10_unitsByLowest 44 = .ok (.getfield 358, 3) := by decide +kernel
theorem dX10_unitsByLowest_47 : decode cX10_unitsByLowest 47 = .ok (.iload_n 2, 1) := by decide +kernel
theorem dX10_unitsByLowest_48 : decode cX10_unitsByLowest 48 = .ok (.laload, 1) := by decide +kernel
theorem dX10_unitsByLowest_49 : decode cX10_unitsByLowest 49 = .ok (.lstore 5, 2) := by decide +kernel
theorem dX10_unitsByLowest_51 : decode cX10_unitsByLowest 51 = .ok (.lload_n 3, 1) := by decide +kernel
theorem dX10_unitsByLowest_52 : decode cX10_unitsByLowest 52 = .ok (.lload 5, 2) := by decide +kernel
theorem dX10_unitsByLowest_54 : decode cX10_unitsByLowest 54 = .ok (.invokestatic 364, 3) := by decide +kernel
theorem dX10_unitsByLowest_57 : decode cX10_unitsByLowest 57 = .ok (.lstore 7, 2) := by decide +kernel
theorem dX10_unitsByLowest_59 : decode cX10_unitsByLowest 59 = .ok (.lload 5, 2) := by decide +kernel
theorem dX10_unitsByLowest_61 : decode cX10_unitsByLowest 61 = .ok (.lload 7, 2) := by decide +kernel
theorem dX10_unitsByLowest_63 : decode cX10_unitsByLowest 63 = .ok (.invokestatic 194, 3) := by decide +kernel
theorem dX10_unitsByLowest_66 : decode cX10_unitsByLowest 66 = .ok (.lstore 9, 2) := by decide +kernel
theorem dX10_unitsByLowest_68 : decode cX10_unitsByLowest 68 = .ok (.lload_n 3, 1) := by decide +kernel
theorem dX10_unitsByLowest_69 : decode cX10_unitsByLowest 69 = .ok (.lload 7, 2) := by decide +kernel
theorem dX10_unitsByLowest_71 : decode cX10_unitsByLowest 71 = .ok (.invokestatic 194, 3) := by decide +kernel
theorem dX10_unitsByLowest_74 : decode cX10_unitsByLowest 74 = .ok (.lstore 11, 2) := by decide +kernel
theorem dX10_unitsByLowest_76 : decode cX10_unitsByLowest 76 = .ok (.ldc2_w 217, 3) := by decide +kernel
theorem dX10_unitsByLowest_79 : decode cX10_unitsByLowest 79 = .ok (.lload 11, 2) := by decide +kernel
theorem dX10_unitsByLowest_81 : decode cX10_unitsByLowest 81 = .ok (.invokestatic 194, 3) := by decide +kernel
theorem dX10_unitsByLowest_84 : decode cX10_unitsByLowest 84 = .ok (.lload 9, 2) := by decide +kernel
theorem dX10_unitsByLowest_86 : decode cX10_unitsByLowest 86 = .ok (.lmul, 1) := by decide +kernel
theorem dX10_unitsByLowest_87 : decode cX10_unitsByLowest 87 = .ok (.lreturn, 1) := by decide +kernel
set_option maxRecDepth 20000 in
theorem ggX10_unitsAgree_X10_unitsByChain : GoodIn wsX10_unitsAgree wsX10_unitsByChain := goodIn_ca (goodIn_r _ [7, 8, 1, 9, 10, 11, 12, 13, 14, 15, 16, 17, 18, 19, 20, 21, 22, 23, 24, 25, 26, 27, 28, 29, 30, 31, 32, 33, 34, 35, 36, 37, 38, 39, 40, 41, 42, 66, 67, 68, 69, 70, 71, 72, 73, 74, 75, 76, 77, 78, 96, 97, 98, 79, 80, 81, 82, 83, 84, 85, 86, 87, 88, 89, 90, 91, 92, 93, 94, 95] (by decide +kernel) (by decide +kernel)) (goodIn_sub (fun _ h => List.mem_cons_of_mem _ (List.mem_append_right _ h)) (by decide +kernel))
set_option maxRecDepth 20000 in
theorem gX10_unitsAgree_X10_unitsByChain : GoodIn wsX10_unitsAgree (wsV RX10 165 RX10 yX10_unitsByChain wsX10_unitsByChain) := goodIn_app (goodIn_of _ (by decide +kernel)) ggX10_unitsAgree_X10_unitsByChain
set_option maxRecDepth 20000 in
theorem ggX10_unitsAgree_X10_unitsByLowest : GoodIn wsX10_unitsAgree wsX10_unitsByLowest := goodIn_ca (goodIn_r _ [46, 8, 1, 9, 47, 10, 11, 12, 13, 14, 15, 16, 17, 18, 19, 20, 21, 22, 23, 24, 25, 26, 27, 28, 29, 30, 31, 32, 33, 34, 35, 36, 37, 38, 39, 40, 41, 42, 48, 49, 50, 51, 52, 53, 54, 55, 56, 57, 58, 59, 60, 61, 62, 63, 64, 65, 66, 67, 68, 69, 70, 71, 72, 73, 74, 75, 76, 77, 78, 96, 97, 98, 79, 80, 81, 82, 83, 84, 85, 86, 87, 88, 89, 90, 91, 92, 93, 94, 95] (by decide +kernel) (by decide +kernel)) (goodIn_sub (fun _ h => List.mem_cons_of_mem _ (List.mem_append_right _ h)) (by decide +kernel))
set_option maxRecDepth 20000 in
theorem gX10_unitsAgree_X10_unitsByLowest : GoodIn wsX10_unitsAgree (wsV RX10 169 RX10 yX10_unitsByLowest wsX10_unitsByLowest) := goodIn_app (goodIn_of _ (by decide +kernel)) ggX10_unitsAgree_X10_unitsByLowest
theorem dX10_unitsAgree_0 : decode cX10_unitsAgree 0 = .ok (.iconst 0, 1) := by decide +kernel
theorem dX10_unitsAgree_1 : decode cX10_unitsAgree 1 = .ok (.istore_n 1, 1) := by decide +kernel
theorem dX10_unitsAgree_2 : decode cX10_unitsAgree 2 = .ok (.iload_n 1, 1) := by decide +kernel
theorem dX10_unitsAgree_3 : decode cX10_unitsAgree 3 = .ok (.aload_n 0, 1) := by decide +kernel
theorem dX10_unitsAgree_4 : decode cX10_unitsAgree 4 = .ok (.getfield 12, 3) := by decide +kernel
theorem dX10_unitsAgree_7 : decode cX10_unitsAgree 7 = .ok (.getfield 129, 3) := by decide +kernel
theorem dX10_unitsAgree_10 : decode cX10_unitsAgree 10 = .ok (.if_icmp .ge 54, 3) := by decide +kernel
theorem dX10_unitsAgree_13 : decode cX10_unitsAgree 13 = .ok (.iconst 0, 1) := by decide +kernel
theorem dX10_unitsAgree_14 : decode cX10_unitsAgree 14 = .ok (.istore_n 2, 1) := by decide +kernel
theorem dX10_unitsAgree_15 : decode cX10_unitsAgree 15 = .ok (.iload_n 2, 1) := by decide +kernel
theorem dX10_unitsAgree_16 : decode cX10_unitsAgree 16 = .ok (.aload_n 0, 1) := by decide +kernel
theorem dX10_unitsAgree_17 : decode cX10_unitsAgree 17 = .ok (.getfield 12, 3) := by decide +kernel
theorem dX10_unitsAgree_20 : decode cX10_unitsAgree 20 = .ok (.getfield 129, 3) := by decide +kernel
theorem dX10_unitsAgree_23 : decode cX10_unitsAgree 23 = .ok (.if_icmp .ge 35, 3) := by decide +kernel
theorem dX10_unitsAgree_26 : decode cX10_unitsAgree 26 = .ok (.aload_n 0, 1) := by decide +kernel
theorem dX10_unitsAgree_27 : decode cX10_unitsAgree 27 = .ok (.iload_n 1, 1) := by decide +kernel
theorem dX10_unitsAgree_28 : decode cX10_unitsAgree 28 = .ok (.iload_n 2, 1) := by decide +kernel
theorem dX10_unitsAgree_29 : decode cX10_unitsAgree 29 = .ok (.invokevirtual 165, 3) := by decide +kernel
theorem dX10_unitsAgree_32 : decode cX10_unitsAgree 32 = .ok (.lstore_n 3, 1) := by decide +kernel
theorem dX10_unitsAgree_33 : decode cX10_unitsAgree 33 = .ok (.lload_n 3, 1) := by decide +kernel
theorem dX10_unitsAgree_34 : decode cX10_unitsAgree 34 = .ok (.lconst 0, 1) := by decide +kernel
theorem dX10_unitsAgree_35 : decode cX10_unitsAgree 35 = .ok (.lcmp, 1) := by decide +kernel
theorem dX10_unitsAgree_36 : decode cX10_unitsAgree 36 = .ok (.ifCond .eq 16, 3) := by decide +kernel
theorem dX10_unitsAgree_39 : decode cX10_unitsAgree 39 = .ok (.lload_n 3, 1) := by decide +kernel
theorem dX10_unitsAgree_40 : decode cX10_unitsAgree 40 = .ok (.aload_n 0, 1) := by decide +kernel
theorem dX10_unitsAgree_41 : decode cX10_unitsAgree 41 = .ok (.iload_n 1, 1) := by decide +kernel
theorem dX10_unitsAgree_42 : decode cX10_unitsAgree 42 = .ok (.iload_n 2, 1) := by decide +kernel
theorem dX10_unitsAgree_43 : decode cX10_unitsAgree 43 = .ok (.invokevirtual 169, 3) := by decide +kernel
theorem dX10_unitsAgree_46 : decode cX10_unitsAgree 46 = .ok (.lcmp, 1) := by decide +kernel
theorem dX10_unitsAgree_47 : decode cX10_unitsAgree 47 = .ok (.ifCond .eq 5, 3) := by decide +kernel
theorem dX10_unitsAgree_50 : decode cX10_unitsAgree 50 = .ok (.iconst 0, 1) := by decide +kernel
theorem dX10_unitsAgree_51 : decode cX10_unitsAgree 51 = .ok (.ireturn, 1) := by decide +kernel
theorem dX10_unitsAgree_52 : decode cX10_unitsAgree 52 = .ok (.iinc 2 1, 3) := by decide +kernel
theorem dX10_unitsAgree_55 : decode cX10_unitsAgree 55 = .ok (.goto (-40), 3) := by decide +kernel
theorem dX10_unitsAgree_58 : decode cX10_unitsAgree 58 = .ok (.iinc 1 1, 3) := by decide +kernel
theorem dX10_unitsAgree_61 : decode cX10_unitsAgree 61 = .ok (.goto (-59), 3) := by decide +kernel
theorem dX10_unitsAgree_64 : decode cX10_unitsAgree 64 = .ok (.iconst 1, 1) := by decide +kernel
theorem dX10_unitsAgree_65 : decode cX10_unitsAgree 65 = .ok (.ireturn, 1) := by decide +kernel
set_option maxRecDepth 20000 in
theorem ggX10_carryOut_Jx29ce0_ordinal_8abf5 : GoodIn wsX10_carryOut wsJx29ce0_ordinal_8abf5 := goodIn_r _ [12, 13] (by decide +kernel) (by decide +kernel)
set_option maxRecDepth 20000 in
theorem ggX10_carryOut_X1_putGear : GoodIn wsX10_carryOut wsX1_putGear := goodIn_ca (goodIn_r _ [18, 19, 20, 21, 22, 23, 17, 24, 208, 209, 210, 211, 212, 213, 214, 215, 216, 217, 218, 219, 220, 221, 222, 223, 224, 225, 226] (by decide +kernel) (by decide +kernel)) (goodIn_sub (fun _ h => List.mem_cons_of_mem _ (List.mem_append_right _ h)) (by decide +kernel))
set_option maxRecDepth 20000 in
theorem gX10_carryOut_X1_putGear : GoodIn wsX10_carryOut (wsV RX10 89 RX1 yX1_putGear wsX1_putGear) := goodIn_app (goodIn_of _ (by decide +kernel)) ggX10_carryOut_X1_putGear
set_option maxRecDepth 20000 in
theorem ggX10_carryOut_X1_join : GoodIn wsX10_carryOut wsX1_join := goodIn_ca (goodIn_r _ [28, 19, 29, 30, 31, 32, 33, 34, 35, 36, 37, 38, 39, 40, 41, 42, 43, 44, 45, 46, 47, 48, 49, 50, 51, 52, 53, 54, 55, 56, 57, 58, 59, 60, 61, 62, 63, 64, 65, 66, 67, 68, 69, 70, 71, 72, 73, 74, 75, 76, 77, 78, 79, 80, 81, 82, 83, 84, 85, 86, 87, 88, 89, 90, 91, 208, 209, 210, 211, 212, 213, 214, 215, 216, 217, 218, 219, 220, 221, 222, 223, 224, 225, 226, 227, 228, 229] (by decide +kernel) (by decide +kernel)) (goodIn_sub (fun _ h => List.mem_cons_of_mem _ (List.mem_append_right _ h)) (by decide +kernel))
set_option maxRecDepth 20000 in
theorem gX10_carryOut_X1_join : GoodIn wsX10_carryOut (wsV RX10 96 RX1 yX1_join wsX1_join) := goodIn_app (goodIn_of _ (by decide +kernel)) ggX10_carryOut_X1_join
set_option maxRecDepth 20000 in
theorem ggX10_carryOut_X1_cut : GoodIn wsX10_carryOut wsX1_cut := goodIn_ca (goodIn_r _ [95, 19, 30, 34, 35, 36, 37, 38, 39, 86, 55, 56, 57, 58, 88, 89, 90, 91, 208, 209, 210, 211, 212, 213, 214, 215, 216, 217, 218, 219, 220, 221, 222, 223, 224, 225, 226] (by decide +kernel) (by decide +kernel)) (goodIn_sub (fun _ h => List.mem_cons_of_mem _ (List.mem_append_right _ h)) (by decide +kernel))
set_option maxRecDepth 20000 in
theorem gX10_carryOut_X1_cut : GoodIn wsX10_carryOut (wsV RX10 100 RX1 yX1_cut wsX1_cut) := goodIn_app (goodIn_of _ (by decide +kernel)) ggX10_carryOut_X1_cut
set_option maxRecDepth 20000 in
theorem ggX10_carryOut_X1_putSpring : GoodIn wsX10_carryOut wsX1_putSpring := goodIn_ca (goodIn_r _ [99, 19, 29, 100, 34, 35, 36, 37, 38, 39, 40, 41, 42, 43, 44, 45, 46, 47, 48, 49, 50, 51, 52, 53, 54, 55, 56, 57, 58, 59, 60, 61, 62, 63, 64, 65, 66, 67, 68, 69, 70, 71, 72, 73, 74, 75, 76, 77, 78, 79, 80, 81, 82, 83, 84, 101, 102, 103, 104, 105, 208, 209, 210, 211, 212, 213, 214, 215, 216, 217, 218, 219, 220, 221, 222, 223, 224, 225, 226, 227, 228, 229] (by decide +kernel) (by decide +kernel)) (goodIn_sub (fun _ h => List.mem_cons_of_mem _ (List.mem_append_right _ h)) (by decide +kernel))
set_option maxRecDepth 20000 in
theorem gX10_carryOut_X1_putSpring : GoodIn wsX10_carryOut (wsV RX10 104 RX1 yX1_putSpring wsX1_putSpring) := goodIn_app (goodIn_of _ (by decide +kernel)) ggX10_carryOut_X1_putSpring
set_option maxRecDepth 20000 in
theorem ggX10_carryOut_X1_tighten : GoodIn wsX10_carryOut wsX1_tighten := goodIn_ca (goodIn_r _ [109, 19, 110, 100, 111, 34, 35, 36, 37, 38, 39, 112, 81, 82, 83, 84, 208, 209, 210, 211, 212, 213, 214, 215, 216, 217, 218, 219, 220, 221, 222, 223, 224, 225, 226] (by decide +kernel) (by decide +kernel)) (goodIn_sub (fun _ h => List.mem_cons_of_mem _ (List.mem_append_right _ h)) (by decide +kernel))
set_option maxRecDepth 20000 in
theorem gX10_carryOut_X1_tighten : GoodIn wsX10_carryOut (wsV RX10 107 RX1 yX1_tighten wsX1_tighten) := goodIn_app (goodIn_of _ (by decide +kernel)) ggX10_carryOut_X1_tighten
set_option maxRecDepth 20000 in
theorem ggX10_carryOut_X1_turnRound : GoodIn wsX10_carryOut wsX1_turnRound := goodIn_ca (goodIn_r _ [116, 19, 117, 34, 35, 36, 37, 38, 39, 112, 81, 82, 83, 84, 208, 209, 210, 211, 212, 213, 214, 215, 216, 217, 218, 219, 220, 221, 222, 223, 224, 225, 226] (by decide +kernel) (by decide +kernel)) (goodIn_sub (fun _ h => List.mem_cons_of_mem _ (List.mem_append_right _ h)) (by decide +kernel))
set_option maxRecDepth 20000 in
theorem gX10_carryOut_X1_turnRound : GoodIn wsX10_carryOut (wsV RX10 110 RX1 yX1_turnRound wsX1_turnRound) := goodIn_app (goodIn_of _ (by decide +kernel)) ggX10_carryOut_X1_turnRound
set_option maxRecDepth 20000 in
theorem ggX10_carryOut_X1_letGo : GoodIn wsX10_carryOut wsX1_letGo := goodIn_ca (goodIn_r _ [121, 19, 29, 110, 122, 123, 124, 125, 126, 127, 117, 34, 35, 36, 37, 38, 39, 112, 81, 82, 83, 84, 40, 41, 42, 43, 44, 45, 46, 47, 48, 49, 50, 51, 52, 53, 54, 55, 56, 57, 58, 59, 60, 61, 62, 63, 64, 65, 66, 67, 68, 69, 70, 71, 128, 129, 130, 131, 132, 133, 134, 135, 136, 137, 138, 76, 77, 78, 79, 139, 140, 141, 142, 17, 143, 20, 31, 144, 32, 145, 146, 147, 148, 149, 150, 151, 152, 153, 154, 155, 156, 157, 158, 159, 160, 208, 209, 210, 211, 212, 213, 214, 215, 216, 217, 218, 219, 220, 221, 222, 223, 224, 225, 226, 227, 228, 229] (by decide +kernel) (by decide +kernel)) (goodIn_sub (fun _ h => List.mem_cons_of_mem _ (List.mem_append_right _ h)) (by decide +kernel))
set_option maxRecDepth 20000 in
theorem gX10_carryOut_X1_letGo : GoodIn wsX10_carryOut (wsV RX10 113 RX1 yX1_letGo wsX1_letGo) := goodIn_app (goodIn_of _ (by decide +kernel)) ggX10_carryOut_X1_letGo
set_option maxRecDepth 20000 in
theorem ggX10_carryOut_X1_putRatchet : GoodIn wsX10_carryOut wsX1_putRatchet := goodIn_ca (goodIn_r _ [164, 19, 165, 34, 35, 36, 37, 38, 39, 208, 209, 210, 211, 212, 213, 214, 215, 216, 217, 218, 219, 220, 221, 222, 223, 224, 225, 226] (by decide +kernel) (by decide +kernel)) (goodIn_sub (fun _ h => List.mem_cons_of_mem _ (List.mem_append_right _ h)) (by decide +kernel))
set_option maxRecDepth 20000 in
theorem gX10_carryOut_X1_putRatchet : GoodIn wsX10_carryOut (wsV RX10 116 RX1 yX1_putRatchet wsX1_putRatchet) := goodIn_app (goodIn_of _ (by decide +kernel)) ggX10_carryOut_X1_putRatchet
set_option maxRecDepth 20000 in
theorem ggX10_carryOut_X1_putOil : GoodIn wsX10_carryOut wsX1_putOil := goodIn_ca (goodIn_r _ [169, 19, 145, 170, 146, 34, 35, 36, 37, 38, 39, 208, 209, 210, 211, 212, 213, 214, 215, 216, 217, 218, 219, 220, 221, 222, 223, 224, 225, 226] (by decide +kernel) (by decide +kernel)) (goodIn_sub (fun _ h => List.mem_cons_of_mem _ (List.mem_append_right _ h)) (by decide +kernel))
set_option maxRecDepth 20000 in
theorem gX10_carryOut_X1_putOil : GoodIn wsX10_carryOut (wsV RX10 120 RX1 yX1_putOil wsX1_putOil) := goodIn_app (goodIn_of _ (by decide +kernel)) ggX10_carryOut_X1_putOil
set_option maxRecDepth 20000 in
theorem ggX10_carryOut_X1_addDrops : GoodIn wsX10_carryOut wsX1_addDrops := goodIn_r _ [174, 19, 170, 208, 209, 210, 211, 212, 213, 214, 215, 216, 217, 218, 219, 220, 221, 222, 223, 224, 225, 226] (by decide +kernel) (by decide +kernel)
set_option maxRecDepth 20000 in
theorem gX10_carryOut_X1_addDrops : GoodIn wsX10_carryOut (wsV RX10 123 RX1 yX1_addDrops wsX1_addDrops) := goodIn_app (goodIn_of _ (by decide +kernel)) ggX10_carryOut_X1_addDrops
set_option maxRecDepth 20000 in
theorem ggX10_carryOut_X1_putPlanet : GoodIn wsX10_carryOut wsX1_putPlanet := goodIn_ca (goodIn_r _ [178, 19, 179, 180, 34, 35, 36, 37, 38, 39, 181, 182, 183, 184, 185, 186, 208, 209, 210, 211, 212, 213, 214, 215, 216, 217, 218, 219, 220, 221, 222, 223, 224, 225, 226] (by decide +kernel) (by decide +kernel)) (goodIn_sub (fun _ h => List.mem_cons_of_mem _ (List.mem_append_right _ h)) (by decide +kernel))
set_option maxRecDepth 20000 in
theorem gX10_carryOut_X1_putPlanet : GoodIn wsX10_carryOut (wsV RX10 126 RX1 yX1_putPlanet wsX1_putPlanet) := goodIn_app (goodIn_of _ (by decide +kernel)) ggX10_carryOut_X1_putPlanet
theorem dX10_carryOut_0 : decode cX10_carryOut 0 = .ok (.aload_n 0, 1) := by decide +kernel
theorem dX10_carryOut_1 : decode cX10_carryOut 1 = .ok (.getfield 68, 3) := by decide +kernel
theorem dX10_carryOut_4 : decode cX10_carryOut 4 = .ok (.getfield 367, 3) := by decide +kernel
theorem dX10_carryOut_7 : decode cX10_carryOut 7 = .ok (.iload_n 1, 1) := by decide +kernel
theorem dX10_carryOut_8 : decode cX10_carryOut 8 = .ok (.aaload, 1) := by decide +kernel
theorem dX10_carryOut_9 : decode cX10_carryOut 9 = .ok (.astore_n 2, 1) := by decide +kernel
theorem dX10_carryOut_10 : decode cX10_carryOut 10 = .ok (.aload_n 0, 1) := by decide +kernel
theorem dX10_carryOut_11 : decode cX10_carryOut 11 = .ok (.getfield 68, 3) := by decide +kernel
theorem dX10_carryOut_14 : decode cX10_carryOut 14 = .ok (.getfield 371, 3) := by decide +kernel
theorem dX10_carryOut_17 : decode cX10_carryOut 17 = .ok (.iload_n 1, 1) := by decide +kernel
theorem dX10_carryOut_18 : decode cX10_carryOut 18 = .ok (.iaload, 1) := by decide +kernel
theorem dX10_carryOut_19 : decode cX10_carryOut 19 = .ok (.istore_n 3, 1) := by decide +kernel
theorem dX10_carryOut_20 : decode cX10_carryOut 20 = .ok (.aload_n 0, 1) := by decide +kernel
theorem dX10_carryOut_21 : decode cX10_carryOut 21 = .ok (.getfield 68, 3) := by decide +kernel
theorem dX10_carryOut_24 : decode cX10_carryOut 24 = .ok (.getfield 374, 3) := by decide +kernel
theorem dX10_carryOut_27 : decode cX10_carryOut 27 = .ok (.iload_n 1, 1) := by decide +kernel
theorem dX10_carryOut_28 : decode cX10_carryOut 28 = .ok (.iaload, 1) := by decide +kernel
theorem dX10_carryOut_29 : decode cX10_carryOut 29 = .ok (.istore 4, 2) := by decide +kernel
theorem dX10_carryOut_31 : decode cX10_carryOut 31 = .ok (.aload_n 2, 1) := by decide +kernel
theorem dX10_carryOut_32 : decode cX10_carryOut 32 = .ok (.ifnonnull 6, 3) := by decide +kernel
theorem dX10_carryOut_35 : decode cX10_carryOut 35 = .ok (.bipush (-3), 2) := by decide +kernel
theorem dX10_carryOut_37 : decode cX10_carryOut 37 = .ok (.ireturn, 1) := by decide +kernel
theorem dX10_carryOut_38 : decode cX10_carryOut 38 = .ok (.getstatic 377, 3) := by decide +kernel
theorem dX10_carryOut_41 : decode cX10_carryOut 41 = .ok (.aload_n 2, 1) := by decide +kernel
theorem dX10_carryOut_42 : decode cX10_carryOut 42 = .ok (.invokevirtual 382, 3) := by decide +kernel
theorem dX10_carryOut_45 : decode cX10_carryOut 45 = .ok (.iaload, 1) := by decide +kernel
theorem dX10_carryOut_46 : decode cX10_carryOut 46 = .ok (.tableswitch 201 1 13 #[66, 75, 88, 101, 112, 123, 134, 143, 154, 164, 174, 183, 192], 66) := by decide +kernel
theorem dX10_carryOut_112 : decode cX10_carryOut 112 = .ok (.aload_n 0, 1) := by decide +kernel
theorem dX10_carryOut_113 : decode cX10_carryOut 113 = .ok (.getfield 45, 3) := by decide +kernel
theorem dX10_carryOut_116 : decode cX10_carryOut 116 = .ok (.iload_n 3, 1) := by decide +kernel
theorem dX10_carryOut_117 : decode cX10_carryOut 117 = .ok (.invokevirtual 89, 3) := by decide +kernel
theorem dX10_carryOut_120 : decode cX10_carryOut 120 = .ok (.ireturn, 1) := by decide +kernel
theorem dX10_carryOut_121 : decode cX10_carryOut 121 = .ok (.aload_n 0, 1) := by decide +kernel
theorem dX10_carryOut_122 : decode cX10_carryOut 122 = .ok (.getfield 45, 3) := by decide +kernel
theorem dX10_carryOut_125 : decode cX10_carryOut 125 = .ok (.iload_n 3, 1) := by decide +kernel
theorem dX10_carryOut_126 : decode cX10_carryOut 126 = .ok (.iload 4, 2) := by decide +kernel
theorem dX10_carryOut_128 : decode cX10_carryOut 128 = .ok (.bipush 109, 2) := by decide +kernel
theorem dX10_carryOut_130 : decode cX10_carryOut 130 = .ok (.invokevirtual 96, 3) := by decide +kernel
theorem dX10_carryOut_133 : decode cX10_carryOut 133 = .ok (.ireturn, 1) := by decide +kernel
theorem dX10_carryOut_134 : decode cX10_carryOut 134 = .ok (.aload_n 0, 1) := by decide +kernel
theorem dX10_carryOut_135 : decode cX10_carryOut 135 = .ok (.getfield 45, 3) := by decide +kernel
theorem dX10_carryOut_138 : decode cX10_carryOut 138 = .ok (.iload_n 3, 1) := by decide +kernel
theorem dX10_carryOut_139 : decode cX10_carryOut 139 = .ok (.iload 4, 2) := by decide +kernel
theorem dX10_carryOut_141 : decode cX10_carryOut 141 = .ok (.bipush 97, 2) := by decide +kernel
theorem dX10_carryOut_143 : decode cX10_carryOut 143 = .ok (.invokevirtual 96, 3) := by decide +kernel
theorem dX10_carryOut_146 : decode cX10_carryOut 146 = .ok (.ireturn, 1) := by decide +kernel
theorem dX10_carryOut_147 : decode cX10_carryOut 147 = .ok (.aload_n 0, 1) := by decide +kernel
theorem dX10_carryOut_148 : decode cX10_carryOut 148 = .ok (.getfield 45, 3) := by decide +kernel
theorem dX10_carryOut_151 : decode cX10_carryOut 151 = .ok (.iload_n 3, 1) := by decide +kernel
theorem dX10_carryOut_152 : decode cX10_carryOut 152 = .ok (.iload 4, 2) := by decide +kernel
theorem dX10_carryOut_154 : decode cX10_carryOut 154 = .ok (.invokevirtual 100, 3) := by decide +kernel
theorem dX10_carryOut_157 : decode cX10_carryOut 157 = .ok (.ireturn, 1) := by decide +kernel
theorem dX10_carryOut_158 : decode cX10_carryOut 158 = .ok (.aload_n 0, 1) := by decide +kernel
theorem dX10_carryOut_159 : decode cX10_carryOut 159 = .ok (.getfield 45, 3) := by decide +kernel
theorem dX10_carryOut_162 : decode cX10_carryOut 162 = .ok (.iload_n 3, 1) := by decide +kernel
theorem dX10_carryOut_163 : decode cX10_carryOut 163 = .ok (.iload 4, 2) := by decide +kernel
theorem dX10_carryOut_165 : decode cX10_carryOut 165 = .ok (.invokevirtual 104, 3) := by decide +kernel
theorem dX10_carryOut_168 : decode cX10_carryOut 168 = .ok (.ireturn, 1) := by decide +kernel
theorem dX10_carryOut_169 : decode cX10_carryOut 169 = .ok (.aload_n 0, 1) := by decide +kernel
theorem dX10_carryOut_170 : decode cX10_carryOut 170 = .ok (.getfield 45, 3) := by decide +kernel
theorem dX10_carryOut_173 : decode cX10_carryOut 173 = .ok (.iload_n 3, 1) := by decide +kernel
theorem dX10_carryOut_174 : decode cX10_carryOut 174 = .ok (.iload 4, 2) := by decide +kernel
theorem dX10_carryOut_176 : decode cX10_carryOut 176 = .ok (.invokevirtual 107, 3) := by decide +kernel
theorem dX10_carryOut_179 : decode cX10_carryOut 179 = .ok (.ireturn, 1) := by decide +kernel
theorem dX10_carryOut_180 : decode cX10_carryOut 180 = .ok (.aload_n 0, 1) := by decide +kernel
theorem dX10_carryOut_181 : decode cX10_carryOut 181 = .ok (.getfield 45, 3) := by decide +kernel
theorem dX10_carryOut_184 : decode cX10_carryOut 184 = .ok (.iload_n 3, 1) := by decide +kernel
theorem dX10_carryOut_185 : decode cX10_carryOut 185 = .ok (.invokevirtual 110, 3) := by decide +kernel
theorem dX10_carryOut_188 : decode cX10_carryOut 188 = .ok (.ireturn, 1) := by decide +kernel
theorem dX10_carryOut_189 : decode cX10_carryOut 189 = .ok (.aload_n 0, 1) := by decide +kernel
theorem dX10_carryOut_190 : decode cX10_carryOut 190 = .ok (.getfield 45, 3) := by decide +kernel
theorem dX10_carryOut_193 : decode cX10_carryOut 193 = .ok (.iload_n 3, 1) := by decide +kernel
theorem dX10_carryOut_194 : decode cX10_carryOut 194 = .ok (.iload 4, 2) := by decide +kernel
theorem dX10_carryOut_196 : decode cX10_carryOut 196 = .ok (.invokevirtual 113, 3) := by decide +kernel
theorem dX10_carryOut_199 : decode cX10_carryOut 199 = .ok (.ireturn, 1) := by decide +kernel
theorem dX10_carryOut_200 : decode cX10_carryOut 200 = .ok (.aload_n 0, 1) := by decide +kernel
theorem dX10_carryOut_201 : decode cX10_carryOut 201 = .ok (.getfield 45, 3) := by decide +kernel
theorem dX10_carryOut_204 : decode cX10_carryOut 204 = .ok (.iload_n 3, 1) := by decide +kernel
theorem dX10_carryOut_205 : decode cX10_carryOut 205 = .ok (.iconst 1, 1) := by decide +kernel
theorem dX10_carryOut_206 : decode cX10_carryOut 206 = .ok (.invokevirtual 116, 3) := by decide +kernel
theorem dX10_carryOut_209 : decode cX10_carryOut 209 = .ok (.ireturn, 1) := by decide +kernel
theorem dX10_carryOut_210 : decode cX10_carryOut 210 = .ok (.aload_n 0, 1) := by decide +kernel
theorem dX10_carryOut_211 : decode cX10_carryOut 211 = .ok (.getfield 45, 3) := by decide +kernel
theorem dX10_carryOut_214 : decode cX10_carryOut 214 = .ok (.iload_n 3, 1) := by decide +kernel
theorem dX10_carryOut_215 : decode cX10_carryOut 215 = .ok (.iconst 0, 1) := by decide +kernel
theorem dX10_carryOut_216 : decode cX10_carryOut 216 = .ok (.invokevirtual 116, 3) := by decide +kernel
theorem dX10_carryOut_219 : decode cX10_carryOut 219 = .ok (.ireturn, 1) := by decide +kernel
theorem dX10_carryOut_220 : decode cX10_carryOut 220 = .ok (.aload_n 0, 1) := by decide +kernel
theorem dX10_carryOut_221 : decode cX10_carryOut 221 = .ok (.getfield 45, 3) := by decide +kernel
theorem dX10_carryOut_224 : decode cX10_carryOut 224 = .ok (.iload_n 3, 1) := by decide +kernel
theorem dX10_carryOut_225 : decode cX10_carryOut 225 = .ok (.invokevirtual 120, 3) := by decide +kernel
theorem dX10_carryOut_228 : decode cX10_carryOut 228 = .ok (.ireturn, 1) := by decide +kernel
theorem dX10_carryOut_229 : decode cX10_carryOut 229 = .ok (.aload_n 0, 1) := by decide +kernel
theorem dX10_carryOut_230 : decode cX10_carryOut 230 = .ok (.getfield 45, 3) := by decide +kernel
theorem dX10_carryOut_233 : decode cX10_carryOut 233 = .ok (.iload_n 3, 1) := by decide +kernel
theorem dX10_carryOut_234 : decode cX10_carryOut 234 = .ok (.invokevirtual 123, 3) := by decide +kernel
theorem dX10_carryOut_237 : decode cX10_carryOut 237 = .ok (.ireturn, 1) := by decide +kernel
theorem dX10_carryOut_238 : decode cX10_carryOut 238 = .ok (.aload_n 0, 1) := by decide +kernel
theorem dX10_carryOut_239 : decode cX10_carryOut 239 = .ok (.getfield 45, 3) := by decide +kernel
theorem dX10_carryOut_242 : decode cX10_carryOut 242 = .ok (.iload_n 3, 1) := by decide +kernel
theorem dX10_carryOut_243 : decode cX10_carryOut 243 = .ok (.invokevirtual 126, 3) := by decide +kernel
theorem dX10_carryOut_246 : decode cX10_carryOut 246 = .ok (.ireturn, 1) := by decide +kernel
theorem dX10_carryOut_247 : decode cX10_carryOut 247 = .ok (.bipush (-3), 2) := by decide +kernel
theorem dX10_carryOut_249 : decode cX10_carryOut 249 = .ok (.ireturn, 1) := by decide +kernel
