theorem dX1_init_0 : decode cX1_init 0 = .ok (.aload_n 0, 1) := by decide +kernel
theorem dX1_init_1 : decode cX1_init 1 = .ok (.invokespecial 3, 3) := by decide +kernel
theorem dX1_init_4 : decode cX1_init 4 = .ok (.aload_n 0, 1) := by decide +kernel
theorem dX1_init_5 : decode cX1_init 5 = .ok (.aload_n 1, 1) := by decide +kernel
theorem dX1_init_6 : decode cX1_init 6 = .ok (.putfield 9, 3) := by decide +kernel
theorem dX1_init_9 : decode cX1_init 9 = .ok (.aload_n 0, 1) := by decide +kernel
theorem dX1_init_10 : decode cX1_init 10 = .ok (.aload_n 2, 1) := by decide +kernel
theorem dX1_init_11 : decode cX1_init 11 = .ok (.putfield 15, 3) := by decide +kernel
theorem dX1_init_14 : decode cX1_init 14 = .ok (.return_, 1) := by decide +kernel
set_option maxRecDepth 20000 in
theorem ggX1_putGear_X1_isToothNumber : GoodIn wsX1_putGear wsX1_isToothNumber := goodIn_ca (goodIn_r _ [7] (by decide +kernel) (by decide +kernel)) (goodIn_sub (fun _ h => List.mem_cons_of_mem _ (List.mem_append_right _ h)) (by decide +kernel))
set_option maxRecDepth 20000 in
theorem gX1_putGear_X1_isToothNumber : GoodIn wsX1_putGear (va_wsS RX1 19 yX1_isToothNumber wsX1_isToothNumber) := goodIn_app (goodIn_of _ (by decide +kernel)) ggX1_putGear_X1_isToothNumber
theorem dX1_putGear_0 : decode cX1_putGear 0 = .ok (.iload_n 1, 1) := by decide +kernel
theorem dX1_putGear_1 : decode cX1_putGear 1 = .ok (.invokestatic 19, 3) := by decide +kernel
theorem dX1_putGear_4 : decode cX1_putGear 4 = .ok (.ifCond .ne 6, 3) := by decide +kernel
theorem dX1_putGear_7 : decode cX1_putGear 7 = .ok (.bipush (-2), 2) := by decide +kernel
theorem dX1_putGear_9 : decode cX1_putGear 9 = .ok (.ireturn, 1) := by decide +kernel
theorem dX1_putGear_10 : decode cX1_putGear 10 = .ok (.aload_n 0, 1) := by decide +kernel
theorem dX1_putGear_11 : decode cX1_putGear 11 = .ok (.getfield 9, 3) := by decide +kernel
theorem dX1_putGear_14 : decode cX1_putGear 14 = .ok (.getfield 23, 3) := by decide +kernel
theorem dX1_putGear_17 : decode cX1_putGear 17 = .ok (.bipush 10, 2) := by decide +kernel
theorem dX1_putGear_19 : decode cX1_putGear 19 = .ok (.if_icmp .lt 6, 3) := by decide +kernel
theorem dX1_putGear_22 : decode cX1_putGear 22 = .ok (.bipush (-3), 2) := by decide +kernel
theorem dX1_putGear_24 : decode cX1_putGear 24 = .ok (.ireturn, 1) := by decide +kernel
theorem dX1_putGear_25 : decode cX1_putGear 25 = .ok (.aload_n 0, 1) := by decide +kernel
theorem dX1_putGear_26 : decode cX1_putGear 26 = .ok (.getfield 9, 3) := by decide +kernel
theorem dX1_putGear_29 : decode cX1_putGear 29 = .ok (.getfield 23, 3) := by decide +kernel
theorem dX1_putGear_32 : decode cX1_putGear 32 = .ok (.istore_n 2, 1) := by decide +kernel
theorem dX1_putGear_33 : decode cX1_putGear 33 = .ok (.aload_n 0, 1) := by decide +kernel
theorem dX1_putGear_34 : decode cX1_putGear 34 = .ok (.getfield 9, 3) := by decide +kernel
theorem dX1_putGear_37 : decode cX1_putGear 37 = .ok (.getfield 29, 3) := by decide +kernel
theorem dX1_putGear_40 : decode cX1_putGear 40 = .ok (.iload_n 2, 1) := by decide +kernel
theorem dX1_putGear_41 : decode cX1_putGear 41 = .ok (.iload_n 1, 1) := by decide +kernel
theorem dX1_putGear_42 : decode cX1_putGear 42 = .ok (.iastore, 1) := by decide +kernel
theorem dX1_putGear_43 : decode cX1_putGear 43 = .ok (.aload_n 0, 1) := by decide +kernel
theorem dX1_putGear_44 : decode cX1_putGear 44 = .ok (.getfield 9, 3) := by decide +kernel
theorem dX1_putGear_47 : decode cX1_putGear 47 = .ok (.iload_n 2, 1) := by decide +kernel
theorem dX1_putGear_48 : decode cX1_putGear 48 = .ok (.iconst 1, 1) := by decide +kernel
theorem dX1_putGear_49 : decode cX1_putGear 49 = .ok (.iadd, 1) := by decide +kernel
theorem dX1_putGear_50 : decode cX1_putGear 50 = .ok (.putfield 23, 3) := by decide +kernel
theorem dX1_putGear_53 : decode cX1_putGear 53 = .ok (.iload_n 2, 1) := by decide +kernel
theorem dX1_putGear_54 : decode cX1_putGear 54 = .ok (.ireturn, 1) := by decide +kernel
theorem dX1_isToothNumber_0 : decode cX1_isToothNumber 0 = .ok (.getstatic 33, 3) := by decide +kernel
theorem dX1_isToothNumber_3 : decode cX1_isToothNumber 3 = .ok (.astore_n 1, 1) := by decide +kernel
theorem dX1_isToothNumber_4 : decode cX1_isToothNumber 4 = .ok (.aload_n 1, 1) := by decide +kernel
theorem dX1_isToothNumber_5 : decode cX1_isToothNumber 5 = .ok (.arraylength, 1) := by decide +kernel
theorem dX1_isToothNumber_6 : decode cX1_isToothNumber 6 = .ok (.istore_n 2, 1) := by decide +kernel
theorem dX1_isToothNumber_7 : decode cX1_isToothNumber 7 = .ok (.iconst 0, 1) := by decide +kernel
theorem dX1_isToothNumber_8 : decode cX1_isToothNumber 8 = .ok (.istore_n 3, 1) := by decide +kernel
theorem dX1_isToothNumber_9 : decode cX1_isToothNumber 9 = .ok (.iload_n 3, 1) := by decide +kernel
theorem dX1_isToothNumber_10 : decode cX1_isToothNumber 10 = .ok (.iload_n 2, 1) := by decide +kernel
theorem dX1_isToothNumber_11 : decode cX1_isToothNumber 11 = .ok (.if_icmp .ge 22, 3) := by decide +kernel
theorem dX1_isToothNumber_14 : decode cX1_isToothNumber 14 = .ok (.aload_n 1, 1) := by decide +kernel
theorem dX1_isToothNumber_15 : decode cX1_isToothNumber 15 = .ok (.iload_n 3, 1) := by decide +kernel
theorem dX1_isToothNumber_16 : decode cX1_isToothNumber 16 = .ok (.iaload, 1) := by decide +kernel
theorem dX1_isToothNumber_17 : decode cX1_isToothNumber 17 = .ok (.istore 4, 2) := by decide +kernel
theorem dX1_isToothNumber_19 : decode cX1_isToothNumber 19 = .ok (.iload 4, 2) := by decide +kernel
theorem dX1_isToothNumber_21 : decode cX1_isToothNumber 21 = .ok (.iload_n 0, 1) := by decide +kernel
theorem dX1_isToothNumber_22 : decode cX1_isToothNumber 22 = .ok (.if_icmp .ne 5, 3) := by decide +kernel
theorem dX1_isToothNumber_25 : decode cX1_isToothNumber 25 = .ok (.iconst 1, 1) := by decide +kernel
theorem dX1_isToothNumber_26 : decode cX1_isToothNumber 26 = .ok (.ireturn, 1) := by decide +kernel
theorem dX1_isToothNumber_27 : decode cX1_isToothNumber 27 = .ok (.iinc 3 1, 3) := by decide +kernel
theorem dX1_isToothNumber_30 : decode cX1_isToothNumber 30 = .ok (.goto (-21), 3) := by decide +kernel
theorem dX1_isToothNumber_33 : decode cX1_isToothNumber 33 = .ok (.iconst 0, 1) := by decide +kernel
theorem dX1_isToothNumber_34 : decode cX1_isToothNumber 34 = .ok (.ireturn, 1) := by decide +kernel
set_option maxRecDepth 20000 in
theorem ggX1_join_X7_isGear : GoodIn wsX1_join wsX7_isGear := goodIn_r _ [11, 12, 67, 68, 69, 70, 71, 72, 73, 74, 75, 76, 77, 78, 79, 80, 81, 82, 83] (by decide +kernel) (by decide +kernel)
set_option maxRecDepth 20000 in
theorem gX1_join_X7_isGear : GoodIn wsX1_join (wsV RX1 36 RX7 yX7_isGear wsX7_isGear) := goodIn_app (goodIn_of _ (by decide +kernel)) ggX1_join_X7_isGear
set_option maxRecDepth 20000 in
theorem ggX1_join_X8_trace : GoodIn wsX1_join wsX8_trace := goodIn_ca (goodIn_r _ [17, 18, 19, 20, 21, 22, 23, 24, 25, 16, 26, 27, 28, 29, 10, 30, 31, 32, 33, 34, 35, 36, 37, 38, 39, 40, 41, 42, 43, 44, 84, 85, 86, 67, 68, 69, 70, 71, 72, 73, 74, 75, 76, 77, 78, 79, 80, 81, 82, 83] (by decide +kernel) (by decide +kernel)) (goodIn_sub (fun _ h => List.mem_cons_of_mem _ (List.mem_append_right _ h)) (by decide +kernel))
set_option maxRecDepth 20000 in
theorem gX1_join_X8_trace : GoodIn wsX1_join (wsV RX1 39 RX8 yX8_trace wsX8_trace) := goodIn_app (goodIn_of _ (by decide +kernel)) ggX1_join_X8_trace
set_option maxRecDepth 20000 in
theorem ggX1_join_X8_springGear : GoodIn wsX1_join wsX8_springGear := goodIn_ca (goodIn_r _ [48, 22, 49, 50, 51, 16, 52, 18, 53, 54, 55, 10, 56, 57, 67, 68, 69, 70, 71, 72, 73, 74, 75, 76, 77, 78, 79, 80, 81, 82, 83, 84, 85, 86] (by decide +kernel) (by decide +kernel)) (goodIn_sub (fun _ h => List.mem_cons_of_mem _ (List.mem_append_right _ h)) (by decide +kernel))
set_option maxRecDepth 20000 in
theorem gX1_join_X8_springGear : GoodIn wsX1_join (wsV RX1 45 RX8 yX8_springGear wsX8_springGear) := goodIn_app (goodIn_of _ (by decide +kernel)) ggX1_join_X8_springGear
set_option maxRecDepth 20000 in
theorem ggX1_join_X8_holds : GoodIn wsX1_join wsX8_holds := goodIn_ca (goodIn_r _ [52, 18, 84, 85, 86] (by decide +kernel) (by decide +kernel)) (goodIn_sub (fun _ h => List.mem_cons_of_mem _ (List.mem_append_right _ h)) (by decide +kernel))
set_option maxRecDepth 20000 in
theorem gX1_join_X8_holds : GoodIn wsX1_join (wsV RX1 49 RX8 yX8_holds wsX8_holds) := goodIn_app (goodIn_of _ (by decide +kernel)) ggX1_join_X8_holds
set_option maxRecDepth 20000 in
theorem ggX1_join_X7_jointOf : GoodIn wsX1_join wsX7_jointOf := goodIn_ca (goodIn_r _ [30, 31, 67, 68, 69, 70, 71, 72, 73, 74, 75, 76, 77, 78, 79, 80, 81, 82, 83] (by decide +kernel) (by decide +kernel)) (goodIn_sub (fun _ h => List.mem_cons_of_mem _ (List.mem_append_right _ h)) (by decide +kernel))
set_option maxRecDepth 20000 in
theorem gX1_join_X7_jointOf : GoodIn wsX1_join (wsV RX1 52 RX7 yX7_jointOf wsX7_jointOf) := goodIn_app (goodIn_of _ (by decide +kernel)) ggX1_join_X7_jointOf
set_option maxRecDepth 20000 in
theorem ggX1_join_X7_unitsBehind : GoodIn wsX1_join wsX7_unitsBehind := goodIn_ca (goodIn_r _ [35, 36, 37, 38, 39, 40, 41, 42, 43, 44, 67, 68, 69, 70, 71, 72, 73, 74, 75, 76, 77, 78, 79, 80, 81, 82, 83] (by decide +kernel) (by decide +kernel)) (goodIn_sub (fun _ h => List.mem_cons_of_mem _ (List.mem_append_right _ h)) (by decide +kernel))
set_option maxRecDepth 20000 in
theorem gX1_join_X7_unitsBehind : GoodIn wsX1_join (wsV RX1 65 RX7 yX7_unitsBehind wsX7_unitsBehind) := goodIn_app (goodIn_of _ (by decide +kernel)) ggX1_join_X7_unitsBehind
set_option maxRecDepth 20000 in
theorem ggX1_join_X7_putJoint : GoodIn wsX1_join wsX7_putJoint := goodIn_ca (goodIn_r _ [64, 31, 67, 68, 69, 70, 71, 72, 73, 74, 75, 76, 77, 78, 79, 80, 81, 82, 83] (by decide +kernel) (by decide +kernel)) (goodIn_sub (fun _ h => List.mem_cons_of_mem _ (List.mem_append_right _ h)) (by decide +kernel))
set_option maxRecDepth 20000 in
theorem gX1_join_X7_putJoint : GoodIn wsX1_join (wsV RX1 69 RX7 yX7_putJoint wsX7_putJoint) := goodIn_app (goodIn_of _ (by decide +kernel)) ggX1_join_X7_putJoint
theorem dX1_join_0 : decode cX1_join 0 = .ok (.aload_n 0, 1) := by decide +kernel
theorem dX1_join_1 : decode cX1_join 1 = .ok (.getfield 9, 3) := by decide +kernel
theorem dX1_join_4 : decode cX1_join 4 = .ok (.iload_n 1, 1) := by decide +kernel
theorem dX1_join_5 : decode cX1_join 5 = .ok (.invokevirtual 36, 3) := by decide +kernel
theorem dX1_join_8 : decode cX1_join 8 = .ok (.ifCond .eq 14, 3) := by decide +kernel
theorem dX1_join_11 : decode cX1_join 11 = .ok (.aload_n 0, 1) := by decide +kernel
theorem dX1_join_12 : decode cX1_join 12 = .ok (.getfield 9, 3) := by decide +kernel
theorem dX1_join_15 : decode cX1_join 15 = .ok (.iload_n 2, 1) := by decide +kernel
theorem dX1_join_16 : decode cX1_join 16 = .ok (.invokevirtual 36, 3) := by decide +kernel
theorem dX1_join_19 : decode cX1_join 19 = .ok (.ifCond .ne 5, 3) := by decide +kernel
theorem dX1_join_22 : decode cX1_join 22 = .ok (.iconst (-1), 1) := by decide +kernel
theorem dX1_join_23 : decode cX1_join 23 = .ok (.ireturn, 1) := by decide +kernel
theorem dX1_join_24 : decode cX1_join 24 = .ok (.iload_n 1, 1) := by decide +kernel
theorem dX1_join_25 : decode cX1_join 25 = .ok (.iload_n 2, 1) := by decide +kernel
theorem dX1_join_26 : decode cX1_join 26 = .ok (.if_icmp .ne 6, 3) := by decide +kernel
theorem dX1_join_29 : decode cX1_join 29 = .ok (.bipush (-2), 2) := by decide +kernel
theorem dX1_join_31 : decode cX1_join 31 = .ok (.ireturn, 1) := by decide +kernel
theorem dX1_join_32 : decode cX1_join 32 = .ok (.aload_n 0, 1) := by decide +kernel
theorem dX1_join_33 : decode cX1_join 33 = .ok (.getfield 15, 3) := by decide +kernel
theorem dX1_join_36 : decode cX1_join 36 = .ok (.aload_n 0, 1) := by decide +kernel
theorem dX1_join_37 : decode cX1_join 37 = .ok (.getfield 9, 3) := by decide +kernel
theorem dX1_join_40 : decode cX1_join 40 = .ok (.iload_n 2, 1) := by decide +kernel
theorem dX1_join_41 : decode cX1_join 41 = .ok (.invokevirtual 39, 3) := by decide +kernel
theorem dX1_join_44 : decode cX1_join 44 = .ok (.aload_n 0, 1) := by decide +kernel
theorem dX1_join_45 : decode cX1_join 45 = .ok (.getfield 15, 3) := by decide +kernel
theorem dX1_join_48 : decode cX1_join 48 = .ok (.aload_n 0, 1) := by decide +kernel
theorem dX1_join_49 : decode cX1_join 49 = .ok (.getfield 9, 3) := by decide +kernel
theorem dX1_join_52 : decode cX1_join 52 = .ok (.invokevirtual 45, 3) := by decide +kernel
theorem dX1_join_55 : decode cX1_join 55 = .ok (.istore 4, 2) := by decide +kernel
theorem dX1_join_57 : decode cX1_join 57 = .ok (.aload_n 0, 1) := by decide +kernel
theorem dX1_join_58 : decode cX1_join 58 = .ok (.getfield 15, 3) := by decide +kernel
theorem dX1_join_61 : decode cX1_join 61 = .ok (.aload_n 0, 1) := by decide +kernel
theorem dX1_join_62 : decode cX1_join 62 = .ok (.getfield 9, 3) := by decide +kernel
theorem dX1_join_65 : decode cX1_join 65 = .ok (.iload_n 1, 1) := by decide +kernel
theorem dX1_join_66 : decode cX1_join 66 = .ok (.invokevirtual 39, 3) := by decide +kernel
theorem dX1_join_69 : decode cX1_join 69 = .ok (.aload_n 0, 1) := by decide +kernel
theorem dX1_join_70 : decode cX1_join 70 = .ok (.getfield 15, 3) := by decide +kernel
theorem dX1_join_73 : decode cX1_join 73 = .ok (.iload_n 2, 1) := by decide +kernel
theorem dX1_join_74 : decode cX1_join 74 = .ok (.invokevirtual 49, 3) := by decide +kernel
theorem dX1_join_77 : decode cX1_join 77 = .ok (.istore 5, 2) := by decide +kernel
theorem dX1_join_79 : decode cX1_join 79 = .ok (.iload 5, 2) := by decide +kernel
theorem dX1_join_81 : decode cX1_join 81 = .ok (.ifCond .ne 28, 3) := by decide +kernel
theorem dX1_join_84 : decode cX1_join 84 = .ok (.iload 4, 2) := by decide +kernel
theorem dX1_join_86 : decode cX1_join 86 = .ok (.iconst (-1), 1) := by decide +kernel
theorem dX1_join_87 : decode cX1_join 87 = .ok (.if_icmp .eq 22, 3) := by decide +kernel
theorem dX1_join_90 : decode cX1_join 90 = .ok (.aload_n 0, 1) := by decide +kernel
theorem dX1_join_91 : decode cX1_join 91 = .ok (.getfield 15, 3) := by decide +kernel
theorem dX1_join_94 : decode cX1_join 94 = .ok (.aload_n 0, 1) := by decide +kernel
theorem dX1_join_95 : decode cX1_join 95 = .ok (.getfield 9, 3) := by decide +kernel
theorem dX1_join_98 : decode cX1_join 98 = .ok (.invokevirtual 45, 3) := by decide +kernel
theorem dX1_join_101 : decode cX1_join 101 = .ok (.iconst (-1), 1) := by decide +kernel
theorem dX1_join_102 : decode cX1_join 102 = .ok (.if_icmp .eq 7, 3) := by decide +kernel
theorem dX1_join_105 : decode cX1_join 105 = .ok (.iconst 1, 1) := by decide +kernel
theorem dX1_join_106 : decode cX1_join 106 = .ok (.goto 4, 3) := by decide +kernel
theorem dX1_join_109 : decode cX1_join 109 = .ok (.iconst 0, 1) := by decide +kernel
theorem dX1_join_110 : decode cX1_join 110 = .ok (.istore 6, 2) := by decide +kernel
theorem dX1_join_112 : decode cX1_join 112 = .ok (.aload_n 0, 1) := by decide +kernel
theorem dX1_join_113 : decode cX1_join 113 = .ok (.getfield 9, 3) := by decide +kernel
theorem dX1_join_116 : decode cX1_join 116 = .ok (.iload_n 1, 1) := by decide +kernel
theorem dX1_join_117 : decode cX1_join 117 = .ok (.iload_n 2, 1) := by decide +kernel
theorem dX1_join_118 : decode cX1_join 118 = .ok (.invokevirtual 52, 3) := by decide +kernel
theorem dX1_join_121 : decode cX1_join 121 = .ok (.ifCond .ne 20, 3) := by decide +kernel
theorem dX1_join_124 : decode cX1_join 124 = .ok (.aload_n 0, 1) := by decide +kernel
theorem dX1_join_125 : decode cX1_join 125 = .ok (.getfield 9, 3) := by decide +kernel
theorem dX1_join_128 : decode cX1_join 128 = .ok (.getfield 56, 3) := by decide +kernel
theorem dX1_join_131 : decode cX1_join 131 = .ok (.bipush 15, 2) := by decide +kernel
theorem dX1_join_133 : decode cX1_join 133 = .ok (.if_icmp .ge 8, 3) := by decide +kernel
theorem dX1_join_136 : decode cX1_join 136 = .ok (.iload 6, 2) := by decide +kernel
theorem dX1_join_138 : decode cX1_join 138 = .ok (.ifCond .eq 6, 3) := by decide +kernel
theorem dX1_join_141 : decode cX1_join 141 = .ok (.bipush (-3), 2) := by decide +kernel
theorem dX1_join_143 : decode cX1_join 143 = .ok (.ireturn, 1) := by decide +kernel
theorem dX1_join_144 : decode cX1_join 144 = .ok (.iload 5, 2) := by decide +kernel
theorem dX1_join_146 : decode cX1_join 146 = .ok (.ifCond .eq 32, 3) := by decide +kernel
theorem dX1_join_149 : decode cX1_join 149 = .ok (.aload_n 0, 1) := by decide +kernel
theorem dX1_join_150 : decode cX1_join 150 = .ok (.getfield 15, 3) := by decide +kernel
theorem dX1_join_153 : decode cX1_join 153 = .ok (.getfield 59, 3) := by decide +kernel
theorem dX1_join_156 : decode cX1_join 156 = .ok (.iload_n 2, 1) := by decide +kernel
theorem dX1_join_157 : decode cX1_join 157 = .ok (.laload, 1) := by decide +kernel
theorem dX1_join_158 : decode cX1_join 158 = .ok (.aload_n 0, 1) := by decide +kernel
theorem dX1_join_159 : decode cX1_join 159 = .ok (.getfield 9, 3) := by decide +kernel
theorem dX1_join_162 : decode cX1_join 162 = .ok (.ldc2_w 63, 3) := by decide +kernel
theorem dX1_join_165 : decode cX1_join 165 = .ok (.iload_n 1, 1) := by decide +kernel
theorem dX1_join_166 : decode cX1_join 166 = .ok (.iload_n 2, 1) := by decide +kernel
theorem dX1_join_167 : decode cX1_join 167 = .ok (.iload_n 3, 1) := by decide +kernel
theorem dX1_join_168 : decode cX1_join 168 = .ok (.invokevirtual 65, 3) := by decide +kernel
theorem dX1_join_171 : decode cX1_join 171 = .ok (.lcmp, 1) := by decide +kernel
theorem dX1_join_172 : decode cX1_join 172 = .ok (.ifCond .eq 6, 3) := by decide +kernel
theorem dX1_join_175 : decode cX1_join 175 = .ok (.bipush (-4), 2) := by decide +kernel
theorem dX1_join_177 : decode cX1_join 177 = .ok (.ireturn, 1) := by decide +kernel
theorem dX1_join_178 : decode cX1_join 178 = .ok (.aload_n 0, 1) := by decide +kernel
theorem dX1_join_179 : decode cX1_join 179 = .ok (.getfield 9, 3) := by decide +kernel
theorem dX1_join_182 : decode cX1_join 182 = .ok (.iload_n 1, 1) := by decide +kernel
theorem dX1_join_183 : decode cX1_join 183 = .ok (.iload_n 2, 1) := by decide +kernel
theorem dX1_join_184 : decode cX1_join 184 = .ok (.iload_n 3, 1) := by decide +kernel
theorem dX1_join_185 : decode cX1_join 185 = .ok (.invokevirtual 69, 3) := by decide +kernel
theorem dX1_join_188 : decode cX1_join 188 = .ok (.aload_n 0, 1) := by decide +kernel
theorem dX1_join_189 : decode cX1_join 189 = .ok (.getfield 9, 3) := by decide +kernel
theorem dX1_join_192 : decode cX1_join 192 = .ok (.dup, 1) := by decide +kernel
theorem dX1_join_193 : decode cX1_join 193 = .ok (.getfield 56, 3) := by decide +kernel
theorem dX1_join_196 : decode cX1_join 196 = .ok (.iconst 1, 1) := by decide +kernel
theorem dX1_join_197 : decode cX1_join 197 = .ok (.iadd, 1) := by decide +kernel
theorem dX1_join_198 : decode cX1_join 198 = .ok (.putfield 56, 3) := by decide +kernel
theorem dX1_join_201 : decode cX1_join 201 = .ok (.aload_n 0, 1) := by decide +kernel
theorem dX1_join_202 : decode cX1_join 202 = .ok (.getfield 15, 3) := by decide +kernel
theorem dX1_join_205 : decode cX1_join 205 = .ok (.aload_n 0, 1) := by decide +kernel
theorem dX1_join_206 : decode cX1_join 206 = .ok (.getfield 9, 3) := by decide +kernel
theorem dX1_join_209 : decode cX1_join 209 = .ok (.iload_n 1, 1) := by decide +kernel
theorem dX1_join_210 : decode cX1_join 210 = .ok (.invokevirtual 39, 3) := by decide +kernel
theorem dX1_join_213 : decode cX1_join 213 = .ok (.aload_n 0, 1) := by decide +kernel
theorem dX1_join_214 : decode cX1_join 214 = .ok (.getfield 15, 3) := by decide +kernel
theorem dX1_join_217 : decode cX1_join 217 = .ok (.getfield 73, 3) := by decide +kernel
theorem dX1_join_220 : decode cX1_join 220 = .ok (.ireturn, 1) := by decide +kernel
set_option maxRecDepth 20000 in
theorem ggX1_cut_X7_isGear : GoodIn wsX1_cut wsX7_isGear := goodIn_r _ [7, 8, 20, 21, 22, 23, 24, 25, 26, 27, 28, 29, 30, 31, 32, 33, 34, 35, 36] (by decide +kernel) (by decide +kernel)
set_option maxRecDepth 20000 in
theorem gX1_cut_X7_isGear : GoodIn wsX1_cut (wsV RX1 36 RX7 yX7_isGear wsX7_isGear) := goodIn_app (goodIn_of _ (by decide +kernel)) ggX1_cut_X7_isGear
set_option maxRecDepth 20000 in
theorem ggX1_cut_X7_jointOf : GoodIn wsX1_cut wsX7_jointOf := goodIn_ca (goodIn_r _ [12, 13, 20, 21, 22, 23, 24, 25, 26, 27, 28, 29, 30, 31, 32, 33, 34, 35, 36] (by decide +kernel) (by decide +kernel)) (goodIn_sub (fun _ h => List.mem_cons_of_mem _ (List.mem_append_right _ h)) (by decide +kernel))
set_option maxRecDepth 20000 in
theorem gX1_cut_X7_jointOf : GoodIn wsX1_cut (wsV RX1 52 RX7 yX7_jointOf wsX7_jointOf) := goodIn_app (goodIn_of _ (by decide +kernel)) ggX1_cut_X7_jointOf
set_option maxRecDepth 20000 in
theorem ggX1_cut_X7_putJoint : GoodIn wsX1_cut wsX7_putJoint := goodIn_ca (goodIn_r _ [17, 13, 20, 21, 22, 23, 24, 25, 26, 27, 28, 29, 30, 31, 32, 33, 34, 35, 36] (by decide +kernel) (by decide +kernel)) (goodIn_sub (fun _ h => List.mem_cons_of_mem _ (List.mem_append_right _ h)) (by decide +kernel))
set_option maxRecDepth 20000 in
theorem gX1_cut_X7_putJoint : GoodIn wsX1_cut (wsV RX1 69 RX7 yX7_putJoint wsX7_putJoint) := goodIn_app (goodIn_of _ (by decide +kernel)) ggX1_cut_X7_putJoint
theorem dX1_cut_0 : decode cX1_cut 0 = .ok (.aload_n 0, 1) := by decide +kernel
theorem dX1_cut_1 : decode cX1_cut 1 = .ok (.getfield 9, 3) := by decide +kernel
theorem dX1_cut_4 : decode cX1_cut 4 = .ok (.iload_n 1, 1) := by decide +kernel
theorem dX1_cut_5 : decode cX1_cut 5 = .ok (.invokevirtual 36, 3) := by decide +kernel
theorem dX1_cut_8 : decode cX1_cut 8 = .ok (.ifCond .eq 14, 3) := by decide +kernel
theorem dX1_cut_11 : decode cX1_cut 11 = .ok (.aload_n 0, 1) := by decide +kernel
theorem dX1_cut_12 : decode cX1_cut 12 = .ok (.getfield 9, 3) := by decide +kernel
theorem dX1_cut_15 : decode cX1_cut 15 = .ok (.iload_n 2, 1) := by decide +kernel
theorem dX1_cut_16 : decode cX1_cut 16 = .ok (.invokevirtual 36, 3) := by decide +kernel
theorem dX1_cut_19 : decode cX1_cut 19 = .ok (.ifCond .ne 5, 3) := by decide +kernel
theorem dX1_cut_22 : decode cX1_cut 22 = .ok (.iconst (-1), 1) := by decide +kernel
theorem dX1_cut_23 : decode cX1_cut 23 = .ok (.ireturn, 1) := by decide +kernel
theorem dX1_cut_24 : decode cX1_cut 24 = .ok (.aload_n 0, 1) := by decide +kernel
theorem dX1_cut_25 : decode cX1_cut 25 = .ok (.getfield 9, 3) := by decide +kernel
theorem dX1_cut_28 : decode cX1_cut 28 = .ok (.iload_n 1, 1) := by decide +kernel
theorem dX1_cut_29 : decode cX1_cut 29 = .ok (.iload_n 2, 1) := by decide +kernel
theorem dX1_cut_30 : decode cX1_cut 30 = .ok (.invokevirtual 52, 3) := by decide +kernel
theorem dX1_cut_33 : decode cX1_cut 33 = .ok (.ifCond .ne 6, 3) := by decide +kernel
theorem dX1_cut_36 : decode cX1_cut 36 = .ok (.bipush (-5), 2) := by decide +kernel
theorem dX1_cut_38 : decode cX1_cut 38 = .ok (.ireturn, 1) := by decide +kernel
theorem dX1_cut_39 : decode cX1_cut 39 = .ok (.aload_n 0, 1) := by decide +kernel
theorem dX1_cut_40 : decode cX1_cut 40 = .ok (.getfield 9, 3) := by decide +kernel
theorem dX1_cut_43 : decode cX1_cut 43 = .ok (.iload_n 1, 1) := by decide +kernel
theorem dX1_cut_44 : decode cX1_cut 44 = .ok (.iload_n 2, 1) := by decide +kernel
theorem dX1_cut_45 : decode cX1_cut 45 = .ok (.iconst 0, 1) := by decide +kernel
theorem dX1_cut_46 : decode cX1_cut 46 = .ok (.invokevirtual 69, 3) := by decide +kernel
theorem dX1_cut_49 : decode cX1_cut 49 = .ok (.aload_n 0, 1) := by decide +kernel
theorem dX1_cut_50 : decode cX1_cut 50 = .ok (.getfield 9, 3) := by decide +kernel
theorem dX1_cut_53 : decode cX1_cut 53 = .ok (.dup, 1) := by decide +kernel
theorem dX1_cut_54 : decode cX1_cut 54 = .ok (.getfield 56, 3) := by decide +kernel
theorem dX1_cut_57 : decode cX1_cut 57 = .ok (.iconst 1, 1) := by decide +kernel
theorem dX1_cut_58 : decode cX1_cut 58 = .ok (.isub, 1) := by decide +kernel
theorem dX1_cut_59 : decode cX1_cut 59 = .ok (.putfield 56, 3) := by decide +kernel
theorem dX1_cut_62 : decode cX1_cut 62 = .ok (.aload_n 0, 1) := by decide +kernel
theorem dX1_cut_63 : decode cX1_cut 63 = .ok (.getfield 9, 3) := by decide +kernel
theorem dX1_cut_66 : decode cX1_cut 66 = .ok (.getfield 56, 3) := by decide +kernel
theorem dX1_cut_69 : decode cX1_cut 69 = .ok (.ireturn, 1) := by decide +kernel
set_option maxRecDepth 20000 in
theorem ggX1_putSpring_X7_isGear : GoodIn wsX1_putSpring wsX7_isGear := goodIn_r _ [8, 9, 62, 63, 64, 65, 66, 67, 68, 69, 70, 71, 72, 73, 74, 75, 76, 77, 78] (by decide +kernel) (by decide +kernel)
set_option maxRecDepth 20000 in
theorem gX1_putSpring_X7_isGear : GoodIn wsX1_putSpring (wsV RX1 36 RX7 yX7_isGear wsX7_isGear) := goodIn_app (goodIn_of _ (by decide +kernel)) ggX1_putSpring_X7_isGear
set_option maxRecDepth 20000 in
theorem ggX1_putSpring_X8_trace : GoodIn wsX1_putSpring wsX8_trace := goodIn_ca (goodIn_r _ [14, 15, 16, 17, 18, 19, 20, 21, 22, 13, 23, 24, 25, 26, 7, 27, 28, 29, 30, 31, 32, 33, 34, 35, 36, 37, 38, 39, 40, 41, 79, 80, 81, 62, 63, 64, 65, 66, 67, 68, 69, 70, 71, 72, 73, 74, 75, 76, 77, 78] (by decide +kernel) (by decide +kernel)) (goodIn_sub (fun _ h => List.mem_cons_of_mem _ (List.mem_append_right _ h)) (by decide +kernel))
set_option maxRecDepth 20000 in
theorem gX1_putSpring_X8_trace : GoodIn wsX1_putSpring (wsV RX1 39 RX8 yX8_trace wsX8_trace) := goodIn_app (goodIn_of _ (by decide +kernel)) ggX1_putSpring_X8_trace
set_option maxRecDepth 20000 in
theorem ggX1_putSpring_X8_springGear : GoodIn wsX1_putSpring wsX8_springGear := goodIn_ca (goodIn_r _ [45, 19, 46, 47, 48, 13, 49, 15, 50, 51, 52, 7, 53, 54, 62, 63, 64, 65, 66, 67, 68, 69, 70, 71, 72, 73, 74, 75, 76, 77, 78, 79, 80, 81] (by decide +kernel) (by decide +kernel)) (goodIn_sub (fun _ h => List.mem_cons_of_mem _ (List.mem_append_right _ h)) (by decide +kernel))
set_option maxRecDepth 20000 in
theorem gX1_putSpring_X8_springGear : GoodIn wsX1_putSpring (wsV RX1 45 RX8 yX8_springGear wsX8_springGear) := goodIn_app (goodIn_of _ (by decide +kernel)) ggX1_putSpring_X8_springGear
set_option maxRecDepth 20000 in
theorem ggX1_putSpring_X7_springs : GoodIn wsX1_putSpring wsX7_springs := goodIn_ca (goodIn_r _ [58, 9, 59, 51, 52, 7, 53, 54, 62, 63, 64, 65, 66, 67, 68, 69, 70, 71, 72, 73, 74, 75, 76, 77, 78] (by decide +kernel) (by decide +kernel)) (goodIn_sub (fun _ h => List.mem_cons_of_mem _ (List.mem_append_right _ h)) (by decide +kernel))
set_option maxRecDepth 20000 in
theorem gX1_putSpring_X7_springs : GoodIn wsX1_putSpring (wsV RX1 79 RX7 yX7_springs wsX7_springs) := goodIn_app (goodIn_of _ (by decide +kernel)) ggX1_putSpring_X7_springs
theorem dX1_putSpring_0 : decode cX1_putSpring 0 = .ok (.aload_n 0, 1) := by decide +kernel
theorem dX1_putSpring_1 : decode cX1_putSpring 1 = .ok (.getfield 9, 3) := by decide +kernel
theorem dX1_putSpring_4 : decode cX1_putSpring 4 = .ok (.iload_n 1, 1) := by decide +kernel
theorem dX1_putSpring_5 : decode cX1_putSpring 5 = .ok (.invokevirtual 36, 3) := by decide +kernel
theorem dX1_putSpring_8 : decode cX1_putSpring 8 = .ok (.ifCond .ne 5, 3) := by decide +kernel
theorem dX1_putSpring_11 : decode cX1_putSpring 11 = .ok (.iconst (-1), 1) := by decide +kernel
theorem dX1_putSpring_12 : decode cX1_putSpring 12 = .ok (.ireturn, 1) := by decide +kernel
theorem dX1_putSpring_13 : decode cX1_putSpring 13 = .ok (.iload_n 2, 1) := by decide +kernel
theorem dX1_putSpring_14 : decode cX1_putSpring 14 = .ok (.bipush 10, 2) := by decide +kernel
theorem dX1_putSpring_16 : decode cX1_putSpring 16 = .ok (.if_icmp .lt 10, 3) := by decide +kernel
theorem dX1_putSpring_19 : decode cX1_putSpring 19 = .ok (.iload_n 2, 1) := by decide +kernel
theorem dX1_putSpring_20 : decode cX1_putSpring 20 = .ok (.sipush 200, 3) := by decide +kernel
theorem dX1_putSpring_23 : decode cX1_putSpring 23 = .ok (.if_icmp .le 6, 3) := by decide +kernel
theorem dX1_putSpring_26 : decode cX1_putSpring 26 = .ok (.bipush (-2), 2) := by decide +kernel
theorem dX1_putSpring_28 : decode cX1_putSpring 28 = .ok (.ireturn, 1) := by decide +kernel
theorem dX1_putSpring_29 : decode cX1_putSpring 29 = .ok (.aload_n 0, 1) := by decide +kernel
theorem dX1_putSpring_30 : decode cX1_putSpring 30 = .ok (.getfield 15, 3) := by decide +kernel
theorem dX1_putSpring_33 : decode cX1_putSpring 33 = .ok (.aload_n 0, 1) := by decide +kernel
theorem dX1_putSpring_34 : decode cX1_putSpring 34 = .ok (.getfield 9, 3) := by decide +kernel
theorem dX1_putSpring_37 : decode cX1_putSpring 37 = .ok (.iload_n 1, 1) := by decide +kernel
theorem dX1_putSpring_38 : decode cX1_putSpring 38 = .ok (.invokevirtual 39, 3) := by decide +kernel
theorem dX1_putSpring_41 : decode cX1_putSpring 41 = .ok (.aload_n 0, 1) := by decide +kernel
theorem dX1_putSpring_42 : decode cX1_putSpring 42 = .ok (.getfield 15, 3) := by decide +kernel
theorem dX1_putSpring_45 : decode cX1_putSpring 45 = .ok (.aload_n 0, 1) := by decide +kernel
theorem dX1_putSpring_46 : decode cX1_putSpring 46 = .ok (.getfield 9, 3) := by decide +kernel
theorem dX1_putSpring_49 : decode cX1_putSpring 49 = .ok (.invokevirtual 45, 3) := by decide +kernel
theorem dX1_putSpring_52 : decode cX1_putSpring 52 = .ok (.iconst (-1), 1) := by decide +kernel
theorem dX1_putSpring_53 : decode cX1_putSpring 53 = .ok (.if_icmp .eq 6, 3) := by decide +kernel
theorem dX1_putSpring_56 : decode cX1_putSpring 56 = .ok (.bipush (-3), 2) := by decide +kernel
theorem dX1_putSpring_58 : decode cX1_putSpring 58 = .ok (.ireturn, 1) := by decide +kernel
theorem dX1_putSpring_59 : decode cX1_putSpring 59 = .ok (.aload_n 0, 1) := by decide +kernel
theorem dX1_putSpring_60 : decode cX1_putSpring 60 = .ok (.getfield 9, 3) := by decide +kernel
theorem dX1_putSpring_63 : decode cX1_putSpring 63 = .ok (.getfield 76, 3) := by decide +kernel
theorem dX1_putSpring_66 : decode cX1_putSpring 66 = .ok (.iload_n 1, 1) := by decide +kernel
theorem dX1_putSpring_67 : decode cX1_putSpring 67 = .ok (.iload_n 2, 1) := by decide +kernel
theorem dX1_putSpring_68 : decode cX1_putSpring 68 = .ok (.iastore, 1) := by decide +kernel
theorem dX1_putSpring_69 : decode cX1_putSpring 69 = .ok (.aload_n 0, 1) := by decide +kernel
theorem dX1_putSpring_70 : decode cX1_putSpring 70 = .ok (.getfield 9, 3) := by decide +kernel
theorem dX1_putSpring_73 : decode cX1_putSpring 73 = .ok (.invokevirtual 79, 3) := by decide +kernel
theorem dX1_putSpring_76 : decode cX1_putSpring 76 = .ok (.ireturn, 1) := by decide +kernel
set_option maxRecDepth 20000 in
theorem ggX1_tighten_X7_isGear : GoodIn wsX1_tighten wsX7_isGear := goodIn_r _ [9, 10, 18, 19, 20, 21, 22, 23, 24, 25, 26, 27, 28, 29, 30, 31, 32, 33, 34] (by decide +kernel) (by decide +kernel)
set_option maxRecDepth 20000 in
theorem gX1_tighten_X7_isGear : GoodIn wsX1_tighten (wsV RX1 36 RX7 yX7_isGear wsX7_isGear) := goodIn_app (goodIn_of _ (by decide +kernel)) ggX1_tighten_X7_isGear
set_option maxRecDepth 20000 in
theorem ggX1_tighten_X7_hasSpring : GoodIn wsX1_tighten wsX7_hasSpring := goodIn_ca (goodIn_r _ [14, 15, 18, 19, 20, 21, 22, 23, 24, 25, 26, 27, 28, 29, 30, 31, 32, 33, 34] (by decide +kernel) (by decide +kernel)) (goodIn_sub (fun _ h => List.mem_cons_of_mem _ (List.mem_append_right _ h)) (by decide +kernel))
set_option maxRecDepth 20000 in
theorem gX1_tighten_X7_hasSpring : GoodIn wsX1_tighten (wsV RX1 83 RX7 yX7_hasSpring wsX7_hasSpring) := goodIn_app (goodIn_of _ (by decide +kernel)) ggX1_tighten_X7_hasSpring
theorem dX1_tighten_0 : decode cX1_tighten 0 = .ok (.aload_n 0, 1) := by decide +kernel
theorem dX1_tighten_1 : decode cX1_tighten 1 = .ok (.getfield 9, 3) := by decide +kernel
theorem dX1_tighten_4 : decode cX1_tighten 4 = .ok (.iload_n 1, 1) := by decide +kernel
theorem dX1_tighten_5 : decode cX1_tighten 5 = .ok (.invokevirtual 36, 3) := by decide +kernel
theorem dX1_tighten_8 : decode cX1_tighten 8 = .ok (.ifCond .ne 5, 3) := by decide +kernel
theorem dX1_tighten_11 : decode cX1_tighten 11 = .ok (.iconst (-1), 1) := by decide +kernel
theorem dX1_tighten_12 : decode cX1_tighten 12 = .ok (.ireturn, 1) := by decide +kernel
theorem dX1_tighten_13 : decode cX1_tighten 13 = .ok (.iload_n 2, 1) := by decide +kernel
theorem dX1_tighten_14 : decode cX1_tighten 14 = .ok (.iconst 1, 1) := by decide +kernel
theorem dX1_tighten_15 : decode cX1_tighten 15 = .ok (.if_icmp .lt 10, 3) := by decide +kernel
theorem dX1_tighten_18 : decode cX1_tighten 18 = .ok (.iload_n 2, 1) := by decide +kernel
theorem dX1_tighten_19 : decode cX1_tighten 19 = .ok (.sipush 200, 3) := by decide +kernel
theorem dX1_tighten_22 : decode cX1_tighten 22 = .ok (.if_icmp .le 6, 3) := by decide +kernel
theorem dX1_tighten_25 : decode cX1_tighten 25 = .ok (.bipush (-2), 2) := by decide +kernel
theorem dX1_tighten_27 : decode cX1_tighten 27 = .ok (.ireturn, 1) := by decide +kernel
theorem dX1_tighten_28 : decode cX1_tighten 28 = .ok (.aload_n 0, 1) := by decide +kernel
theorem dX1_tighten_29 : decode cX1_tighten 29 = .ok (.getfield 9, 3) := by decide +kernel
theorem dX1_tighten_32 : decode cX1_tighten 32 = .ok (.iload_n 1, 1) := by decide +kernel
theorem dX1_tighten_33 : decode cX1_tighten 33 = .ok (.invokevirtual 83, 3) := by decide +kernel
theorem dX1_tighten_36 : decode cX1_tighten 36 = .ok (.ifCond .ne 6, 3) := by decide +kernel
theorem dX1_tighten_39 : decode cX1_tighten 39 = .ok (.bipush (-5), 2) := by decide +kernel
theorem dX1_tighten_41 : decode cX1_tighten 41 = .ok (.ireturn, 1) := by decide +kernel
theorem dX1_tighten_42 : decode cX1_tighten 42 = .ok (.aload_n 0, 1) := by decide +kernel
theorem dX1_tighten_43 : decode cX1_tighten 43 = .ok (.getfield 9, 3) := by decide +kernel
theorem dX1_tighten_46 : decode cX1_tighten 46 = .ok (.getfield 86, 3) := by decide +kernel
theorem dX1_tighten_49 : decode cX1_tighten 49 = .ok (.iload_n 1, 1) := by decide +kernel
theorem dX1_tighten_50 : decode cX1_tighten 50 = .ok (.iaload, 1) := by decide +kernel
theorem dX1_tighten_51 : decode cX1_tighten 51 = .ok (.iload_n 2, 1) := by decide +kernel
theorem dX1_tighten_52 : decode cX1_tighten 52 = .ok (.iadd, 1) := by decide +kernel
theorem dX1_tighten_53 : decode cX1_tighten 53 = .ok (.istore_n 3, 1) := by decide +kernel
theorem dX1_tighten_54 : decode cX1_tighten 54 = .ok (.iload_n 3, 1) := by decide +kernel
theorem dX1_tighten_55 : decode cX1_tighten 55 = .ok (.aload_n 0, 1) := by decide +kernel
theorem dX1_tighten_56 : decode cX1_tighten 56 = .ok (.getfield 9, 3) := by decide +kernel
theorem dX1_tighten_59 : decode cX1_tighten 59 = .ok (.getfield 76, 3) := by decide +kernel
theorem dX1_tighten_62 : decode cX1_tighten 62 = .ok (.iload_n 1, 1) := by decide +kernel
theorem dX1_tighten_63 : decode cX1_tighten 63 = .ok (.iaload, 1) := by decide +kernel
theorem dX1_tighten_64 : decode cX1_tighten 64 = .ok (.if_icmp .le 6, 3) := by decide +kernel
theorem dX1_tighten_67 : decode cX1_tighten 67 = .ok (.bipush (-3), 2) := by decide +kernel
theorem dX1_tighten_69 : decode cX1_tighten 69 = .ok (.ireturn, 1) := by decide +kernel
theorem dX1_tighten_70 : decode cX1_tighten 70 = .ok (.aload_n 0, 1) := by decide +kernel
theorem dX1_tighten_71 : decode cX1_tighten 71 = .ok (.getfield 9, 3) := by decide +kernel
theorem dX1_tighten_74 : decode cX1_tighten 74 = .ok (.getfield 86, 3) := by decide +kernel
theorem dX1_tighten_77 : decode cX1_tighten 77 = .ok (.iload_n 1, 1) := by decide +kernel
theorem dX1_tighten_78 : decode cX1_tighten 78 = .ok (.iload_n 3, 1) := by decide +kernel
theorem dX1_tighten_79 : decode cX1_tighten 79 = .ok (.iastore, 1) := by decide +kernel
theorem dX1_tighten_80 : decode cX1_tighten 80 = .ok (.aload_n 0, 1) := by decide +kernel
theorem dX1_tighten_81 : decode cX1_tighten 81 = .ok (.getfield 9, 3) := by decide +kernel
theorem dX1_tighten_84 : decode cX1_tighten 84 = .ok (.dup, 1) := by decide +kernel
theorem dX1_tighten_85 : decode cX1_tighten 85 = .ok (.getfield 89, 3) := by decide +kernel
theorem dX1_tighten_88 : decode cX1_tighten 88 = .ok (.iload_n 2, 1) := by decide +kernel
theorem dX1_tighten_89 : decode cX1_tighten 89 = .ok (.iadd, 1) := by decide +kernel
theorem dX1_tighten_90 : decode cX1_tighten 90 = .ok (.putfield 89, 3) := by decide +kernel
theorem dX1_tighten_93 : decode cX1_tighten 93 = .ok (.iload_n 3, 1) := by decide +kernel
theorem dX1_tighten_94 : decode cX1_tighten 94 = .ok (.ireturn, 1) := by decide +kernel
set_option maxRecDepth 20000 in
theorem ggX1_turnRound_X7_isGear : GoodIn wsX1_turnRound wsX7_isGear := goodIn_r _ [7, 8, 16, 17, 18, 19, 20, 21, 22, 23, 24, 25, 26, 27, 28, 29, 30, 31, 32] (by decide +kernel) (by decide +kernel)
set_option maxRecDepth 20000 in
theorem gX1_turnRound_X7_isGear : GoodIn wsX1_turnRound (wsV RX1 36 RX7 yX7_isGear wsX7_isGear) := goodIn_app (goodIn_of _ (by decide +kernel)) ggX1_turnRound_X7_isGear
set_option maxRecDepth 20000 in
theorem ggX1_turnRound_X7_hasSpring : GoodIn wsX1_turnRound wsX7_hasSpring := goodIn_ca (goodIn_r _ [12, 13, 16, 17, 18, 19, 20, 21, 22, 23, 24, 25, 26, 27, 28, 29, 30, 31, 32] (by decide +kernel) (by decide +kernel)) (goodIn_sub (fun _ h => List.mem_cons_of_mem _ (List.mem_append_right _ h)) (by decide +kernel))
set_option maxRecDepth 20000 in
theorem gX1_turnRound_X7_hasSpring : GoodIn wsX1_turnRound (wsV RX1 83 RX7 yX7_hasSpring wsX7_hasSpring) := goodIn_app (goodIn_of _ (by decide +kernel)) ggX1_turnRound_X7_hasSpring
theorem dX1_turnRound_0 : decode cX1_turnRound 0 = .ok (.aload_n 0, 1) := by decide +kernel
theorem dX1_turnRound_1 : decode cX1_turnRound 1 = .ok (.getfield 9, 3) := by decide +kernel
theorem dX1_turnRound_4 : decode cX1_turnRound 4 = .ok (.iload_n 1, 1) := by decide +kernel
theorem dX1_turnRound_5 : decode cX1_turnRound 5 = .ok (.invokevirtual 36, 3) := by decide +kernel
theorem dX1_turnRound_8 : decode cX1_turnRound 8 = .ok (.ifCond .ne 5, 3) := by decide +kernel
theorem dX1_turnRound_11 : decode cX1_turnRound 11 = .ok (.iconst (-1), 1) := by decide +kernel
theorem dX1_turnRound_12 : decode cX1_turnRound 12 = .ok (.ireturn, 1) := by decide +kernel
theorem dX1_turnRound_13 : decode cX1_turnRound 13 = .ok (.aload_n 0, 1) := by decide +kernel
theorem dX1_turnRound_14 : decode cX1_turnRound 14 = .ok (.getfield 9, 3) := by decide +kernel
theorem dX1_turnRound_17 : decode cX1_turnRound 17 = .ok (.iload_n 1, 1) := by decide +kernel
theorem dX1_turnRound_18 : decode cX1_turnRound 18 = .ok (.invokevirtual 83, 3) := by decide +kernel
theorem dX1_turnRound_21 : decode cX1_turnRound 21 = .ok (.ifCond .ne 6, 3) := by decide +kernel
theorem dX1_turnRound_24 : decode cX1_turnRound 24 = .ok (.bipush (-5), 2) := by decide +kernel
theorem dX1_turnRound_26 : decode cX1_turnRound 26 = .ok (.ireturn, 1) := by decide +kernel
theorem dX1_turnRound_27 : decode cX1_turnRound 27 = .ok (.aload_n 0, 1) := by decide +kernel
theorem dX1_turnRound_28 : decode cX1_turnRound 28 = .ok (.getfield 9, 3) := by decide +kernel
theorem dX1_turnRound_31 : decode cX1_turnRound 31 = .ok (.getfield 92, 3) := by decide +kernel
theorem dX1_turnRound_34 : decode cX1_turnRound 34 = .ok (.iload_n 1, 1) := by decide +kernel
theorem dX1_turnRound_35 : decode cX1_turnRound 35 = .ok (.aload_n 0, 1) := by decide +kernel
theorem dX1_turnRound_36 : decode cX1_turnRound 36 = .ok (.getfield 9, 3) := by decide +kernel
theorem dX1_turnRound_39 : decode cX1_turnRound 39 = .ok (.getfield 92, 3) := by decide +kernel
theorem dX1_turnRound_42 : decode cX1_turnRound 42 = .ok (.iload_n 1, 1) := by decide +kernel
theorem dX1_turnRound_43 : decode cX1_turnRound 43 = .ok (.baload, 1) := by decide +kernel
theorem dX1_turnRound_44 : decode cX1_turnRound 44 = .ok (.ifCond .ne 7, 3) := by decide +kernel
theorem dX1_turnRound_47 : decode cX1_turnRound 47 = .ok (.iconst 1, 1) := by decide +kernel
theorem dX1_turnRound_48 : decode cX1_turnRound 48 = .ok (.goto 4, 3) := by decide +kernel
theorem dX1_turnRound_51 : decode cX1_turnRound 51 = .ok (.iconst 0, 1) := by decide +kernel
theorem dX1_turnRound_52 : decode cX1_turnRound 52 = .ok (.bastore, 1) := by decide +kernel
theorem dX1_turnRound_53 : decode cX1_turnRound 53 = .ok (.aload_n 0, 1) := by decide +kernel
theorem dX1_turnRound_54 : decode cX1_turnRound 54 = .ok (.getfield 9, 3) := by decide +kernel
theorem dX1_turnRound_57 : decode cX1_turnRound 57 = .ok (.getfield 92, 3) := by decide +kernel
theorem dX1_turnRound_60 : decode cX1_turnRound 60 = .ok (.iload_n 1, 1) := by decide +kernel
theorem dX1_turnRound_61 : decode cX1_turnRound 61 = .ok (.baload, 1) := by decide +kernel
theorem dX1_turnRound_62 : decode cX1_turnRound 62 = .ok (.ifCond .eq 7, 3) := by decide +kernel
theorem dX1_turnRound_65 : decode cX1_turnRound 65 = .ok (.iconst 1, 1) := by decide +kernel
theorem dX1_turnRound_66 : decode cX1_turnRound 66 = .ok (.goto 4, 3) := by decide +kernel
theorem dX1_turnRound_69 : decode cX1_turnRound 69 = .ok (.iconst 0, 1) := by decide +kernel
theorem dX1_turnRound_70 : decode cX1_turnRound 70 = .ok (.ireturn, 1) := by decide +kernel
set_option maxRecDepth 20000 in
theorem ggX1_letGo_X7_isGear : GoodIn wsX1_letGo wsX7_isGear := goodIn_r _ [15, 16, 97, 98, 99, 100, 101, 102, 103, 104, 105, 106, 107, 108, 109, 110, 111, 112, 113] (by decide +kernel) (by decide +kernel)
set_option maxRecDepth 20000 in
theorem gX1_letGo_X7_isGear : GoodIn wsX1_letGo (wsV RX1 36 RX7 yX7_isGear wsX7_isGear) := goodIn_app (goodIn_of _ (by decide +kernel)) ggX1_letGo_X7_isGear
set_option maxRecDepth 20000 in
theorem ggX1_letGo_X7_hasSpring : GoodIn wsX1_letGo wsX7_hasSpring := goodIn_ca (goodIn_r _ [20, 21, 97, 98, 99, 100, 101, 102, 103, 104, 105, 106, 107, 108, 109, 110, 111, 112, 113] (by decide +kernel) (by decide +kernel)) (goodIn_sub (fun _ h => List.mem_cons_of_mem _ (List.mem_append_right _ h)) (by decide +kernel))
set_option maxRecDepth 20000 in
theorem gX1_letGo_X7_hasSpring : GoodIn wsX1_letGo (wsV RX1 83 RX7 yX7_hasSpring wsX7_hasSpring) := goodIn_app (goodIn_of _ (by decide +kernel)) ggX1_letGo_X7_hasSpring
set_option maxRecDepth 20000 in
theorem ggX1_letGo_X8_trace : GoodIn wsX1_letGo wsX8_trace := goodIn_ca (goodIn_r _ [26, 27, 28, 29, 30, 31, 32, 33, 34, 25, 35, 36, 37, 38, 14, 39, 40, 41, 42, 43, 44, 45, 46, 47, 48, 49, 50, 51, 52, 53, 114, 115, 116, 97, 98, 99, 100, 101, 102, 103, 104, 105, 106, 107, 108, 109, 110, 111, 112, 113] (by decide +kernel) (by decide +kernel)) (goodIn_sub (fun _ h => List.mem_cons_of_mem _ (List.mem_append_right _ h)) (by decide +kernel))
set_option maxRecDepth 20000 in
theorem gX1_letGo_X8_trace : GoodIn wsX1_letGo (wsV RX1 39 RX8 yX8_trace wsX8_trace) := goodIn_app (goodIn_of _ (by decide +kernel)) ggX1_letGo_X8_trace
set_option maxRecDepth 20000 in
theorem ggX1_letGo_X8_isBlocked : GoodIn wsX1_letGo wsX8_isBlocked := goodIn_ca (goodIn_r _ [57, 31, 58, 27, 59, 97, 98, 99, 100, 101, 102, 103, 104, 105, 106, 107, 108, 109, 110, 111, 112, 113, 114, 115, 116] (by decide +kernel) (by decide +kernel)) (goodIn_sub (fun _ h => List.mem_cons_of_mem _ (List.mem_append_right _ h)) (by decide +kernel))
set_option maxRecDepth 20000 in
theorem gX1_letGo_X8_isBlocked : GoodIn wsX1_letGo (wsV RX1 96 RX8 yX8_isBlocked wsX8_isBlocked) := goodIn_app (goodIn_of _ (by decide +kernel)) ggX1_letGo_X8_isBlocked
set_option maxRecDepth 20000 in
theorem ggX1_letGo_X8_drag : GoodIn wsX1_letGo wsX8_drag := goodIn_ca (goodIn_r _ [63, 28, 31, 64, 65, 66, 67, 25, 68, 27, 114, 115, 116, 97, 98, 99, 100, 101, 102, 103, 104, 105, 106, 107, 108, 109, 110, 111, 112, 113] (by decide +kernel) (by decide +kernel)) (goodIn_sub (fun _ h => List.mem_cons_of_mem _ (List.mem_append_right _ h)) (by decide +kernel))
set_option maxRecDepth 20000 in
theorem gX1_letGo_X8_drag : GoodIn wsX1_letGo (wsV RX1 100 RX8 yX8_drag wsX8_drag) := goodIn_app (goodIn_of _ (by decide +kernel)) ggX1_letGo_X8_drag
set_option maxRecDepth 20000 in
theorem ggX1_letGo_X4_quotient : GoodIn wsX1_letGo wsX4_quotient := goodIn_r _ [49, 50, 51, 52, 53] (by decide +kernel) (by decide +kernel)
set_option maxRecDepth 20000 in
theorem gX1_letGo_X4_quotient : GoodIn wsX1_letGo (va_wsS RX1 103 yX4_quotient wsX4_quotient) := goodIn_app (goodIn_of _ (by decide +kernel)) ggX1_letGo_X4_quotient
set_option maxRecDepth 20000 in
theorem ggX1_letGo_X1_turnTrain : GoodIn wsX1_letGo wsX1_turnTrain := goodIn_ca (goodIn_r _ [74, 1, 75, 2, 76, 77, 78, 79, 80, 81, 82, 6, 83, 84, 85, 48, 86, 87, 88, 52, 89, 95, 96, 97, 98, 99, 100, 101, 102, 103, 104, 105, 106, 107, 108, 109, 110, 111, 112, 113, 114, 115, 116] (by decide +kernel) (by decide +kernel)) (goodIn_sub (fun _ h => List.mem_cons_of_mem _ (List.mem_append_right _ h)) (by decide +kernel))
set_option maxRecDepth 20000 in
theorem gX1_letGo_X1_turnTrain : GoodIn wsX1_letGo (wsV RX1 121 RX1 yX1_turnTrain wsX1_turnTrain) := goodIn_app (goodIn_of _ (by decide +kernel)) ggX1_letGo_X1_turnTrain
set_option maxRecDepth 20000 in
theorem ggX1_letGo_X1_dryWornGears : GoodIn wsX1_letGo wsX1_dryWornGears := goodIn_ca (goodIn_r _ [93, 1, 75, 79, 80, 94, 95, 96, 97, 98, 99, 100, 101, 102, 103, 104, 105, 106, 107, 108, 109, 110, 111, 112, 113] (by decide +kernel) (by decide +kernel)) (goodIn_sub (fun _ h => List.mem_cons_of_mem _ (List.mem_append_right _ h)) (by decide +kernel))
set_option maxRecDepth 20000 in
theorem gX1_letGo_X1_dryWornGears : GoodIn wsX1_letGo (wsV RX1 125 RX1 yX1_dryWornGears wsX1_dryWornGears) := goodIn_app (goodIn_of _ (by decide +kernel)) ggX1_letGo_X1_dryWornGears
theorem dX1_letGo_0 : decode cX1_letGo 0 = .ok (.aload_n 0, 1) := by decide +kernel
theorem dX1_letGo_1 : decode cX1_letGo 1 = .ok (.getfield 9, 3) := by decide +kernel
theorem dX1_letGo_4 : decode cX1_letGo 4 = .ok (.iload_n 1, 1) := by decide +kernel
theorem dX1_letGo_5 : decode cX1_letGo 5 = .ok (.invokevirtual 36, 3) := by decide +kernel
theorem dX1_letGo_8 : decode cX1_letGo 8 = .ok (.ifCond .ne 5, 3) := by decide +kernel
theorem dX1_letGo_11 : decode cX1_letGo 11 = .ok (.iconst (-1), 1) := by decide +kernel
theorem dX1_letGo_12 : decode cX1_letGo 12 = .ok (.ireturn, 1) := by decide +kernel
theorem dX1_letGo_13 : decode cX1_letGo 13 = .ok (.iload_n 2, 1) := by decide +kernel
theorem dX1_letGo_14 : decode cX1_letGo 14 = .ok (.iconst 1, 1) := by decide +kernel
theorem dX1_letGo_15 : decode cX1_letGo 15 = .ok (.if_icmp .lt 9, 3) := by decide +kernel
theorem dX1_letGo_18 : decode cX1_letGo 18 = .ok (.iload_n 2, 1) := by decide +kernel
theorem dX1_letGo_19 : decode cX1_letGo 19 = .ok (.bipush 50, 2) := by decide +kernel
theorem dX1_letGo_21 : decode cX1_letGo 21 = .ok (.if_icmp .le 6, 3) := by decide +kernel
theorem dX1_letGo_24 : decode cX1_letGo 24 = .ok (.bipush (-2), 2) := by decide +kernel
theorem dX1_letGo_26 : decode cX1_letGo 26 = .ok (.ireturn, 1) := by decide +kernel
theorem dX1_letGo_27 : decode cX1_letGo 27 = .ok (.aload_n 0, 1) := by decide +kernel
theorem dX1_letGo_28 : decode cX1_letGo 28 = .ok (.getfield 9, 3) := by decide +kernel
theorem dX1_letGo_31 : decode cX1_letGo 31 = .ok (.iload_n 1, 1) := by decide +kernel
theorem dX1_letGo_32 : decode cX1_letGo 32 = .ok (.invokevirtual 83, 3) := by decide +kernel
theorem dX1_letGo_35 : decode cX1_letGo 35 = .ok (.ifCond .ne 6, 3) := by decide +kernel
theorem dX1_letGo_38 : decode cX1_letGo 38 = .ok (.bipush (-5), 2) := by decide +kernel
theorem dX1_letGo_40 : decode cX1_letGo 40 = .ok (.ireturn, 1) := by decide +kernel
theorem dX1_letGo_41 : decode cX1_letGo 41 = .ok (.aload_n 0, 1) := by decide +kernel
theorem dX1_letGo_42 : decode cX1_letGo 42 = .ok (.getfield 15, 3) := by decide +kernel
theorem dX1_letGo_45 : decode cX1_letGo 45 = .ok (.aload_n 0, 1) := by decide +kernel
theorem dX1_letGo_46 : decode cX1_letGo 46 = .ok (.getfield 9, 3) := by decide +kernel
theorem dX1_letGo_49 : decode cX1_letGo 49 = .ok (.iload_n 1, 1) := by decide +kernel
theorem dX1_letGo_50 : decode cX1_letGo 50 = .ok (.invokevirtual 39, 3) := by decide +kernel
theorem dX1_letGo_53 : decode cX1_letGo 53 = .ok (.aload_n 0, 1) := by decide +kernel
theorem dX1_letGo_54 : decode cX1_letGo 54 = .ok (.getfield 15, 3) := by decide +kernel
theorem dX1_letGo_57 : decode cX1_letGo 57 = .ok (.aload_n 0, 1) := by decide +kernel
theorem dX1_letGo_58 : decode cX1_letGo 58 = .ok (.getfield 9, 3) := by decide +kernel
theorem dX1_letGo_61 : decode cX1_letGo 61 = .ok (.iload_n 1, 1) := by decide +kernel
theorem dX1_letGo_62 : decode cX1_letGo 62 = .ok (.invokevirtual 96, 3) := by decide +kernel
theorem dX1_letGo_65 : decode cX1_letGo 65 = .ok (.ifCond .eq 6, 3) := by decide +kernel
theorem dX1_letGo_68 : decode cX1_letGo 68 = .ok (.bipush (-4), 2) := by decide +kernel
theorem dX1_letGo_70 : decode cX1_letGo 70 = .ok (.ireturn, 1) := by decide +kernel
theorem dX1_letGo_71 : decode cX1_letGo 71 = .ok (.aload_n 0, 1) := by decide +kernel
theorem dX1_letGo_72 : decode cX1_letGo 72 = .ok (.getfield 15, 3) := by decide +kernel
theorem dX1_letGo_75 : decode cX1_letGo 75 = .ok (.aload_n 0, 1) := by decide +kernel
theorem dX1_letGo_76 : decode cX1_letGo 76 = .ok (.getfield 9, 3) := by decide +kernel
theorem dX1_letGo_79 : decode cX1_letGo 79 = .ok (.invokevirtual 100, 3) := by decide +kernel
theorem dX1_letGo_82 : decode cX1_letGo 82 = .ok (.istore_n 3, 1) := by decide +kernel
theorem dX1_letGo_83 : decode cX1_letGo 83 = .ok (.iload_n 2, 1) := by decide +kernel
theorem dX1_letGo_84 : decode cX1_letGo 84 = .ok (.aload_n 0, 1) := by decide +kernel
theorem dX1_letGo_85 : decode cX1_letGo 85 = .ok (.getfield 9, 3) := by decide +kernel
theorem dX1_letGo_88 : decode cX1_letGo 88 = .ok (.getfield 86, 3) := by decide +kernel
theorem dX1_letGo_91 : decode cX1_letGo 91 = .ok (.iload_n 1, 1) := by decide +kernel
theorem dX1_letGo_92 : decode cX1_letGo 92 = .ok (.iaload, 1) := by decide +kernel
theorem dX1_letGo_93 : decode cX1_letGo 93 = .ok (.i2l, 1) := by decide +kernel
theorem dX1_letGo_94 : decode cX1_letGo 94 = .ok (.iload_n 3, 1) := by decide +kernel
theorem dX1_letGo_95 : decode cX1_letGo 95 = .ok (.i2l, 1) := by decide +kernel
theorem dX1_letGo_96 : decode cX1_letGo 96 = .ok (.invokestatic 103, 3) := by decide +kernel
theorem dX1_letGo_99 : decode cX1_letGo 99 = .ok (.l2i, 1) := by decide +kernel
theorem dX1_letGo_100 : decode cX1_letGo 100 = .ok (.invokestatic 109, 3) := by decide +kernel
theorem dX1_letGo_103 : decode cX1_letGo 103 = .ok (.istore 4, 2) := by decide +kernel
theorem dX1_letGo_105 : decode cX1_letGo 105 = .ok (.iload 4, 2) := by decide +kernel
theorem dX1_letGo_107 : decode cX1_letGo 107 = .ok (.ifCond .le 76, 3) := by decide +kernel
theorem dX1_letGo_110 : decode cX1_letGo 110 = .ok (.aload_n 0, 1) := by decide +kernel
theorem dX1_letGo_111 : decode cX1_letGo 111 = .ok (.getfield 9, 3) := by decide +kernel
theorem dX1_letGo_114 : decode cX1_letGo 114 = .ok (.getfield 86, 3) := by decide +kernel
theorem dX1_letGo_117 : decode cX1_letGo 117 = .ok (.iload_n 1, 1) := by decide +kernel
theorem dX1_letGo_118 : decode cX1_letGo 118 = .ok (.dup2, 1) := by decide +kernel
theorem dX1_letGo_119 : decode cX1_letGo 119 = .ok (.iaload, 1) := by decide +kernel
theorem dX1_letGo_120 : decode cX1_letGo 120 = .ok (.iload_n 3, 1) := by decide +kernel
theorem dX1_letGo_121 : decode cX1_letGo 121 = .ok (.iload 4, 2) := by decide +kernel
theorem dX1_letGo_123 : decode cX1_letGo 123 = .ok (.imul, 1) := by decide +kernel
theorem dX1_letGo_124 : decode cX1_letGo 124 = .ok (.isub, 1) := by decide +kernel
theorem dX1_letGo_125 : decode cX1_letGo 125 = .ok (.iastore, 1) := by decide +kernel
theorem dX1_letGo_126 : decode cX1_letGo 126 = .ok (.aload_n 0, 1) := by decide +kernel
theorem dX1_letGo_127 : decode cX1_letGo 127 = .ok (.getfield 9, 3) := by decide +kernel
theorem dX1_letGo_130 : decode cX1_letGo 130 = .ok (.dup, 1) := by decide +kernel
theorem dX1_letGo_131 : decode cX1_letGo 131 = .ok (.getfield 115, 3) := by decide +kernel
theorem dX1_letGo_134 : decode cX1_letGo 134 = .ok (.iload_n 3, 1) := by decide +kernel
theorem dX1_letGo_135 : decode cX1_letGo 135 = .ok (.iload 4, 2) := by decide +kernel
theorem dX1_letGo_137 : decode cX1_letGo 137 = .ok (.imul, 1) := by decide +kernel
theorem dX1_letGo_138 : decode cX1_letGo 138 = .ok (.iadd, 1) := by decide +kernel
theorem dX1_letGo_139 : decode cX1_letGo 139 = .ok (.putfield 115, 3) := by decide +kernel
theorem dX1_letGo_142 : decode cX1_letGo 142 = .ok (.aload_n 0, 1) := by decide +kernel
theorem dX1_letGo_143 : decode cX1_letGo 143 = .ok (.getfield 9, 3) := by decide +kernel
theorem dX1_letGo_146 : decode cX1_letGo 146 = .ok (.dup, 1) := by decide +kernel
theorem dX1_letGo_147 : decode cX1_letGo 147 = .ok (.getfield 118, 3) := by decide +kernel
theorem dX1_letGo_150 : decode cX1_letGo 150 = .ok (.iconst 1, 1) := by decide +kernel
theorem dX1_letGo_151 : decode cX1_letGo 151 = .ok (.iadd, 1) := by decide +kernel
theorem dX1_letGo_152 : decode cX1_letGo 152 = .ok (.putfield 118, 3) := by decide +kernel
theorem dX1_letGo_155 : decode cX1_letGo 155 = .ok (.aload_n 0, 1) := by decide +kernel
theorem dX1_letGo_156 : decode cX1_letGo 156 = .ok (.aload_n 0, 1) := by decide +kernel
theorem dX1_letGo_157 : decode cX1_letGo 157 = .ok (.getfield 9, 3) := by decide +kernel
theorem dX1_letGo_160 : decode cX1_letGo 160 = .ok (.getfield 92, 3) := by decide +kernel
theorem dX1_letGo_163 : decode cX1_letGo 163 = .ok (.iload_n 1, 1) := by decide +kernel
theorem dX1_letGo_164 : decode cX1_letGo 164 = .ok (.baload, 1) := by decide +kernel
theorem dX1_letGo_165 : decode cX1_letGo 165 = .ok (.ifCond .eq 9, 3) := by decide +kernel
theorem dX1_letGo_168 : decode cX1_letGo 168 = .ok (.iload 4, 2) := by decide +kernel
theorem dX1_letGo_170 : decode cX1_letGo 170 = .ok (.ineg, 1) := by decide +kernel
theorem dX1_letGo_171 : decode cX1_letGo 171 = .ok (.goto 5, 3) := by decide +kernel
theorem dX1_letGo_174 : decode cX1_letGo 174 = .ok (.iload 4, 2) := by decide +kernel
theorem dX1_letGo_176 : decode cX1_letGo 176 = .ok (.invokevirtual 121, 3) := by decide +kernel
theorem dX1_letGo_179 : decode cX1_letGo 179 = .ok (.aload_n 0, 1) := by decide +kernel
theorem dX1_letGo_180 : decode cX1_letGo 180 = .ok (.invokevirtual 125, 3) := by decide +kernel
theorem dX1_letGo_183 : decode cX1_letGo 183 = .ok (.iload 4, 2) := by decide +kernel
theorem dX1_letGo_185 : decode cX1_letGo 185 = .ok (.ireturn, 1) := by decide +kernel
set_option maxRecDepth 20000 in
theorem ggX1_turnTrain_X4_remainder : GoodIn wsX1_turnTrain wsX4_remainder := goodIn_r _ [16, 17, 18, 19, 20] (by decide +kernel) (by decide +kernel)
set_option maxRecDepth 20000 in
theorem gX1_turnTrain_X4_remainder : GoodIn wsX1_turnTrain (va_wsS RX1 131 yX4_remainder wsX4_remainder) := goodIn_app (goodIn_of _ (by decide +kernel)) ggX1_turnTrain_X4_remainder
theorem dX1_turnTrain_0 : decode cX1_turnTrain 0 = .ok (.iconst 0, 1) := by decide +kernel
theorem dX1_turnTrain_1 : decode cX1_turnTrain 1 = .ok (.istore_n 2, 1) := by decide +kernel
theorem dX1_turnTrain_2 : decode cX1_turnTrain 2 = .ok (.iload_n 2, 1) := by decide +kernel
theorem dX1_turnTrain_3 : decode cX1_turnTrain 3 = .ok (.aload_n 0, 1) := by decide +kernel
theorem dX1_turnTrain_4 : decode cX1_turnTrain 4 = .ok (.getfield 9, 3) := by decide +kernel
theorem dX1_turnTrain_7 : decode cX1_turnTrain 7 = .ok (.getfield 23, 3) := by decide +kernel
theorem dX1_turnTrain_10 : decode cX1_turnTrain 10 = .ok (.if_icmp .ge 76, 3) := by decide +kernel
theorem dX1_turnTrain_13 : decode cX1_turnTrain 13 = .ok (.aload_n 0, 1) := by decide +kernel
theorem dX1_turnTrain_14 : decode cX1_turnTrain 14 = .ok (.getfield 15, 3) := by decide +kernel
theorem dX1_turnTrain_17 : decode cX1_turnTrain 17 = .ok (.getfield 59, 3) := by decide +kernel
theorem dX1_turnTrain_20 : decode cX1_turnTrain 20 = .ok (.iload_n 2, 1) := by decide +kernel
theorem dX1_turnTrain_21 : decode cX1_turnTrain 21 = .ok (.laload, 1) := by decide +kernel
theorem dX1_turnTrain_22 : decode cX1_turnTrain 22 = .ok (.iload_n 1, 1) := by decide +kernel
theorem dX1_turnTrain_23 : decode cX1_turnTrain 23 = .ok (.i2l, 1) := by decide +kernel
theorem dX1_turnTrain_24 : decode cX1_turnTrain 24 = .ok (.lmul, 1) := by decide +kernel
theorem dX1_turnTrain_25 : decode cX1_turnTrain 25 = .ok (.lstore_n 3, 1) := by decide +kernel
theorem dX1_turnTrain_26 : decode cX1_turnTrain 26 = .ok (.aload_n 0, 1) := by decide +kernel
theorem dX1_turnTrain_27 : decode cX1_turnTrain 27 = .ok (.getfield 9, 3) := by decide +kernel
theorem dX1_turnTrain_30 : decode cX1_turnTrain 30 = .ok (.getfield 128, 3) := by decide +kernel
theorem dX1_turnTrain_33 : decode cX1_turnTrain 33 = .ok (.iload_n 2, 1) := by decide +kernel
theorem dX1_turnTrain_34 : decode cX1_turnTrain 34 = .ok (.aload_n 0, 1) := by decide +kernel
theorem dX1_turnTrain_35 : decode cX1_turnTrain 35 = .ok (.getfield 9, 3) := by decide +kernel
theorem dX1_turnTrain_38 : decode cX1_turnTrain 38 = .ok (.getfield 128, 3) := by decide +kernel
theorem dX1_turnTrain_41 : decode cX1_turnTrain 41 = .ok (.iload_n 2, 1) := by decide +kernel
theorem dX1_turnTrain_42 : decode cX1_turnTrain 42 = .ok (.laload, 1) := by decide +kernel
theorem dX1_turnTrain_43 : decode cX1_turnTrain 43 = .ok (.lload_n 3, 1) := by decide +kernel
theorem dX1_turnTrain_44 : decode cX1_turnTrain 44 = .ok (.ladd, 1) := by decide +kernel
theorem dX1_turnTrain_45 : decode cX1_turnTrain 45 = .ok (.ldc2_w 63, 3) := by decide +kernel
theorem dX1_turnTrain_48 : decode cX1_turnTrain 48 = .ok (.invokestatic 131, 3) := by decide +kernel
theorem dX1_turnTrain_51 : decode cX1_turnTrain 51 = .ok (.lastore, 1) := by decide +kernel
theorem dX1_turnTrain_52 : decode cX1_turnTrain 52 = .ok (.aload_n 0, 1) := by decide +kernel
theorem dX1_turnTrain_53 : decode cX1_turnTrain 53 = .ok (.getfield 9, 3) := by decide +kernel
theorem dX1_turnTrain_56 : decode cX1_turnTrain 56 = .ok (.getfield 134, 3) := by decide +kernel
theorem dX1_turnTrain_59 : decode cX1_turnTrain 59 = .ok (.iload_n 2, 1) := by decide +kernel
theorem dX1_turnTrain_60 : decode cX1_turnTrain 60 = .ok (.baload, 1) := by decide +kernel
theorem dX1_turnTrain_61 : decode cX1_turnTrain 61 = .ok (.ifCond .eq 19, 3) := by decide +kernel
theorem dX1_turnTrain_64 : decode cX1_turnTrain 64 = .ok (.aload_n 0, 1) := by decide +kernel
theorem dX1_turnTrain_65 : decode cX1_turnTrain 65 = .ok (.getfield 9, 3) := by decide +kernel
theorem dX1_turnTrain_68 : decode cX1_turnTrain 68 = .ok (.getfield 137, 3) := by decide +kernel
theorem dX1_turnTrain_71 : decode cX1_turnTrain 71 = .ok (.iload_n 2, 1) := by decide +kernel
theorem dX1_turnTrain_72 : decode cX1_turnTrain 72 = .ok (.dup2, 1) := by decide +kernel
theorem dX1_turnTrain_73 : decode cX1_turnTrain 73 = .ok (.laload, 1) := by decide +kernel
theorem dX1_turnTrain_74 : decode cX1_turnTrain 74 = .ok (.lload_n 3, 1) := by decide +kernel
theorem dX1_turnTrain_75 : decode cX1_turnTrain 75 = .ok (.invokestatic 140, 3) := by decide +kernel
theorem dX1_turnTrain_78 : decode cX1_turnTrain 78 = .ok (.ladd, 1) := by decide +kernel
theorem dX1_turnTrain_79 : decode cX1_turnTrain 79 = .ok (.lastore, 1) := by decide +kernel
theorem dX1_turnTrain_80 : decode cX1_turnTrain 80 = .ok (.iinc 2 1, 3) := by decide +kernel
theorem dX1_turnTrain_83 : decode cX1_turnTrain 83 = .ok (.goto (-81), 3) := by decide +kernel
theorem dX1_turnTrain_86 : decode cX1_turnTrain 86 = .ok (.return_, 1) := by decide +kernel
theorem dX1_dryWornGears_0 : decode cX1_dryWornGears 0 = .ok (.iconst 0, 1) := by decide +kernel
theorem dX1_dryWornGears_1 : decode cX1_dryWornGears 1 = .ok (.istore_n 1, 1) := by decide +kernel
theorem dX1_dryWornGears_2 : decode cX1_dryWornGears 2 = .ok (.iload_n 1, 1) := by decide +kernel
theorem dX1_dryWornGears_3 : decode cX1_dryWornGears 3 = .ok (.aload_n 0, 1) := by decide +kernel
theorem dX1_dryWornGears_4 : decode cX1_dryWornGears 4 = .ok (.getfield 9, 3) := by decide +kernel
theorem dX1_dryWornGears_7 : decode cX1_dryWornGears 7 = .ok (.getfield 23, 3) := by decide +kernel
theorem dX1_dryWornGears_10 : decode cX1_dryWornGears 10 = .ok (.if_icmp .ge 47, 3) := by decide +kernel
theorem dX1_dryWornGears_13 : decode cX1_dryWornGears 13 = .ok (.aload_n 0, 1) := by decide +kernel
theorem dX1_dryWornGears_14 : decode cX1_dryWornGears 14 = .ok (.getfield 9, 3) := by decide +kernel
theorem dX1_dryWornGears_17 : decode cX1_dryWornGears 17 = .ok (.getfield 134, 3) := by decide +kernel
theorem dX1_dryWornGears_20 : decode cX1_dryWornGears 20 = .ok (.iload_n 1, 1) := by decide +kernel
theorem dX1_dryWornGears_21 : decode cX1_dryWornGears 21 = .ok (.baload, 1) := by decide +kernel
theorem dX1_dryWornGears_22 : decode cX1_dryWornGears 22 = .ok (.ifCond .eq 29, 3) := by decide +kernel
theorem dX1_dryWornGears_25 : decode cX1_dryWornGears 25 = .ok (.aload_n 0, 1) := by decide +kernel
theorem dX1_dryWornGears_26 : decode cX1_dryWornGears 26 = .ok (.getfield 9, 3) := by decide +kernel
theorem dX1_dryWornGears_29 : decode cX1_dryWornGears 29 = .ok (.getfield 137, 3) := by decide +kernel
theorem dX1_dryWornGears_32 : decode cX1_dryWornGears 32 = .ok (.iload_n 1, 1) := by decide +kernel
theorem dX1_dryWornGears_33 : decode cX1_dryWornGears 33 = .ok (.laload, 1) := by decide +kernel
theorem dX1_dryWornGears_34 : decode cX1_dryWornGears 34 = .ok (.ldc2_w 144, 3) := by decide +kernel
theorem dX1_dryWornGears_37 : decode cX1_dryWornGears 37 = .ok (.lcmp, 1) := by decide +kernel
theorem dX1_dryWornGears_38 : decode cX1_dryWornGears 38 = .ok (.ifCond .lt 13, 3) := by decide +kernel
theorem dX1_dryWornGears_41 : decode cX1_dryWornGears 41 = .ok (.aload_n 0, 1) := by decide +kernel
theorem dX1_dryWornGears_42 : decode cX1_dryWornGears 42 = .ok (.getfield 9, 3) := by decide +kernel
theorem dX1_dryWornGears_45 : decode cX1_dryWornGears 45 = .ok (.getfield 134, 3) := by decide +kernel
theorem dX1_dryWornGears_48 : decode cX1_dryWornGears 48 = .ok (.iload_n 1, 1) := by decide +kernel
theorem dX1_dryWornGears_49 : decode cX1_dryWornGears 49 = .ok (.iconst 0, 1) := by decide +kernel
theorem dX1_dryWornGears_50 : decode cX1_dryWornGears 50 = .ok (.bastore, 1) := by decide +kernel
theorem dX1_dryWornGears_51 : decode cX1_dryWornGears 51 = .ok (.iinc 1 1, 3) := by decide +kernel
theorem dX1_dryWornGears_54 : decode cX1_dryWornGears 54 = .ok (.goto (-52), 3) := by decide +kernel
theorem dX1_dryWornGears_57 : decode cX1_dryWornGears 57 = .ok (.return_, 1) := by decide +kernel
set_option maxRecDepth 20000 in
theorem ggX1_putRatchet_X7_isGear : GoodIn wsX1_putRatchet wsX7_isGear := goodIn_r _ [7, 8, 11, 12, 13, 14, 15, 16, 17, 18, 19, 20, 21, 22, 23, 24, 25, 26, 27] (by decide +kernel) (by decide +kernel)
set_option maxRecDepth 20000 in
theorem gX1_putRatchet_X7_isGear : GoodIn wsX1_putRatchet (wsV RX1 36 RX7 yX7_isGear wsX7_isGear) := goodIn_app (goodIn_of _ (by decide +kernel)) ggX1_putRatchet_X7_isGear
theorem dX1_putRatchet_0 : decode cX1_putRatchet 0 = .ok (.aload_n 0, 1) := by decide +kernel
theorem dX1_putRatchet_1 : decode cX1_putRatchet 1 = .ok (.getfield 9, 3) := by decide +kernel
theorem dX1_putRatchet_4 : decode cX1_putRatchet 4 = .ok (.iload_n 1, 1) := by decide +kernel
theorem dX1_putRatchet_5 : decode cX1_putRatchet 5 = .ok (.invokevirtual 36, 3) := by decide +kernel
theorem dX1_putRatchet_8 : decode cX1_putRatchet 8 = .ok (.ifCond .ne 5, 3) := by decide +kernel
theorem dX1_putRatchet_11 : decode cX1_putRatchet 11 = .ok (.iconst (-1), 1) := by decide +kernel
theorem dX1_putRatchet_12 : decode cX1_putRatchet 12 = .ok (.ireturn, 1) := by decide +kernel
theorem dX1_putRatchet_13 : decode cX1_putRatchet 13 = .ok (.aload_n 0, 1) := by decide +kernel
theorem dX1_putRatchet_14 : decode cX1_putRatchet 14 = .ok (.getfield 9, 3) := by decide +kernel
theorem dX1_putRatchet_17 : decode cX1_putRatchet 17 = .ok (.getfield 146, 3) := by decide +kernel
theorem dX1_putRatchet_20 : decode cX1_putRatchet 20 = .ok (.iload_n 1, 1) := by decide +kernel
theorem dX1_putRatchet_21 : decode cX1_putRatchet 21 = .ok (.baload, 1) := by decide +kernel
theorem dX1_putRatchet_22 : decode cX1_putRatchet 22 = .ok (.istore_n 3, 1) := by decide +kernel
theorem dX1_putRatchet_23 : decode cX1_putRatchet 23 = .ok (.aload_n 0, 1) := by decide +kernel
theorem dX1_putRatchet_24 : decode cX1_putRatchet 24 = .ok (.getfield 9, 3) := by decide +kernel
theorem dX1_putRatchet_27 : decode cX1_putRatchet 27 = .ok (.getfield 146, 3) := by decide +kernel
theorem dX1_putRatchet_30 : decode cX1_putRatchet 30 = .ok (.iload_n 1, 1) := by decide +kernel
theorem dX1_putRatchet_31 : decode cX1_putRatchet 31 = .ok (.iload_n 2, 1) := by decide +kernel
theorem dX1_putRatchet_32 : decode cX1_putRatchet 32 = .ok (.bastore, 1) := by decide +kernel
theorem dX1_putRatchet_33 : decode cX1_putRatchet 33 = .ok (.iload_n 3, 1) := by decide +kernel
theorem dX1_putRatchet_34 : decode cX1_putRatchet 34 = .ok (.ifCond .eq 7, 3) := by decide +kernel
theorem dX1_putRatchet_37 : decode cX1_putRatchet 37 = .ok (.iconst 1, 1) := by decide +kernel
theorem dX1_putRatchet_38 : decode cX1_putRatchet 38 = .ok (.goto 4, 3) := by decide +kernel
theorem dX1_putRatchet_41 : decode cX1_putRatchet 41 = .ok (.iconst 0, 1) := by decide +kernel
theorem dX1_putRatchet_42 : decode cX1_putRatchet 42 = .ok (.ireturn, 1) := by decide +kernel
set_option maxRecDepth 20000 in
theorem ggX1_putOil_X7_isGear : GoodIn wsX1_putOil wsX7_isGear := goodIn_r _ [9, 10, 13, 14, 15, 16, 17, 18, 19, 20, 21, 22, 23, 24, 25, 26, 27, 28, 29] (by decide +kernel) (by decide +kernel)
set_option maxRecDepth 20000 in
theorem gX1_putOil_X7_isGear : GoodIn wsX1_putOil (wsV RX1 36 RX7 yX7_isGear wsX7_isGear) := goodIn_app (goodIn_of _ (by decide +kernel)) ggX1_putOil_X7_isGear
theorem dX1_putOil_0 : decode cX1_putOil 0 = .ok (.aload_n 0, 1) := by decide +kernel
theorem dX1_putOil_1 : decode cX1_putOil 1 = .ok (.getfield 9, 3) := by decide +kernel
theorem dX1_putOil_4 : decode cX1_putOil 4 = .ok (.iload_n 1, 1) := by decide +kernel
theorem dX1_putOil_5 : decode cX1_putOil 5 = .ok (.invokevirtual 36, 3) := by decide +kernel
theorem dX1_putOil_8 : decode cX1_putOil 8 = .ok (.ifCond .ne 5, 3) := by decide +kernel
theorem dX1_putOil_11 : decode cX1_putOil 11 = .ok (.iconst (-1), 1) := by decide +kernel
theorem dX1_putOil_12 : decode cX1_putOil 12 = .ok (.ireturn, 1) := by decide +kernel
theorem dX1_putOil_13 : decode cX1_putOil 13 = .ok (.aload_n 0, 1) := by decide +kernel
theorem dX1_putOil_14 : decode cX1_putOil 14 = .ok (.getfield 9, 3) := by decide +kernel
theorem dX1_putOil_17 : decode cX1_putOil 17 = .ok (.getfield 134, 3) := by decide +kernel
theorem dX1_putOil_20 : decode cX1_putOil 20 = .ok (.iload_n 1, 1) := by decide +kernel
theorem dX1_putOil_21 : decode cX1_putOil 21 = .ok (.baload, 1) := by decide +kernel
theorem dX1_putOil_22 : decode cX1_putOil 22 = .ok (.ifCond .eq 6, 3) := by decide +kernel
theorem dX1_putOil_25 : decode cX1_putOil 25 = .ok (.bipush (-3), 2) := by decide +kernel
theorem dX1_putOil_27 : decode cX1_putOil 27 = .ok (.ireturn, 1) := by decide +kernel
theorem dX1_putOil_28 : decode cX1_putOil 28 = .ok (.aload_n 0, 1) := by decide +kernel
theorem dX1_putOil_29 : decode cX1_putOil 29 = .ok (.getfield 9, 3) := by decide +kernel
theorem dX1_putOil_32 : decode cX1_putOil 32 = .ok (.getfield 149, 3) := by decide +kernel
theorem dX1_putOil_35 : decode cX1_putOil 35 = .ok (.ifCond .ne 6, 3) := by decide +kernel
theorem dX1_putOil_38 : decode cX1_putOil 38 = .ok (.bipush (-4), 2) := by decide +kernel
theorem dX1_putOil_40 : decode cX1_putOil 40 = .ok (.ireturn, 1) := by decide +kernel
theorem dX1_putOil_41 : decode cX1_putOil 41 = .ok (.aload_n 0, 1) := by decide +kernel
theorem dX1_putOil_42 : decode cX1_putOil 42 = .ok (.getfield 9, 3) := by decide +kernel
theorem dX1_putOil_45 : decode cX1_putOil 45 = .ok (.getfield 134, 3) := by decide +kernel
theorem dX1_putOil_48 : decode cX1_putOil 48 = .ok (.iload_n 1, 1) := by decide +kernel
theorem dX1_putOil_49 : decode cX1_putOil 49 = .ok (.iconst 1, 1) := by decide +kernel
theorem dX1_putOil_50 : decode cX1_putOil 50 = .ok (.bastore, 1) := by decide +kernel
theorem dX1_putOil_51 : decode cX1_putOil 51 = .ok (.aload_n 0, 1) := by decide +kernel
theorem dX1_putOil_52 : decode cX1_putOil 52 = .ok (.getfield 9, 3) := by decide +kernel
theorem dX1_putOil_55 : decode cX1_putOil 55 = .ok (.getfield 137, 3) := by decide +kernel
theorem dX1_putOil_58 : decode cX1_putOil 58 = .ok (.iload_n 1, 1) := by decide +kernel
theorem dX1_putOil_59 : decode cX1_putOil 59 = .ok (.lconst 0, 1) := by decide +kernel
theorem dX1_putOil_60 : decode cX1_putOil 60 = .ok (.lastore, 1) := by decide +kernel
theorem dX1_putOil_61 : decode cX1_putOil 61 = .ok (.aload_n 0, 1) := by decide +kernel
theorem dX1_putOil_62 : decode cX1_putOil 62 = .ok (.getfield 9, 3) := by decide +kernel
theorem dX1_putOil_65 : decode cX1_putOil 65 = .ok (.dup, 1) := by decide +kernel
theorem dX1_putOil_66 : decode cX1_putOil 66 = .ok (.getfield 149, 3) := by decide +kernel
theorem dX1_putOil_69 : decode cX1_putOil 69 = .ok (.iconst 1, 1) := by decide +kernel
theorem dX1_putOil_70 : decode cX1_putOil 70 = .ok (.isub, 1) := by decide +kernel
theorem dX1_putOil_71 : decode cX1_putOil 71 = .ok (.putfield 149, 3) := by decide +kernel
theorem dX1_putOil_74 : decode cX1_putOil 74 = .ok (.aload_n 0, 1) := by decide +kernel
theorem dX1_putOil_75 : decode cX1_putOil 75 = .ok (.getfield 9, 3) := by decide +kernel
theorem dX1_putOil_78 : decode cX1_putOil 78 = .ok (.getfield 149, 3) := by decide +kernel
theorem dX1_putOil_81 : decode cX1_putOil 81 = .ok (.ireturn, 1) := by decide +kernel
theorem dX1_addDrops_0 : decode cX1_addDrops 0 = .ok (.iload_n 1, 1) := by decide +kernel
theorem dX1_addDrops_1 : decode cX1_addDrops 1 = .ok (.iconst 1, 1) := by decide +kernel
theorem dX1_addDrops_2 : decode cX1_addDrops 2 = .ok (.if_icmp .lt 9, 3) := by decide +kernel
theorem dX1_addDrops_5 : decode cX1_addDrops 5 = .ok (.iload_n 1, 1) := by decide +kernel
theorem dX1_addDrops_6 : decode cX1_addDrops 6 = .ok (.bipush 50, 2) := by decide +kernel
theorem dX1_addDrops_8 : decode cX1_addDrops 8 = .ok (.if_icmp .le 6, 3) := by decide +kernel
theorem dX1_addDrops_11 : decode cX1_addDrops 11 = .ok (.bipush (-2), 2) := by decide +kernel
theorem dX1_addDrops_13 : decode cX1_addDrops 13 = .ok (.ireturn, 1) := by decide +kernel
theorem dX1_addDrops_14 : decode cX1_addDrops 14 = .ok (.aload_n 0, 1) := by decide +kernel
theorem dX1_addDrops_15 : decode cX1_addDrops 15 = .ok (.getfield 9, 3) := by decide +kernel
theorem dX1_addDrops_18 : decode cX1_addDrops 18 = .ok (.getfield 149, 3) := by decide +kernel
theorem dX1_addDrops_21 : decode cX1_addDrops 21 = .ok (.iload_n 1, 1) := by decide +kernel
theorem dX1_addDrops_22 : decode cX1_addDrops 22 = .ok (.iadd, 1) := by decide +kernel
theorem dX1_addDrops_23 : decode cX1_addDrops 23 = .ok (.bipush 99, 2) := by decide +kernel
theorem dX1_addDrops_25 : decode cX1_addDrops 25 = .ok (.if_icmp .le 6, 3) := by decide +kernel
theorem dX1_addDrops_28 : decode cX1_addDrops 28 = .ok (.bipush (-3), 2) := by decide +kernel
theorem dX1_addDrops_30 : decode cX1_addDrops 30 = .ok (.ireturn, 1) := by decide +kernel
theorem dX1_addDrops_31 : decode cX1_addDrops 31 = .ok (.aload_n 0, 1) := by decide +kernel
theorem dX1_addDrops_32 : decode cX1_addDrops 32 = .ok (.getfield 9, 3) := by decide +kernel
theorem dX1_addDrops_35 : decode cX1_addDrops 35 = .ok (.dup, 1) := by decide +kernel
theorem dX1_addDrops_36 : decode cX1_addDrops 36 = .ok (.getfield 149, 3) := by decide +kernel
theorem dX1_addDrops_39 : decode cX1_addDrops 39 = .ok (.iload_n 1, 1) := by decide +kernel
theorem dX1_addDrops_40 : decode cX1_addDrops 40 = .ok (.iadd, 1) := by decide +kernel
theorem dX1_addDrops_41 : decode cX1_addDrops 41 = .ok (.putfield 149, 3) := by decide +kernel
theorem dX1_addDrops_44 : decode cX1_addDrops 44 = .ok (.aload_n 0, 1) := by decide +kernel
theorem dX1_addDrops_45 : decode cX1_addDrops 45 = .ok (.getfield 9, 3) := by decide +kernel
theorem dX1_addDrops_48 : decode cX1_addDrops 48 = .ok (.getfield 149, 3) := by decide +kernel
theorem dX1_addDrops_51 : decode cX1_addDrops 51 = .ok (.ireturn, 1) := by decide +kernel
set_option maxRecDepth 20000 in
theorem ggX1_putPlanet_X7_isGear : GoodIn wsX1_putPlanet wsX7_isGear := goodIn_r _ [8, 9, 18, 19, 20, 21, 22, 23, 24, 25, 26, 27, 28, 29, 30, 31, 32, 33, 34] (by decide +kernel) (by decide +kernel)
set_option maxRecDepth 20000 in
theorem gX1_putPlanet_X7_isGear : GoodIn wsX1_putPlanet (wsV RX1 36 RX7 yX7_isGear wsX7_isGear) := goodIn_app (goodIn_of _ (by decide +kernel)) ggX1_putPlanet_X7_isGear
set_option maxRecDepth 20000 in
theorem ggX1_putPlanet_X7_carriesPlanet : GoodIn wsX1_putPlanet wsX7_carriesPlanet := goodIn_ca (goodIn_r _ [13, 14, 15, 18, 19, 20, 21, 22, 23, 24, 25, 26, 27, 28, 29, 30, 31, 32, 33, 34] (by decide +kernel) (by decide +kernel)) (goodIn_sub (fun _ h => List.mem_cons_of_mem _ (List.mem_append_right _ h)) (by decide +kernel))
set_option maxRecDepth 20000 in
theorem gX1_putPlanet_X7_carriesPlanet : GoodIn wsX1_putPlanet (wsV RX1 155 RX7 yX7_carriesPlanet wsX7_carriesPlanet) := goodIn_app (goodIn_of _ (by decide +kernel)) ggX1_putPlanet_X7_carriesPlanet
theorem dX1_putPlanet_0 : decode cX1_putPlanet 0 = .ok (.aload_n 0, 1) := by decide +kernel
theorem dX1_putPlanet_1 : decode cX1_putPlanet 1 = .ok (.getfield 9, 3) := by decide +kernel
theorem dX1_putPlanet_4 : decode cX1_putPlanet 4 = .ok (.iload_n 1, 1) := by decide +kernel
theorem dX1_putPlanet_5 : decode cX1_putPlanet 5 = .ok (.invokevirtual 36, 3) := by decide +kernel
theorem dX1_putPlanet_8 : decode cX1_putPlanet 8 = .ok (.ifCond .ne 5, 3) := by decide +kernel
theorem dX1_putPlanet_11 : decode cX1_putPlanet 11 = .ok (.iconst (-1), 1) := by decide +kernel
theorem dX1_putPlanet_12 : decode cX1_putPlanet 12 = .ok (.ireturn, 1) := by decide +kernel
theorem dX1_putPlanet_13 : decode cX1_putPlanet 13 = .ok (.aload_n 0, 1) := by decide +kernel
theorem dX1_putPlanet_14 : decode cX1_putPlanet 14 = .ok (.getfield 9, 3) := by decide +kernel
theorem dX1_putPlanet_17 : decode cX1_putPlanet 17 = .ok (.getfield 152, 3) := by decide +kernel
theorem dX1_putPlanet_20 : decode cX1_putPlanet 20 = .ok (.bipush 6, 2) := by decide +kernel
theorem dX1_putPlanet_22 : decode cX1_putPlanet 22 = .ok (.if_icmp .ge 14, 3) := by decide +kernel
theorem dX1_putPlanet_25 : decode cX1_putPlanet 25 = .ok (.aload_n 0, 1) := by decide +kernel
theorem dX1_putPlanet_26 : decode cX1_putPlanet 26 = .ok (.getfield 9, 3) := by decide +kernel
theorem dX1_putPlanet_29 : decode cX1_putPlanet 29 = .ok (.iload_n 1, 1) := by decide +kernel
theorem dX1_putPlanet_30 : decode cX1_putPlanet 30 = .ok (.invokevirtual 155, 3) := by decide +kernel
theorem dX1_putPlanet_33 : decode cX1_putPlanet 33 = .ok (.ifCond .eq 6, 3) := by decide +kernel
theorem dX1_putPlanet_36 : decode cX1_putPlanet 36 = .ok (.bipush (-3), 2) := by decide +kernel
theorem dX1_putPlanet_38 : decode cX1_putPlanet 38 = .ok (.ireturn, 1) := by decide +kernel
theorem dX1_putPlanet_39 : decode cX1_putPlanet 39 = .ok (.aload_n 0, 1) := by decide +kernel
theorem dX1_putPlanet_40 : decode cX1_putPlanet 40 = .ok (.getfield 9, 3) := by decide +kernel
theorem dX1_putPlanet_43 : decode cX1_putPlanet 43 = .ok (.getfield 152, 3) := by decide +kernel
theorem dX1_putPlanet_46 : decode cX1_putPlanet 46 = .ok (.istore_n 2, 1) := by decide +kernel
theorem dX1_putPlanet_47 : decode cX1_putPlanet 47 = .ok (.aload_n 0, 1) := by decide +kernel
theorem dX1_putPlanet_48 : decode cX1_putPlanet 48 = .ok (.getfield 9, 3) := by decide +kernel
theorem dX1_putPlanet_51 : decode cX1_putPlanet 51 = .ok (.getfield 158, 3) := by decide +kernel
theorem dX1_putPlanet_54 : decode cX1_putPlanet 54 = .ok (.iload_n 2, 1) := by decide +kernel
theorem dX1_putPlanet_55 : decode cX1_putPlanet 55 = .ok (.iload_n 1, 1) := by decide +kernel
theorem dX1_putPlanet_56 : decode cX1_putPlanet 56 = .ok (.iastore, 1) := by decide +kernel
theorem dX1_putPlanet_57 : decode cX1_putPlanet 57 = .ok (.aload_n 0, 1) := by decide +kernel
theorem dX1_putPlanet_58 : decode cX1_putPlanet 58 = .ok (.getfield 9, 3) := by decide +kernel
theorem dX1_putPlanet_61 : decode cX1_putPlanet 61 = .ok (.iload_n 2, 1) := by decide +kernel
theorem dX1_putPlanet_62 : decode cX1_putPlanet 62 = .ok (.iconst 1, 1) := by decide +kernel
theorem dX1_putPlanet_63 : decode cX1_putPlanet 63 = .ok (.iadd, 1) := by decide +kernel
theorem dX1_putPlanet_64 : decode cX1_putPlanet 64 = .ok (.putfield 152, 3) := by decide +kernel
theorem dX1_putPlanet_67 : decode cX1_putPlanet 67 = .ok (.iload_n 2, 1) := by decide +kernel
theorem dX1_putPlanet_68 : decode cX1_putPlanet 68 = .ok (.ireturn, 1) := by decide +kernel
theorem dX2_init_0 : decode cX2_init 0 = .ok (.aload_n 0, 1) := by decide +kernel
theorem dX2_init_1 : decode cX2_init 1 = .ok (.invokespecial 3, 3) := by decide +kernel
theorem dX2_init_4 : decode cX2_init 4 = .ok (.aload_n 0, 1) := by decide +kernel
theorem dX2_init_5 : decode cX2_init 5 = .ok (.aload_n 1, 1) := by decide +kernel
theorem dX2_init_6 : decode cX2_init 6 = .ok (.putfield 9, 3) := by decide +kernel
theorem dX2_init_9 : decode cX2_init 9 = .ok (.aload_n 0, 1) := by decide +kernel
theorem dX2_init_10 : decode cX2_init 10 = .ok (.aload_n 2, 1) := by decide +kernel
theorem dX2_init_11 : decode cX2_init 11 = .ok (.putfield 15, 3) := by decide +kernel
theorem dX2_init_14 : decode cX2_init 14 = .ok (.return_, 1) := by decide +kernel
set_option maxRecDepth 20000 in
theorem ggX2_judge_X7_isPlanet : GoodIn wsX2_judge wsX7_isPlanet := goodIn_r _ [8, 9, 53, 54, 55, 56, 57, 58, 59, 60, 61, 62, 63, 64, 65, 66, 67, 68, 69] (by decide +kernel) (by decide +kernel)
set_option maxRecDepth 20000 in
theorem gX2_judge_X7_isPlanet : GoodIn wsX2_judge (wsV RX2 19 RX7 yX7_isPlanet wsX7_isPlanet) := goodIn_app (goodIn_of _ (by decide +kernel)) ggX2_judge_X7_isPlanet
set_option maxRecDepth 20000 in
theorem ggX2_judge_X7_isGear : GoodIn wsX2_judge wsX7_isGear := goodIn_r _ [13, 14, 53, 54, 55, 56, 57, 58, 59, 60, 61, 62, 63, 64, 65, 66, 67, 68, 69] (by decide +kernel) (by decide +kernel)
set_option maxRecDepth 20000 in
theorem gX2_judge_X7_isGear : GoodIn wsX2_judge (wsV RX2 25 RX7 yX7_isGear wsX7_isGear) := goodIn_app (goodIn_of _ (by decide +kernel)) ggX2_judge_X7_isGear
set_option maxRecDepth 20000 in
theorem ggX2_judge_X8_trace : GoodIn wsX2_judge wsX8_trace := goodIn_ca (goodIn_r _ [19, 20, 21, 22, 23, 24, 25, 26, 27, 18, 28, 29, 30, 31, 7, 32, 33, 34, 35, 36, 37, 38, 39, 40, 41, 42, 43, 44, 45, 46, 70, 71, 72, 53, 54, 55, 56, 57, 58, 59, 60, 61, 62, 63, 64, 65, 66, 67, 68, 69] (by decide +kernel) (by decide +kernel)) (goodIn_sub (fun _ h => List.mem_cons_of_mem _ (List.mem_append_right _ h)) (by decide +kernel))
set_option maxRecDepth 20000 in
theorem gX2_judge_X8_trace : GoodIn wsX2_judge (wsV RX2 28 RX8 yX8_trace wsX8_trace) := goodIn_app (goodIn_of _ (by decide +kernel)) ggX2_judge_X8_trace
set_option maxRecDepth 20000 in
theorem ggX2_judge_X8_holds : GoodIn wsX2_judge wsX8_holds := goodIn_ca (goodIn_r _ [50, 20, 70, 71, 72] (by decide +kernel) (by decide +kernel)) (goodIn_sub (fun _ h => List.mem_cons_of_mem _ (List.mem_append_right _ h)) (by decide +kernel))
set_option maxRecDepth 20000 in
theorem gX2_judge_X8_holds : GoodIn wsX2_judge (wsV RX2 38 RX8 yX8_holds wsX8_holds) := goodIn_app (goodIn_of _ (by decide +kernel)) ggX2_judge_X8_holds
theorem dX2_judge_0 : decode cX2_judge 0 = .ok (.aload_n 0, 1) := by decide +kernel
theorem dX2_judge_1 : decode cX2_judge 1 = .ok (.getfield 9, 3) := by decide +kernel
theorem dX2_judge_4 : decode cX2_judge 4 = .ok (.iload_n 1, 1) := by decide +kernel
theorem dX2_judge_5 : decode cX2_judge 5 = .ok (.invokevirtual 19, 3) := by decide +kernel
theorem dX2_judge_8 : decode cX2_judge 8 = .ok (.ifCond .eq 25, 3) := by decide +kernel
theorem dX2_judge_11 : decode cX2_judge 11 = .ok (.aload_n 0, 1) := by decide +kernel
theorem dX2_judge_12 : decode cX2_judge 12 = .ok (.getfield 9, 3) := by decide +kernel
theorem dX2_judge_15 : decode cX2_judge 15 = .ok (.iload_n 2, 1) := by decide +kernel
theorem dX2_judge_16 : decode cX2_judge 16 = .ok (.invokevirtual 19, 3) := by decide +kernel
theorem dX2_judge_19 : decode cX2_judge 19 = .ok (.ifCond .eq 14, 3) := by decide +kernel
theorem dX2_judge_22 : decode cX2_judge 22 = .ok (.aload_n 0, 1) := by decide +kernel
theorem dX2_judge_23 : decode cX2_judge 23 = .ok (.getfield 9, 3) := by decide +kernel
theorem dX2_judge_26 : decode cX2_judge 26 = .ok (.iload_n 3, 1) := by decide +kernel
theorem dX2_judge_27 : decode cX2_judge 27 = .ok (.invokevirtual 25, 3) := by decide +kernel
theorem dX2_judge_30 : decode cX2_judge 30 = .ok (.ifCond .ne 5, 3) := by decide +kernel
theorem dX2_judge_33 : decode cX2_judge 33 = .ok (.iconst (-1), 1) := by decide +kernel
theorem dX2_judge_34 : decode cX2_judge 34 = .ok (.ireturn, 1) := by decide +kernel
theorem dX2_judge_35 : decode cX2_judge 35 = .ok (.iload_n 1, 1) := by decide +kernel
theorem dX2_judge_36 : decode cX2_judge 36 = .ok (.iload_n 2, 1) := by decide +kernel
theorem dX2_judge_37 : decode cX2_judge 37 = .ok (.if_icmp .ne 6, 3) := by decide +kernel
theorem dX2_judge_40 : decode cX2_judge 40 = .ok (.bipush (-2), 2) := by decide +kernel
theorem dX2_judge_42 : decode cX2_judge 42 = .ok (.ireturn, 1) := by decide +kernel
theorem dX2_judge_43 : decode cX2_judge 43 = .ok (.aload_n 0, 1) := by decide +kernel
theorem dX2_judge_44 : decode cX2_judge 44 = .ok (.getfield 15, 3) := by decide +kernel
theorem dX2_judge_47 : decode cX2_judge 47 = .ok (.aload_n 0, 1) := by decide +kernel
theorem dX2_judge_48 : decode cX2_judge 48 = .ok (.getfield 9, 3) := by decide +kernel
theorem dX2_judge_51 : decode cX2_judge 51 = .ok (.iload_n 3, 1) := by decide +kernel
theorem dX2_judge_52 : decode cX2_judge 52 = .ok (.invokevirtual 28, 3) := by decide +kernel
theorem dX2_judge_55 : decode cX2_judge 55 = .ok (.aload_n 0, 1) := by decide +kernel
theorem dX2_judge_56 : decode cX2_judge 56 = .ok (.getfield 15, 3) := by decide +kernel
theorem dX2_judge_59 : decode cX2_judge 59 = .ok (.aload_n 0, 1) := by decide +kernel
theorem dX2_judge_60 : decode cX2_judge 60 = .ok (.getfield 9, 3) := by decide +kernel
theorem dX2_judge_63 : decode cX2_judge 63 = .ok (.getfield 34, 3) := by decide +kernel
theorem dX2_judge_66 : decode cX2_judge 66 = .ok (.iload_n 1, 1) := by decide +kernel
theorem dX2_judge_67 : decode cX2_judge 67 = .ok (.iaload, 1) := by decide +kernel
theorem dX2_judge_68 : decode cX2_judge 68 = .ok (.invokevirtual 38, 3) := by decide +kernel
theorem dX2_judge_71 : decode cX2_judge 71 = .ok (.ifCond .eq 22, 3) := by decide +kernel
theorem dX2_judge_74 : decode cX2_judge 74 = .ok (.aload_n 0, 1) := by decide +kernel
theorem dX2_judge_75 : decode cX2_judge 75 = .ok (.getfield 15, 3) := by decide +kernel
theorem dX2_judge_78 : decode cX2_judge 78 = .ok (.aload_n 0, 1) := by decide +kernel
theorem dX2_judge_79 : decode cX2_judge 79 = .ok (.getfield 9, 3) := by decide +kernel
theorem dX2_judge_82 : decode cX2_judge 82 = .ok (.getfield 34, 3) := by decide +kernel
theorem dX2_judge_85 : decode cX2_judge 85 = .ok (.iload_n 2, 1) := by decide +kernel
theorem dX2_judge_86 : decode cX2_judge 86 = .ok (.iaload, 1) := by decide +kernel
theorem dX2_judge_87 : decode cX2_judge 87 = .ok (.invokevirtual 38, 3) := by decide +kernel
theorem dX2_judge_90 : decode cX2_judge 90 = .ok (.ifCond .ne 6, 3) := by decide +kernel
theorem dX2_judge_93 : decode cX2_judge 93 = .ok (.bipush (-3), 2) := by decide +kernel
theorem dX2_judge_95 : decode cX2_judge 95 = .ok (.ireturn, 1) := by decide +kernel
theorem dX2_judge_96 : decode cX2_judge 96 = .ok (.iconst 0, 1) := by decide +kernel
theorem dX2_judge_97 : decode cX2_judge 97 = .ok (.ireturn, 1) := by decide +kernel
set_option maxRecDepth 20000 in
theorem ggX2_bySolving_X8_trace : GoodIn wsX2_bySolving wsX8_trace := goodIn_ca (goodIn_r _ [12, 13, 14, 15, 16, 17, 18, 19, 20, 11, 21, 22, 23, 24, 25, 26, 27, 28, 29, 30, 31, 32, 33, 34, 35, 36, 37, 38, 39, 40, 82, 83, 84, 65, 66, 67, 68, 69, 70, 71, 72, 73, 74, 75, 76, 77, 78, 79, 80, 81] (by decide +kernel) (by decide +kernel)) (goodIn_sub (fun _ h => List.mem_cons_of_mem _ (List.mem_append_right _ h)) (by decide +kernel))
set_option maxRecDepth 20000 in
theorem gX2_bySolving_X8_trace : GoodIn wsX2_bySolving (wsV RX2 28 RX8 yX8_trace wsX8_trace) := goodIn_app (goodIn_of _ (by decide +kernel)) ggX2_bySolving_X8_trace
set_option maxRecDepth 20000 in
theorem ggX2_bySolving_X4_remainder : GoodIn wsX2_bySolving wsX4_remainder := goodIn_r _ [43, 44, 45, 39, 46] (by decide +kernel) (by decide +kernel)
set_option maxRecDepth 20000 in
theorem gX2_bySolving_X4_remainder : GoodIn wsX2_bySolving (va_wsS RX2 47 yX4_remainder wsX4_remainder) := goodIn_app (goodIn_of _ (by decide +kernel)) ggX2_bySolving_X4_remainder
set_option maxRecDepth 20000 in
theorem ggX2_bySolving_X4_commonDivisor : GoodIn wsX2_bySolving wsX4_commonDivisor := goodIn_r _ [49, 50, 51, 52, 53, 54, 42, 35, 43, 44, 45, 39, 46] (by decide +kernel) (by decide +kernel)
set_option maxRecDepth 20000 in
theorem gX2_bySolving_X4_commonDivisor : GoodIn wsX2_bySolving (va_wsS RX2 56 yX4_commonDivisor wsX4_commonDivisor) := goodIn_app (goodIn_of _ (by decide +kernel)) ggX2_bySolving_X4_commonDivisor
set_option maxRecDepth 20000 in
theorem ggX2_bySolving_X4_quotient : GoodIn wsX2_bySolving wsX4_quotient := goodIn_r _ [36, 37, 38, 39, 40] (by decide +kernel) (by decide +kernel)
set_option maxRecDepth 20000 in
theorem gX2_bySolving_X4_quotient : GoodIn wsX2_bySolving (va_wsS RX2 59 yX4_quotient wsX4_quotient) := goodIn_app (goodIn_of _ (by decide +kernel)) ggX2_bySolving_X4_quotient
set_option maxRecDepth 20000 in
theorem ggX2_bySolving_X4_inverse : GoodIn wsX2_bySolving wsX4_inverse := goodIn_r _ [58, 54, 42, 35, 43, 44, 45, 39, 46, 59, 34, 36, 37, 38, 40] (by decide +kernel) (by decide +kernel)
set_option maxRecDepth 20000 in
theorem gX2_bySolving_X4_inverse : GoodIn wsX2_bySolving (va_wsS RX2 62 yX4_inverse wsX4_inverse) := goodIn_app (goodIn_of _ (by decide +kernel)) ggX2_bySolving_X4_inverse
set_option maxRecDepth 20000 in
theorem ggX2_bySolving_X4_product : GoodIn wsX2_bySolving wsX4_product := goodIn_r _ [62, 54, 42, 35, 43, 44, 45, 39, 46] (by decide +kernel) (by decide +kernel)
set_option maxRecDepth 20000 in
theorem gX2_bySolving_X4_product : GoodIn wsX2_bySolving (va_wsS RX2 65 yX4_product wsX4_product) := goodIn_app (goodIn_of _ (by decide +kernel)) ggX2_bySolving_X4_product
theorem dX2_bySolving_0 : decode cX2_bySolving 0 = .ok (.aload_n 0, 1) := by decide +kernel
theorem dX2_bySolving_1 : decode cX2_bySolving 1 = .ok (.getfield 15, 3) := by decide +kernel
theorem dX2_bySolving_4 : decode cX2_bySolving 4 = .ok (.aload_n 0, 1) := by decide +kernel
theorem dX2_bySolving_5 : decode cX2_bySolving 5 = .ok (.getfield 9, 3) := by decide +kernel
theorem dX2_bySolving_8 : decode cX2_bySolving 8 = .ok (.iload_n 3, 1) := by decide +kernel
theorem dX2_bySolving_9 : decode cX2_bySolving 9 = .ok (.invokevirtual 28, 3) := by decide +kernel
theorem dX2_bySolving_12 : decode cX2_bySolving 12 = .ok (.aload_n 0, 1) := by decide +kernel
theorem dX2_bySolving_13 : decode cX2_bySolving 13 = .ok (.getfield 9, 3) := by decide +kernel
theorem dX2_bySolving_16 : decode cX2_bySolving 16 = .ok (.getfield 34, 3) := by decide +kernel
theorem dX2_bySolving_19 : decode cX2_bySolving 19 = .ok (.iload_n 1, 1) := by decide +kernel
theorem dX2_bySolving_20 : decode cX2_bySolving 20 = .ok (.iaload, 1) := by decide +kernel
theorem dX2_bySolving_21 : decode cX2_bySolving 21 = .ok (.istore 4, 2) := by decide +kernel
theorem dX2_bySolving_23 : decode cX2_bySolving 23 = .ok (.aload_n 0, 1) := by decide +kernel
theorem dX2_bySolving_24 : decode cX2_bySolving 24 = .ok (.getfield 9, 3) := by decide +kernel
theorem dX2_bySolving_27 : decode cX2_bySolving 27 = .ok (.getfield 34, 3) := by decide +kernel
theorem dX2_bySolving_30 : decode cX2_bySolving 30 = .ok (.iload_n 2, 1) := by decide +kernel
theorem dX2_bySolving_31 : decode cX2_bySolving 31 = .ok (.iaload, 1) := by decide +kernel
theorem dX2_bySolving_32 : decode cX2_bySolving 32 = .ok (.istore 5, 2) := by decide +kernel
theorem dX2_bySolving_34 : decode cX2_bySolving 34 = .ok (.aload_n 0, 1) := by decide +kernel
theorem dX2_bySolving_35 : decode cX2_bySolving 35 = .ok (.getfield 15, 3) := by decide +kernel
theorem dX2_bySolving_38 : decode cX2_bySolving 38 = .ok (.getfield 41, 3) := by decide +kernel
theorem dX2_bySolving_41 : decode cX2_bySolving 41 = .ok (.iload 4, 2) := by decide +kernel
theorem dX2_bySolving_43 : decode cX2_bySolving 43 = .ok (.laload, 1) := by decide +kernel
theorem dX2_bySolving_44 : decode cX2_bySolving 44 = .ok (.aload_n 0, 1) := by decide +kernel
theorem dX2_bySolving_45 : decode cX2_bySolving 45 = .ok (.getfield 15, 3) := by decide +kernel
theorem dX2_bySolving_48 : decode cX2_bySolving 48 = .ok (.getfield 41, 3) := by decide +kernel
theorem dX2_bySolving_51 : decode cX2_bySolving 51 = .ok (.iload 5, 2) := by decide +kernel
theorem dX2_bySolving_53 : decode cX2_bySolving 53 = .ok (.laload, 1) := by decide +kernel
theorem dX2_bySolving_54 : decode cX2_bySolving 54 = .ok (.lsub, 1) := by decide +kernel
theorem dX2_bySolving_55 : decode cX2_bySolving 55 = .ok (.ldc2_w 45, 3) := by decide +kernel
theorem dX2_bySolving_58 : decode cX2_bySolving 58 = .ok (.invokestatic 47, 3) := by decide +kernel
theorem dX2_bySolving_61 : decode cX2_bySolving 61 = .ok (.lstore 6, 2) := by decide +kernel
theorem dX2_bySolving_63 : decode cX2_bySolving 63 = .ok (.aload_n 0, 1) := by decide +kernel
theorem dX2_bySolving_64 : decode cX2_bySolving 64 = .ok (.getfield 9, 3) := by decide +kernel
theorem dX2_bySolving_67 : decode cX2_bySolving 67 = .ok (.getfield 53, 3) := by decide +kernel
theorem dX2_bySolving_70 : decode cX2_bySolving 70 = .ok (.iload 5, 2) := by decide +kernel
theorem dX2_bySolving_72 : decode cX2_bySolving 72 = .ok (.laload, 1) := by decide +kernel
theorem dX2_bySolving_73 : decode cX2_bySolving 73 = .ok (.aload_n 0, 1) := by decide +kernel
theorem dX2_bySolving_74 : decode cX2_bySolving 74 = .ok (.getfield 9, 3) := by decide +kernel
theorem dX2_bySolving_77 : decode cX2_bySolving 77 = .ok (.getfield 53, 3) := by decide +kernel
theorem dX2_bySolving_80 : decode cX2_bySolving 80 = .ok (.iload 4, 2) := by decide +kernel
theorem dX2_bySolving_82 : decode cX2_bySolving 82 = .ok (.laload, 1) := by decide +kernel
theorem dX2_bySolving_83 : decode cX2_bySolving 83 = .ok (.lsub, 1) := by decide +kernel
theorem dX2_bySolving_84 : decode cX2_bySolving 84 = .ok (.ldc2_w 45, 3) := by decide +kernel
theorem dX2_bySolving_87 : decode cX2_bySolving 87 = .ok (.invokestatic 47, 3) := by decide +kernel
theorem dX2_bySolving_90 : decode cX2_bySolving 90 = .ok (.lstore 8, 2) := by decide +kernel
theorem dX2_bySolving_92 : decode cX2_bySolving 92 = .ok (.lload 6, 2) := by decide +kernel
theorem dX2_bySolving_94 : decode cX2_bySolving 94 = .ok (.ldc2_w 45, 3) := by decide +kernel
theorem dX2_bySolving_97 : decode cX2_bySolving 97 = .ok (.invokestatic 56, 3) := by decide +kernel
theorem dX2_bySolving_100 : decode cX2_bySolving 100 = .ok (.lstore 10, 2) := by decide +kernel
theorem dX2_bySolving_102 : decode cX2_bySolving 102 = .ok (.lload 8, 2) := by decide +kernel
theorem dX2_bySolving_104 : decode cX2_bySolving 104 = .ok (.lload 10, 2) := by decide +kernel
theorem dX2_bySolving_106 : decode cX2_bySolving 106 = .ok (.invokestatic 47, 3) := by decide +kernel
theorem dX2_bySolving_109 : decode cX2_bySolving 109 = .ok (.lconst 0, 1) := by decide +kernel
theorem dX2_bySolving_110 : decode cX2_bySolving 110 = .ok (.lcmp, 1) := by decide +kernel
theorem dX2_bySolving_111 : decode cX2_bySolving 111 = .ok (.ifCond .eq 5, 3) := by decide +kernel
theorem dX2_bySolving_114 : decode cX2_bySolving 114 = .ok (.iconst 0, 1) := by decide +kernel
theorem dX2_bySolving_115 : decode cX2_bySolving 115 = .ok (.ireturn, 1) := by decide +kernel
theorem dX2_bySolving_116 : decode cX2_bySolving 116 = .ok (.ldc2_w 45, 3) := by decide +kernel
theorem dX2_bySolving_119 : decode cX2_bySolving 119 = .ok (.lload 10, 2) := by decide +kernel
theorem dX2_bySolving_121 : decode cX2_bySolving 121 = .ok (.invokestatic 59, 3) := by decide +kernel
theorem dX2_bySolving_124 : decode cX2_bySolving 124 = .ok (.lstore 12, 2) := by decide +kernel
theorem dX2_bySolving_126 : decode cX2_bySolving 126 = .ok (.lload 8, 2) := by decide +kernel
theorem dX2_bySolving_128 : decode cX2_bySolving 128 = .ok (.lload 10, 2) := by decide +kernel
theorem dX2_bySolving_130 : decode cX2_bySolving 130 = .ok (.invokestatic 59, 3) := by decide +kernel
theorem dX2_bySolving_133 : decode cX2_bySolving 133 = .ok (.lload 6, 2) := by decide +kernel
theorem dX2_bySolving_135 : decode cX2_bySolving 135 = .ok (.lload 10, 2) := by decide +kernel
theorem dX2_bySolving_137 : decode cX2_bySolving 137 = .ok (.invokestatic 59, 3) := by decide +kernel
theorem dX2_bySolving_140 : decode cX2_bySolving 140 = .ok (.lload 12, 2) := by decide +kernel
theorem dX2_bySolving_142 : decode cX2_bySolving 142 = .ok (.invokestatic 62, 3) := by decide +kernel
theorem dX2_bySolving_145 : decode cX2_bySolving 145 = .ok (.lload 12, 2) := by decide +kernel
theorem dX2_bySolving_147 : decode cX2_bySolving 147 = .ok (.invokestatic 65, 3) := by decide +kernel
theorem dX2_bySolving_150 : decode cX2_bySolving 150 = .ok (.lstore 14, 2) := by decide +kernel
theorem dX2_bySolving_152 : decode cX2_bySolving 152 = .ok (.lload 14, 2) := by decide +kernel
theorem dX2_bySolving_154 : decode cX2_bySolving 154 = .ok (.lconst 0, 1) := by decide +kernel
theorem dX2_bySolving_155 : decode cX2_bySolving 155 = .ok (.lcmp, 1) := by decide +kernel
theorem dX2_bySolving_156 : decode cX2_bySolving 156 = .ok (.ifCond .ne 7, 3) := by decide +kernel
theorem dX2_bySolving_159 : decode cX2_bySolving 159 = .ok (.lload 12, 2) := by decide +kernel
theorem dX2_bySolving_161 : decode cX2_bySolving 161 = .ok (.lstore 14, 2) := by decide +kernel
theorem dX2_bySolving_163 : decode cX2_bySolving 163 = .ok (.lload 14, 2) := by decide +kernel
theorem dX2_bySolving_165 : decode cX2_bySolving 165 = .ok (.ldc2_w 69, 3) := by decide +kernel
theorem dX2_bySolving_168 : decode cX2_bySolving 168 = .ok (.lcmp, 1) := by decide +kernel
theorem dX2_bySolving_169 : decode cX2_bySolving 169 = .ok (.ifCond .le 7, 3) := by decide +kernel
theorem dX2_bySolving_172 : decode cX2_bySolving 172 = .ok (.iconst 0, 1) := by decide +kernel
theorem dX2_bySolving_173 : decode cX2_bySolving 173 = .ok (.goto 6, 3) := by decide +kernel
theorem dX2_bySolving_176 : decode cX2_bySolving 176 = .ok (.lload 14, 2) := by decide +kernel
theorem dX2_bySolving_178 : decode cX2_bySolving 178 = .ok (.l2i, 1) := by decide +kernel
theorem dX2_bySolving_179 : decode cX2_bySolving 179 = .ok (.ireturn, 1) := by decide +kernel
set_option maxRecDepth 20000 in
theorem ggX2_byTurning_X8_trace : GoodIn wsX2_byTurning wsX8_trace := goodIn_ca (goodIn_r _ [11, 12, 13, 14, 15, 16, 17, 18, 19, 10, 20, 21, 22, 23, 24, 25, 26, 27, 28, 29, 30, 31, 32, 33, 34, 35, 36, 37, 38, 39, 65, 66, 67, 48, 49, 50, 51, 52, 53, 54, 55, 56, 57, 58, 59, 60, 61, 62, 63, 64] (by decide +kernel) (by decide +kernel)) (goodIn_sub (fun _ h => List.mem_cons_of_mem _ (List.mem_append_right _ h)) (by decide +kernel))
set_option maxRecDepth 20000 in
theorem gX2_byTurning_X8_trace : GoodIn wsX2_byTurning (wsV RX2 28 RX8 yX8_trace wsX8_trace) := goodIn_app (goodIn_of _ (by decide +kernel)) ggX2_byTurning_X8_trace
set_option maxRecDepth 20000 in
theorem ggX2_byTurning_X4_remainder : GoodIn wsX2_byTurning wsX4_remainder := goodIn_r _ [42, 43, 44, 38, 45] (by decide +kernel) (by decide +kernel)
set_option maxRecDepth 20000 in
theorem gX2_byTurning_X4_remainder : GoodIn wsX2_byTurning (va_wsS RX2 47 yX4_remainder wsX4_remainder) := goodIn_app (goodIn_of _ (by decide +kernel)) ggX2_byTurning_X4_remainder
theorem dX2_byTurning_0 : decode cX2_byTurning 0 = .ok (.aload_n 0, 1) := by decide +kernel
theorem dX2_byTurning_1 : decode cX2_byTurning 1 = .ok (.getfield 15, 3) := by decide +kernel
theorem dX2_byTurning_4 : decode cX2_byTurning 4 = .ok (.aload_n 0, 1) := by decide +kernel
theorem dX2_byTurning_5 : decode cX2_byTurning 5 = .ok (.getfield 9, 3) := by decide +kernel
theorem dX2_byTurning_8 : decode cX2_byTurning 8 = .ok (.iload_n 3, 1) := by decide +kernel
theorem dX2_byTurning_9 : decode cX2_byTurning 9 = .ok (.invokevirtual 28, 3) := by decide +kernel
theorem dX2_byTurning_12 : decode cX2_byTurning 12 = .ok (.aload_n 0, 1) := by decide +kernel
theorem dX2_byTurning_13 : decode cX2_byTurning 13 = .ok (.getfield 9, 3) := by decide +kernel
theorem dX2_byTurning_16 : decode cX2_byTurning 16 = .ok (.getfield 34, 3) := by decide +kernel
theorem dX2_byTurning_19 : decode cX2_byTurning 19 = .ok (.iload_n 1, 1) := by decide +kernel
theorem dX2_byTurning_20 : decode cX2_byTurning 20 = .ok (.iaload, 1) := by decide +kernel
theorem dX2_byTurning_21 : decode cX2_byTurning 21 = .ok (.istore 4, 2) := by decide +kernel
theorem dX2_byTurning_23 : decode cX2_byTurning 23 = .ok (.aload_n 0, 1) := by decide +kernel
theorem dX2_byTurning_24 : decode cX2_byTurning 24 = .ok (.getfield 9, 3) := by decide +kernel
theorem dX2_byTurning_27 : decode cX2_byTurning 27 = .ok (.getfield 34, 3) := by decide +kernel
theorem dX2_byTurning_30 : decode cX2_byTurning 30 = .ok (.iload_n 2, 1) := by decide +kernel
theorem dX2_byTurning_31 : decode cX2_byTurning 31 = .ok (.iaload, 1) := by decide +kernel
theorem dX2_byTurning_32 : decode cX2_byTurning 32 = .ok (.istore 5, 2) := by decide +kernel
theorem dX2_byTurning_34 : decode cX2_byTurning 34 = .ok (.aload_n 0, 1) := by decide +kernel
theorem dX2_byTurning_35 : decode cX2_byTurning 35 = .ok (.getfield 9, 3) := by decide +kernel
theorem dX2_byTurning_38 : decode cX2_byTurning 38 = .ok (.getfield 53, 3) := by decide +kernel
theorem dX2_byTurning_41 : decode cX2_byTurning 41 = .ok (.iload 4, 2) := by decide +kernel
theorem dX2_byTurning_43 : decode cX2_byTurning 43 = .ok (.laload, 1) := by decide +kernel
theorem dX2_byTurning_44 : decode cX2_byTurning 44 = .ok (.lstore 6, 2) := by decide +kernel
theorem dX2_byTurning_46 : decode cX2_byTurning 46 = .ok (.aload_n 0, 1) := by decide +kernel
theorem dX2_byTurning_47 : decode cX2_byTurning 47 = .ok (.getfield 9, 3) := by decide +kernel
theorem dX2_byTurning_50 : decode cX2_byTurning 50 = .ok (.getfield 53, 3) := by decide +kernel
theorem dX2_byTurning_53 : decode cX2_byTurning 53 = .ok (.iload 5, 2) := by decide +kernel
theorem dX2_byTurning_55 : decode cX2_byTurning 55 = .ok (.laload, 1) := by decide +kernel
theorem dX2_byTurning_56 : decode cX2_byTurning 56 = .ok (.lstore 8, 2) := by decide +kernel
theorem dX2_byTurning_58 : decode cX2_byTurning 58 = .ok (.iconst 1, 1) := by decide +kernel
theorem dX2_byTurning_59 : decode cX2_byTurning 59 = .ok (.istore 10, 2) := by decide +kernel
theorem dX2_byTurning_61 : decode cX2_byTurning 61 = .ok (.iload 10, 2) := by decide +kernel
theorem dX2_byTurning_63 : decode cX2_byTurning 63 = .ok (.sipush 999, 3) := by decide +kernel
theorem dX2_byTurning_66 : decode cX2_byTurning 66 = .ok (.if_icmp .gt 62, 3) := by decide +kernel
theorem dX2_byTurning_69 : decode cX2_byTurning 69 = .ok (.lload 6, 2) := by decide +kernel
theorem dX2_byTurning_71 : decode cX2_byTurning 71 = .ok (.aload_n 0, 1) := by decide +kernel
theorem dX2_byTurning_72 : decode cX2_byTurning 72 = .ok (.getfield 15, 3) := by decide +kernel
theorem dX2_byTurning_75 : decode cX2_byTurning 75 = .ok (.getfield 41, 3) := by decide +kernel
theorem dX2_byTurning_78 : decode cX2_byTurning 78 = .ok (.iload 4, 2) := by decide +kernel
theorem dX2_byTurning_80 : decode cX2_byTurning 80 = .ok (.laload, 1) := by decide +kernel
theorem dX2_byTurning_81 : decode cX2_byTurning 81 = .ok (.ladd, 1) := by decide +kernel
theorem dX2_byTurning_82 : decode cX2_byTurning 82 = .ok (.ldc2_w 45, 3) := by decide +kernel
theorem dX2_byTurning_85 : decode cX2_byTurning 85 = .ok (.invokestatic 47, 3) := by decide +kernel
theorem dX2_byTurning_88 : decode cX2_byTurning 88 = .ok (.lstore 6, 2) := by decide +kernel
theorem dX2_byTurning_90 : decode cX2_byTurning 90 = .ok (.lload 8, 2) := by decide +kernel
theorem dX2_byTurning_92 : decode cX2_byTurning 92 = .ok (.aload_n 0, 1) := by decide +kernel
theorem dX2_byTurning_93 : decode cX2_byTurning 93 = .ok (.getfield 15, 3) := by decide +kernel
theorem dX2_byTurning_96 : decode cX2_byTurning 96 = .ok (.getfield 41, 3) := by decide +kernel
theorem dX2_byTurning_99 : decode cX2_byTurning 99 = .ok (.iload 5, 2) := by decide +kernel
theorem dX2_byTurning_101 : decode cX2_byTurning 101 = .ok (.laload, 1) := by decide +kernel
theorem dX2_byTurning_102 : decode cX2_byTurning 102 = .ok (.ladd, 1) := by decide +kernel
theorem dX2_byTurning_103 : decode cX2_byTurning 103 = .ok (.ldc2_w 45, 3) := by decide +kernel
theorem dX2_byTurning_106 : decode cX2_byTurning 106 = .ok (.invokestatic 47, 3) := by decide +kernel
theorem dX2_byTurning_109 : decode cX2_byTurning 109 = .ok (.lstore 8, 2) := by decide +kernel
theorem dX2_byTurning_111 : decode cX2_byTurning 111 = .ok (.lload 6, 2) := by decide +kernel
theorem dX2_byTurning_113 : decode cX2_byTurning 113 = .ok (.lload 8, 2) := by decide +kernel
theorem dX2_byTurning_115 : decode cX2_byTurning 115 = .ok (.lcmp, 1) := by decide +kernel
theorem dX2_byTurning_116 : decode cX2_byTurning 116 = .ok (.ifCond .ne 6, 3) := by decide +kernel
theorem dX2_byTurning_119 : decode cX2_byTurning 119 = .ok (.iload 10, 2) := by decide +kernel
theorem dX2_byTurning_121 : decode cX2_byTurning 121 = .ok (.ireturn, 1) := by decide +kernel
theorem dX2_byTurning_122 : decode cX2_byTurning 122 = .ok (.iinc 10 1, 3) := by decide +kernel
theorem dX2_byTurning_125 : decode cX2_byTurning 125 = .ok (.goto (-64), 3) := by decide +kernel
theorem dX2_byTurning_128 : decode cX2_byTurning 128 = .ok (.iconst 0, 1) := by decide +kernel
theorem dX2_byTurning_129 : decode cX2_byTurning 129 = .ok (.ireturn, 1) := by decide +kernel
set_option maxRecDepth 20000 in
theorem ggX2_bothWaysAgree_X2_judge : GoodIn wsX2_bothWaysAgree wsX2_judge := goodIn_ca (goodIn_r _ [8, 1, 9, 3, 10, 11, 12, 13, 14, 15, 16, 17, 18, 19, 20, 21, 22, 23, 24, 25, 26, 27, 28, 29, 30, 31, 32, 33, 34, 35, 36, 37, 38, 39, 40, 41, 42, 43, 44, 45, 46, 47, 48, 49, 50, 51, 52, 53, 54, 55, 56, 91, 92, 93, 94, 95, 96, 97, 98, 99, 100, 101, 102, 103, 104, 105, 106, 107, 108, 109, 110, 111, 112] (by decide +kernel) (by decide +kernel)) (goodIn_sub (fun _ h => List.mem_cons_of_mem _ (List.mem_append_right _ h)) (by decide +kernel))
set_option maxRecDepth 20000 in
theorem gX2_bothWaysAgree_X2_judge : GoodIn wsX2_bothWaysAgree (wsV RX2 75 RX2 yX2_judge wsX2_judge) := goodIn_app (goodIn_of _ (by decide +kernel)) ggX2_bothWaysAgree_X2_judge
set_option maxRecDepth 20000 in
theorem ggX2_bothWaysAgree_X2_bySolving : GoodIn wsX2_bothWaysAgree wsX2_bySolving := goodIn_ca (goodIn_r _ [60, 9, 1, 3, 61, 62, 63, 64, 21, 22, 23, 24, 25, 26, 27, 28, 29, 30, 31, 32, 33, 34, 35, 36, 37, 13, 38, 39, 40, 41, 42, 43, 44, 45, 46, 47, 48, 49, 50, 51, 52, 65, 66, 67, 68, 69, 70, 71, 72, 73, 74, 75, 76, 77, 78, 79, 80, 81, 82, 83, 84, 85, 86, 91, 92, 93, 94, 95, 96, 97, 98, 99, 100, 101, 102, 103, 104, 105, 106, 107, 108, 109, 110, 111, 112] (by decide +kernel) (by decide +kernel)) (goodIn_sub (fun _ h => List.mem_cons_of_mem _ (List.mem_append_right _ h)) (by decide +kernel))
set_option maxRecDepth 20000 in
theorem gX2_bothWaysAgree_X2_bySolving : GoodIn wsX2_bothWaysAgree (wsV RX2 79 RX2 yX2_bySolving wsX2_bySolving) := goodIn_app (goodIn_of _ (by decide +kernel)) ggX2_bothWaysAgree_X2_bySolving
set_option maxRecDepth 20000 in
theorem ggX2_bothWaysAgree_X2_byTurning : GoodIn wsX2_bothWaysAgree wsX2_byTurning := goodIn_ca (goodIn_r _ [90, 9, 1, 3, 63, 61, 62, 21, 22, 23, 24, 25, 26, 27, 28, 29, 30, 31, 32, 33, 34, 35, 36, 37, 13, 38, 39, 40, 41, 42, 43, 44, 45, 46, 47, 48, 49, 50, 51, 52, 65, 66, 67, 68, 69, 70, 91, 92, 93, 94, 95, 96, 97, 98, 99, 100, 101, 102, 103, 104, 105, 106, 107, 108, 109, 110, 111, 112] (by decide +kernel) (by decide +kernel)) (goodIn_sub (fun _ h => List.mem_cons_of_mem _ (List.mem_append_right _ h)) (by decide +kernel))
set_option maxRecDepth 20000 in
theorem gX2_bothWaysAgree_X2_byTurning : GoodIn wsX2_bothWaysAgree (wsV RX2 82 RX2 yX2_byTurning wsX2_byTurning) := goodIn_app (goodIn_of _ (by decide +kernel)) ggX2_bothWaysAgree_X2_byTurning
theorem dX2_bothWaysAgree_0 : decode cX2_bothWaysAgree 0 = .ok (.iconst 0, 1) := by decide +kernel
theorem dX2_bothWaysAgree_1 : decode cX2_bothWaysAgree 1 = .ok (.istore_n 1, 1) := by decide +kernel
theorem dX2_bothWaysAgree_2 : decode cX2_bothWaysAgree 2 = .ok (.iload_n 1, 1) := by decide +kernel
theorem dX2_bothWaysAgree_3 : decode cX2_bothWaysAgree 3 = .ok (.aload_n 0, 1) := by decide +kernel
theorem dX2_bothWaysAgree_4 : decode cX2_bothWaysAgree 4 = .ok (.getfield 9, 3) := by decide +kernel
theorem dX2_bothWaysAgree_7 : decode cX2_bothWaysAgree 7 = .ok (.getfield 71, 3) := by decide +kernel
theorem dX2_bothWaysAgree_10 : decode cX2_bothWaysAgree 10 = .ok (.if_icmp .ge 67, 3) := by decide +kernel
theorem dX2_bothWaysAgree_13 : decode cX2_bothWaysAgree 13 = .ok (.aload_n 0, 1) := by decide +kernel
theorem dX2_bothWaysAgree_14 : decode cX2_bothWaysAgree 14 = .ok (.getfield 9, 3) := by decide +kernel
theorem dX2_bothWaysAgree_17 : decode cX2_bothWaysAgree 17 = .ok (.getfield 34, 3) := by decide +kernel
theorem dX2_bothWaysAgree_20 : decode cX2_bothWaysAgree 20 = .ok (.iload_n 1, 1) := by decide +kernel
theorem dX2_bothWaysAgree_21 : decode cX2_bothWaysAgree 21 = .ok (.iaload, 1) := by decide +kernel
theorem dX2_bothWaysAgree_22 : decode cX2_bothWaysAgree 22 = .ok (.istore_n 2, 1) := by decide +kernel
theorem dX2_bothWaysAgree_23 : decode cX2_bothWaysAgree 23 = .ok (.iconst 0, 1) := by decide +kernel
theorem dX2_bothWaysAgree_24 : decode cX2_bothWaysAgree 24 = .ok (.istore_n 3, 1) := by decide +kernel
theorem dX2_bothWaysAgree_25 : decode cX2_bothWaysAgree 25 = .ok (.iload_n 3, 1) := by decide +kernel
theorem dX2_bothWaysAgree_26 : decode cX2_bothWaysAgree 26 = .ok (.aload_n 0, 1) := by decide +kernel
theorem dX2_bothWaysAgree_27 : decode cX2_bothWaysAgree 27 = .ok (.getfield 9, 3) := by decide +kernel
theorem dX2_bothWaysAgree_30 : decode cX2_bothWaysAgree 30 = .ok (.getfield 71, 3) := by decide +kernel
theorem dX2_bothWaysAgree_33 : decode cX2_bothWaysAgree 33 = .ok (.if_icmp .ge 38, 3) := by decide +kernel
theorem dX2_bothWaysAgree_36 : decode cX2_bothWaysAgree 36 = .ok (.aload_n 0, 1) := by decide +kernel
theorem dX2_bothWaysAgree_37 : decode cX2_bothWaysAgree 37 = .ok (.iload_n 1, 1) := by decide +kernel
theorem dX2_bothWaysAgree_38 : decode cX2_bothWaysAgree 38 = .ok (.iload_n 3, 1) := by decide +kernel
theorem dX2_bothWaysAgree_39 : decode cX2_bothWaysAgree 39 = .ok (.iload_n 2, 1) := by decide +kernel
theorem dX2_bothWaysAgree_40 : decode cX2_bothWaysAgree 40 = .ok (.invokevirtual 75, 3) := by decide +kernel
theorem dX2_bothWaysAgree_43 : decode cX2_bothWaysAgree 43 = .ok (.ifCond .ne 22, 3) := by decide +kernel
theorem dX2_bothWaysAgree_46 : decode cX2_bothWaysAgree 46 = .ok (.aload_n 0, 1) := by decide +kernel
theorem dX2_bothWaysAgree_47 : decode cX2_bothWaysAgree 47 = .ok (.iload_n 1, 1) := by decide +kernel
theorem dX2_bothWaysAgree_48 : decode cX2_bothWaysAgree 48 = .ok (.iload_n 3, 1) := by decide +kernel
theorem dX2_bothWaysAgree_49 : decode cX2_bothWaysAgree 49 = .ok (.iload_n 2, 1) := by decide +kernel
theorem dX2_bothWaysAgree_50 : decode cX2_bothWaysAgree 50 = .ok (.invokevirtual 79, 3) := by decide +kernel
theorem dX2_bothWaysAgree_53 : decode cX2_bothWaysAgree 53 = .ok (.aload_n 0, 1) := by decide +kernel
theorem dX2_bothWaysAgree_54 : decode cX2_bothWaysAgree 54 = .ok (.iload_n 1, 1) := by decide +kernel
theorem dX2_bothWaysAgree_55 : decode cX2_bothWaysAgree 55 = .ok (.iload_n 3, 1) := by decide +kernel
theorem dX2_bothWaysAgree_56 : decode cX2_bothWaysAgree 56 = .ok (.iload_n 2, 1) := by decide +kernel
theorem dX2_bothWaysAgree_57 : decode cX2_bothWaysAgree 57 = .ok (.invokevirtual 82, 3) := by decide +kernel
theorem dX2_bothWaysAgree_60 : decode cX2_bothWaysAgree 60 = .ok (.if_icmp .eq 5, 3) := by decide +kernel
theorem dX2_bothWaysAgree_63 : decode cX2_bothWaysAgree 63 = .ok (.iconst 0, 1) := by decide +kernel
theorem dX2_bothWaysAgree_64 : decode cX2_bothWaysAgree 64 = .ok (.ireturn, 1) := by decide +kernel
theorem dX2_bothWaysAgree_65 : decode cX2_bothWaysAgree 65 = .ok (.iinc 3 1, 3) := by decide +kernel
theorem dX2_bothWaysAgree_68 : decode cX2_bothWaysAgree 68 = .ok (.goto (-43), 3) := by decide +kernel
theorem dX2_bothWaysAgree_71 : decode cX2_bothWaysAgree 71 = .ok (.iinc 1 1, 3) := by decide +kernel
theorem dX2_bothWaysAgree_74 : decode cX2_bothWaysAgree 74 = .ok (.goto (-72), 3) := by decide +kernel
theorem dX2_bothWaysAgree_77 : decode cX2_bothWaysAgree 77 = .ok (.iconst 1, 1) := by decide +kernel
theorem dX2_bothWaysAgree_78 : decode cX2_bothWaysAgree 78 = .ok (.ireturn, 1) := by decide +kernel
set_option maxRecDepth 20000 in
theorem ggX3_init_X7_init : GoodIn wsX3_init wsX7_init := goodIn_r _ [11, 12, 2, 3, 13, 14, 15, 16, 17, 18, 19, 20, 21, 22, 23, 24, 25, 26, 27, 28, 29, 30, 31, 32, 33, 37, 38, 39, 40, 41, 42, 43, 44, 45, 46, 47, 48, 49, 50, 51, 52, 53] (by decide +kernel) (by decide +kernel)
set_option maxRecDepth 20000 in
theorem gX3_init_X7_init_n24 : GoodIn wsX3_init (wsX7_init) := ggX3_init_X7_init
theorem dX3_init_0 : decode cX3_init 0 = .ok (.aload_n 0, 1) := by decide +kernel
theorem dX3_init_1 : decode cX3_init 1 = .ok (.invokespecial 3, 3) := by decide +kernel
theorem dX3_init_4 : decode cX3_init 4 = .ok (.aload_n 0, 1) := by decide +kernel
theorem dX3_init_5 : decode cX3_init 5 = .ok (.bipush 8, 2) := by decide +kernel
theorem dX3_init_7 : decode cX3_init 7 = .ok (.anewarray 9, 3) := by decide +kernel
theorem dX3_init_10 : decode cX3_init 10 = .ok (.putfield 11, 3) := by decide +kernel
theorem dX3_init_13 : decode cX3_init 13 = .ok (.aload_n 0, 1) := by decide +kernel
theorem dX3_init_14 : decode cX3_init 14 = .ok (.iconst 0, 1) := by decide +kernel
theorem dX3_init_15 : decode cX3_init 15 = .ok (.putfield 17, 3) := by decide +kernel
theorem dX3_init_18 : decode cX3_init 18 = .ok (.aload_n 0, 1) := by decide +kernel
theorem dX3_init_19 : decode cX3_init 19 = .ok (.iconst 0, 1) := by decide +kernel
theorem dX3_init_20 : decode cX3_init 20 = .ok (.putfield 21, 3) := by decide +kernel
theorem dX3_init_23 : decode cX3_init 23 = .ok (.iconst 0, 1) := by decide +kernel
theorem dX3_init_24 : decode cX3_init 24 = .ok (.istore_n 1, 1) := by decide +kernel
theorem dX3_init_25 : decode cX3_init 25 = .ok (.iload_n 1, 1) := by decide +kernel
theorem dX3_init_26 : decode cX3_init 26 = .ok (.bipush 8, 2) := by decide +kernel
theorem dX3_init_28 : decode cX3_init 28 = .ok (.if_icmp .ge 22, 3) := by decide +kernel
theorem dX3_init_31 : decode cX3_init 31 = .ok (.aload_n 0, 1) := by decide +kernel
theorem dX3_init_32 : decode cX3_init 32 = .ok (.getfield 11, 3) := by decide +kernel
theorem dX3_init_35 : decode cX3_init 35 = .ok (.iload_n 1, 1) := by decide +kernel
theorem dX3_init_36 : decode cX3_init 36 = .ok (.new 9, 3) := by decide +kernel
theorem dX3_init_39 : decode cX3_init 39 = .ok (.dup, 1) := by decide +kernel
theorem dX3_init_40 : decode cX3_init 40 = .ok (.invokespecial 24, 3) := by decide +kernel
theorem dX3_init_43 : decode cX3_init 43 = .ok (.aastore, 1) := by decide +kernel
theorem dX3_init_44 : decode cX3_init 44 = .ok (.iinc 1 1, 3) := by decide +kernel
theorem dX3_init_47 : decode cX3_init 47 = .ok (.goto (-22), 3) := by decide +kernel
theorem dX3_init_50 : decode cX3_init 50 = .ok (.return_, 1) := by decide +kernel
set_option maxRecDepth 20000 in
theorem ggX3_push_X7_copyFrom : GoodIn wsX3_push wsX7_copyFrom := goodIn_ca (goodIn_r _ [8, 9, 10, 11, 12, 13, 14, 15, 16, 17, 18, 19, 20, 21, 22, 23, 24, 25, 29, 30, 31, 32, 33, 34, 35, 36, 37, 38, 39, 40, 41, 42, 43, 44, 45] (by decide +kernel) (by decide +kernel)) (goodIn_sub (fun _ h => List.mem_cons_of_mem _ (List.mem_append_right _ h)) (by decide +kernel))
set_option maxRecDepth 20000 in
theorem gX3_push_X7_copyFrom : GoodIn wsX3_push (wsV RX3 25 RX7 yX7_copyFrom wsX7_copyFrom) := goodIn_app (goodIn_of _ (by decide +kernel)) ggX3_push_X7_copyFrom
theorem dX3_push_0 : decode cX3_push 0 = .ok (.aload_n 0, 1) := by decide +kernel
theorem dX3_push_1 : decode cX3_push 1 = .ok (.getfield 21, 3) := by decide +kernel
theorem dX3_push_4 : decode cX3_push 4 = .ok (.bipush 8, 2) := by decide +kernel
theorem dX3_push_6 : decode cX3_push 6 = .ok (.if_icmp .ne 26, 3) := by decide +kernel
theorem dX3_push_9 : decode cX3_push 9 = .ok (.aload_n 0, 1) := by decide +kernel
theorem dX3_push_10 : decode cX3_push 10 = .ok (.aload_n 0, 1) := by decide +kernel
theorem dX3_push_11 : decode cX3_push 11 = .ok (.getfield 17, 3) := by decide +kernel
theorem dX3_push_14 : decode cX3_push 14 = .ok (.iconst 1, 1) := by decide +kernel
theorem dX3_push_15 : decode cX3_push 15 = .ok (.iadd, 1) := by decide +kernel
theorem dX3_push_16 : decode cX3_push 16 = .ok (.bipush 8, 2) := by decide +kernel
theorem dX3_push_18 : decode cX3_push 18 = .ok (.irem, 1) := by decide +kernel
theorem dX3_push_19 : decode cX3_push 19 = .ok (.putfield 17, 3) := by decide +kernel
theorem dX3_push_22 : decode cX3_push 22 = .ok (.aload_n 0, 1) := by decide +kernel
theorem dX3_push_23 : decode cX3_push 23 = .ok (.dup, 1) := by decide +kernel
theorem dX3_push_24 : decode cX3_push 24 = .ok (.getfield 21, 3) := by decide +kernel
theorem dX3_push_27 : decode cX3_push 27 = .ok (.iconst 1, 1) := by decide +kernel
theorem dX3_push_28 : decode cX3_push 28 = .ok (.isub, 1) := by decide +kernel
theorem dX3_push_29 : decode cX3_push 29 = .ok (.putfield 21, 3) := by decide +kernel
theorem dX3_push_32 : decode cX3_push 32 = .ok (.aload_n 0, 1) := by decide +kernel
theorem dX3_push_33 : decode cX3_push 33 = .ok (.getfield 11, 3) := by decide +kernel
theorem dX3_push_36 : decode cX3_push 36 = .ok (.aload_n 0, 1) := by decide +kernel
theorem dX3_push_37 : decode cX3_push 37 = .ok (.getfield 17, 3) := by decide +kernel
theorem dX3_push_40 : decode cX3_push 40 = .ok (.aload_n 0, 1) := by decide +kernel
theorem dX3_push_41 : decode cX3_push 41 = .ok (.getfield 21, 3) := by decide +kernel
theorem dX3_push_44 : decode cX3_push 44 = .ok (.iadd, 1) := by decide +kernel
theorem dX3_push_45 : decode cX3_push 45 = .ok (.bipush 8, 2) := by decide +kernel
theorem dX3_push_47 : decode cX3_push 47 = .ok (.irem, 1) := by decide +kernel
theorem dX3_push_48 : decode cX3_push 48 = .ok (.aaload, 1) := by decide +kernel
theorem dX3_push_49 : decode cX3_push 49 = .ok (.astore_n 2, 1) := by decide +kernel
theorem dX3_push_50 : decode cX3_push 50 = .ok (.aload_n 2, 1) := by decide +kernel
theorem dX3_push_51 : decode cX3_push 51 = .ok (.ifnull 18, 3) := by decide +kernel
theorem dX3_push_54 : decode cX3_push 54 = .ok (.aload_n 2, 1) := by decide +kernel
theorem dX3_push_55 : decode cX3_push 55 = .ok (.aload_n 1, 1) := by decide +kernel
theorem dX3_push_56 : decode cX3_push 56 = .ok (.invokevirtual 25, 3) := by decide +kernel
theorem dX3_push_59 : decode cX3_push 59 = .ok (.aload_n 0, 1) := by decide +kernel
theorem dX3_push_60 : decode cX3_push 60 = .ok (.dup, 1) := by decide +kernel
theorem dX3_push_61 : decode cX3_push 61 = .ok (.getfield 21, 3) := by decide +kernel
theorem dX3_push_64 : decode cX3_push 64 = .ok (.iconst 1, 1) := by decide +kernel
theorem dX3_push_65 : decode cX3_push 65 = .ok (.iadd, 1) := by decide +kernel
theorem dX3_push_66 : decode cX3_push 66 = .ok (.putfield 21, 3) := by decide +kernel
theorem dX3_push_69 : decode cX3_push 69 = .ok (.return_, 1) := by decide +kernel
set_option maxRecDepth 20000 in
theorem ggX3_popInto_X7_copyFrom : GoodIn wsX3_popInto wsX7_copyFrom := goodIn_ca (goodIn_r _ [8, 9, 10, 11, 12, 13, 14, 15, 16, 17, 18, 19, 20, 21, 22, 23, 24, 25, 29, 30, 31, 32, 33, 34, 35, 36, 37, 38, 39, 40, 41, 42, 43, 44, 45] (by decide +kernel) (by decide +kernel)) (goodIn_sub (fun _ h => List.mem_cons_of_mem _ (List.mem_append_right _ h)) (by decide +kernel))
set_option maxRecDepth 20000 in
theorem gX3_popInto_X7_copyFrom : GoodIn wsX3_popInto (wsV RX3 25 RX7 yX7_copyFrom wsX7_copyFrom) := goodIn_app (goodIn_of _ (by decide +kernel)) ggX3_popInto_X7_copyFrom
theorem dX3_popInto_0 : decode cX3_popInto 0 = .ok (.aload_n 0, 1) := by decide +kernel
theorem dX3_popInto_1 : decode cX3_popInto 1 = .ok (.getfield 21, 3) := by decide +kernel
theorem dX3_popInto_4 : decode cX3_popInto 4 = .ok (.ifCond .le 40, 3) := by decide +kernel
theorem dX3_popInto_7 : decode cX3_popInto 7 = .ok (.aload_n 0, 1) := by decide +kernel
theorem dX3_popInto_8 : decode cX3_popInto 8 = .ok (.dup, 1) := by decide +kernel
theorem dX3_popInto_9 : decode cX3_popInto 9 = .ok (.getfield 21, 3) := by decide +kernel
theorem dX3_popInto_12 : decode cX3_popInto 12 = .ok (.iconst 1, 1) := by decide +kernel
theorem dX3_popInto_13 : decode cX3_popInto 13 = .ok (.isub, 1) := by decide +kernel
theorem dX3_popInto_14 : decode cX3_popInto 14 = .ok (.putfield 21, 3) := by decide +kernel
theorem dX3_popInto_17 : decode cX3_popInto 17 = .ok (.aload_n 0, 1) := by decide +kernel
theorem dX3_popInto_18 : decode cX3_popInto 18 = .ok (.getfield 11, 3) := by decide +kernel
theorem dX3_popInto_21 : decode cX3_popInto 21 = .ok (.aload_n 0, 1) := by decide +kernel
theorem dX3_popInto_22 : decode cX3_popInto 22 = .ok (.getfield 17, 3) := by decide +kernel
theorem dX3_popInto_25 : decode cX3_popInto 25 = .ok (.aload_n 0, 1) := by decide +kernel
theorem dX3_popInto_26 : decode cX3_popInto 26 = .ok (.getfield 21, 3) := by decide +kernel
theorem dX3_popInto_29 : decode cX3_popInto 29 = .ok (.iadd, 1) := by decide +kernel
theorem dX3_popInto_30 : decode cX3_popInto 30 = .ok (.bipush 8, 2) := by decide +kernel
theorem dX3_popInto_32 : decode cX3_popInto 32 = .ok (.irem, 1) := by decide +kernel
theorem dX3_popInto_33 : decode cX3_popInto 33 = .ok (.aaload, 1) := by decide +kernel
theorem dX3_popInto_34 : decode cX3_popInto 34 = .ok (.astore_n 2, 1) := by decide +kernel
theorem dX3_popInto_35 : decode cX3_popInto 35 = .ok (.aload_n 2, 1) := by decide +kernel
theorem dX3_popInto_36 : decode cX3_popInto 36 = .ok (.ifnull 8, 3) := by decide +kernel
theorem dX3_popInto_39 : decode cX3_popInto 39 = .ok (.aload_n 1, 1) := by decide +kernel
theorem dX3_popInto_40 : decode cX3_popInto 40 = .ok (.aload_n 2, 1) := by decide +kernel
theorem dX3_popInto_41 : decode cX3_popInto 41 = .ok (.invokevirtual 25, 3) := by decide +kernel
theorem dX3_popInto_44 : decode cX3_popInto 44 = .ok (.return_, 1) := by decide +kernel
theorem dX3_empty_0 : decode cX3_empty 0 = .ok (.aload_n 0, 1) := by decide +kernel
theorem dX3_empty_1 : decode cX3_empty 1 = .ok (.iconst 0, 1) := by decide +kernel
theorem dX3_empty_2 : decode cX3_empty 2 = .ok (.putfield 21, 3) := by decide +kernel
theorem dX3_empty_5 : decode cX3_empty 5 = .ok (.return_, 1) := by decide +kernel
set_option maxRecDepth 20000 in
theorem ggX4_quotient_J9_floorDiv_f86c9 : GoodIn wsX4_quotient wsJ9_floorDiv_f86c9 := goodIn_r _ [4] (by decide +kernel) (by decide +kernel)
set_option maxRecDepth 20000 in
theorem gX4_quotient_J9_floorDiv_f86c9 : GoodIn wsX4_quotient (va_wsS RX4 7 yJ9_floorDiv_f86c9 wsJ9_floorDiv_f86c9) := goodIn_app (goodIn_of _ (by decide +kernel)) ggX4_quotient_J9_floorDiv_f86c9
theorem dX4_quotient_0 : decode cX4_quotient 0 = .ok (.lload_n 2, 1) := by decide +kernel
theorem dX4_quotient_1 : decode cX4_quotient 1 = .ok (.lconst 0, 1) := by decide +kernel
theorem dX4_quotient_2 : decode cX4_quotient 2 = .ok (.lcmp, 1) := by decide +kernel
theorem dX4_quotient_3 : decode cX4_quotient 3 = .ok (.ifCond .ne 7, 3) := by decide +kernel
theorem dX4_quotient_6 : decode cX4_quotient 6 = .ok (.lconst 0, 1) := by decide +kernel
theorem dX4_quotient_7 : decode cX4_quotient 7 = .ok (.goto 8, 3) := by decide +kernel
theorem dX4_quotient_10 : decode cX4_quotient 10 = .ok (.lload_n 0, 1) := by decide +kernel
theorem dX4_quotient_11 : decode cX4_quotient 11 = .ok (.lload_n 2, 1) := by decide +kernel
theorem dX4_quotient_12 : decode cX4_quotient 12 = .ok (.invokestatic 7, 3) := by decide +kernel
theorem dX4_quotient_15 : decode cX4_quotient 15 = .ok (.lreturn, 1) := by decide +kernel
set_option maxRecDepth 20000 in
theorem ggX4_remainder_J9_floorMod_f86c9 : GoodIn wsX4_remainder wsJ9_floorMod_f86c9 := goodIn_r _ [4] (by decide +kernel) (by decide +kernel)
set_option maxRecDepth 20000 in
theorem gX4_remainder_J9_floorMod_f86c9 : GoodIn wsX4_remainder (va_wsS RX4 13 yJ9_floorMod_f86c9 wsJ9_floorMod_f86c9) := goodIn_app (goodIn_of _ (by decide +kernel)) ggX4_remainder_J9_floorMod_f86c9
theorem dX4_remainder_0 : decode cX4_remainder 0 = .ok (.lload_n 2, 1) := by decide +kernel
theorem dX4_remainder_1 : decode cX4_remainder 1 = .ok (.lconst 0, 1) := by decide +kernel
theorem dX4_remainder_2 : decode cX4_remainder 2 = .ok (.lcmp, 1) := by decide +kernel
theorem dX4_remainder_3 : decode cX4_remainder 3 = .ok (.ifCond .ne 7, 3) := by decide +kernel
theorem dX4_remainder_6 : decode cX4_remainder 6 = .ok (.lconst 0, 1) := by decide +kernel
theorem dX4_remainder_7 : decode cX4_remainder 7 = .ok (.goto 8, 3) := by decide +kernel
theorem dX4_remainder_10 : decode cX4_remainder 10 = .ok (.lload_n 0, 1) := by decide +kernel
theorem dX4_remainder_11 : decode cX4_remainder 11 = .ok (.lload_n 2, 1) := by decide +kernel
theorem dX4_remainder_12 : decode cX4_remainder 12 = .ok (.invokestatic 13, 3) := by decide +kernel
theorem dX4_remainder_15 : decode cX4_remainder 15 = .ok (.lreturn, 1) := by decide +kernel
set_option maxRecDepth 20000 in
theorem ggX4_commonDivisor_X4_remainder : GoodIn wsX4_commonDivisor wsX4_remainder := goodIn_r _ [8, 9, 10, 11, 12] (by decide +kernel) (by decide +kernel)
set_option maxRecDepth 20000 in
theorem gX4_commonDivisor_X4_remainder : GoodIn wsX4_commonDivisor (va_wsS RX4 22 yX4_remainder wsX4_remainder) := goodIn_app (goodIn_of _ (by decide +kernel)) ggX4_commonDivisor_X4_remainder
theorem dX4_commonDivisor_0 : decode cX4_commonDivisor 0 = .ok (.lload_n 0, 1) := by decide +kernel
theorem dX4_commonDivisor_1 : decode cX4_commonDivisor 1 = .ok (.invokestatic 16, 3) := by decide +kernel
theorem dX4_commonDivisor_4 : decode cX4_commonDivisor 4 = .ok (.lstore 4, 2) := by decide +kernel
theorem dX4_commonDivisor_6 : decode cX4_commonDivisor 6 = .ok (.lload_n 2, 1) := by decide +kernel
theorem dX4_commonDivisor_7 : decode cX4_commonDivisor 7 = .ok (.invokestatic 16, 3) := by decide +kernel
theorem dX4_commonDivisor_10 : decode cX4_commonDivisor 10 = .ok (.lstore 6, 2) := by decide +kernel
theorem dX4_commonDivisor_12 : decode cX4_commonDivisor 12 = .ok (.iconst 0, 1) := by decide +kernel
theorem dX4_commonDivisor_13 : decode cX4_commonDivisor 13 = .ok (.istore 8, 2) := by decide +kernel
theorem dX4_commonDivisor_15 : decode cX4_commonDivisor 15 = .ok (.iload 8, 2) := by decide +kernel
theorem dX4_commonDivisor_17 : decode cX4_commonDivisor 17 = .ok (.sipush 200, 3) := by decide +kernel
theorem dX4_commonDivisor_20 : decode cX4_commonDivisor 20 = .ok (.if_icmp .ge 33, 3) := by decide +kernel
theorem dX4_commonDivisor_23 : decode cX4_commonDivisor 23 = .ok (.lload 6, 2) := by decide +kernel
theorem dX4_commonDivisor_25 : decode cX4_commonDivisor 25 = .ok (.lconst 0, 1) := by decide +kernel
theorem dX4_commonDivisor_26 : decode cX4_commonDivisor 26 = .ok (.lcmp, 1) := by decide +kernel
theorem dX4_commonDivisor_27 : decode cX4_commonDivisor 27 = .ok (.ifCond .eq 26, 3) := by decide +kernel
theorem dX4_commonDivisor_30 : decode cX4_commonDivisor 30 = .ok (.lload 4, 2) := by decide +kernel
theorem dX4_commonDivisor_32 : decode cX4_commonDivisor 32 = .ok (.lload 6, 2) := by decide +kernel
theorem dX4_commonDivisor_34 : decode cX4_commonDivisor 34 = .ok (.invokestatic 22, 3) := by decide +kernel
theorem dX4_commonDivisor_37 : decode cX4_commonDivisor 37 = .ok (.lstore 9, 2) := by decide +kernel
theorem dX4_commonDivisor_39 : decode cX4_commonDivisor 39 = .ok (.lload 6, 2) := by decide +kernel
theorem dX4_commonDivisor_41 : decode cX4_commonDivisor 41 = .ok (.lstore 4, 2) := by decide +kernel
theorem dX4_commonDivisor_43 : decode cX4_commonDivisor 43 = .ok (.lload 9, 2) := by decide +kernel
theorem dX4_commonDivisor_45 : decode cX4_commonDivisor 45 = .ok (.lstore 6, 2) := by decide +kernel
theorem dX4_commonDivisor_47 : decode cX4_commonDivisor 47 = .ok (.iinc 8 1, 3) := by decide +kernel
theorem dX4_commonDivisor_50 : decode cX4_commonDivisor 50 = .ok (.goto (-35), 3) := by decide +kernel
theorem dX4_commonDivisor_53 : decode cX4_commonDivisor 53 = .ok (.lload 4, 2) := by decide +kernel
theorem dX4_commonDivisor_55 : decode cX4_commonDivisor 55 = .ok (.lreturn, 1) := by decide +kernel
set_option maxRecDepth 20000 in
theorem ggX4_inverse_X4_remainder : GoodIn wsX4_inverse wsX4_remainder := goodIn_r _ [4, 5, 6, 7, 8] (by decide +kernel) (by decide +kernel)
set_option maxRecDepth 20000 in
theorem gX4_inverse_X4_remainder : GoodIn wsX4_inverse (va_wsS RX4 22 yX4_remainder wsX4_remainder) := goodIn_app (goodIn_of _ (by decide +kernel)) ggX4_inverse_X4_remainder
set_option maxRecDepth 20000 in
theorem ggX4_inverse_X4_quotient : GoodIn wsX4_inverse wsX4_quotient := goodIn_r _ [11, 12, 13, 7, 14] (by decide +kernel) (by decide +kernel)
set_option maxRecDepth 20000 in
theorem gX4_inverse_X4_quotient : GoodIn wsX4_inverse (va_wsS RX4 25 yX4_quotient wsX4_quotient) := goodIn_app (goodIn_of _ (by decide +kernel)) ggX4_inverse_X4_quotient
theorem dX4_inverse_0 : decode cX4_inverse 0 = .ok (.lload_n 2, 1) := by decide +kernel
theorem dX4_inverse_1 : decode cX4_inverse 1 = .ok (.lstore 4, 2) := by decide +kernel
theorem dX4_inverse_3 : decode cX4_inverse 3 = .ok (.lload_n 0, 1) := by decide +kernel
theorem dX4_inverse_4 : decode cX4_inverse 4 = .ok (.lload_n 2, 1) := by decide +kernel
theorem dX4_inverse_5 : decode cX4_inverse 5 = .ok (.invokestatic 22, 3) := by decide +kernel
theorem dX4_inverse_8 : decode cX4_inverse 8 = .ok (.lstore 6, 2) := by decide +kernel
theorem dX4_inverse_10 : decode cX4_inverse 10 = .ok (.lconst 0, 1) := by decide +kernel
theorem dX4_inverse_11 : decode cX4_inverse 11 = .ok (.lstore 8, 2) := by decide +kernel
theorem dX4_inverse_13 : decode cX4_inverse 13 = .ok (.lconst 1, 1) := by decide +kernel
theorem dX4_inverse_14 : decode cX4_inverse 14 = .ok (.lstore 10, 2) := by decide +kernel
theorem dX4_inverse_16 : decode cX4_inverse 16 = .ok (.iconst 0, 1) := by decide +kernel
theorem dX4_inverse_17 : decode cX4_inverse 17 = .ok (.istore 12, 2) := by decide +kernel
theorem dX4_inverse_19 : decode cX4_inverse 19 = .ok (.iload 12, 2) := by decide +kernel
theorem dX4_inverse_21 : decode cX4_inverse 21 = .ok (.sipush 200, 3) := by decide +kernel
theorem dX4_inverse_24 : decode cX4_inverse 24 = .ok (.if_icmp .ge 61, 3) := by decide +kernel
theorem dX4_inverse_27 : decode cX4_inverse 27 = .ok (.lload 6, 2) := by decide +kernel
theorem dX4_inverse_29 : decode cX4_inverse 29 = .ok (.lconst 0, 1) := by decide +kernel
theorem dX4_inverse_30 : decode cX4_inverse 30 = .ok (.lcmp, 1) := by decide +kernel
theorem dX4_inverse_31 : decode cX4_inverse 31 = .ok (.ifCond .eq 54, 3) := by decide +kernel
theorem dX4_inverse_34 : decode cX4_inverse 34 = .ok (.lload 4, 2) := by decide +kernel
theorem dX4_inverse_36 : decode cX4_inverse 36 = .ok (.lload 6, 2) := by decide +kernel
theorem dX4_inverse_38 : decode cX4_inverse 38 = .ok (.invokestatic 25, 3) := by decide +kernel
theorem dX4_inverse_41 : decode cX4_inverse 41 = .ok (.lstore 13, 2) := by decide +kernel
theorem dX4_inverse_43 : decode cX4_inverse 43 = .ok (.lload 4, 2) := by decide +kernel
theorem dX4_inverse_45 : decode cX4_inverse 45 = .ok (.lload 13, 2) := by decide +kernel
theorem dX4_inverse_47 : decode cX4_inverse 47 = .ok (.lload 6, 2) := by decide +kernel
theorem dX4_inverse_49 : decode cX4_inverse 49 = .ok (.lmul, 1) := by decide +kernel
theorem dX4_inverse_50 : decode cX4_inverse 50 = .ok (.lsub, 1) := by decide +kernel
theorem dX4_inverse_51 : decode cX4_inverse 51 = .ok (.lstore 15, 2) := by decide +kernel
theorem dX4_inverse_53 : decode cX4_inverse 53 = .ok (.lload 8, 2) := by decide +kernel
theorem dX4_inverse_55 : decode cX4_inverse 55 = .ok (.lload 13, 2) := by decide +kernel
theorem dX4_inverse_57 : decode cX4_inverse 57 = .ok (.lload 10, 2) := by decide +kernel
theorem dX4_inverse_59 : decode cX4_inverse 59 = .ok (.lmul, 1) := by decide +kernel
theorem dX4_inverse_60 : decode cX4_inverse 60 = .ok (.lsub, 1) := by decide +kernel
theorem dX4_inverse_61 : decode cX4_inverse 61 = .ok (.lstore 17, 2) := by decide +kernel
theorem dX4_inverse_63 : decode cX4_inverse 63 = .ok (.lload 6, 2) := by decide +kernel
theorem dX4_inverse_65 : decode cX4_inverse 65 = .ok (.lstore 4, 2) := by decide +kernel
theorem dX4_inverse_67 : decode cX4_inverse 67 = .ok (.lload 15, 2) := by decide +kernel
theorem dX4_inverse_69 : decode cX4_inverse 69 = .ok (.lstore 6, 2) := by decide +kernel
theorem dX4_inverse_71 : decode cX4_inverse 71 = .ok (.lload 10, 2) := by decide +kernel
theorem dX4_inverse_73 : decode cX4_inverse 73 = .ok (.lstore 8, 2) := by decide +kernel
theorem dX4_inverse_75 : decode cX4_inverse 75 = .ok (.lload 17, 2) := by decide +kernel
theorem dX4_inverse_77 : decode cX4_inverse 77 = .ok (.lstore 10, 2) := by decide +kernel
theorem dX4_inverse_79 : decode cX4_inverse 79 = .ok (.iinc 12 1, 3) := by decide +kernel
theorem dX4_inverse_82 : decode cX4_inverse 82 = .ok (.goto (-63), 3) := by decide +kernel
theorem dX4_inverse_85 : decode cX4_inverse 85 = .ok (.lload 8, 2) := by decide +kernel
theorem dX4_inverse_87 : decode cX4_inverse 87 = .ok (.lload_n 2, 1) := by decide +kernel
theorem dX4_inverse_88 : decode cX4_inverse 88 = .ok (.invokestatic 22, 3) := by decide +kernel
theorem dX4_inverse_91 : decode cX4_inverse 91 = .ok (.lreturn, 1) := by decide +kernel
set_option maxRecDepth 20000 in
theorem ggX4_product_X4_remainder : GoodIn wsX4_product wsX4_remainder := goodIn_r _ [4, 5, 6, 7, 8] (by decide +kernel) (by decide +kernel)
set_option maxRecDepth 20000 in
theorem gX4_product_X4_remainder : GoodIn wsX4_product (va_wsS RX4 22 yX4_remainder wsX4_remainder) := goodIn_app (goodIn_of _ (by decide +kernel)) ggX4_product_X4_remainder
theorem dX4_product_0 : decode cX4_product 0 = .ok (.lload_n 2, 1) := by decide +kernel
theorem dX4_product_1 : decode cX4_product 1 = .ok (.bipush 20, 2) := by decide +kernel
theorem dX4_product_3 : decode cX4_product 3 = .ok (.lshr, 1) := by decide +kernel
theorem dX4_product_4 : decode cX4_product 4 = .ok (.lstore 6, 2) := by decide +kernel
theorem dX4_product_6 : decode cX4_product 6 = .ok (.lload_n 2, 1) := by decide +kernel
theorem dX4_product_7 : decode cX4_product 7 = .ok (.lload 6, 2) := by decide +kernel
theorem dX4_product_9 : decode cX4_product 9 = .ok (.bipush 20, 2) := by decide +kernel
theorem dX4_product_11 : decode cX4_product 11 = .ok (.lshl, 1) := by decide +kernel
theorem dX4_product_12 : decode cX4_product 12 = .ok (.lsub, 1) := by decide +kernel
theorem dX4_product_13 : decode cX4_product 13 = .ok (.lstore 8, 2) := by decide +kernel
theorem dX4_product_15 : decode cX4_product 15 = .ok (.lload_n 0, 1) := by decide +kernel
theorem dX4_product_16 : decode cX4_product 16 = .ok (.lload 6, 2) := by decide +kernel
theorem dX4_product_18 : decode cX4_product 18 = .ok (.lmul, 1) := by decide +kernel
theorem dX4_product_19 : decode cX4_product 19 = .ok (.lload 4, 2) := by decide +kernel
theorem dX4_product_21 : decode cX4_product 21 = .ok (.invokestatic 22, 3) := by decide +kernel
theorem dX4_product_24 : decode cX4_product 24 = .ok (.lstore 10, 2) := by decide +kernel
theorem dX4_product_26 : decode cX4_product 26 = .ok (.lload 10, 2) := by decide +kernel
theorem dX4_product_28 : decode cX4_product 28 = .ok (.bipush 20, 2) := by decide +kernel
theorem dX4_product_30 : decode cX4_product 30 = .ok (.lshl, 1) := by decide +kernel
theorem dX4_product_31 : decode cX4_product 31 = .ok (.lload_n 0, 1) := by decide +kernel
theorem dX4_product_32 : decode cX4_product 32 = .ok (.lload 8, 2) := by decide +kernel
theorem dX4_product_34 : decode cX4_product 34 = .ok (.lmul, 1) := by decide +kernel
theorem dX4_product_35 : decode cX4_product 35 = .ok (.ladd, 1) := by decide +kernel
theorem dX4_product_36 : decode cX4_product 36 = .ok (.lload 4, 2) := by decide +kernel
theorem dX4_product_38 : decode cX4_product 38 = .ok (.invokestatic 22, 3) := by decide +kernel
theorem dX4_product_41 : decode cX4_product 41 = .ok (.lreturn, 1) := by decide +kernel
theorem dX5_init_0 : decode cX5_init 0 = .ok (.aload_n 0, 1) := by decide +kernel
theorem dX5_init_1 : decode cX5_init 1 = .ok (.invokespecial 3, 3) := by decide +kernel
theorem dX5_init_4 : decode cX5_init 4 = .ok (.aload_n 0, 1) := by decide +kernel
theorem dX5_init_5 : decode cX5_init 5 = .ok (.bipush 90, 2) := by decide +kernel
theorem dX5_init_7 : decode cX5_init 7 = .ok (.newarray .int, 2) := by decide +kernel
theorem dX5_init_9 : decode cX5_init 9 = .ok (.putfield 9, 3) := by decide +kernel
theorem dX5_init_12 : decode cX5_init 12 = .ok (.aload_n 0, 1) := by decide +kernel
theorem dX5_init_13 : decode cX5_init 13 = .ok (.bipush 90, 2) := by decide +kernel
theorem dX5_init_15 : decode cX5_init 15 = .ok (.newarray .int, 2) := by decide +kernel
theorem dX5_init_17 : decode cX5_init 17 = .ok (.putfield 15, 3) := by decide +kernel
theorem dX5_init_20 : decode cX5_init 20 = .ok (.aload_n 0, 1) := by decide +kernel
theorem dX5_init_21 : decode cX5_init 21 = .ok (.bipush 90, 2) := by decide +kernel
theorem dX5_init_23 : decode cX5_init 23 = .ok (.newarray .int, 2) := by decide +kernel
theorem dX5_init_25 : decode cX5_init 25 = .ok (.putfield 18, 3) := by decide +kernel
theorem dX5_init_28 : decode cX5_init 28 = .ok (.aload_n 0, 1) := by decide +kernel
theorem dX5_init_29 : decode cX5_init 29 = .ok (.bipush 90, 2) := by decide +kernel
theorem dX5_init_31 : decode cX5_init 31 = .ok (.newarray .int, 2) := by decide +kernel
theorem dX5_init_33 : decode cX5_init 33 = .ok (.putfield 21, 3) := by decide +kernel
theorem dX5_init_36 : decode cX5_init 36 = .ok (.aload_n 0, 1) := by decide +kernel
theorem dX5_init_37 : decode cX5_init 37 = .ok (.iconst 0, 1) := by decide +kernel
theorem dX5_init_38 : decode cX5_init 38 = .ok (.putfield 24, 3) := by decide +kernel
theorem dX5_init_41 : decode cX5_init 41 = .ok (.aload_n 0, 1) := by decide +kernel
theorem dX5_init_42 : decode cX5_init 42 = .ok (.aload_n 1, 1) := by decide +kernel
theorem dX5_init_43 : decode cX5_init 43 = .ok (.putfield 28, 3) := by decide +kernel
theorem dX5_init_46 : decode cX5_init 46 = .ok (.return_, 1) := by decide +kernel
set_option maxRecDepth 20000 in
theorem ggX5_byTrying_X5_hasSecondPair : GoodIn wsX5_byTrying wsX5_hasSecondPair := goodIn_ca (goodIn_r _ [8, 1, 3, 2, 9, 10, 11, 12, 13, 14, 15, 16, 17, 18, 19, 20, 21, 22, 23, 24, 25, 26, 27, 28, 29, 30, 31] (by decide +kernel) (by decide +kernel)) (goodIn_sub (fun _ h => List.mem_cons_of_mem _ (List.mem_append_right _ h)) (by decide +kernel))
set_option maxRecDepth 20000 in
theorem gX5_byTrying_X5_hasSecondPair : GoodIn wsX5_byTrying (wsV RX5 40 RX5 yX5_hasSecondPair wsX5_hasSecondPair) := goodIn_app (goodIn_of _ (by decide +kernel)) ggX5_byTrying_X5_hasSecondPair
theorem dX5_byTrying_0 : decode cX5_byTrying 0 = .ok (.iconst 0, 1) := by decide +kernel
theorem dX5_byTrying_1 : decode cX5_byTrying 1 = .ok (.istore_n 3, 1) := by decide +kernel
theorem dX5_byTrying_2 : decode cX5_byTrying 2 = .ok (.iload_n 3, 1) := by decide +kernel
theorem dX5_byTrying_3 : decode cX5_byTrying 3 = .ok (.aload_n 0, 1) := by decide +kernel
theorem dX5_byTrying_4 : decode cX5_byTrying 4 = .ok (.getfield 28, 3) := by decide +kernel
theorem dX5_byTrying_7 : decode cX5_byTrying 7 = .ok (.getfield 32, 3) := by decide +kernel
theorem dX5_byTrying_10 : decode cX5_byTrying 10 = .ok (.if_icmp .ge 64, 3) := by decide +kernel
theorem dX5_byTrying_13 : decode cX5_byTrying 13 = .ok (.iconst 0, 1) := by decide +kernel
theorem dX5_byTrying_14 : decode cX5_byTrying 14 = .ok (.istore 4, 2) := by decide +kernel
theorem dX5_byTrying_16 : decode cX5_byTrying 16 = .ok (.iload 4, 2) := by decide +kernel
theorem dX5_byTrying_18 : decode cX5_byTrying 18 = .ok (.aload_n 0, 1) := by decide +kernel
theorem dX5_byTrying_19 : decode cX5_byTrying 19 = .ok (.getfield 28, 3) := by decide +kernel
theorem dX5_byTrying_22 : decode cX5_byTrying 22 = .ok (.getfield 32, 3) := by decide +kernel
theorem dX5_byTrying_25 : decode cX5_byTrying 25 = .ok (.if_icmp .ge 43, 3) := by decide +kernel
theorem dX5_byTrying_28 : decode cX5_byTrying 28 = .ok (.iload_n 3, 1) := by decide +kernel
theorem dX5_byTrying_29 : decode cX5_byTrying 29 = .ok (.iload 4, 2) := by decide +kernel
theorem dX5_byTrying_31 : decode cX5_byTrying 31 = .ok (.if_icmp .eq 31, 3) := by decide +kernel
theorem dX5_byTrying_34 : decode cX5_byTrying 34 = .ok (.aload_n 0, 1) := by decide +kernel
theorem dX5_byTrying_35 : decode cX5_byTrying 35 = .ok (.getfield 28, 3) := by decide +kernel
theorem dX5_byTrying_38 : decode cX5_byTrying 38 = .ok (.getfield 37, 3) := by decide +kernel
theorem dX5_byTrying_41 : decode cX5_byTrying 41 = .ok (.iload_n 3, 1) := by decide +kernel
theorem dX5_byTrying_42 : decode cX5_byTrying 42 = .ok (.iaload, 1) := by decide +kernel
theorem dX5_byTrying_43 : decode cX5_byTrying 43 = .ok (.iload_n 2, 1) := by decide +kernel
theorem dX5_byTrying_44 : decode cX5_byTrying 44 = .ok (.imul, 1) := by decide +kernel
theorem dX5_byTrying_45 : decode cX5_byTrying 45 = .ok (.aload_n 0, 1) := by decide +kernel
theorem dX5_byTrying_46 : decode cX5_byTrying 46 = .ok (.getfield 28, 3) := by decide +kernel
theorem dX5_byTrying_49 : decode cX5_byTrying 49 = .ok (.getfield 37, 3) := by decide +kernel
theorem dX5_byTrying_52 : decode cX5_byTrying 52 = .ok (.iload 4, 2) := by decide +kernel
theorem dX5_byTrying_54 : decode cX5_byTrying 54 = .ok (.iaload, 1) := by decide +kernel
theorem dX5_byTrying_55 : decode cX5_byTrying 55 = .ok (.iload_n 1, 1) := by decide +kernel
theorem dX5_byTrying_56 : decode cX5_byTrying 56 = .ok (.imul, 1) := by decide +kernel
theorem dX5_byTrying_57 : decode cX5_byTrying 57 = .ok (.if_icmp .ne 5, 3) := by decide +kernel
theorem dX5_byTrying_60 : decode cX5_byTrying 60 = .ok (.iconst 1, 1) := by decide +kernel
theorem dX5_byTrying_61 : decode cX5_byTrying 61 = .ok (.ireturn, 1) := by decide +kernel
theorem dX5_byTrying_62 : decode cX5_byTrying 62 = .ok (.iinc 4 1, 3) := by decide +kernel
theorem dX5_byTrying_65 : decode cX5_byTrying 65 = .ok (.goto (-49), 3) := by decide +kernel
theorem dX5_byTrying_68 : decode cX5_byTrying 68 = .ok (.iinc 3 1, 3) := by decide +kernel
theorem dX5_byTrying_71 : decode cX5_byTrying 71 = .ok (.goto (-69), 3) := by decide +kernel
theorem dX5_byTrying_74 : decode cX5_byTrying 74 = .ok (.iconst 0, 1) := by decide +kernel
theorem dX5_byTrying_75 : decode cX5_byTrying 75 = .ok (.istore_n 3, 1) := by decide +kernel
theorem dX5_byTrying_76 : decode cX5_byTrying 76 = .ok (.iload_n 3, 1) := by decide +kernel
theorem dX5_byTrying_77 : decode cX5_byTrying 77 = .ok (.aload_n 0, 1) := by decide +kernel
theorem dX5_byTrying_78 : decode cX5_byTrying 78 = .ok (.getfield 28, 3) := by decide +kernel
theorem dX5_byTrying_81 : decode cX5_byTrying 81 = .ok (.getfield 32, 3) := by decide +kernel
theorem dX5_byTrying_84 : decode cX5_byTrying 84 = .ok (.if_icmp .ge 50, 3) := by decide +kernel
theorem dX5_byTrying_87 : decode cX5_byTrying 87 = .ok (.iconst 0, 1) := by decide +kernel
theorem dX5_byTrying_88 : decode cX5_byTrying 88 = .ok (.istore 4, 2) := by decide +kernel
theorem dX5_byTrying_90 : decode cX5_byTrying 90 = .ok (.iload 4, 2) := by decide +kernel
theorem dX5_byTrying_92 : decode cX5_byTrying 92 = .ok (.aload_n 0, 1) := by decide +kernel
theorem dX5_byTrying_93 : decode cX5_byTrying 93 = .ok (.getfield 28, 3) := by decide +kernel
theorem dX5_byTrying_96 : decode cX5_byTrying 96 = .ok (.getfield 32, 3) := by decide +kernel
theorem dX5_byTrying_99 : decode cX5_byTrying 99 = .ok (.if_icmp .ge 29, 3) := by decide +kernel
theorem dX5_byTrying_102 : decode cX5_byTrying 102 = .ok (.iload_n 3, 1) := by decide +kernel
theorem dX5_byTrying_103 : decode cX5_byTrying 103 = .ok (.iload 4, 2) := by decide +kernel
theorem dX5_byTrying_105 : decode cX5_byTrying 105 = .ok (.if_icmp .eq 17, 3) := by decide +kernel
theorem dX5_byTrying_108 : decode cX5_byTrying 108 = .ok (.aload_n 0, 1) := by decide +kernel
theorem dX5_byTrying_109 : decode cX5_byTrying 109 = .ok (.iload_n 3, 1) := by decide +kernel
theorem dX5_byTrying_110 : decode cX5_byTrying 110 = .ok (.iload 4, 2) := by decide +kernel
theorem dX5_byTrying_112 : decode cX5_byTrying 112 = .ok (.iload_n 1, 1) := by decide +kernel
theorem dX5_byTrying_113 : decode cX5_byTrying 113 = .ok (.iload_n 2, 1) := by decide +kernel
theorem dX5_byTrying_114 : decode cX5_byTrying 114 = .ok (.invokevirtual 40, 3) := by decide +kernel
theorem dX5_byTrying_117 : decode cX5_byTrying 117 = .ok (.ifCond .eq 5, 3) := by decide +kernel
theorem dX5_byTrying_120 : decode cX5_byTrying 120 = .ok (.iconst 2, 1) := by decide +kernel
theorem dX5_byTrying_121 : decode cX5_byTrying 121 = .ok (.ireturn, 1) := by decide +kernel
theorem dX5_byTrying_122 : decode cX5_byTrying 122 = .ok (.iinc 4 1, 3) := by decide +kernel
theorem dX5_byTrying_125 : decode cX5_byTrying 125 = .ok (.goto (-35), 3) := by decide +kernel
theorem dX5_byTrying_128 : decode cX5_byTrying 128 = .ok (.iinc 3 1, 3) := by decide +kernel
theorem dX5_byTrying_131 : decode cX5_byTrying 131 = .ok (.goto (-55), 3) := by decide +kernel
theorem dX5_byTrying_134 : decode cX5_byTrying 134 = .ok (.iconst 0, 1) := by decide +kernel
theorem dX5_byTrying_135 : decode cX5_byTrying 135 = .ok (.ireturn, 1) := by decide +kernel
theorem dX5_hasSecondPair_0 : decode cX5_hasSecondPair 0 = .ok (.aload_n 0, 1) := by decide +kernel
theorem dX5_hasSecondPair_1 : decode cX5_hasSecondPair 1 = .ok (.getfield 28, 3) := by decide +kernel
theorem dX5_hasSecondPair_4 : decode cX5_hasSecondPair 4 = .ok (.getfield 37, 3) := by decide +kernel
theorem dX5_hasSecondPair_7 : decode cX5_hasSecondPair 7 = .ok (.iload_n 1, 1) := by decide +kernel
theorem dX5_hasSecondPair_8 : decode cX5_hasSecondPair 8 = .ok (.iaload, 1) := by decide +kernel
theorem dX5_hasSecondPair_9 : decode cX5_hasSecondPair 9 = .ok (.iload 4, 2) := by decide +kernel
theorem dX5_hasSecondPair_11 : decode cX5_hasSecondPair 11 = .ok (.imul, 1) := by decide +kernel
theorem dX5_hasSecondPair_12 : decode cX5_hasSecondPair 12 = .ok (.istore 5, 2) := by decide +kernel
theorem dX5_hasSecondPair_14 : decode cX5_hasSecondPair 14 = .ok (.aload_n 0, 1) := by decide +kernel
theorem dX5_hasSecondPair_15 : decode cX5_hasSecondPair 15 = .ok (.getfield 28, 3) := by decide +kernel
theorem dX5_hasSecondPair_18 : decode cX5_hasSecondPair 18 = .ok (.getfield 37, 3) := by decide +kernel
theorem dX5_hasSecondPair_21 : decode cX5_hasSecondPair 21 = .ok (.iload_n 2, 1) := by decide +kernel
theorem dX5_hasSecondPair_22 : decode cX5_hasSecondPair 22 = .ok (.iaload, 1) := by decide +kernel
theorem dX5_hasSecondPair_23 : decode cX5_hasSecondPair 23 = .ok (.iload_n 3, 1) := by decide +kernel
theorem dX5_hasSecondPair_24 : decode cX5_hasSecondPair 24 = .ok (.imul, 1) := by decide +kernel
theorem dX5_hasSecondPair_25 : decode cX5_hasSecondPair 25 = .ok (.istore 6, 2) := by decide +kernel
theorem dX5_hasSecondPair_27 : decode cX5_hasSecondPair 27 = .ok (.iconst 0, 1) := by decide +kernel
theorem dX5_hasSecondPair_28 : decode cX5_hasSecondPair 28 = .ok (.istore 7, 2) := by decide +kernel
theorem dX5_hasSecondPair_30 : decode cX5_hasSecondPair 30 = .ok (.iload 7, 2) := by decide +kernel
theorem dX5_hasSecondPair_32 : decode cX5_hasSecondPair 32 = .ok (.aload_n 0, 1) := by decide +kernel
theorem dX5_hasSecondPair_33 : decode cX5_hasSecondPair 33 = .ok (.getfield 28, 3) := by decide +kernel
theorem dX5_hasSecondPair_36 : decode cX5_hasSecondPair 36 = .ok (.getfield 32, 3) := by decide +kernel
theorem dX5_hasSecondPair_39 : decode cX5_hasSecondPair 39 = .ok (.if_icmp .ge 104, 3) := by decide +kernel
theorem dX5_hasSecondPair_42 : decode cX5_hasSecondPair 42 = .ok (.iconst 0, 1) := by decide +kernel
theorem dX5_hasSecondPair_43 : decode cX5_hasSecondPair 43 = .ok (.istore 8, 2) := by decide +kernel
theorem dX5_hasSecondPair_45 : decode cX5_hasSecondPair 45 = .ok (.iload 8, 2) := by decide +kernel
theorem dX5_hasSecondPair_47 : decode cX5_hasSecondPair 47 = .ok (.aload_n 0, 1) := by decide +kernel
theorem dX5_hasSecondPair_48 : decode cX5_hasSecondPair 48 = .ok (.getfield 28, 3) := by decide +kernel
theorem dX5_hasSecondPair_51 : decode cX5_hasSecondPair 51 = .ok (.getfield 32, 3) := by decide +kernel
theorem dX5_hasSecondPair_54 : decode cX5_hasSecondPair 54 = .ok (.if_icmp .ge 83, 3) := by decide +kernel
theorem dX5_hasSecondPair_57 : decode cX5_hasSecondPair 57 = .ok (.iload 7, 2) := by decide +kernel
theorem dX5_hasSecondPair_59 : decode cX5_hasSecondPair 59 = .ok (.iload 8, 2) := by decide +kernel
theorem dX5_hasSecondPair_61 : decode cX5_hasSecondPair 61 = .ok (.if_icmp .eq 31, 3) := by decide +kernel
theorem dX5_hasSecondPair_64 : decode cX5_hasSecondPair 64 = .ok (.iload 7, 2) := by decide +kernel
theorem dX5_hasSecondPair_66 : decode cX5_hasSecondPair 66 = .ok (.iload_n 1, 1) := by decide +kernel
theorem dX5_hasSecondPair_67 : decode cX5_hasSecondPair 67 = .ok (.if_icmp .eq 25, 3) := by decide +kernel
theorem dX5_hasSecondPair_70 : decode cX5_hasSecondPair 70 = .ok (.iload 7, 2) := by decide +kernel
theorem dX5_hasSecondPair_72 : decode cX5_hasSecondPair 72 = .ok (.iload_n 2, 1) := by decide +kernel
theorem dX5_hasSecondPair_73 : decode cX5_hasSecondPair 73 = .ok (.if_icmp .eq 19, 3) := by decide +kernel
theorem dX5_hasSecondPair_76 : decode cX5_hasSecondPair 76 = .ok (.iload 8, 2) := by decide +kernel
theorem dX5_hasSecondPair_78 : decode cX5_hasSecondPair 78 = .ok (.iload_n 1, 1) := by decide +kernel
theorem dX5_hasSecondPair_79 : decode cX5_hasSecondPair 79 = .ok (.if_icmp .eq 13, 3) := by decide +kernel
theorem dX5_hasSecondPair_82 : decode cX5_hasSecondPair 82 = .ok (.iload 8, 2) := by decide +kernel
theorem dX5_hasSecondPair_84 : decode cX5_hasSecondPair 84 = .ok (.iload_n 2, 1) := by decide +kernel
theorem dX5_hasSecondPair_85 : decode cX5_hasSecondPair 85 = .ok (.if_icmp .eq 7, 3) := by decide +kernel
theorem dX5_hasSecondPair_88 : decode cX5_hasSecondPair 88 = .ok (.iconst 1, 1) := by decide +kernel
theorem dX5_hasSecondPair_89 : decode cX5_hasSecondPair 89 = .ok (.goto 4, 3) := by decide +kernel
theorem dX5_hasSecondPair_92 : decode cX5_hasSecondPair 92 = .ok (.iconst 0, 1) := by decide +kernel
theorem dX5_hasSecondPair_93 : decode cX5_hasSecondPair 93 = .ok (.istore 9, 2) := by decide +kernel
theorem dX5_hasSecondPair_95 : decode cX5_hasSecondPair 95 = .ok (.iload 9, 2) := by decide +kernel
theorem dX5_hasSecondPair_97 : decode cX5_hasSecondPair 97 = .ok (.ifCond .eq 34, 3) := by decide +kernel
theorem dX5_hasSecondPair_100 : decode cX5_hasSecondPair 100 = .ok (.iload 5, 2) := by decide +kernel
theorem dX5_hasSecondPair_102 : decode cX5_hasSecondPair 102 = .ok (.aload_n 0, 1) := by decide +kernel
theorem dX5_hasSecondPair_103 : decode cX5_hasSecondPair 103 = .ok (.getfield 28, 3) := by decide +kernel
theorem dX5_hasSecondPair_106 : decode cX5_hasSecondPair 106 = .ok (.getfield 37, 3) := by decide +kernel
theorem dX5_hasSecondPair_109 : decode cX5_hasSecondPair 109 = .ok (.iload 7, 2) := by decide +kernel
theorem dX5_hasSecondPair_111 : decode cX5_hasSecondPair 111 = .ok (.iaload, 1) := by decide +kernel
theorem dX5_hasSecondPair_112 : decode cX5_hasSecondPair 112 = .ok (.imul, 1) := by decide +kernel
theorem dX5_hasSecondPair_113 : decode cX5_hasSecondPair 113 = .ok (.iload 6, 2) := by decide +kernel
theorem dX5_hasSecondPair_115 : decode cX5_hasSecondPair 115 = .ok (.aload_n 0, 1) := by decide +kernel
theorem dX5_hasSecondPair_116 : decode cX5_hasSecondPair 116 = .ok (.getfield 28, 3) := by decide +kernel
theorem dX5_hasSecondPair_119 : decode cX5_hasSecondPair 119 = .ok (.getfield 37, 3) := by decide +kernel
theorem dX5_hasSecondPair_122 : decode cX5_hasSecondPair 122 = .ok (.iload 8, 2) := by decide +kernel
theorem dX5_hasSecondPair_124 : decode cX5_hasSecondPair 124 = .ok (.iaload, 1) := by decide +kernel
theorem dX5_hasSecondPair_125 : decode cX5_hasSecondPair 125 = .ok (.imul, 1) := by decide +kernel
theorem dX5_hasSecondPair_126 : decode cX5_hasSecondPair 126 = .ok (.if_icmp .ne 5, 3) := by decide +kernel
theorem dX5_hasSecondPair_129 : decode cX5_hasSecondPair 129 = .ok (.iconst 1, 1) := by decide +kernel
theorem dX5_hasSecondPair_130 : decode cX5_hasSecondPair 130 = .ok (.ireturn, 1) := by decide +kernel
theorem dX5_hasSecondPair_131 : decode cX5_hasSecondPair 131 = .ok (.iinc 8 1, 3) := by decide +kernel
theorem dX5_hasSecondPair_134 : decode cX5_hasSecondPair 134 = .ok (.goto (-89), 3) := by decide +kernel
theorem dX5_hasSecondPair_137 : decode cX5_hasSecondPair 137 = .ok (.iinc 7 1, 3) := by decide +kernel
theorem dX5_hasSecondPair_140 : decode cX5_hasSecondPair 140 = .ok (.goto (-110), 3) := by decide +kernel
theorem dX5_hasSecondPair_143 : decode cX5_hasSecondPair 143 = .ok (.iconst 0, 1) := by decide +kernel
theorem dX5_hasSecondPair_144 : decode cX5_hasSecondPair 144 = .ok (.ireturn, 1) := by decide +kernel
set_option maxRecDepth 20000 in
theorem ggX5_byTable_X5_makeTable : GoodIn wsX5_byTable wsX5_makeTable := goodIn_ca (goodIn_r _ [10, 1, 11, 12, 13, 14, 15, 9, 16, 17, 3, 2, 4, 5, 18, 19, 20, 21, 22, 23, 24, 25, 26, 27, 28, 29, 30, 31, 32, 33, 34, 35, 36, 37, 38, 43, 44, 45, 46, 47, 48, 49, 50, 51, 52, 53, 54, 55, 56, 57, 58, 59, 60, 61, 62, 63, 64, 65] (by decide +kernel) (by decide +kernel)) (goodIn_sub (fun _ h => List.mem_cons_of_mem _ (List.mem_append_right _ h)) (by decide +kernel))
set_option maxRecDepth 20000 in
theorem gX5_byTable_X5_makeTable : GoodIn wsX5_byTable (wsV RX5 44 RX5 yX5_makeTable wsX5_makeTable) := goodIn_app (goodIn_of _ (by decide +kernel)) ggX5_byTable_X5_makeTable
set_option maxRecDepth 20000 in
theorem ggX5_byTable_X5_tableHas : GoodIn wsX5_byTable wsX5_tableHas := goodIn_ca (goodIn_r _ [42, 1, 4, 5, 3, 2, 18, 19, 20, 21, 22, 23, 24, 25, 26, 27, 28, 29, 30, 31, 32, 33, 34, 35, 36, 37, 38, 43, 44, 45, 46, 47, 48] (by decide +kernel) (by decide +kernel)) (goodIn_sub (fun _ h => List.mem_cons_of_mem _ (List.mem_append_right _ h)) (by decide +kernel))
set_option maxRecDepth 20000 in
theorem gX5_byTable_X5_tableHas : GoodIn wsX5_byTable (wsV RX5 47 RX5 yX5_tableHas wsX5_tableHas) := goodIn_app (goodIn_of _ (by decide +kernel)) ggX5_byTable_X5_tableHas
theorem dX5_byTable_0 : decode cX5_byTable 0 = .ok (.aload_n 0, 1) := by decide +kernel
theorem dX5_byTable_1 : decode cX5_byTable 1 = .ok (.invokevirtual 44, 3) := by decide +kernel
theorem dX5_byTable_4 : decode cX5_byTable 4 = .ok (.aload_n 0, 1) := by decide +kernel
theorem dX5_byTable_5 : decode cX5_byTable 5 = .ok (.iload_n 1, 1) := by decide +kernel
theorem dX5_byTable_6 : decode cX5_byTable 6 = .ok (.iload_n 2, 1) := by decide +kernel
theorem dX5_byTable_7 : decode cX5_byTable 7 = .ok (.iconst (-1), 1) := by decide +kernel
theorem dX5_byTable_8 : decode cX5_byTable 8 = .ok (.iconst (-1), 1) := by decide +kernel
theorem dX5_byTable_9 : decode cX5_byTable 9 = .ok (.invokevirtual 47, 3) := by decide +kernel
theorem dX5_byTable_12 : decode cX5_byTable 12 = .ok (.ifCond .eq 5, 3) := by decide +kernel
theorem dX5_byTable_15 : decode cX5_byTable 15 = .ok (.iconst 1, 1) := by decide +kernel
theorem dX5_byTable_16 : decode cX5_byTable 16 = .ok (.ireturn, 1) := by decide +kernel
theorem dX5_byTable_17 : decode cX5_byTable 17 = .ok (.iconst 0, 1) := by decide +kernel
theorem dX5_byTable_18 : decode cX5_byTable 18 = .ok (.istore_n 3, 1) := by decide +kernel
theorem dX5_byTable_19 : decode cX5_byTable 19 = .ok (.iload_n 3, 1) := by decide +kernel
theorem dX5_byTable_20 : decode cX5_byTable 20 = .ok (.aload_n 0, 1) := by decide +kernel
theorem dX5_byTable_21 : decode cX5_byTable 21 = .ok (.getfield 24, 3) := by decide +kernel
theorem dX5_byTable_24 : decode cX5_byTable 24 = .ok (.if_icmp .ge 54, 3) := by decide +kernel
theorem dX5_byTable_27 : decode cX5_byTable 27 = .ok (.iload_n 1, 1) := by decide +kernel
theorem dX5_byTable_28 : decode cX5_byTable 28 = .ok (.aload_n 0, 1) := by decide +kernel
theorem dX5_byTable_29 : decode cX5_byTable 29 = .ok (.getfield 15, 3) := by decide +kernel
theorem dX5_byTable_32 : decode cX5_byTable 32 = .ok (.iload_n 3, 1) := by decide +kernel
theorem dX5_byTable_33 : decode cX5_byTable 33 = .ok (.iaload, 1) := by decide +kernel
theorem dX5_byTable_34 : decode cX5_byTable 34 = .ok (.imul, 1) := by decide +kernel
theorem dX5_byTable_35 : decode cX5_byTable 35 = .ok (.istore 4, 2) := by decide +kernel
theorem dX5_byTable_37 : decode cX5_byTable 37 = .ok (.iload_n 2, 1) := by decide +kernel
theorem dX5_byTable_38 : decode cX5_byTable 38 = .ok (.aload_n 0, 1) := by decide +kernel
theorem dX5_byTable_39 : decode cX5_byTable 39 = .ok (.getfield 9, 3) := by decide +kernel
theorem dX5_byTable_42 : decode cX5_byTable 42 = .ok (.iload_n 3, 1) := by decide +kernel
theorem dX5_byTable_43 : decode cX5_byTable 43 = .ok (.iaload, 1) := by decide +kernel
theorem dX5_byTable_44 : decode cX5_byTable 44 = .ok (.imul, 1) := by decide +kernel
theorem dX5_byTable_45 : decode cX5_byTable 45 = .ok (.istore 5, 2) := by decide +kernel
theorem dX5_byTable_47 : decode cX5_byTable 47 = .ok (.aload_n 0, 1) := by decide +kernel
theorem dX5_byTable_48 : decode cX5_byTable 48 = .ok (.iload 4, 2) := by decide +kernel
theorem dX5_byTable_50 : decode cX5_byTable 50 = .ok (.iload 5, 2) := by decide +kernel
theorem dX5_byTable_52 : decode cX5_byTable 52 = .ok (.aload_n 0, 1) := by decide +kernel
theorem dX5_byTable_53 : decode cX5_byTable 53 = .ok (.getfield 18, 3) := by decide +kernel
theorem dX5_byTable_56 : decode cX5_byTable 56 = .ok (.iload_n 3, 1) := by decide +kernel
theorem dX5_byTable_57 : decode cX5_byTable 57 = .ok (.iaload, 1) := by decide +kernel
theorem dX5_byTable_58 : decode cX5_byTable 58 = .ok (.aload_n 0, 1) := by decide +kernel
theorem dX5_byTable_59 : decode cX5_byTable 59 = .ok (.getfield 21, 3) := by decide +kernel
theorem dX5_byTable_62 : decode cX5_byTable 62 = .ok (.iload_n 3, 1) := by decide +kernel
theorem dX5_byTable_63 : decode cX5_byTable 63 = .ok (.iaload, 1) := by decide +kernel
theorem dX5_byTable_64 : decode cX5_byTable 64 = .ok (.invokevirtual 47, 3) := by decide +kernel
theorem dX5_byTable_67 : decode cX5_byTable 67 = .ok (.ifCond .eq 5, 3) := by decide +kernel
theorem dX5_byTable_70 : decode cX5_byTable 70 = .ok (.iconst 2, 1) := by decide +kernel
theorem dX5_byTable_71 : decode cX5_byTable 71 = .ok (.ireturn, 1) := by decide +kernel
theorem dX5_byTable_72 : decode cX5_byTable 72 = .ok (.iinc 3 1, 3) := by decide +kernel
theorem dX5_byTable_75 : decode cX5_byTable 75 = .ok (.goto (-56), 3) := by decide +kernel
theorem dX5_byTable_78 : decode cX5_byTable 78 = .ok (.iconst 0, 1) := by decide +kernel
theorem dX5_byTable_79 : decode cX5_byTable 79 = .ok (.ireturn, 1) := by decide +kernel
set_option maxRecDepth 20000 in
theorem ggX5_makeTable_X5_addPair : GoodIn wsX5_makeTable wsX5_addPair := goodIn_ca (goodIn_r _ [8, 1, 2, 9, 10, 11, 12, 13, 14, 15, 16, 17, 18, 19, 20, 21, 22, 23, 24, 25, 26, 27, 28, 29, 30, 31, 32, 33, 34, 35, 36, 37, 38, 39, 40, 41, 42, 43, 44, 45, 46, 47, 48, 49, 50, 51, 52, 53, 54, 55, 56, 57] (by decide +kernel) (by decide +kernel)) (goodIn_sub (fun _ h => List.mem_cons_of_mem _ (List.mem_append_right _ h)) (by decide +kernel))
set_option maxRecDepth 20000 in
theorem gX5_makeTable_X5_addPair : GoodIn wsX5_makeTable (wsV RX5 50 RX5 yX5_addPair wsX5_addPair) := goodIn_app (goodIn_of _ (by decide +kernel)) ggX5_makeTable_X5_addPair
theorem dX5_makeTable_0 : decode cX5_makeTable 0 = .ok (.aload_n 0, 1) := by decide +kernel
theorem dX5_makeTable_1 : decode cX5_makeTable 1 = .ok (.iconst 0, 1) := by decide +kernel
theorem dX5_makeTable_2 : decode cX5_makeTable 2 = .ok (.putfield 24, 3) := by decide +kernel
theorem dX5_makeTable_5 : decode cX5_makeTable 5 = .ok (.iconst 0, 1) := by decide +kernel
theorem dX5_makeTable_6 : decode cX5_makeTable 6 = .ok (.istore_n 1, 1) := by decide +kernel
theorem dX5_makeTable_7 : decode cX5_makeTable 7 = .ok (.iload_n 1, 1) := by decide +kernel
theorem dX5_makeTable_8 : decode cX5_makeTable 8 = .ok (.aload_n 0, 1) := by decide +kernel
theorem dX5_makeTable_9 : decode cX5_makeTable 9 = .ok (.getfield 28, 3) := by decide +kernel
theorem dX5_makeTable_12 : decode cX5_makeTable 12 = .ok (.getfield 32, 3) := by decide +kernel
theorem dX5_makeTable_15 : decode cX5_makeTable 15 = .ok (.if_icmp .ge 39, 3) := by decide +kernel
theorem dX5_makeTable_18 : decode cX5_makeTable 18 = .ok (.iconst 0, 1) := by decide +kernel
theorem dX5_makeTable_19 : decode cX5_makeTable 19 = .ok (.istore_n 2, 1) := by decide +kernel
theorem dX5_makeTable_20 : decode cX5_makeTable 20 = .ok (.iload_n 2, 1) := by decide +kernel
theorem dX5_makeTable_21 : decode cX5_makeTable 21 = .ok (.aload_n 0, 1) := by decide +kernel
theorem dX5_makeTable_22 : decode cX5_makeTable 22 = .ok (.getfield 28, 3) := by decide +kernel
theorem dX5_makeTable_25 : decode cX5_makeTable 25 = .ok (.getfield 32, 3) := by decide +kernel
theorem dX5_makeTable_28 : decode cX5_makeTable 28 = .ok (.if_icmp .ge 20, 3) := by decide +kernel
theorem dX5_makeTable_31 : decode cX5_makeTable 31 = .ok (.iload_n 1, 1) := by decide +kernel
theorem dX5_makeTable_32 : decode cX5_makeTable 32 = .ok (.iload_n 2, 1) := by decide +kernel
theorem dX5_makeTable_33 : decode cX5_makeTable 33 = .ok (.if_icmp .eq 9, 3) := by decide +kernel
theorem dX5_makeTable_36 : decode cX5_makeTable 36 = .ok (.aload_n 0, 1) := by decide +kernel
theorem dX5_makeTable_37 : decode cX5_makeTable 37 = .ok (.iload_n 1, 1) := by decide +kernel
theorem dX5_makeTable_38 : decode cX5_makeTable 38 = .ok (.iload_n 2, 1) := by decide +kernel
theorem dX5_makeTable_39 : decode cX5_makeTable 39 = .ok (.invokevirtual 50, 3) := by decide +kernel
theorem dX5_makeTable_42 : decode cX5_makeTable 42 = .ok (.iinc 2 1, 3) := by decide +kernel
theorem dX5_makeTable_45 : decode cX5_makeTable 45 = .ok (.goto (-25), 3) := by decide +kernel
theorem dX5_makeTable_48 : decode cX5_makeTable 48 = .ok (.iinc 1 1, 3) := by decide +kernel
theorem dX5_makeTable_51 : decode cX5_makeTable 51 = .ok (.goto (-44), 3) := by decide +kernel
theorem dX5_makeTable_54 : decode cX5_makeTable 54 = .ok (.return_, 1) := by decide +kernel
set_option maxRecDepth 20000 in
theorem ggX5_addPair_X4_commonDivisor : GoodIn wsX5_addPair wsX4_commonDivisor := goodIn_r _ [11, 12, 13, 14, 15, 16, 17, 10, 18, 19, 20, 21, 22] (by decide +kernel) (by decide +kernel)
set_option maxRecDepth 20000 in
theorem gX5_addPair_X4_commonDivisor : GoodIn wsX5_addPair (va_wsS RX5 54 yX4_commonDivisor wsX4_commonDivisor) := goodIn_app (goodIn_of _ (by decide +kernel)) ggX5_addPair_X4_commonDivisor
set_option maxRecDepth 20000 in
theorem ggX5_addPair_X4_quotient : GoodIn wsX5_addPair wsX4_quotient := goodIn_r _ [25, 26, 27, 21, 28] (by decide +kernel) (by decide +kernel)
set_option maxRecDepth 20000 in
theorem gX5_addPair_X4_quotient : GoodIn wsX5_addPair (va_wsS RX5 60 yX4_quotient wsX4_quotient) := goodIn_app (goodIn_of _ (by decide +kernel)) ggX5_addPair_X4_quotient
theorem dX5_addPair_0 : decode cX5_addPair 0 = .ok (.aload_n 0, 1) := by decide +kernel
theorem dX5_addPair_1 : decode cX5_addPair 1 = .ok (.getfield 24, 3) := by decide +kernel
theorem dX5_addPair_4 : decode cX5_addPair 4 = .ok (.bipush 90, 2) := by decide +kernel
theorem dX5_addPair_6 : decode cX5_addPair 6 = .ok (.if_icmp .ge 105, 3) := by decide +kernel
theorem dX5_addPair_9 : decode cX5_addPair 9 = .ok (.aload_n 0, 1) := by decide +kernel
theorem dX5_addPair_10 : decode cX5_addPair 10 = .ok (.getfield 28, 3) := by decide +kernel
theorem dX5_addPair_13 : decode cX5_addPair 13 = .ok (.getfield 37, 3) := by decide +kernel
theorem dX5_addPair_16 : decode cX5_addPair 16 = .ok (.iload_n 1, 1) := by decide +kernel
theorem dX5_addPair_17 : decode cX5_addPair 17 = .ok (.iaload, 1) := by decide +kernel
theorem dX5_addPair_18 : decode cX5_addPair 18 = .ok (.i2l, 1) := by decide +kernel
theorem dX5_addPair_19 : decode cX5_addPair 19 = .ok (.aload_n 0, 1) := by decide +kernel
theorem dX5_addPair_20 : decode cX5_addPair 20 = .ok (.getfield 28, 3) := by decide +kernel
theorem dX5_addPair_23 : decode cX5_addPair 23 = .ok (.getfield 37, 3) := by decide +kernel
theorem dX5_addPair_26 : decode cX5_addPair 26 = .ok (.iload_n 2, 1) := by decide +kernel
theorem dX5_addPair_27 : decode cX5_addPair 27 = .ok (.iaload, 1) := by decide +kernel
theorem dX5_addPair_28 : decode cX5_addPair 28 = .ok (.i2l, 1) := by decide +kernel
theorem dX5_addPair_29 : decode cX5_addPair 29 = .ok (.invokestatic 54, 3) := by decide +kernel
theorem dX5_addPair_32 : decode cX5_addPair 32 = .ok (.lstore_n 3, 1) := by decide +kernel
theorem dX5_addPair_33 : decode cX5_addPair 33 = .ok (.aload_n 0, 1) := by decide +kernel
theorem dX5_addPair_34 : decode cX5_addPair 34 = .ok (.getfield 9, 3) := by decide +kernel
theorem dX5_addPair_37 : decode cX5_addPair 37 = .ok (.aload_n 0, 1) := by decide +kernel
theorem dX5_addPair_38 : decode cX5_addPair 38 = .ok (.getfield 24, 3) := by decide +kernel
theorem dX5_addPair_41 : decode cX5_addPair 41 = .ok (.aload_n 0, 1) := by decide +kernel
theorem dX5_addPair_42 : decode cX5_addPair 42 = .ok (.getfield 28, 3) := by decide +kernel
theorem dX5_addPair_45 : decode cX5_addPair 45 = .ok (.getfield 37, 3) := by decide +kernel
theorem dX5_addPair_48 : decode cX5_addPair 48 = .ok (.iload_n 1, 1) := by decide +kernel
theorem dX5_addPair_49 : decode cX5_addPair 49 = .ok (.iaload, 1) := by decide +kernel
theorem dX5_addPair_50 : decode cX5_addPair 50 = .ok (.i2l, 1) := by decide +kernel
theorem dX5_addPair_51 : decode cX5_addPair 51 = .ok (.lload_n 3, 1) := by decide +kernel
theorem dX5_addPair_52 : decode cX5_addPair 52 = .ok (.invokestatic 60, 3) := by decide +kernel
theorem dX5_addPair_55 : decode cX5_addPair 55 = .ok (.l2i, 1) := by decide +kernel
theorem dX5_addPair_56 : decode cX5_addPair 56 = .ok (.iastore, 1) := by decide +kernel
theorem dX5_addPair_57 : decode cX5_addPair 57 = .ok (.aload_n 0, 1) := by decide +kernel
theorem dX5_addPair_58 : decode cX5_addPair 58 = .ok (.getfield 15, 3) := by decide +kernel
theorem dX5_addPair_61 : decode cX5_addPair 61 = .ok (.aload_n 0, 1) := by decide +kernel
theorem dX5_addPair_62 : decode cX5_addPair 62 = .ok (.getfield 24, 3) := by decide +kernel
theorem dX5_addPair_65 : decode cX5_addPair 65 = .ok (.aload_n 0, 1) := by decide +kernel
theorem dX5_addPair_66 : decode cX5_addPair 66 = .ok (.getfield 28, 3) := by decide +kernel
theorem dX5_addPair_69 : decode cX5_addPair 69 = .ok (.getfield 37, 3) := by decide +kernel
theorem dX5_addPair_72 : decode cX5_addPair 72 = .ok (.iload_n 2, 1) := by decide +kernel
theorem dX5_addPair_73 : decode cX5_addPair 73 = .ok (.iaload, 1) := by decide +kernel
theorem dX5_addPair_74 : decode cX5_addPair 74 = .ok (.i2l, 1) := by decide +kernel
theorem dX5_addPair_75 : decode cX5_addPair 75 = .ok (.lload_n 3, 1) := by decide +kernel
theorem dX5_addPair_76 : decode cX5_addPair 76 = .ok (.invokestatic 60, 3) := by decide +kernel
theorem dX5_addPair_79 : decode cX5_addPair 79 = .ok (.l2i, 1) := by decide +kernel
theorem dX5_addPair_80 : decode cX5_addPair 80 = .ok (.iastore, 1) := by decide +kernel
theorem dX5_addPair_81 : decode cX5_addPair 81 = .ok (.aload_n 0, 1) := by decide +kernel
theorem dX5_addPair_82 : decode cX5_addPair 82 = .ok (.getfield 18, 3) := by decide +kernel
theorem dX5_addPair_85 : decode cX5_addPair 85 = .ok (.aload_n 0, 1) := by decide +kernel
theorem dX5_addPair_86 : decode cX5_addPair 86 = .ok (.getfield 24, 3) := by decide +kernel
theorem dX5_addPair_89 : decode cX5_addPair 89 = .ok (.iload_n 1, 1) := by decide +kernel
theorem dX5_addPair_90 : decode cX5_addPair 90 = .ok (.iastore, 1) := by decide +kernel
theorem dX5_addPair_91 : decode cX5_addPair 91 = .ok (.aload_n 0, 1) := by decide +kernel
theorem dX5_addPair_92 : decode cX5_addPair 92 = .ok (.getfield 21, 3) := by decide +kernel
theorem dX5_addPair_95 : decode cX5_addPair 95 = .ok (.aload_n 0, 1) := by decide +kernel
theorem dX5_addPair_96 : decode cX5_addPair 96 = .ok (.getfield 24, 3) := by decide +kernel
theorem dX5_addPair_99 : decode cX5_addPair 99 = .ok (.iload_n 2, 1) := by decide +kernel
theorem dX5_addPair_100 : decode cX5_addPair 100 = .ok (.iastore, 1) := by decide +kernel
theorem dX5_addPair_101 : decode cX5_addPair 101 = .ok (.aload_n 0, 1) := by decide +kernel
theorem dX5_addPair_102 : decode cX5_addPair 102 = .ok (.dup, 1) := by decide +kernel
theorem dX5_addPair_103 : decode cX5_addPair 103 = .ok (.getfield 24, 3) := by decide +kernel
theorem dX5_addPair_106 : decode cX5_addPair 106 = .ok (.iconst 1, 1) := by decide +kernel
theorem dX5_addPair_107 : decode cX5_addPair 107 = .ok (.iadd, 1) := by decide +kernel
theorem dX5_addPair_108 : decode cX5_addPair 108 = .ok (.putfield 24, 3) := by decide +kernel
theorem dX5_addPair_111 : decode cX5_addPair 111 = .ok (.return_, 1) := by decide +kernel
set_option maxRecDepth 20000 in
theorem ggX5_tableHas_X4_commonDivisor : GoodIn wsX5_tableHas wsX4_commonDivisor := goodIn_r _ [9, 10, 11, 12, 13, 14, 15, 8, 16, 17, 18, 19, 20] (by decide +kernel) (by decide +kernel)
set_option maxRecDepth 20000 in
theorem gX5_tableHas_X4_commonDivisor : GoodIn wsX5_tableHas (va_wsS RX5 54 yX4_commonDivisor wsX4_commonDivisor) := goodIn_app (goodIn_of _ (by decide +kernel)) ggX5_tableHas_X4_commonDivisor
set_option maxRecDepth 20000 in
theorem ggX5_tableHas_X4_quotient : GoodIn wsX5_tableHas wsX4_quotient := goodIn_r _ [23, 24, 25, 19, 26] (by decide +kernel) (by decide +kernel)
set_option maxRecDepth 20000 in
theorem gX5_tableHas_X4_quotient : GoodIn wsX5_tableHas (va_wsS RX5 60 yX4_quotient wsX4_quotient) := goodIn_app (goodIn_of _ (by decide +kernel)) ggX5_tableHas_X4_quotient
theorem dX5_tableHas_0 : decode cX5_tableHas 0 = .ok (.iload_n 1, 1) := by decide +kernel
theorem dX5_tableHas_1 : decode cX5_tableHas 1 = .ok (.i2l, 1) := by decide +kernel
theorem dX5_tableHas_2 : decode cX5_tableHas 2 = .ok (.iload_n 2, 1) := by decide +kernel
theorem dX5_tableHas_3 : decode cX5_tableHas 3 = .ok (.i2l, 1) := by decide +kernel
theorem dX5_tableHas_4 : decode cX5_tableHas 4 = .ok (.invokestatic 54, 3) := by decide +kernel
theorem dX5_tableHas_7 : decode cX5_tableHas 7 = .ok (.lstore 5, 2) := by decide +kernel
theorem dX5_tableHas_9 : decode cX5_tableHas 9 = .ok (.iload_n 1, 1) := by decide +kernel
theorem dX5_tableHas_10 : decode cX5_tableHas 10 = .ok (.i2l, 1) := by decide +kernel
theorem dX5_tableHas_11 : decode cX5_tableHas 11 = .ok (.lload 5, 2) := by decide +kernel
theorem dX5_tableHas_13 : decode cX5_tableHas 13 = .ok (.invokestatic 60, 3) := by decide +kernel
theorem dX5_tableHas_16 : decode cX5_tableHas 16 = .ok (.lstore 7, 2) := by decide +kernel
theorem dX5_tableHas_18 : decode cX5_tableHas 18 = .ok (.iload_n 2, 1) := by decide +kernel
theorem dX5_tableHas_19 : decode cX5_tableHas 19 = .ok (.i2l, 1) := by decide +kernel
theorem dX5_tableHas_20 : decode cX5_tableHas 20 = .ok (.lload 5, 2) := by decide +kernel
theorem dX5_tableHas_22 : decode cX5_tableHas 22 = .ok (.invokestatic 60, 3) := by decide +kernel
theorem dX5_tableHas_25 : decode cX5_tableHas 25 = .ok (.lstore 9, 2) := by decide +kernel
theorem dX5_tableHas_27 : decode cX5_tableHas 27 = .ok (.iconst 0, 1) := by decide +kernel
theorem dX5_tableHas_28 : decode cX5_tableHas 28 = .ok (.istore 11, 2) := by decide +kernel
theorem dX5_tableHas_30 : decode cX5_tableHas 30 = .ok (.iload 11, 2) := by decide +kernel
theorem dX5_tableHas_32 : decode cX5_tableHas 32 = .ok (.aload_n 0, 1) := by decide +kernel
theorem dX5_tableHas_33 : decode cX5_tableHas 33 = .ok (.getfield 24, 3) := by decide +kernel
theorem dX5_tableHas_36 : decode cX5_tableHas 36 = .ok (.if_icmp .ge 97, 3) := by decide +kernel
theorem dX5_tableHas_39 : decode cX5_tableHas 39 = .ok (.aload_n 0, 1) := by decide +kernel
theorem dX5_tableHas_40 : decode cX5_tableHas 40 = .ok (.getfield 18, 3) := by decide +kernel
theorem dX5_tableHas_43 : decode cX5_tableHas 43 = .ok (.iload 11, 2) := by decide +kernel
theorem dX5_tableHas_45 : decode cX5_tableHas 45 = .ok (.iaload, 1) := by decide +kernel
theorem dX5_tableHas_46 : decode cX5_tableHas 46 = .ok (.iload_n 3, 1) := by decide +kernel
theorem dX5_tableHas_47 : decode cX5_tableHas 47 = .ok (.if_icmp .eq 42, 3) := by decide +kernel
theorem dX5_tableHas_50 : decode cX5_tableHas 50 = .ok (.aload_n 0, 1) := by decide +kernel
theorem dX5_tableHas_51 : decode cX5_tableHas 51 = .ok (.getfield 18, 3) := by decide +kernel
theorem dX5_tableHas_54 : decode cX5_tableHas 54 = .ok (.iload 11, 2) := by decide +kernel
theorem dX5_tableHas_56 : decode cX5_tableHas 56 = .ok (.iaload, 1) := by decide +kernel
theorem dX5_tableHas_57 : decode cX5_tableHas 57 = .ok (.iload 4, 2) := by decide +kernel
theorem dX5_tableHas_59 : decode cX5_tableHas 59 = .ok (.if_icmp .eq 30, 3) := by decide +kernel
theorem dX5_tableHas_62 : decode cX5_tableHas 62 = .ok (.aload_n 0, 1) := by decide +kernel
theorem dX5_tableHas_63 : decode cX5_tableHas 63 = .ok (.getfield 21, 3) := by decide +kernel
theorem dX5_tableHas_66 : decode cX5_tableHas 66 = .ok (.iload 11, 2) := by decide +kernel
theorem dX5_tableHas_68 : decode cX5_tableHas 68 = .ok (.iaload, 1) := by decide +kernel
theorem dX5_tableHas_69 : decode cX5_tableHas 69 = .ok (.iload_n 3, 1) := by decide +kernel
theorem dX5_tableHas_70 : decode cX5_tableHas 70 = .ok (.if_icmp .eq 19, 3) := by decide +kernel
theorem dX5_tableHas_73 : decode cX5_tableHas 73 = .ok (.aload_n 0, 1) := by decide +kernel
theorem dX5_tableHas_74 : decode cX5_tableHas 74 = .ok (.getfield 21, 3) := by decide +kernel
theorem dX5_tableHas_77 : decode cX5_tableHas 77 = .ok (.iload 11, 2) := by decide +kernel
theorem dX5_tableHas_79 : decode cX5_tableHas 79 = .ok (.iaload, 1) := by decide +kernel
theorem dX5_tableHas_80 : decode cX5_tableHas 80 = .ok (.iload 4, 2) := by decide +kernel
theorem dX5_tableHas_82 : decode cX5_tableHas 82 = .ok (.if_icmp .eq 7, 3) := by decide +kernel
theorem dX5_tableHas_85 : decode cX5_tableHas 85 = .ok (.iconst 1, 1) := by decide +kernel
theorem dX5_tableHas_86 : decode cX5_tableHas 86 = .ok (.goto 4, 3) := by decide +kernel
theorem dX5_tableHas_89 : decode cX5_tableHas 89 = .ok (.iconst 0, 1) := by decide +kernel
theorem dX5_tableHas_90 : decode cX5_tableHas 90 = .ok (.istore 12, 2) := by decide +kernel
theorem dX5_tableHas_92 : decode cX5_tableHas 92 = .ok (.iload 12, 2) := by decide +kernel
theorem dX5_tableHas_94 : decode cX5_tableHas 94 = .ok (.ifCond .eq 33, 3) := by decide +kernel
theorem dX5_tableHas_97 : decode cX5_tableHas 97 = .ok (.aload_n 0, 1) := by decide +kernel
theorem dX5_tableHas_98 : decode cX5_tableHas 98 = .ok (.getfield 9, 3) := by decide +kernel
theorem dX5_tableHas_101 : decode cX5_tableHas 101 = .ok (.iload 11, 2) := by decide +kernel
theorem dX5_tableHas_103 : decode cX5_tableHas 103 = .ok (.iaload, 1) := by decide +kernel
theorem dX5_tableHas_104 : decode cX5_tableHas 104 = .ok (.i2l, 1) := by decide +kernel
theorem dX5_tableHas_105 : decode cX5_tableHas 105 = .ok (.lload 7, 2) := by decide +kernel
theorem dX5_tableHas_107 : decode cX5_tableHas 107 = .ok (.lcmp, 1) := by decide +kernel
theorem dX5_tableHas_108 : decode cX5_tableHas 108 = .ok (.ifCond .ne 19, 3) := by decide +kernel
theorem dX5_tableHas_111 : decode cX5_tableHas 111 = .ok (.aload_n 0, 1) := by decide +kernel
theorem dX5_tableHas_112 : decode cX5_tableHas 112 = .ok (.getfield 15, 3) := by decide +kernel
theorem dX5_tableHas_115 : decode cX5_tableHas 115 = .ok (.iload 11, 2) := by decide +kernel
theorem dX5_tableHas_117 : decode cX5_tableHas 117 = .ok (.iaload, 1) := by decide +kernel
theorem dX5_tableHas_118 : decode cX5_tableHas 118 = .ok (.i2l, 1) := by decide +kernel
theorem dX5_tableHas_119 : decode cX5_tableHas 119 = .ok (.lload 9, 2) := by decide +kernel
theorem dX5_tableHas_121 : decode cX5_tableHas 121 = .ok (.lcmp, 1) := by decide +kernel
theorem dX5_tableHas_122 : decode cX5_tableHas 122 = .ok (.ifCond .ne 5, 3) := by decide +kernel
theorem dX5_tableHas_125 : decode cX5_tableHas 125 = .ok (.iconst 1, 1) := by decide +kernel
theorem dX5_tableHas_126 : decode cX5_tableHas 126 = .ok (.ireturn, 1) := by decide +kernel
theorem dX5_tableHas_127 : decode cX5_tableHas 127 = .ok (.iinc 11 1, 3) := by decide +kernel
theorem dX5_tableHas_130 : decode cX5_tableHas 130 = .ok (.goto (-100), 3) := by decide +kernel
theorem dX5_tableHas_133 : decode cX5_tableHas 133 = .ok (.iconst 0, 1) := by decide +kernel
theorem dX5_tableHas_134 : decode cX5_tableHas 134 = .ok (.ireturn, 1) := by decide +kernel
set_option maxRecDepth 20000 in
theorem ggX5_bothWaysAgree_X5_byTrying : GoodIn wsX5_bothWaysAgree wsX5_byTrying := goodIn_ca (goodIn_r _ [5, 6, 7, 8, 9, 10, 11, 4, 12, 55, 56, 57, 58, 59, 60, 61, 62, 63, 64, 65, 66, 67, 68, 69, 70, 71, 72, 73, 74, 75, 76, 77] (by decide +kernel) (by decide +kernel)) (goodIn_sub (fun _ h => List.mem_cons_of_mem _ (List.mem_append_right _ h)) (by decide +kernel))
set_option maxRecDepth 20000 in
theorem gX5_bothWaysAgree_X5_byTrying : GoodIn wsX5_bothWaysAgree (wsV RX5 63 RX5 yX5_byTrying wsX5_byTrying) := goodIn_app (goodIn_of _ (by decide +kernel)) ggX5_bothWaysAgree_X5_byTrying
set_option maxRecDepth 20000 in
theorem ggX5_bothWaysAgree_X5_byTable : GoodIn wsX5_bothWaysAgree wsX5_byTable := goodIn_ca (goodIn_r _ [16, 17, 18, 19, 20, 21, 22, 23, 24, 4, 25, 6, 7, 26, 27, 28, 29, 8, 30, 31, 32, 33, 34, 35, 36, 37, 38, 39, 40, 41, 42, 43, 44, 45, 46, 47, 48, 49, 50, 51, 52, 53, 54, 55, 56, 57, 58, 59, 60, 61, 62, 63, 64, 65, 66, 67, 68, 69, 70, 71, 72, 73, 74, 75, 76, 77] (by decide +kernel) (by decide +kernel)) (goodIn_sub (fun _ h => List.mem_cons_of_mem _ (List.mem_append_right _ h)) (by decide +kernel))
set_option maxRecDepth 20000 in
theorem gX5_bothWaysAgree_X5_byTable : GoodIn wsX5_bothWaysAgree (wsV RX5 67 RX5 yX5_byTable wsX5_byTable) := goodIn_app (goodIn_of _ (by decide +kernel)) ggX5_bothWaysAgree_X5_byTable
theorem dX5_bothWaysAgree_0 : decode cX5_bothWaysAgree 0 = .ok (.iconst 1, 1) := by decide +kernel
theorem dX5_bothWaysAgree_1 : decode cX5_bothWaysAgree 1 = .ok (.istore_n 1, 1) := by decide +kernel
theorem dX5_bothWaysAgree_2 : decode cX5_bothWaysAgree 2 = .ok (.iload_n 1, 1) := by decide +kernel
theorem dX5_bothWaysAgree_3 : decode cX5_bothWaysAgree 3 = .ok (.bipush 10, 2) := by decide +kernel
theorem dX5_bothWaysAgree_5 : decode cX5_bothWaysAgree 5 = .ok (.if_icmp .gt 26, 3) := by decide +kernel
theorem dX5_bothWaysAgree_8 : decode cX5_bothWaysAgree 8 = .ok (.aload_n 0, 1) := by decide +kernel
theorem dX5_bothWaysAgree_9 : decode cX5_bothWaysAgree 9 = .ok (.iload_n 1, 1) := by decide +kernel
theorem dX5_bothWaysAgree_10 : decode cX5_bothWaysAgree 10 = .ok (.iconst 1, 1) := by decide +kernel
theorem dX5_bothWaysAgree_11 : decode cX5_bothWaysAgree 11 = .ok (.invokevirtual 63, 3) := by decide +kernel
theorem dX5_bothWaysAgree_14 : decode cX5_bothWaysAgree 14 = .ok (.aload_n 0, 1) := by decide +kernel
theorem dX5_bothWaysAgree_15 : decode cX5_bothWaysAgree 15 = .ok (.iload_n 1, 1) := by decide +kernel
theorem dX5_bothWaysAgree_16 : decode cX5_bothWaysAgree 16 = .ok (.iconst 1, 1) := by decide +kernel
theorem dX5_bothWaysAgree_17 : decode cX5_bothWaysAgree 17 = .ok (.invokevirtual 67, 3) := by decide +kernel
theorem dX5_bothWaysAgree_20 : decode cX5_bothWaysAgree 20 = .ok (.if_icmp .eq 5, 3) := by decide +kernel
theorem dX5_bothWaysAgree_23 : decode cX5_bothWaysAgree 23 = .ok (.iconst 0, 1) := by decide +kernel
theorem dX5_bothWaysAgree_24 : decode cX5_bothWaysAgree 24 = .ok (.ireturn, 1) := by decide +kernel
theorem dX5_bothWaysAgree_25 : decode cX5_bothWaysAgree 25 = .ok (.iinc 1 1, 3) := by decide +kernel
theorem dX5_bothWaysAgree_28 : decode cX5_bothWaysAgree 28 = .ok (.goto (-26), 3) := by decide +kernel
theorem dX5_bothWaysAgree_31 : decode cX5_bothWaysAgree 31 = .ok (.iconst 1, 1) := by decide +kernel
theorem dX5_bothWaysAgree_32 : decode cX5_bothWaysAgree 32 = .ok (.ireturn, 1) := by decide +kernel
theorem dX6_init_0 : decode cX6_init 0 = .ok (.aload_n 0, 1) := by decide +kernel
theorem dX6_init_1 : decode cX6_init 1 = .ok (.invokespecial 3, 3) := by decide +kernel
theorem dX6_init_4 : decode cX6_init 4 = .ok (.aload_n 0, 1) := by decide +kernel
theorem dX6_init_5 : decode cX6_init 5 = .ok (.bipush 60, 2) := by decide +kernel
theorem dX6_init_7 : decode cX6_init 7 = .ok (.newarray .char, 2) := by decide +kernel
theorem dX6_init_9 : decode cX6_init 9 = .ok (.putfield 9, 3) := by decide +kernel
theorem dX6_init_12 : decode cX6_init 12 = .ok (.aload_n 0, 1) := by decide +kernel
theorem dX6_init_13 : decode cX6_init 13 = .ok (.iconst 0, 1) := by decide +kernel
theorem dX6_init_14 : decode cX6_init 14 = .ok (.putfield 15, 3) := by decide +kernel
theorem dX6_init_17 : decode cX6_init 17 = .ok (.aload_n 0, 1) := by decide +kernel
theorem dX6_init_18 : decode cX6_init 18 = .ok (.iconst 0, 1) := by decide +kernel
theorem dX6_init_19 : decode cX6_init 19 = .ok (.putfield 19, 3) := by decide +kernel
theorem dX6_init_22 : decode cX6_init 22 = .ok (.aload_n 0, 1) := by decide +kernel
theorem dX6_init_23 : decode cX6_init 23 = .ok (.bipush 60, 2) := by decide +kernel
theorem dX6_init_25 : decode cX6_init 25 = .ok (.anewarray 22, 3) := by decide +kernel
theorem dX6_init_28 : decode cX6_init 28 = .ok (.putfield 24, 3) := by decide +kernel
theorem dX6_init_31 : decode cX6_init 31 = .ok (.aload_n 0, 1) := by decide +kernel
theorem dX6_init_32 : decode cX6_init 32 = .ok (.bipush 60, 2) := by decide +kernel
theorem dX6_init_34 : decode cX6_init 34 = .ok (.newarray .int, 2) := by decide +kernel
theorem dX6_init_36 : decode cX6_init 36 = .ok (.putfield 28, 3) := by decide +kernel
theorem dX6_init_39 : decode cX6_init 39 = .ok (.aload_n 0, 1) := by decide +kernel
theorem dX6_init_40 : decode cX6_init 40 = .ok (.bipush 60, 2) := by decide +kernel
theorem dX6_init_42 : decode cX6_init 42 = .ok (.newarray .int, 2) := by decide +kernel
theorem dX6_init_44 : decode cX6_init 44 = .ok (.putfield 32, 3) := by decide +kernel
theorem dX6_init_47 : decode cX6_init 47 = .ok (.aload_n 0, 1) := by decide +kernel
theorem dX6_init_48 : decode cX6_init 48 = .ok (.iconst 0, 1) := by decide +kernel
theorem dX6_init_49 : decode cX6_init 49 = .ok (.putfield 35, 3) := by decide +kernel
theorem dX6_init_52 : decode cX6_init 52 = .ok (.aload_n 0, 1) := by decide +kernel
theorem dX6_init_53 : decode cX6_init 53 = .ok (.iconst 0, 1) := by decide +kernel
theorem dX6_init_54 : decode cX6_init 54 = .ok (.putfield 38, 3) := by decide +kernel
theorem dX6_init_57 : decode cX6_init 57 = .ok (.return_, 1) := by decide +kernel
theorem dX6_add_0 : decode cX6_add 0 = .ok (.aload_n 0, 1) := by decide +kernel
theorem dX6_add_1 : decode cX6_add 1 = .ok (.getfield 15, 3) := by decide +kernel
theorem dX6_add_4 : decode cX6_add 4 = .ok (.bipush 60, 2) := by decide +kernel
theorem dX6_add_6 : decode cX6_add 6 = .ok (.if_icmp .ge 23, 3) := by decide +kernel
theorem dX6_add_9 : decode cX6_add 9 = .ok (.aload_n 0, 1) := by decide +kernel
theorem dX6_add_10 : decode cX6_add 10 = .ok (.getfield 9, 3) := by decide +kernel
theorem dX6_add_13 : decode cX6_add 13 = .ok (.aload_n 0, 1) := by decide +kernel
theorem dX6_add_14 : decode cX6_add 14 = .ok (.getfield 15, 3) := by decide +kernel
theorem dX6_add_17 : decode cX6_add 17 = .ok (.iload_n 1, 1) := by decide +kernel
theorem dX6_add_18 : decode cX6_add 18 = .ok (.castore, 1) := by decide +kernel
theorem dX6_add_19 : decode cX6_add 19 = .ok (.aload_n 0, 1) := by decide +kernel
theorem dX6_add_20 : decode cX6_add 20 = .ok (.dup, 1) := by decide +kernel
theorem dX6_add_21 : decode cX6_add 21 = .ok (.getfield 15, 3) := by decide +kernel
theorem dX6_add_24 : decode cX6_add 24 = .ok (.iconst 1, 1) := by decide +kernel
theorem dX6_add_25 : decode cX6_add 25 = .ok (.iadd, 1) := by decide +kernel
theorem dX6_add_26 : decode cX6_add 26 = .ok (.putfield 15, 3) := by decide +kernel
theorem dX6_add_29 : decode cX6_add 29 = .ok (.return_, 1) := by decide +kernel
theorem dX6_empty_0 : decode cX6_empty 0 = .ok (.aload_n 0, 1) := by decide +kernel
theorem dX6_empty_1 : decode cX6_empty 1 = .ok (.iconst 0, 1) := by decide +kernel
theorem dX6_empty_2 : decode cX6_empty 2 = .ok (.putfield 15, 3) := by decide +kernel
theorem dX6_empty_5 : decode cX6_empty 5 = .ok (.return_, 1) := by decide +kernel
set_option maxRecDepth 20000 in
theorem ggX6_parse_X6_readCommand : GoodIn wsX6_parse wsX6_readCommand := goodIn_ca (goodIn_r _ [8, 9, 10, 11, 12, 13, 14, 15, 16, 7, 17, 18, 19, 20, 21, 22, 1, 23, 24, 25, 26, 3, 27, 28, 29, 30, 31, 32, 33, 34, 35, 36, 37, 38, 39, 40, 41, 42, 43, 44, 45, 46, 47, 48, 49, 50, 51, 52, 53, 54, 55, 56, 57, 58, 59, 60, 61, 62, 63, 64, 65, 66, 67, 68, 69, 70, 71, 72, 73, 74, 75, 76, 77, 78, 79, 80, 81, 82, 83, 84, 85, 86, 87, 88, 89, 90, 91, 92, 93, 94, 95, 96, 97, 98, 99, 100] (by decide +kernel) (by decide +kernel)) (goodIn_sub (fun _ h => List.mem_cons_of_mem _ (List.mem_append_right _ h)) (by decide +kernel))
set_option maxRecDepth 20000 in
theorem gX6_parse_X6_readCommand : GoodIn wsX6_parse (wsV RX6 41 RX6 yX6_readCommand wsX6_readCommand) := goodIn_app (goodIn_of _ (by decide +kernel)) ggX6_parse_X6_readCommand
set_option maxRecDepth 20000 in
theorem ggX6_parse_X6_readSign : GoodIn wsX6_parse wsX6_readSign := goodIn_ca (goodIn_r _ [88, 1, 3, 27, 89, 90, 91, 92, 93, 94, 95, 96] (by decide +kernel) (by decide +kernel)) (goodIn_sub (fun _ h => List.mem_cons_of_mem _ (List.mem_append_right _ h)) (by decide +kernel))
set_option maxRecDepth 20000 in
theorem gX6_parse_X6_readSign : GoodIn wsX6_parse (wsV RX6 45 RX6 yX6_readSign wsX6_readSign) := goodIn_app (goodIn_of _ (by decide +kernel)) ggX6_parse_X6_readSign
theorem dX6_parse_0 : decode cX6_parse 0 = .ok (.aload_n 0, 1) := by decide +kernel
theorem dX6_parse_1 : decode cX6_parse 1 = .ok (.iconst 0, 1) := by decide +kernel
theorem dX6_parse_2 : decode cX6_parse 2 = .ok (.putfield 19, 3) := by decide +kernel
theorem dX6_parse_5 : decode cX6_parse 5 = .ok (.aload_n 0, 1) := by decide +kernel
theorem dX6_parse_6 : decode cX6_parse 6 = .ok (.iconst 0, 1) := by decide +kernel
theorem dX6_parse_7 : decode cX6_parse 7 = .ok (.putfield 35, 3) := by decide +kernel
theorem dX6_parse_10 : decode cX6_parse 10 = .ok (.iconst 0, 1) := by decide +kernel
theorem dX6_parse_11 : decode cX6_parse 11 = .ok (.istore_n 1, 1) := by decide +kernel
theorem dX6_parse_12 : decode cX6_parse 12 = .ok (.iload_n 1, 1) := by decide +kernel
theorem dX6_parse_13 : decode cX6_parse 13 = .ok (.bipush 60, 2) := by decide +kernel
theorem dX6_parse_15 : decode cX6_parse 15 = .ok (.if_icmp .ge 59, 3) := by decide +kernel
theorem dX6_parse_18 : decode cX6_parse 18 = .ok (.aload_n 0, 1) := by decide +kernel
theorem dX6_parse_19 : decode cX6_parse 19 = .ok (.iload_n 1, 1) := by decide +kernel
theorem dX6_parse_20 : decode cX6_parse 20 = .ok (.invokevirtual 41, 3) := by decide +kernel
theorem dX6_parse_23 : decode cX6_parse 23 = .ok (.ifCond .ne 8, 3) := by decide +kernel
theorem dX6_parse_26 : decode cX6_parse 26 = .ok (.aload_n 0, 1) := by decide +kernel
theorem dX6_parse_27 : decode cX6_parse 27 = .ok (.getfield 19, 3) := by decide +kernel
theorem dX6_parse_30 : decode cX6_parse 30 = .ok (.ireturn, 1) := by decide +kernel
theorem dX6_parse_31 : decode cX6_parse 31 = .ok (.aload_n 0, 1) := by decide +kernel
theorem dX6_parse_32 : decode cX6_parse 32 = .ok (.dup, 1) := by decide +kernel
theorem dX6_parse_33 : decode cX6_parse 33 = .ok (.getfield 35, 3) := by decide +kernel
theorem dX6_parse_36 : decode cX6_parse 36 = .ok (.iconst 1, 1) := by decide +kernel
theorem dX6_parse_37 : decode cX6_parse 37 = .ok (.iadd, 1) := by decide +kernel
theorem dX6_parse_38 : decode cX6_parse 38 = .ok (.putfield 35, 3) := by decide +kernel
theorem dX6_parse_41 : decode cX6_parse 41 = .ok (.aload_n 0, 1) := by decide +kernel
theorem dX6_parse_42 : decode cX6_parse 42 = .ok (.getfield 19, 3) := by decide +kernel
theorem dX6_parse_45 : decode cX6_parse 45 = .ok (.aload_n 0, 1) := by decide +kernel
theorem dX6_parse_46 : decode cX6_parse 46 = .ok (.getfield 15, 3) := by decide +kernel
theorem dX6_parse_49 : decode cX6_parse 49 = .ok (.if_icmp .ne 5, 3) := by decide +kernel
theorem dX6_parse_52 : decode cX6_parse 52 = .ok (.iconst (-1), 1) := by decide +kernel
theorem dX6_parse_53 : decode cX6_parse 53 = .ok (.ireturn, 1) := by decide +kernel
theorem dX6_parse_54 : decode cX6_parse 54 = .ok (.aload_n 0, 1) := by decide +kernel
theorem dX6_parse_55 : decode cX6_parse 55 = .ok (.bipush 59, 2) := by decide +kernel
theorem dX6_parse_57 : decode cX6_parse 57 = .ok (.invokevirtual 45, 3) := by decide +kernel
theorem dX6_parse_60 : decode cX6_parse 60 = .ok (.ifCond .ne 8, 3) := by decide +kernel
theorem dX6_parse_63 : decode cX6_parse 63 = .ok (.aload_n 0, 1) := by decide +kernel
theorem dX6_parse_64 : decode cX6_parse 64 = .ok (.getfield 19, 3) := by decide +kernel
theorem dX6_parse_67 : decode cX6_parse 67 = .ok (.ireturn, 1) := by decide +kernel
theorem dX6_parse_68 : decode cX6_parse 68 = .ok (.iinc 1 1, 3) := by decide +kernel
theorem dX6_parse_71 : decode cX6_parse 71 = .ok (.goto (-59), 3) := by decide +kernel
theorem dX6_parse_74 : decode cX6_parse 74 = .ok (.aload_n 0, 1) := by decide +kernel
theorem dX6_parse_75 : decode cX6_parse 75 = .ok (.getfield 19, 3) := by decide +kernel
theorem dX6_parse_78 : decode cX6_parse 78 = .ok (.ireturn, 1) := by decide +kernel
set_option maxRecDepth 20000 in
theorem ggX6_readCommand_X6_readVerb : GoodIn wsX6_readCommand wsX6_readVerb := goodIn_ca (goodIn_r _ [10, 11, 12, 13, 14, 15, 16, 17, 18, 19, 9, 20, 21, 22, 23, 24, 25, 26, 27, 28, 29, 30, 31, 32, 33, 34, 35, 36, 37, 38, 39, 40, 41, 42, 43, 44, 45, 46, 47, 48, 49, 50, 51, 52, 53, 54, 55, 56, 57, 58, 59, 60, 61, 62, 63, 64, 65, 66, 67, 68, 69, 70, 71, 84, 85, 86, 87, 88, 89, 90, 91, 92, 93, 94, 95] (by decide +kernel) (by decide +kernel)) (goodIn_sub (fun _ h => List.mem_cons_of_mem _ (List.mem_append_right _ h)) (by decide +kernel))
set_option maxRecDepth 20000 in
theorem gX6_readCommand_X6_readVerb : GoodIn wsX6_readCommand (wsV RX6 49 RX6 yX6_readVerb wsX6_readVerb) := goodIn_app (goodIn_of _ (by decide +kernel)) ggX6_readCommand_X6_readVerb
set_option maxRecDepth 20000 in
theorem ggX6_readCommand_X6_readDigits : GoodIn wsX6_readCommand wsX6_readDigits := goodIn_ca (goodIn_r _ [75, 5, 76, 77, 78, 9, 79, 16, 21, 22, 84, 85, 86, 87, 88, 89, 90, 91] (by decide +kernel) (by decide +kernel)) (goodIn_sub (fun _ h => List.mem_cons_of_mem _ (List.mem_append_right _ h)) (by decide +kernel))
set_option maxRecDepth 20000 in
theorem gX6_readCommand_X6_readDigits : GoodIn wsX6_readCommand (wsV RX6 56 RX6 yX6_readDigits wsX6_readDigits) := goodIn_app (goodIn_of _ (by decide +kernel)) ggX6_readCommand_X6_readDigits
set_option maxRecDepth 20000 in
theorem ggX6_readCommand_X6_readSign : GoodIn wsX6_readCommand wsX6_readSign := goodIn_ca (goodIn_r _ [83, 16, 21, 22, 84, 85, 86, 87, 88, 89, 90, 91] (by decide +kernel) (by decide +kernel)) (goodIn_sub (fun _ h => List.mem_cons_of_mem _ (List.mem_append_right _ h)) (by decide +kernel))
set_option maxRecDepth 20000 in
theorem gX6_readCommand_X6_readSign : GoodIn wsX6_readCommand (wsV RX6 45 RX6 yX6_readSign wsX6_readSign) := goodIn_app (goodIn_of _ (by decide +kernel)) ggX6_readCommand_X6_readSign
theorem dX6_readCommand_0 : decode cX6_readCommand 0 = .ok (.aload_n 0, 1) := by decide +kernel
theorem dX6_readCommand_1 : decode cX6_readCommand 1 = .ok (.invokevirtual 49, 3) := by decide +kernel
theorem dX6_readCommand_4 : decode cX6_readCommand 4 = .ok (.astore_n 2, 1) := by decide +kernel
theorem dX6_readCommand_5 : decode cX6_readCommand 5 = .ok (.aload_n 2, 1) := by decide +kernel
theorem dX6_readCommand_6 : decode cX6_readCommand 6 = .ok (.ifnonnull 5, 3) := by decide +kernel
theorem dX6_readCommand_9 : decode cX6_readCommand 9 = .ok (.iconst 0, 1) := by decide +kernel
theorem dX6_readCommand_10 : decode cX6_readCommand 10 = .ok (.ireturn, 1) := by decide +kernel
theorem dX6_readCommand_11 : decode cX6_readCommand 11 = .ok (.aload_n 0, 1) := by decide +kernel
theorem dX6_readCommand_12 : decode cX6_readCommand 12 = .ok (.getfield 24, 3) := by decide +kernel
theorem dX6_readCommand_15 : decode cX6_readCommand 15 = .ok (.iload_n 1, 1) := by decide +kernel
theorem dX6_readCommand_16 : decode cX6_readCommand 16 = .ok (.aload_n 2, 1) := by decide +kernel
theorem dX6_readCommand_17 : decode cX6_readCommand 17 = .ok (.aastore, 1) := by decide +kernel
theorem dX6_readCommand_18 : decode cX6_readCommand 18 = .ok (.aload_n 0, 1) := by decide +kernel
theorem dX6_readCommand_19 : decode cX6_readCommand 19 = .ok (.getfield 32, 3) := by decide +kernel
theorem dX6_readCommand_22 : decode cX6_readCommand 22 = .ok (.iload_n 1, 1) := by decide +kernel
theorem dX6_readCommand_23 : decode cX6_readCommand 23 = .ok (.iconst 0, 1) := by decide +kernel
theorem dX6_readCommand_24 : decode cX6_readCommand 24 = .ok (.iastore, 1) := by decide +kernel
theorem dX6_readCommand_25 : decode cX6_readCommand 25 = .ok (.aload_n 0, 1) := by decide +kernel
theorem dX6_readCommand_26 : decode cX6_readCommand 26 = .ok (.aload_n 2, 1) := by decide +kernel
theorem dX6_readCommand_27 : decode cX6_readCommand 27 = .ok (.getfield 53, 3) := by decide +kernel
theorem dX6_readCommand_30 : decode cX6_readCommand 30 = .ok (.ifCond .ne 7, 3) := by decide +kernel
theorem dX6_readCommand_33 : decode cX6_readCommand 33 = .ok (.iconst 3, 1) := by decide +kernel
theorem dX6_readCommand_34 : decode cX6_readCommand 34 = .ok (.goto 4, 3) := by decide +kernel
theorem dX6_readCommand_37 : decode cX6_readCommand 37 = .ok (.iconst 1, 1) := by decide +kernel
theorem dX6_readCommand_38 : decode cX6_readCommand 38 = .ok (.invokevirtual 56, 3) := by decide +kernel
theorem dX6_readCommand_41 : decode cX6_readCommand 41 = .ok (.istore_n 3, 1) := by decide +kernel
theorem dX6_readCommand_42 : decode cX6_readCommand 42 = .ok (.aload_n 0, 1) := by decide +kernel
theorem dX6_readCommand_43 : decode cX6_readCommand 43 = .ok (.getfield 28, 3) := by decide +kernel
theorem dX6_readCommand_46 : decode cX6_readCommand 46 = .ok (.iload_n 1, 1) := by decide +kernel
theorem dX6_readCommand_47 : decode cX6_readCommand 47 = .ok (.aload_n 0, 1) := by decide +kernel
theorem dX6_readCommand_48 : decode cX6_readCommand 48 = .ok (.getfield 38, 3) := by decide +kernel
theorem dX6_readCommand_51 : decode cX6_readCommand 51 = .ok (.iastore, 1) := by decide +kernel
theorem dX6_readCommand_52 : decode cX6_readCommand 52 = .ok (.iload_n 3, 1) := by decide +kernel
theorem dX6_readCommand_53 : decode cX6_readCommand 53 = .ok (.ifCond .eq 18, 3) := by decide +kernel
theorem dX6_readCommand_56 : decode cX6_readCommand 56 = .ok (.aload_n 2, 1) := by decide +kernel
theorem dX6_readCommand_57 : decode cX6_readCommand 57 = .ok (.getfield 53, 3) := by decide +kernel
theorem dX6_readCommand_60 : decode cX6_readCommand 60 = .ok (.ifCond .eq 11, 3) := by decide +kernel
theorem dX6_readCommand_63 : decode cX6_readCommand 63 = .ok (.aload_n 2, 1) := by decide +kernel
theorem dX6_readCommand_64 : decode cX6_readCommand 64 = .ok (.getfield 53, 3) := by decide +kernel
theorem dX6_readCommand_67 : decode cX6_readCommand 67 = .ok (.iconst 1, 1) := by decide +kernel
theorem dX6_readCommand_68 : decode cX6_readCommand 68 = .ok (.if_icmp .ne 5, 3) := by decide +kernel
theorem dX6_readCommand_71 : decode cX6_readCommand 71 = .ok (.iload_n 3, 1) := by decide +kernel
theorem dX6_readCommand_72 : decode cX6_readCommand 72 = .ok (.ireturn, 1) := by decide +kernel
theorem dX6_readCommand_73 : decode cX6_readCommand 73 = .ok (.aload_n 2, 1) := by decide +kernel
theorem dX6_readCommand_74 : decode cX6_readCommand 74 = .ok (.getfield 53, 3) := by decide +kernel
theorem dX6_readCommand_77 : decode cX6_readCommand 77 = .ok (.iconst 2, 1) := by decide +kernel
theorem dX6_readCommand_78 : decode cX6_readCommand 78 = .ok (.if_icmp .ne 11, 3) := by decide +kernel
theorem dX6_readCommand_81 : decode cX6_readCommand 81 = .ok (.aload_n 0, 1) := by decide +kernel
theorem dX6_readCommand_82 : decode cX6_readCommand 82 = .ok (.iconst 1, 1) := by decide +kernel
theorem dX6_readCommand_83 : decode cX6_readCommand 83 = .ok (.invokevirtual 56, 3) := by decide +kernel
theorem dX6_readCommand_86 : decode cX6_readCommand 86 = .ok (.goto 25, 3) := by decide +kernel
theorem dX6_readCommand_89 : decode cX6_readCommand 89 = .ok (.aload_n 0, 1) := by decide +kernel
theorem dX6_readCommand_90 : decode cX6_readCommand 90 = .ok (.bipush 32, 2) := by decide +kernel
theorem dX6_readCommand_92 : decode cX6_readCommand 92 = .ok (.invokevirtual 45, 3) := by decide +kernel
theorem dX6_readCommand_95 : decode cX6_readCommand 95 = .ok (.ifCond .eq 15, 3) := by decide +kernel
theorem dX6_readCommand_98 : decode cX6_readCommand 98 = .ok (.aload_n 0, 1) := by decide +kernel
theorem dX6_readCommand_99 : decode cX6_readCommand 99 = .ok (.iconst 3, 1) := by decide +kernel
theorem dX6_readCommand_100 : decode cX6_readCommand 100 = .ok (.invokevirtual 56, 3) := by decide +kernel
theorem dX6_readCommand_103 : decode cX6_readCommand 103 = .ok (.ifCond .eq 7, 3) := by decide +kernel
theorem dX6_readCommand_106 : decode cX6_readCommand 106 = .ok (.iconst 1, 1) := by decide +kernel
theorem dX6_readCommand_107 : decode cX6_readCommand 107 = .ok (.goto 4, 3) := by decide +kernel
theorem dX6_readCommand_110 : decode cX6_readCommand 110 = .ok (.iconst 0, 1) := by decide +kernel
theorem dX6_readCommand_111 : decode cX6_readCommand 111 = .ok (.istore_n 3, 1) := by decide +kernel
theorem dX6_readCommand_112 : decode cX6_readCommand 112 = .ok (.aload_n 0, 1) := by decide +kernel
theorem dX6_readCommand_113 : decode cX6_readCommand 113 = .ok (.getfield 32, 3) := by decide +kernel
theorem dX6_readCommand_116 : decode cX6_readCommand 116 = .ok (.iload_n 1, 1) := by decide +kernel
theorem dX6_readCommand_117 : decode cX6_readCommand 117 = .ok (.aload_n 0, 1) := by decide +kernel
theorem dX6_readCommand_118 : decode cX6_readCommand 118 = .ok (.getfield 38, 3) := by decide +kernel
theorem dX6_readCommand_121 : decode cX6_readCommand 121 = .ok (.iastore, 1) := by decide +kernel
theorem dX6_readCommand_122 : decode cX6_readCommand 122 = .ok (.iload_n 3, 1) := by decide +kernel
theorem dX6_readCommand_123 : decode cX6_readCommand 123 = .ok (.ireturn, 1) := by decide +kernel
set_option maxRecDepth 20000 in
theorem ggX6_readVerb_X6_commonSigns : GoodIn wsX6_readVerb wsX6_commonSigns := goodIn_ca (goodIn_r _ [11, 6, 12, 13, 14, 15, 16, 17, 18, 19, 20, 21, 22, 23, 24, 25, 26, 27, 28, 29, 30, 31, 32, 33, 34, 35, 36, 37, 38, 39, 40, 41, 42, 43, 44, 45, 46, 47, 48, 49, 50, 51, 52, 53, 54, 55, 56, 57, 58, 59, 60, 61, 62, 63, 64, 65, 66, 67, 68, 69, 70, 71, 72, 73, 74] (by decide +kernel) (by decide +kernel)) (goodIn_sub (fun _ h => List.mem_cons_of_mem _ (List.mem_append_right _ h)) (by decide +kernel))
set_option maxRecDepth 20000 in
theorem gX6_readVerb_X6_commonSigns : GoodIn wsX6_readVerb (wsV RX6 66 RX6 yX6_commonSigns wsX6_commonSigns) := goodIn_app (goodIn_of _ (by decide +kernel)) ggX6_readVerb_X6_commonSigns
set_option maxRecDepth 20000 in
theorem ggX6_readVerb_J0_length_8abf5 : GoodIn wsX6_readVerb wsJ0_length_8abf5 := goodIn_r _ [18, 19, 20, 21, 22, 17, 23, 24, 25, 71, 72, 73, 74] (by decide +kernel) (by decide +kernel)
set_option maxRecDepth 20000 in
theorem gX6_readVerb_J0_length_8abf5 : GoodIn wsX6_readVerb (wsV RX6 70 RJ0 yJ0_length_8abf5 wsJ0_length_8abf5) := goodIn_app (goodIn_of _ (by decide +kernel)) ggX6_readVerb_J0_length_8abf5
theorem dX6_readVerb_0 : decode cX6_readVerb 0 = .ok (.aconst_null, 1) := by decide +kernel
theorem dX6_readVerb_1 : decode cX6_readVerb 1 = .ok (.astore_n 1, 1) := by decide +kernel
theorem dX6_readVerb_2 : decode cX6_readVerb 2 = .ok (.iconst 0, 1) := by decide +kernel
theorem dX6_readVerb_3 : decode cX6_readVerb 3 = .ok (.istore_n 2, 1) := by decide +kernel
theorem dX6_readVerb_4 : decode cX6_readVerb 4 = .ok (.getstatic 59, 3) := by decide +kernel
theorem dX6_readVerb_7 : decode cX6_readVerb 7 = .ok (.astore_n 3, 1) := by decide +kernel
theorem dX6_readVerb_8 : decode cX6_readVerb 8 = .ok (.aload_n 3, 1) := by decide +kernel
theorem dX6_readVerb_9 : decode cX6_readVerb 9 = .ok (.arraylength, 1) := by decide +kernel
theorem dX6_readVerb_10 : decode cX6_readVerb 10 = .ok (.istore 4, 2) := by decide +kernel
theorem dX6_readVerb_12 : decode cX6_readVerb 12 = .ok (.iconst 0, 1) := by decide +kernel
theorem dX6_readVerb_13 : decode cX6_readVerb 13 = .ok (.istore 5, 2) := by decide +kernel
theorem dX6_readVerb_15 : decode cX6_readVerb 15 = .ok (.iload 5, 2) := by decide +kernel
theorem dX6_readVerb_17 : decode cX6_readVerb 17 = .ok (.iload 4, 2) := by decide +kernel
theorem dX6_readVerb_19 : decode cX6_readVerb 19 = .ok (.if_icmp .ge 49, 3) := by decide +kernel
theorem dX6_readVerb_22 : decode cX6_readVerb 22 = .ok (.aload_n 3, 1) := by decide +kernel
theorem dX6_readVerb_23 : decode cX6_readVerb 23 = .ok (.iload 5, 2) := by decide +kernel
theorem dX6_readVerb_25 : decode cX6_readVerb 25 = .ok (.aaload, 1) := by decide +kernel
theorem dX6_readVerb_26 : decode cX6_readVerb 26 = .ok (.astore 6, 2) := by decide +kernel
theorem dX6_readVerb_28 : decode cX6_readVerb 28 = .ok (.aload_n 0, 1) := by decide +kernel
theorem dX6_readVerb_29 : decode cX6_readVerb 29 = .ok (.aload 6, 2) := by decide +kernel
theorem dX6_readVerb_31 : decode cX6_readVerb 31 = .ok (.getfield 62, 3) := by decide +kernel
theorem dX6_readVerb_34 : decode cX6_readVerb 34 = .ok (.invokevirtual 66, 3) := by decide +kernel
theorem dX6_readVerb_37 : decode cX6_readVerb 37 = .ok (.istore 7, 2) := by decide +kernel
theorem dX6_readVerb_39 : decode cX6_readVerb 39 = .ok (.iload 7, 2) := by decide +kernel
theorem dX6_readVerb_41 : decode cX6_readVerb 41 = .ok (.aload 6, 2) := by decide +kernel
theorem dX6_readVerb_43 : decode cX6_readVerb 43 = .ok (.getfield 62, 3) := by decide +kernel
theorem dX6_readVerb_46 : decode cX6_readVerb 46 = .ok (.invokevirtual 70, 3) := by decide +kernel
theorem dX6_readVerb_49 : decode cX6_readVerb 49 = .ok (.if_icmp .ne 6, 3) := by decide +kernel
theorem dX6_readVerb_52 : decode cX6_readVerb 52 = .ok (.aload 6, 2) := by decide +kernel
theorem dX6_readVerb_54 : decode cX6_readVerb 54 = .ok (.astore_n 1, 1) := by decide +kernel
theorem dX6_readVerb_55 : decode cX6_readVerb 55 = .ok (.iload_n 2, 1) := by decide +kernel
theorem dX6_readVerb_56 : decode cX6_readVerb 56 = .ok (.iload 7, 2) := by decide +kernel
theorem dX6_readVerb_58 : decode cX6_readVerb 58 = .ok (.invokestatic 75, 3) := by decide +kernel
theorem dX6_readVerb_61 : decode cX6_readVerb 61 = .ok (.istore_n 2, 1) := by decide +kernel
theorem dX6_readVerb_62 : decode cX6_readVerb 62 = .ok (.iinc 5 1, 3) := by decide +kernel
theorem dX6_readVerb_65 : decode cX6_readVerb 65 = .ok (.goto (-50), 3) := by decide +kernel
theorem dX6_readVerb_68 : decode cX6_readVerb 68 = .ok (.aload_n 0, 1) := by decide +kernel
theorem dX6_readVerb_69 : decode cX6_readVerb 69 = .ok (.dup, 1) := by decide +kernel
theorem dX6_readVerb_70 : decode cX6_readVerb 70 = .ok (.getfield 19, 3) := by decide +kernel
theorem dX6_readVerb_73 : decode cX6_readVerb 73 = .ok (.iload_n 2, 1) := by decide +kernel
theorem dX6_readVerb_74 : decode cX6_readVerb 74 = .ok (.iadd, 1) := by decide +kernel
theorem dX6_readVerb_75 : decode cX6_readVerb 75 = .ok (.putfield 19, 3) := by decide +kernel
theorem dX6_readVerb_78 : decode cX6_readVerb 78 = .ok (.aload_n 1, 1) := by decide +kernel
theorem dX6_readVerb_79 : decode cX6_readVerb 79 = .ok (.areturn, 1) := by decide +kernel
set_option maxRecDepth 20000 in
theorem ggX6_commonSigns_J0_length_8abf5 : GoodIn wsX6_commonSigns wsJ0_length_8abf5 := goodIn_r _ [8, 9, 10, 11, 12, 7, 13, 14, 15, 61, 62, 63, 64] (by decide +kernel) (by decide +kernel)
set_option maxRecDepth 20000 in
theorem gX6_commonSigns_J0_length_8abf5 : GoodIn wsX6_commonSigns (wsV RX6 70 RJ0 yJ0_length_8abf5 wsJ0_length_8abf5) := goodIn_app (goodIn_of _ (by decide +kernel)) ggX6_commonSigns_J0_length_8abf5
set_option maxRecDepth 20000 in
theorem ggX6_commonSigns_J0_charAt_5068e : GoodIn wsX6_commonSigns wsJ0_charAt_5068e := goodIn_r _ [19, 9, 20, 21, 22, 7, 23, 14, 15, 24, 25, 26, 27, 28, 29, 30, 31, 32, 33, 34, 35, 36, 37, 38, 39, 40, 41, 42, 43, 44, 45, 46, 47, 48, 49, 50, 51, 52, 61, 62, 63, 64] (by decide +kernel) (by decide +kernel)
set_option maxRecDepth 20000 in
theorem gX6_commonSigns_J0_charAt_5068e : GoodIn wsX6_commonSigns (wsV RX6 81 RJ0 yJ0_charAt_5068e wsJ0_charAt_5068e) := goodIn_app (goodIn_of _ (by decide +kernel)) ggX6_commonSigns_J0_charAt_5068e
theorem dX6_commonSigns_0 : decode cX6_commonSigns 0 = .ok (.iconst 0, 1) := by decide +kernel
theorem dX6_commonSigns_1 : decode cX6_commonSigns 1 = .ok (.istore_n 2, 1) := by decide +kernel
theorem dX6_commonSigns_2 : decode cX6_commonSigns 2 = .ok (.iload_n 2, 1) := by decide +kernel
theorem dX6_commonSigns_3 : decode cX6_commonSigns 3 = .ok (.aload_n 1, 1) := by decide +kernel
theorem dX6_commonSigns_4 : decode cX6_commonSigns 4 = .ok (.invokevirtual 70, 3) := by decide +kernel
theorem dX6_commonSigns_7 : decode cX6_commonSigns 7 = .ok (.if_icmp .ge 41, 3) := by decide +kernel
theorem dX6_commonSigns_10 : decode cX6_commonSigns 10 = .ok (.aload_n 0, 1) := by decide +kernel
theorem dX6_commonSigns_11 : decode cX6_commonSigns 11 = .ok (.getfield 19, 3) := by decide +kernel
theorem dX6_commonSigns_14 : decode cX6_commonSigns 14 = .ok (.iload_n 2, 1) := by decide +kernel
theorem dX6_commonSigns_15 : decode cX6_commonSigns 15 = .ok (.iadd, 1) := by decide +kernel
theorem dX6_commonSigns_16 : decode cX6_commonSigns 16 = .ok (.aload_n 0, 1) := by decide +kernel
theorem dX6_commonSigns_17 : decode cX6_commonSigns 17 = .ok (.getfield 15, 3) := by decide +kernel
theorem dX6_commonSigns_20 : decode cX6_commonSigns 20 = .ok (.if_icmp .ge 28, 3) := by decide +kernel
theorem dX6_commonSigns_23 : decode cX6_commonSigns 23 = .ok (.aload_n 0, 1) := by decide +kernel
theorem dX6_commonSigns_24 : decode cX6_commonSigns 24 = .ok (.getfield 9, 3) := by decide +kernel
theorem dX6_commonSigns_27 : decode cX6_commonSigns 27 = .ok (.aload_n 0, 1) := by decide +kernel
theorem dX6_commonSigns_28 : decode cX6_commonSigns 28 = .ok (.getfield 19, 3) := by decide +kernel
theorem dX6_commonSigns_31 : decode cX6_commonSigns 31 = .ok (.iload_n 2, 1) := by decide +kernel
theorem dX6_commonSigns_32 : decode cX6_commonSigns 32 = .ok (.iadd, 1) := by decide +kernel
theorem dX6_commonSigns_33 : decode cX6_commonSigns 33 = .ok (.caload, 1) := by decide +kernel
theorem dX6_commonSigns_34 : decode cX6_commonSigns 34 = .ok (.aload_n 1, 1) := by decide +kernel
theorem dX6_commonSigns_35 : decode cX6_commonSigns 35 = .ok (.iload_n 2, 1) := by decide +kernel
theorem dX6_commonSigns_36 : decode cX6_commonSigns 36 = .ok (.invokevirtual 81, 3) := by decide +kernel
theorem dX6_commonSigns_39 : decode cX6_commonSigns 39 = .ok (.if_icmp .ne 9, 3) := by decide +kernel
theorem dX6_commonSigns_42 : decode cX6_commonSigns 42 = .ok (.iinc 2 1, 3) := by decide +kernel
theorem dX6_commonSigns_45 : decode cX6_commonSigns 45 = .ok (.goto (-43), 3) := by decide +kernel
theorem dX6_commonSigns_48 : decode cX6_commonSigns 48 = .ok (.iload_n 2, 1) := by decide +kernel
theorem dX6_commonSigns_49 : decode cX6_commonSigns 49 = .ok (.ireturn, 1) := by decide +kernel
theorem dX6_readSign_0 : decode cX6_readSign 0 = .ok (.aload_n 0, 1) := by decide +kernel
theorem dX6_readSign_1 : decode cX6_readSign 1 = .ok (.getfield 19, 3) := by decide +kernel
theorem dX6_readSign_4 : decode cX6_readSign 4 = .ok (.aload_n 0, 1) := by decide +kernel
theorem dX6_readSign_5 : decode cX6_readSign 5 = .ok (.getfield 15, 3) := by decide +kernel
theorem dX6_readSign_8 : decode cX6_readSign 8 = .ok (.if_icmp .ge 16, 3) := by decide +kernel
theorem dX6_readSign_11 : decode cX6_readSign 11 = .ok (.aload_n 0, 1) := by decide +kernel
theorem dX6_readSign_12 : decode cX6_readSign 12 = .ok (.getfield 9, 3) := by decide +kernel
theorem dX6_readSign_15 : decode cX6_readSign 15 = .ok (.aload_n 0, 1) := by decide +kernel
theorem dX6_readSign_16 : decode cX6_readSign 16 = .ok (.getfield 19, 3) := by decide +kernel
theorem dX6_readSign_19 : decode cX6_readSign 19 = .ok (.caload, 1) := by decide +kernel
theorem dX6_readSign_20 : decode cX6_readSign 20 = .ok (.iload_n 1, 1) := by decide +kernel
theorem dX6_readSign_21 : decode cX6_readSign 21 = .ok (.if_icmp .eq 5, 3) := by decide +kernel
theorem dX6_readSign_24 : decode cX6_readSign 24 = .ok (.iconst 0, 1) := by decide +kernel
theorem dX6_readSign_25 : decode cX6_readSign 25 = .ok (.ireturn, 1) := by decide +kernel
theorem dX6_readSign_26 : decode cX6_readSign 26 = .ok (.aload_n 0, 1) := by decide +kernel
theorem dX6_readSign_27 : decode cX6_readSign 27 = .ok (.dup, 1) := by decide +kernel
theorem dX6_readSign_28 : decode cX6_readSign 28 = .ok (.getfield 19, 3) := by decide +kernel
theorem dX6_readSign_31 : decode cX6_readSign 31 = .ok (.iconst 1, 1) := by decide +kernel
theorem dX6_readSign_32 : decode cX6_readSign 32 = .ok (.iadd, 1) := by decide +kernel
theorem dX6_readSign_33 : decode cX6_readSign 33 = .ok (.putfield 19, 3) := by decide +kernel
theorem dX6_readSign_36 : decode cX6_readSign 36 = .ok (.iconst 1, 1) := by decide +kernel
theorem dX6_readSign_37 : decode cX6_readSign 37 = .ok (.ireturn, 1) := by decide +kernel
set_option maxRecDepth 20000 in
theorem ggX6_readDigits_X6_addDigit : GoodIn wsX6_readDigits wsX6_addDigit := goodIn_ca (goodIn_r _ [6, 7, 8, 9, 1, 10, 11, 12, 13, 14, 15, 16, 17] (by decide +kernel) (by decide +kernel)) (goodIn_sub (fun _ h => List.mem_cons_of_mem _ (List.mem_append_right _ h)) (by decide +kernel))
set_option maxRecDepth 20000 in
theorem gX6_readDigits_X6_addDigit : GoodIn wsX6_readDigits (wsV RX6 85 RX6 yX6_addDigit wsX6_addDigit) := goodIn_app (goodIn_of _ (by decide +kernel)) ggX6_readDigits_X6_addDigit
theorem dX6_readDigits_0 : decode cX6_readDigits 0 = .ok (.aload_n 0, 1) := by decide +kernel
theorem dX6_readDigits_1 : decode cX6_readDigits 1 = .ok (.iconst 0, 1) := by decide +kernel
theorem dX6_readDigits_2 : decode cX6_readDigits 2 = .ok (.putfield 38, 3) := by decide +kernel
theorem dX6_readDigits_5 : decode cX6_readDigits 5 = .ok (.iconst 0, 1) := by decide +kernel
theorem dX6_readDigits_6 : decode cX6_readDigits 6 = .ok (.istore_n 2, 1) := by decide +kernel
theorem dX6_readDigits_7 : decode cX6_readDigits 7 = .ok (.iload_n 2, 1) := by decide +kernel
theorem dX6_readDigits_8 : decode cX6_readDigits 8 = .ok (.iload_n 1, 1) := by decide +kernel
theorem dX6_readDigits_9 : decode cX6_readDigits 9 = .ok (.if_icmp .ge 16, 3) := by decide +kernel
theorem dX6_readDigits_12 : decode cX6_readDigits 12 = .ok (.aload_n 0, 1) := by decide +kernel
theorem dX6_readDigits_13 : decode cX6_readDigits 13 = .ok (.invokevirtual 85, 3) := by decide +kernel
theorem dX6_readDigits_16 : decode cX6_readDigits 16 = .ok (.ifCond .eq 9, 3) := by decide +kernel
theorem dX6_readDigits_19 : decode cX6_readDigits 19 = .ok (.iinc 2 1, 3) := by decide +kernel
theorem dX6_readDigits_22 : decode cX6_readDigits 22 = .ok (.goto (-15), 3) := by decide +kernel
theorem dX6_readDigits_25 : decode cX6_readDigits 25 = .ok (.iload_n 2, 1) := by decide +kernel
theorem dX6_readDigits_26 : decode cX6_readDigits 26 = .ok (.ifCond .le 7, 3) := by decide +kernel
theorem dX6_readDigits_29 : decode cX6_readDigits 29 = .ok (.iconst 1, 1) := by decide +kernel
theorem dX6_readDigits_30 : decode cX6_readDigits 30 = .ok (.goto 4, 3) := by decide +kernel
theorem dX6_readDigits_33 : decode cX6_readDigits 33 = .ok (.iconst 0, 1) := by decide +kernel
theorem dX6_readDigits_34 : decode cX6_readDigits 34 = .ok (.ireturn, 1) := by decide +kernel
theorem dX6_addDigit_0 : decode cX6_addDigit 0 = .ok (.aload_n 0, 1) := by decide +kernel
theorem dX6_addDigit_1 : decode cX6_addDigit 1 = .ok (.getfield 19, 3) := by decide +kernel
theorem dX6_addDigit_4 : decode cX6_addDigit 4 = .ok (.aload_n 0, 1) := by decide +kernel
theorem dX6_addDigit_5 : decode cX6_addDigit 5 = .ok (.getfield 15, 3) := by decide +kernel
theorem dX6_addDigit_8 : decode cX6_addDigit 8 = .ok (.if_icmp .ge 31, 3) := by decide +kernel
theorem dX6_addDigit_11 : decode cX6_addDigit 11 = .ok (.aload_n 0, 1) := by decide +kernel
theorem dX6_addDigit_12 : decode cX6_addDigit 12 = .ok (.getfield 9, 3) := by decide +kernel
theorem dX6_addDigit_15 : decode cX6_addDigit 15 = .ok (.aload_n 0, 1) := by decide +kernel
theorem dX6_addDigit_16 : decode cX6_addDigit 16 = .ok (.getfield 19, 3) := by decide +kernel
theorem dX6_addDigit_19 : decode cX6_addDigit 19 = .ok (.caload, 1) := by decide +kernel
theorem dX6_addDigit_20 : decode cX6_addDigit 20 = .ok (.bipush 48, 2) := by decide +kernel
theorem dX6_addDigit_22 : decode cX6_addDigit 22 = .ok (.if_icmp .lt 17, 3) := by decide +kernel
theorem dX6_addDigit_25 : decode cX6_addDigit 25 = .ok (.aload_n 0, 1) := by decide +kernel
theorem dX6_addDigit_26 : decode cX6_addDigit 26 = .ok (.getfield 9, 3) := by decide +kernel
theorem dX6_addDigit_29 : decode cX6_addDigit 29 = .ok (.aload_n 0, 1) := by decide +kernel
theorem dX6_addDigit_30 : decode cX6_addDigit 30 = .ok (.getfield 19, 3) := by decide +kernel
theorem dX6_addDigit_33 : decode cX6_addDigit 33 = .ok (.caload, 1) := by decide +kernel
theorem dX6_addDigit_34 : decode cX6_addDigit 34 = .ok (.bipush 57, 2) := by decide +kernel
theorem dX6_addDigit_36 : decode cX6_addDigit 36 = .ok (.if_icmp .le 5, 3) := by decide +kernel
theorem dX6_addDigit_39 : decode cX6_addDigit 39 = .ok (.iconst 0, 1) := by decide +kernel
theorem dX6_addDigit_40 : decode cX6_addDigit 40 = .ok (.ireturn, 1) := by decide +kernel
theorem dX6_addDigit_41 : decode cX6_addDigit 41 = .ok (.aload_n 0, 1) := by decide +kernel
theorem dX6_addDigit_42 : decode cX6_addDigit 42 = .ok (.aload_n 0, 1) := by decide +kernel
theorem dX6_addDigit_43 : decode cX6_addDigit 43 = .ok (.getfield 38, 3) := by decide +kernel
theorem dX6_addDigit_46 : decode cX6_addDigit 46 = .ok (.bipush 10, 2) := by decide +kernel
theorem dX6_addDigit_48 : decode cX6_addDigit 48 = .ok (.imul, 1) := by decide +kernel
theorem dX6_addDigit_49 : decode cX6_addDigit 49 = .ok (.aload_n 0, 1) := by decide +kernel
theorem dX6_addDigit_50 : decode cX6_addDigit 50 = .ok (.getfield 9, 3) := by decide +kernel
theorem dX6_addDigit_53 : decode cX6_addDigit 53 = .ok (.aload_n 0, 1) := by decide +kernel
theorem dX6_addDigit_54 : decode cX6_addDigit 54 = .ok (.getfield 19, 3) := by decide +kernel
theorem dX6_addDigit_57 : decode cX6_addDigit 57 = .ok (.caload, 1) := by decide +kernel
theorem dX6_addDigit_58 : decode cX6_addDigit 58 = .ok (.bipush 48, 2) := by decide +kernel
theorem dX6_addDigit_60 : decode cX6_addDigit 60 = .ok (.isub, 1) := by decide +kernel
theorem dX6_addDigit_61 : decode cX6_addDigit 61 = .ok (.iadd, 1) := by decide +kernel
theorem dX6_addDigit_62 : decode cX6_addDigit 62 = .ok (.putfield 38, 3) := by decide +kernel
theorem dX6_addDigit_65 : decode cX6_addDigit 65 = .ok (.aload_n 0, 1) := by decide +kernel
theorem dX6_addDigit_66 : decode cX6_addDigit 66 = .ok (.dup, 1) := by decide +kernel
theorem dX6_addDigit_67 : decode cX6_addDigit 67 = .ok (.getfield 19, 3) := by decide +kernel
theorem dX6_addDigit_70 : decode cX6_addDigit 70 = .ok (.iconst 1, 1) := by decide +kernel
theorem dX6_addDigit_71 : decode cX6_addDigit 71 = .ok (.iadd, 1) := by decide +kernel
theorem dX6_addDigit_72 : decode cX6_addDigit 72 = .ok (.putfield 19, 3) := by decide +kernel
theorem dX6_addDigit_75 : decode cX6_addDigit 75 = .ok (.iconst 1, 1) := by decide +kernel
theorem dX6_addDigit_76 : decode cX6_addDigit 76 = .ok (.ireturn, 1) := by decide +kernel
theorem dX7_init_0 : decode cX7_init 0 = .ok (.aload_n 0, 1) := by decide +kernel
theorem dX7_init_1 : decode cX7_init 1 = .ok (.invokespecial 3, 3) := by decide +kernel
theorem dX7_init_4 : decode cX7_init 4 = .ok (.aload_n 0, 1) := by decide +kernel
theorem dX7_init_5 : decode cX7_init 5 = .ok (.bipush 10, 2) := by decide +kernel
theorem dX7_init_7 : decode cX7_init 7 = .ok (.newarray .int, 2) := by decide +kernel
theorem dX7_init_9 : decode cX7_init 9 = .ok (.putfield 9, 3) := by decide +kernel
theorem dX7_init_12 : decode cX7_init 12 = .ok (.aload_n 0, 1) := by decide +kernel
theorem dX7_init_13 : decode cX7_init 13 = .ok (.bipush 10, 2) := by decide +kernel
theorem dX7_init_15 : decode cX7_init 15 = .ok (.newarray .long, 2) := by decide +kernel
theorem dX7_init_17 : decode cX7_init 17 = .ok (.putfield 15, 3) := by decide +kernel
theorem dX7_init_20 : decode cX7_init 20 = .ok (.aload_n 0, 1) := by decide +kernel
theorem dX7_init_21 : decode cX7_init 21 = .ok (.bipush 10, 2) := by decide +kernel
theorem dX7_init_23 : decode cX7_init 23 = .ok (.newarray .boolean, 2) := by decide +kernel
theorem dX7_init_25 : decode cX7_init 25 = .ok (.putfield 19, 3) := by decide +kernel
theorem dX7_init_28 : decode cX7_init 28 = .ok (.aload_n 0, 1) := by decide +kernel
theorem dX7_init_29 : decode cX7_init 29 = .ok (.bipush 10, 2) := by decide +kernel
theorem dX7_init_31 : decode cX7_init 31 = .ok (.newarray .long, 2) := by decide +kernel
theorem dX7_init_33 : decode cX7_init 33 = .ok (.putfield 23, 3) := by decide +kernel
theorem dX7_init_36 : decode cX7_init 36 = .ok (.aload_n 0, 1) := by decide +kernel
theorem dX7_init_37 : decode cX7_init 37 = .ok (.bipush 10, 2) := by decide +kernel
theorem dX7_init_39 : decode cX7_init 39 = .ok (.newarray .boolean, 2) := by decide +kernel
theorem dX7_init_41 : decode cX7_init 41 = .ok (.putfield 26, 3) := by decide +kernel
theorem dX7_init_44 : decode cX7_init 44 = .ok (.aload_n 0, 1) := by decide +kernel
theorem dX7_init_45 : decode cX7_init 45 = .ok (.bipush 10, 2) := by decide +kernel
theorem dX7_init_47 : decode cX7_init 47 = .ok (.newarray .int, 2) := by decide +kernel
theorem dX7_init_49 : decode cX7_init 49 = .ok (.putfield 29, 3) := by decide +kernel
theorem dX7_init_52 : decode cX7_init 52 = .ok (.aload_n 0, 1) := by decide +kernel
theorem dX7_init_53 : decode cX7_init 53 = .ok (.bipush 10, 2) := by decide +kernel
theorem dX7_init_55 : decode cX7_init 55 = .ok (.newarray .int, 2) := by decide +kernel
theorem dX7_init_57 : decode cX7_init 57 = .ok (.putfield 32, 3) := by decide +kernel
theorem dX7_init_60 : decode cX7_init 60 = .ok (.aload_n 0, 1) := by decide +kernel
theorem dX7_init_61 : decode cX7_init 61 = .ok (.bipush 10, 2) := by decide +kernel
theorem dX7_init_63 : decode cX7_init 63 = .ok (.newarray .boolean, 2) := by decide +kernel
theorem dX7_init_65 : decode cX7_init 65 = .ok (.putfield 35, 3) := by decide +kernel
theorem dX7_init_68 : decode cX7_init 68 = .ok (.aload_n 0, 1) := by decide +kernel
theorem dX7_init_69 : decode cX7_init 69 = .ok (.bipush 100, 2) := by decide +kernel
theorem dX7_init_71 : decode cX7_init 71 = .ok (.newarray .char, 2) := by decide +kernel
theorem dX7_init_73 : decode cX7_init 73 = .ok (.putfield 38, 3) := by decide +kernel
theorem dX7_init_76 : decode cX7_init 76 = .ok (.aload_n 0, 1) := by decide +kernel
theorem dX7_init_77 : decode cX7_init 77 = .ok (.bipush 6, 2) := by decide +kernel
theorem dX7_init_79 : decode cX7_init 79 = .ok (.newarray .int, 2) := by decide +kernel
theorem dX7_init_81 : decode cX7_init 81 = .ok (.putfield 42, 3) := by decide +kernel
theorem dX7_init_84 : decode cX7_init 84 = .ok (.aload_n 0, 1) := by decide +kernel
theorem dX7_init_85 : decode cX7_init 85 = .ok (.iconst 0, 1) := by decide +kernel
theorem dX7_init_86 : decode cX7_init 86 = .ok (.putfield 45, 3) := by decide +kernel
theorem dX7_init_89 : decode cX7_init 89 = .ok (.aload_n 0, 1) := by decide +kernel
theorem dX7_init_90 : decode cX7_init 90 = .ok (.iconst 0, 1) := by decide +kernel
theorem dX7_init_91 : decode cX7_init 91 = .ok (.putfield 49, 3) := by decide +kernel
theorem dX7_init_94 : decode cX7_init 94 = .ok (.aload_n 0, 1) := by decide +kernel
theorem dX7_init_95 : decode cX7_init 95 = .ok (.iconst 0, 1) := by decide +kernel
theorem dX7_init_96 : decode cX7_init 96 = .ok (.putfield 52, 3) := by decide +kernel
theorem dX7_init_99 : decode cX7_init 99 = .ok (.aload_n 0, 1) := by decide +kernel
theorem dX7_init_100 : decode cX7_init 100 = .ok (.bipush 12, 2) := by decide +kernel
theorem dX7_init_102 : decode cX7_init 102 = .ok (.putfield 55, 3) := by decide +kernel
theorem dX7_init_105 : decode cX7_init 105 = .ok (.aload_n 0, 1) := by decide +kernel
theorem dX7_init_106 : decode cX7_init 106 = .ok (.iconst 0, 1) := by decide +kernel
theorem dX7_init_107 : decode cX7_init 107 = .ok (.putfield 58, 3) := by decide +kernel
theorem dX7_init_110 : decode cX7_init 110 = .ok (.aload_n 0, 1) := by decide +kernel
theorem dX7_init_111 : decode cX7_init 111 = .ok (.iconst 0, 1) := by decide +kernel
theorem dX7_init_112 : decode cX7_init 112 = .ok (.putfield 61, 3) := by decide +kernel
theorem dX7_init_115 : decode cX7_init 115 = .ok (.aload_n 0, 1) := by decide +kernel
theorem dX7_init_116 : decode cX7_init 116 = .ok (.iconst 0, 1) := by decide +kernel
theorem dX7_init_117 : decode cX7_init 117 = .ok (.putfield 64, 3) := by decide +kernel
theorem dX7_init_120 : decode cX7_init 120 = .ok (.return_, 1) := by decide +kernel
theorem dX7_copyFrom_0 : decode cX7_copyFrom 0 = .ok (.iconst 0, 1) := by decide +kernel
theorem dX7_copyFrom_1 : decode cX7_copyFrom 1 = .ok (.istore_n 2, 1) := by decide +kernel
theorem dX7_copyFrom_2 : decode cX7_copyFrom 2 = .ok (.iload_n 2, 1) := by decide +kernel
theorem dX7_copyFrom_3 : decode cX7_copyFrom 3 = .ok (.bipush 10, 2) := by decide +kernel
theorem dX7_copyFrom_5 : decode cX7_copyFrom 5 = .ok (.if_icmp .ge 105, 3) := by decide +kernel
theorem dX7_copyFrom_8 : decode cX7_copyFrom 8 = .ok (.aload_n 0, 1) := by decide +kernel
theorem dX7_copyFrom_9 : decode cX7_copyFrom 9 = .ok (.getfield 9, 3) := by decide +kernel
theorem dX7_copyFrom_12 : decode cX7_copyFrom 12 = .ok (.iload_n 2, 1) := by decide +kernel
theorem dX7_copyFrom_13 : decode cX7_copyFrom 13 = .ok (.aload_n 1, 1) := by decide +kernel
theorem dX7_copyFrom_14 : decode cX7_copyFrom 14 = .ok (.getfield 9, 3) := by decide +kernel
theorem dX7_copyFrom_17 : decode cX7_copyFrom 17 = .ok (.iload_n 2, 1) := by decide +kernel
theorem dX7_copyFrom_18 : decode cX7_copyFrom 18 = .ok (.iaload, 1) := by decide +kernel
theorem dX7_copyFrom_19 : decode cX7_copyFrom 19 = .ok (.iastore, 1) := by decide +kernel
theorem dX7_copyFrom_20 : decode cX7_copyFrom 20 = .ok (.aload_n 0, 1) := by decide +kernel
theorem dX7_copyFrom_21 : decode cX7_copyFrom 21 = .ok (.getfield 15, 3) := by decide +kernel
theorem dX7_copyFrom_24 : decode cX7_copyFrom 24 = .ok (.iload_n 2, 1) := by decide +kernel
theorem dX7_copyFrom_25 : decode cX7_copyFrom 25 = .ok (.aload_n 1, 1) := by decide +kernel
theorem dX7_copyFrom_26 : decode cX7_copyFrom 26 = .ok (.getfield 15, 3) := by decide +kernel
theorem dX7_copyFrom_29 : decode cX7_copyFrom 29 = .ok (.iload_n 2, 1) := by decide +kernel
theorem dX7_copyFrom_30 : decode cX7_copyFrom 30 = .ok (.laload, 1) := by decide +kernel
theorem dX7_copyFrom_31 : decode cX7_copyFrom 31 = .ok (.lastore, 1) := by decide +kernel
theorem dX7_copyFrom_32 : decode cX7_copyFrom 32 = .ok (.aload_n 0, 1) := by decide +kernel
theorem dX7_copyFrom_33 : decode cX7_copyFrom 33 = .ok (.getfield 19, 3) := by decide +kernel
theorem dX7_copyFrom_36 : decode cX7_copyFrom 36 = .ok (.iload_n 2, 1) := by decide +kernel
theorem dX7_copyFrom_37 : decode cX7_copyFrom 37 = .ok (.aload_n 1, 1) := by decide +kernel
theorem dX7_copyFrom_38 : decode cX7_copyFrom 38 = .ok (.getfield 19, 3) := by decide +kernel
theorem dX7_copyFrom_41 : decode cX7_copyFrom 41 = .ok (.iload_n 2, 1) := by decide +kernel
theorem dX7_copyFrom_42 : decode cX7_copyFrom 42 = .ok (.baload, 1) := by decide +kernel
theorem dX7_copyFrom_43 : decode cX7_copyFrom 43 = .ok (.bastore, 1) := by decide +kernel
theorem dX7_copyFrom_44 : decode cX7_copyFrom 44 = .ok (.aload_n 0, 1) := by decide +kernel
theorem dX7_copyFrom_45 : decode cX7_copyFrom 45 = .ok (.getfield 23, 3) := by decide +kernel
theorem dX7_copyFrom_48 : decode cX7_copyFrom 48 = .ok (.iload_n 2, 1) := by decide +kernel
theorem dX7_copyFrom_49 : decode cX7_copyFrom 49 = .ok (.aload_n 1, 1) := by decide +kernel
theorem dX7_copyFrom_50 : decode cX7_copyFrom 50 = .ok (.getfield 23, 3) := by decide +kernel
theorem dX7_copyFrom_53 : decode cX7_copyFrom 53 = .ok (.iload_n 2, 1) := by decide +kernel
theorem dX7_copyFrom_54 : decode cX7_copyFrom 54 = .ok (.laload, 1) := by decide +kernel
theorem dX7_copyFrom_55 : decode cX7_copyFrom 55 = .ok (.lastore, 1) := by decide +kernel
theorem dX7_copyFrom_56 : decode cX7_copyFrom 56 = .ok (.aload_n 0, 1) := by decide +kernel
theorem dX7_copyFrom_57 : decode cX7_copyFrom 57 = .ok (.getfield 26, 3) := by decide +kernel
theorem dX7_copyFrom_60 : decode cX7_copyFrom 60 = .ok (.iload_n 2, 1) := by decide +kernel
theorem dX7_copyFrom_61 : decode cX7_copyFrom 61 = .ok (.aload_n 1, 1) := by decide +kernel
theorem dX7_copyFrom_62 : decode cX7_copyFrom 62 = .ok (.getfield 26, 3) := by decide +kernel
theorem dX7_copyFrom_65 : decode cX7_copyFrom 65 = .ok (.iload_n 2, 1) := by decide +kernel
theorem dX7_copyFrom_66 : decode cX7_copyFrom 66 = .ok (.baload, 1) := by decide +kernel
theorem dX7_copyFrom_67 : decode cX7_copyFrom 67 = .ok (.bastore, 1) := by decide +kernel
theorem dX7_copyFrom_68 : decode cX7_copyFrom 68 = .ok (.aload_n 0, 1) := by decide +kernel
theorem dX7_copyFrom_69 : decode cX7_copyFrom 69 = .ok (.getfield 29, 3) := by decide +kernel
theorem dX7_copyFrom_72 : decode cX7_copyFrom 72 = .ok (.iload_n 2, 1) := by decide +kernel
theorem dX7_copyFrom_73 : decode cX7_copyFrom 73 = .ok (.aload_n 1, 1) := by decide +kernel
theorem dX7_copyFrom_74 : decode cX7_copyFrom 74 = .ok (.getfield 29, 3) := by decide +kernel
theorem dX7_copyFrom_77 : decode cX7_copyFrom 77 = .ok (.iload_n 2, 1) := by decide +kernel
theorem dX7_copyFrom_78 : decode cX7_copyFrom 78 = .ok (.iaload, 1) := by decide +kernel
theorem dX7_copyFrom_79 : decode cX7_copyFrom 79 = .ok (.iastore, 1) := by decide +kernel
theorem dX7_copyFrom_80 : decode cX7_copyFrom 80 = .ok (.aload_n 0, 1) := by decide +kernel
theorem dX7_copyFrom_81 : decode cX7_copyFrom 81 = .ok (.getfield 32, 3) := by decide +kernel
theorem dX7_copyFrom_84 : decode cX7_copyFrom 84 = .ok (.iload_n 2, 1) := by decide +kernel
theorem dX7_copyFrom_85 : decode cX7_copyFrom 85 = .ok (.aload_n 1, 1) := by decide +kernel
theorem dX7_copyFrom_86 : decode cX7_copyFrom 86 = .ok (.getfield 32, 3) := by decide +kernel
theorem dX7_copyFrom_89 : decode cX7_copyFrom 89 = .ok (.iload_n 2, 1) := by decide +kernel
theorem dX7_copyFrom_90 : decode cX7_copyFrom 90 = .ok (.iaload, 1) := by decide +kernel
theorem dX7_copyFrom_91 : decode cX7_copyFrom 91 = .ok (.iastore, 1) := by decide +kernel
theorem dX7_copyFrom_92 : decode cX7_copyFrom 92 = .ok (.aload_n 0, 1) := by decide +kernel
theorem dX7_copyFrom_93 : decode cX7_copyFrom 93 = .ok (.getfield 35, 3) := by decide +kernel
theorem dX7_copyFrom_96 : decode cX7_copyFrom 96 = .ok (.iload_n 2, 1) := by decide +kernel
theorem dX7_copyFrom_97 : decode cX7_copyFrom 97 = .ok (.aload_n 1, 1) := by decide +kernel
theorem dX7_copyFrom_98 : decode cX7_copyFrom 98 = .ok (.getfield 35, 3) := by decide +kernel
theorem dX7_copyFrom_101 : decode cX7_copyFrom 101 = .ok (.iload_n 2, 1) := by decide +kernel
theorem dX7_copyFrom_102 : decode cX7_copyFrom 102 = .ok (.baload, 1) := by decide +kernel
theorem dX7_copyFrom_103 : decode cX7_copyFrom 103 = .ok (.bastore, 1) := by decide +kernel
theorem dX7_copyFrom_104 : decode cX7_copyFrom 104 = .ok (.iinc 2 1, 3) := by decide +kernel
theorem dX7_copyFrom_107 : decode cX7_copyFrom 107 = .ok (.goto (-105), 3) := by decide +kernel
theorem dX7_copyFrom_110 : decode cX7_copyFrom 110 = .ok (.iconst 0, 1) := by decide +kernel
theorem dX7_copyFrom_111 : decode cX7_copyFrom 111 = .ok (.istore_n 2, 1) := by decide +kernel
theorem dX7_copyFrom_112 : decode cX7_copyFrom 112 = .ok (.iload_n 2, 1) := by decide +kernel
theorem dX7_copyFrom_113 : decode cX7_copyFrom 113 = .ok (.bipush 100, 2) := by decide +kernel
theorem dX7_copyFrom_115 : decode cX7_copyFrom 115 = .ok (.if_icmp .ge 21, 3) := by decide +kernel
theorem dX7_copyFrom_118 : decode cX7_copyFrom 118 = .ok (.aload_n 0, 1) := by decide +kernel
theorem dX7_copyFrom_119 : decode cX7_copyFrom 119 = .ok (.getfield 38, 3) := by decide +kernel
theorem dX7_copyFrom_122 : decode cX7_copyFrom 122 = .ok (.iload_n 2, 1) := by decide +kernel
theorem dX7_copyFrom_123 : decode cX7_copyFrom 123 = .ok (.aload_n 1, 1) := by decide +kernel
theorem dX7_copyFrom_124 : decode cX7_copyFrom 124 = .ok (.getfield 38, 3) := by decide +kernel
theorem dX7_copyFrom_127 : decode cX7_copyFrom 127 = .ok (.iload_n 2, 1) := by decide +kernel
theorem dX7_copyFrom_128 : decode cX7_copyFrom 128 = .ok (.caload, 1) := by decide +kernel
theorem dX7_copyFrom_129 : decode cX7_copyFrom 129 = .ok (.castore, 1) := by decide +kernel
theorem dX7_copyFrom_130 : decode cX7_copyFrom 130 = .ok (.iinc 2 1, 3) := by decide +kernel
theorem dX7_copyFrom_133 : decode cX7_copyFrom 133 = .ok (.goto (-21), 3) := by decide +kernel
theorem dX7_copyFrom_136 : decode cX7_copyFrom 136 = .ok (.iconst 0, 1) := by decide +kernel
theorem dX7_copyFrom_137 : decode cX7_copyFrom 137 = .ok (.istore_n 2, 1) := by decide +kernel
theorem dX7_copyFrom_138 : decode cX7_copyFrom 138 = .ok (.iload_n 2, 1) := by decide +kernel
theorem dX7_copyFrom_139 : decode cX7_copyFrom 139 = .ok (.bipush 6, 2) := by decide +kernel
theorem dX7_copyFrom_141 : decode cX7_copyFrom 141 = .ok (.if_icmp .ge 21, 3) := by decide +kernel
theorem dX7_copyFrom_144 : decode cX7_copyFrom 144 = .ok (.aload_n 0, 1) := by decide +kernel
theorem dX7_copyFrom_145 : decode cX7_copyFrom 145 = .ok (.getfield 42, 3) := by decide +kernel
theorem dX7_copyFrom_148 : decode cX7_copyFrom 148 = .ok (.iload_n 2, 1) := by decide +kernel
theorem dX7_copyFrom_149 : decode cX7_copyFrom 149 = .ok (.aload_n 1, 1) := by decide +kernel
theorem dX7_copyFrom_150 : decode cX7_copyFrom 150 = .ok (.getfield 42, 3) := by decide +kernel
theorem dX7_copyFrom_153 : decode cX7_copyFrom 153 = .ok (.iload_n 2, 1) := by decide +kernel
theorem dX7_copyFrom_154 : decode cX7_copyFrom 154 = .ok (.iaload, 1) := by decide +kernel
theorem dX7_copyFrom_155 : decode cX7_copyFrom 155 = .ok (.iastore, 1) := by decide +kernel
theorem dX7_copyFrom_156 : decode cX7_copyFrom 156 = .ok (.iinc 2 1, 3) := by decide +kernel
theorem dX7_copyFrom_159 : decode cX7_copyFrom 159 = .ok (.goto (-21), 3) := by decide +kernel
theorem dX7_copyFrom_162 : decode cX7_copyFrom 162 = .ok (.aload_n 0, 1) := by decide +kernel
theorem dX7_copyFrom_163 : decode cX7_copyFrom 163 = .ok (.aload_n 1, 1) := by decide +kernel
theorem dX7_copyFrom_164 : decode cX7_copyFrom 164 = .ok (.getfield 45, 3) := by decide +kernel
theorem dX7_copyFrom_167 : decode cX7_copyFrom 167 = .ok (.putfield 45, 3) := by decide +kernel
theorem dX7_copyFrom_170 : decode cX7_copyFrom 170 = .ok (.aload_n 0, 1) := by decide +kernel
theorem dX7_copyFrom_171 : decode cX7_copyFrom 171 = .ok (.aload_n 1, 1) := by decide +kernel
theorem dX7_copyFrom_172 : decode cX7_copyFrom 172 = .ok (.getfield 49, 3) := by decide +kernel
theorem dX7_copyFrom_175 : decode cX7_copyFrom 175 = .ok (.putfield 49, 3) := by decide +kernel
theorem dX7_copyFrom_178 : decode cX7_copyFrom 178 = .ok (.aload_n 0, 1) := by decide +kernel
theorem dX7_copyFrom_179 : decode cX7_copyFrom 179 = .ok (.aload_n 1, 1) := by decide +kernel
theorem dX7_copyFrom_180 : decode cX7_copyFrom 180 = .ok (.getfield 52, 3) := by decide +kernel
theorem dX7_copyFrom_183 : decode cX7_copyFrom 183 = .ok (.putfield 52, 3) := by decide +kernel
theorem dX7_copyFrom_186 : decode cX7_copyFrom 186 = .ok (.aload_n 0, 1) := by decide +kernel
theorem dX7_copyFrom_187 : decode cX7_copyFrom 187 = .ok (.aload_n 1, 1) := by decide +kernel
theorem dX7_copyFrom_188 : decode cX7_copyFrom 188 = .ok (.getfield 55, 3) := by decide +kernel
theorem dX7_copyFrom_191 : decode cX7_copyFrom 191 = .ok (.putfield 55, 3) := by decide +kernel
theorem dX7_copyFrom_194 : decode cX7_copyFrom 194 = .ok (.aload_n 0, 1) := by decide +kernel
theorem dX7_copyFrom_195 : decode cX7_copyFrom 195 = .ok (.aload_n 1, 1) := by decide +kernel
theorem dX7_copyFrom_196 : decode cX7_copyFrom 196 = .ok (.getfield 58, 3) := by decide +kernel
theorem dX7_copyFrom_199 : decode cX7_copyFrom 199 = .ok (.putfield 58, 3) := by decide +kernel
theorem dX7_copyFrom_202 : decode cX7_copyFrom 202 = .ok (.aload_n 0, 1) := by decide +kernel
theorem dX7_copyFrom_203 : decode cX7_copyFrom 203 = .ok (.aload_n 1, 1) := by decide +kernel
theorem dX7_copyFrom_204 : decode cX7_copyFrom 204 = .ok (.getfield 61, 3) := by decide +kernel
theorem dX7_copyFrom_207 : decode cX7_copyFrom 207 = .ok (.putfield 61, 3) := by decide +kernel
theorem dX7_copyFrom_210 : decode cX7_copyFrom 210 = .ok (.aload_n 0, 1) := by decide +kernel
theorem dX7_copyFrom_211 : decode cX7_copyFrom 211 = .ok (.aload_n 1, 1) := by decide +kernel
theorem dX7_copyFrom_212 : decode cX7_copyFrom 212 = .ok (.getfield 64, 3) := by decide +kernel
theorem dX7_copyFrom_215 : decode cX7_copyFrom 215 = .ok (.putfield 64, 3) := by decide +kernel
theorem dX7_copyFrom_218 : decode cX7_copyFrom 218 = .ok (.return_, 1) := by decide +kernel
theorem dX7_isGear_0 : decode cX7_isGear 0 = .ok (.iload_n 1, 1) := by decide +kernel
theorem dX7_isGear_1 : decode cX7_isGear 1 = .ok (.ifCond .lt 15, 3) := by decide +kernel
theorem dX7_isGear_4 : decode cX7_isGear 4 = .ok (.iload_n 1, 1) := by decide +kernel
theorem dX7_isGear_5 : decode cX7_isGear 5 = .ok (.aload_n 0, 1) := by decide +kernel
theorem dX7_isGear_6 : decode cX7_isGear 6 = .ok (.getfield 45, 3) := by decide +kernel
theorem dX7_isGear_9 : decode cX7_isGear 9 = .ok (.if_icmp .ge 7, 3) := by decide +kernel
theorem dX7_isGear_12 : decode cX7_isGear 12 = .ok (.iconst 1, 1) := by decide +kernel
theorem dX7_isGear_13 : decode cX7_isGear 13 = .ok (.goto 4, 3) := by decide +kernel
theorem dX7_isGear_16 : decode cX7_isGear 16 = .ok (.iconst 0, 1) := by decide +kernel
theorem dX7_isGear_17 : decode cX7_isGear 17 = .ok (.ireturn, 1) := by decide +kernel
theorem dX7_isPlanet_0 : decode cX7_isPlanet 0 = .ok (.iload_n 1, 1) := by decide +kernel
theorem dX7_isPlanet_1 : decode cX7_isPlanet 1 = .ok (.ifCond .lt 15, 3) := by decide +kernel
theorem dX7_isPlanet_4 : decode cX7_isPlanet 4 = .ok (.iload_n 1, 1) := by decide +kernel
theorem dX7_isPlanet_5 : decode cX7_isPlanet 5 = .ok (.aload_n 0, 1) := by decide +kernel
theorem dX7_isPlanet_6 : decode cX7_isPlanet 6 = .ok (.getfield 52, 3) := by decide +kernel
theorem dX7_isPlanet_9 : decode cX7_isPlanet 9 = .ok (.if_icmp .ge 7, 3) := by decide +kernel
theorem dX7_isPlanet_12 : decode cX7_isPlanet 12 = .ok (.iconst 1, 1) := by decide +kernel
theorem dX7_isPlanet_13 : decode cX7_isPlanet 13 = .ok (.goto 4, 3) := by decide +kernel
theorem dX7_isPlanet_16 : decode cX7_isPlanet 16 = .ok (.iconst 0, 1) := by decide +kernel
theorem dX7_isPlanet_17 : decode cX7_isPlanet 17 = .ok (.ireturn, 1) := by decide +kernel
theorem dX7_hasSpring_0 : decode cX7_hasSpring 0 = .ok (.aload_n 0, 1) := by decide +kernel
theorem dX7_hasSpring_1 : decode cX7_hasSpring 1 = .ok (.getfield 29, 3) := by decide +kernel
theorem dX7_hasSpring_4 : decode cX7_hasSpring 4 = .ok (.iload_n 1, 1) := by decide +kernel
theorem dX7_hasSpring_5 : decode cX7_hasSpring 5 = .ok (.iaload, 1) := by decide +kernel
theorem dX7_hasSpring_6 : decode cX7_hasSpring 6 = .ok (.ifCond .le 7, 3) := by decide +kernel
theorem dX7_hasSpring_9 : decode cX7_hasSpring 9 = .ok (.iconst 1, 1) := by decide +kernel
theorem dX7_hasSpring_10 : decode cX7_hasSpring 10 = .ok (.goto 4, 3) := by decide +kernel
theorem dX7_hasSpring_13 : decode cX7_hasSpring 13 = .ok (.iconst 0, 1) := by decide +kernel
theorem dX7_hasSpring_14 : decode cX7_hasSpring 14 = .ok (.ireturn, 1) := by decide +kernel
theorem dX7_jointOf_0 : decode cX7_jointOf 0 = .ok (.aload_n 0, 1) := by decide +kernel
theorem dX7_jointOf_1 : decode cX7_jointOf 1 = .ok (.getfield 38, 3) := by decide +kernel
theorem dX7_jointOf_4 : decode cX7_jointOf 4 = .ok (.iload_n 1, 1) := by decide +kernel
theorem dX7_jointOf_5 : decode cX7_jointOf 5 = .ok (.bipush 10, 2) := by decide +kernel
theorem dX7_jointOf_7 : decode cX7_jointOf 7 = .ok (.imul, 1) := by decide +kernel
theorem dX7_jointOf_8 : decode cX7_jointOf 8 = .ok (.iload_n 2, 1) := by decide +kernel
theorem dX7_jointOf_9 : decode cX7_jointOf 9 = .ok (.iadd, 1) := by decide +kernel
theorem dX7_jointOf_10 : decode cX7_jointOf 10 = .ok (.caload, 1) := by decide +kernel
theorem dX7_jointOf_11 : decode cX7_jointOf 11 = .ok (.ireturn, 1) := by decide +kernel
theorem dX7_putJoint_0 : decode cX7_putJoint 0 = .ok (.aload_n 0, 1) := by decide +kernel
theorem dX7_putJoint_1 : decode cX7_putJoint 1 = .ok (.getfield 38, 3) := by decide +kernel
theorem dX7_putJoint_4 : decode cX7_putJoint 4 = .ok (.iload_n 1, 1) := by decide +kernel
theorem dX7_putJoint_5 : decode cX7_putJoint 5 = .ok (.bipush 10, 2) := by decide +kernel
theorem dX7_putJoint_7 : decode cX7_putJoint 7 = .ok (.imul, 1) := by decide +kernel
theorem dX7_putJoint_8 : decode cX7_putJoint 8 = .ok (.iload_n 2, 1) := by decide +kernel
theorem dX7_putJoint_9 : decode cX7_putJoint 9 = .ok (.iadd, 1) := by decide +kernel
theorem dX7_putJoint_10 : decode cX7_putJoint 10 = .ok (.iload_n 3, 1) := by decide +kernel
theorem dX7_putJoint_11 : decode cX7_putJoint 11 = .ok (.castore, 1) := by decide +kernel
theorem dX7_putJoint_12 : decode cX7_putJoint 12 = .ok (.aload_n 0, 1) := by decide +kernel
theorem dX7_putJoint_13 : decode cX7_putJoint 13 = .ok (.getfield 38, 3) := by decide +kernel
theorem dX7_putJoint_16 : decode cX7_putJoint 16 = .ok (.iload_n 2, 1) := by decide +kernel
theorem dX7_putJoint_17 : decode cX7_putJoint 17 = .ok (.bipush 10, 2) := by decide +kernel
theorem dX7_putJoint_19 : decode cX7_putJoint 19 = .ok (.imul, 1) := by decide +kernel
theorem dX7_putJoint_20 : decode cX7_putJoint 20 = .ok (.iload_n 1, 1) := by decide +kernel
theorem dX7_putJoint_21 : decode cX7_putJoint 21 = .ok (.iadd, 1) := by decide +kernel
theorem dX7_putJoint_22 : decode cX7_putJoint 22 = .ok (.iload_n 3, 1) := by decide +kernel
theorem dX7_putJoint_23 : decode cX7_putJoint 23 = .ok (.castore, 1) := by decide +kernel
theorem dX7_putJoint_24 : decode cX7_putJoint 24 = .ok (.return_, 1) := by decide +kernel
set_option maxRecDepth 20000 in
theorem ggX7_unitsBehind_X4_quotient : GoodIn wsX7_unitsBehind wsX4_quotient := goodIn_r _ [5, 6, 7, 8, 9] (by decide +kernel) (by decide +kernel)
set_option maxRecDepth 20000 in
theorem gX7_unitsBehind_X4_quotient : GoodIn wsX7_unitsBehind (va_wsS RX7 67 yX4_quotient wsX4_quotient) := goodIn_app (goodIn_of _ (by decide +kernel)) ggX7_unitsBehind_X4_quotient
theorem dX7_unitsBehind_0 : decode cX7_unitsBehind 0 = .ok (.iload 5, 2) := by decide +kernel
theorem dX7_unitsBehind_2 : decode cX7_unitsBehind 2 = .ok (.bipush 97, 2) := by decide +kernel
theorem dX7_unitsBehind_4 : decode cX7_unitsBehind 4 = .ok (.if_icmp .ne 5, 3) := by decide +kernel
theorem dX7_unitsBehind_7 : decode cX7_unitsBehind 7 = .ok (.lload_n 1, 1) := by decide +kernel
theorem dX7_unitsBehind_8 : decode cX7_unitsBehind 8 = .ok (.lreturn, 1) := by decide +kernel
theorem dX7_unitsBehind_9 : decode cX7_unitsBehind 9 = .ok (.lload_n 1, 1) := by decide +kernel
theorem dX7_unitsBehind_10 : decode cX7_unitsBehind 10 = .ok (.aload_n 0, 1) := by decide +kernel
theorem dX7_unitsBehind_11 : decode cX7_unitsBehind 11 = .ok (.getfield 9, 3) := by decide +kernel
theorem dX7_unitsBehind_14 : decode cX7_unitsBehind 14 = .ok (.iload_n 3, 1) := by decide +kernel
theorem dX7_unitsBehind_15 : decode cX7_unitsBehind 15 = .ok (.iaload, 1) := by decide +kernel
theorem dX7_unitsBehind_16 : decode cX7_unitsBehind 16 = .ok (.i2l, 1) := by decide +kernel
theorem dX7_unitsBehind_17 : decode cX7_unitsBehind 17 = .ok (.lmul, 1) := by decide +kernel
theorem dX7_unitsBehind_18 : decode cX7_unitsBehind 18 = .ok (.aload_n 0, 1) := by decide +kernel
theorem dX7_unitsBehind_19 : decode cX7_unitsBehind 19 = .ok (.getfield 9, 3) := by decide +kernel
theorem dX7_unitsBehind_22 : decode cX7_unitsBehind 22 = .ok (.iload 4, 2) := by decide +kernel
theorem dX7_unitsBehind_24 : decode cX7_unitsBehind 24 = .ok (.iaload, 1) := by decide +kernel
theorem dX7_unitsBehind_25 : decode cX7_unitsBehind 25 = .ok (.i2l, 1) := by decide +kernel
theorem dX7_unitsBehind_26 : decode cX7_unitsBehind 26 = .ok (.invokestatic 67, 3) := by decide +kernel
theorem dX7_unitsBehind_29 : decode cX7_unitsBehind 29 = .ok (.lneg, 1) := by decide +kernel
theorem dX7_unitsBehind_30 : decode cX7_unitsBehind 30 = .ok (.lreturn, 1) := by decide +kernel
theorem dX7_carriesPlanet_0 : decode cX7_carriesPlanet 0 = .ok (.iconst 0, 1) := by decide +kernel
theorem dX7_carriesPlanet_1 : decode cX7_carriesPlanet 1 = .ok (.istore_n 2, 1) := by decide +kernel
theorem dX7_carriesPlanet_2 : decode cX7_carriesPlanet 2 = .ok (.iload_n 2, 1) := by decide +kernel
theorem dX7_carriesPlanet_3 : decode cX7_carriesPlanet 3 = .ok (.aload_n 0, 1) := by decide +kernel
theorem dX7_carriesPlanet_4 : decode cX7_carriesPlanet 4 = .ok (.getfield 52, 3) := by decide +kernel
theorem dX7_carriesPlanet_7 : decode cX7_carriesPlanet 7 = .ok (.if_icmp .ge 21, 3) := by decide +kernel
theorem dX7_carriesPlanet_10 : decode cX7_carriesPlanet 10 = .ok (.aload_n 0, 1) := by decide +kernel
theorem dX7_carriesPlanet_11 : decode cX7_carriesPlanet 11 = .ok (.getfield 42, 3) := by decide +kernel
theorem dX7_carriesPlanet_14 : decode cX7_carriesPlanet 14 = .ok (.iload_n 2, 1) := by decide +kernel
theorem dX7_carriesPlanet_15 : decode cX7_carriesPlanet 15 = .ok (.iaload, 1) := by decide +kernel
theorem dX7_carriesPlanet_16 : decode cX7_carriesPlanet 16 = .ok (.iload_n 1, 1) := by decide +kernel
theorem dX7_carriesPlanet_17 : decode cX7_carriesPlanet 17 = .ok (.if_icmp .ne 5, 3) := by decide +kernel
theorem dX7_carriesPlanet_20 : decode cX7_carriesPlanet 20 = .ok (.iconst 1, 1) := by decide +kernel
theorem dX7_carriesPlanet_21 : decode cX7_carriesPlanet 21 = .ok (.ireturn, 1) := by decide +kernel
theorem dX7_carriesPlanet_22 : decode cX7_carriesPlanet 22 = .ok (.iinc 2 1, 3) := by decide +kernel
theorem dX7_carriesPlanet_25 : decode cX7_carriesPlanet 25 = .ok (.goto (-23), 3) := by decide +kernel
theorem dX7_carriesPlanet_28 : decode cX7_carriesPlanet 28 = .ok (.iconst 0, 1) := by decide +kernel
theorem dX7_carriesPlanet_29 : decode cX7_carriesPlanet 29 = .ok (.ireturn, 1) := by decide +kernel
set_option maxRecDepth 20000 in
theorem ggX7_springs_X7_hasSpring : GoodIn wsX7_springs wsX7_hasSpring := goodIn_ca (goodIn_r _ [6, 7, 8, 9, 10, 11, 12, 13, 14, 15, 16, 17, 18, 19, 20, 21, 22, 23, 24] (by decide +kernel) (by decide +kernel)) (goodIn_sub (fun _ h => List.mem_cons_of_mem _ (List.mem_append_right _ h)) (by decide +kernel))
set_option maxRecDepth 20000 in
theorem gX7_springs_X7_hasSpring : GoodIn wsX7_springs (wsV RX7 73 RX7 yX7_hasSpring wsX7_hasSpring) := goodIn_app (goodIn_of _ (by decide +kernel)) ggX7_springs_X7_hasSpring
theorem dX7_springs_0 : decode cX7_springs 0 = .ok (.iconst 0, 1) := by decide +kernel
theorem dX7_springs_1 : decode cX7_springs 1 = .ok (.istore_n 1, 1) := by decide +kernel
theorem dX7_springs_2 : decode cX7_springs 2 = .ok (.iconst 0, 1) := by decide +kernel
theorem dX7_springs_3 : decode cX7_springs 3 = .ok (.istore_n 2, 1) := by decide +kernel
theorem dX7_springs_4 : decode cX7_springs 4 = .ok (.iload_n 2, 1) := by decide +kernel
theorem dX7_springs_5 : decode cX7_springs 5 = .ok (.aload_n 0, 1) := by decide +kernel
theorem dX7_springs_6 : decode cX7_springs 6 = .ok (.getfield 45, 3) := by decide +kernel
theorem dX7_springs_9 : decode cX7_springs 9 = .ok (.if_icmp .ge 20, 3) := by decide +kernel
theorem dX7_springs_12 : decode cX7_springs 12 = .ok (.aload_n 0, 1) := by decide +kernel
theorem dX7_springs_13 : decode cX7_springs 13 = .ok (.iload_n 2, 1) := by decide +kernel
theorem dX7_springs_14 : decode cX7_springs 14 = .ok (.invokevirtual 73, 3) := by decide +kernel
theorem dX7_springs_17 : decode cX7_springs 17 = .ok (.ifCond .eq 6, 3) := by decide +kernel
theorem dX7_springs_20 : decode cX7_springs 20 = .ok (.iinc 1 1, 3) := by decide +kernel
theorem dX7_springs_23 : decode cX7_springs 23 = .ok (.iinc 2 1, 3) := by decide +kernel
theorem dX7_springs_26 : decode cX7_springs 26 = .ok (.goto (-22), 3) := by decide +kernel
theorem dX7_springs_29 : decode cX7_springs 29 = .ok (.iload_n 1, 1) := by decide +kernel
theorem dX7_springs_30 : decode cX7_springs 30 = .ok (.ireturn, 1) := by decide +kernel
theorem dX7_sumOfTensions_0 : decode cX7_sumOfTensions 0 = .ok (.iconst 0, 1) := by decide +kernel
theorem dX7_sumOfTensions_1 : decode cX7_sumOfTensions 1 = .ok (.istore_n 1, 1) := by decide +kernel
theorem dX7_sumOfTensions_2 : decode cX7_sumOfTensions 2 = .ok (.iconst 0, 1) := by decide +kernel
theorem dX7_sumOfTensions_3 : decode cX7_sumOfTensions 3 = .ok (.istore_n 2, 1) := by decide +kernel
theorem dX7_sumOfTensions_4 : decode cX7_sumOfTensions 4 = .ok (.iload_n 2, 1) := by decide +kernel
theorem dX7_sumOfTensions_5 : decode cX7_sumOfTensions 5 = .ok (.aload_n 0, 1) := by decide +kernel
theorem dX7_sumOfTensions_6 : decode cX7_sumOfTensions 6 = .ok (.getfield 45, 3) := by decide +kernel
theorem dX7_sumOfTensions_9 : decode cX7_sumOfTensions 9 = .ok (.if_icmp .ge 18, 3) := by decide +kernel
theorem dX7_sumOfTensions_12 : decode cX7_sumOfTensions 12 = .ok (.iload_n 1, 1) := by decide +kernel
theorem dX7_sumOfTensions_13 : decode cX7_sumOfTensions 13 = .ok (.aload_n 0, 1) := by decide +kernel
theorem dX7_sumOfTensions_14 : decode cX7_sumOfTensions 14 = .ok (.getfield 32, 3) := by decide +kernel
theorem dX7_sumOfTensions_17 : decode cX7_sumOfTensions 17 = .ok (.iload_n 2, 1) := by decide +kernel
theorem dX7_sumOfTensions_18 : decode cX7_sumOfTensions 18 = .ok (.iaload, 1) := by decide +kernel
theorem dX7_sumOfTensions_19 : decode cX7_sumOfTensions 19 = .ok (.iadd, 1) := by decide +kernel
theorem dX7_sumOfTensions_20 : decode cX7_sumOfTensions 20 = .ok (.istore_n 1, 1) := by decide +kernel
theorem dX7_sumOfTensions_21 : decode cX7_sumOfTensions 21 = .ok (.iinc 2 1, 3) := by decide +kernel
theorem dX7_sumOfTensions_24 : decode cX7_sumOfTensions 24 = .ok (.goto (-20), 3) := by decide +kernel
theorem dX7_sumOfTensions_27 : decode cX7_sumOfTensions 27 = .ok (.iload_n 1, 1) := by decide +kernel
theorem dX7_sumOfTensions_28 : decode cX7_sumOfTensions 28 = .ok (.ireturn, 1) := by decide +kernel
theorem dX7_sumOfTeeth_0 : decode cX7_sumOfTeeth 0 = .ok (.iconst 0, 1) := by decide +kernel
theorem dX7_sumOfTeeth_1 : decode cX7_sumOfTeeth 1 = .ok (.istore_n 1, 1) := by decide +kernel
theorem dX7_sumOfTeeth_2 : decode cX7_sumOfTeeth 2 = .ok (.iconst 0, 1) := by decide +kernel
theorem dX7_sumOfTeeth_3 : decode cX7_sumOfTeeth 3 = .ok (.istore_n 2, 1) := by decide +kernel
theorem dX7_sumOfTeeth_4 : decode cX7_sumOfTeeth 4 = .ok (.iload_n 2, 1) := by decide +kernel
theorem dX7_sumOfTeeth_5 : decode cX7_sumOfTeeth 5 = .ok (.aload_n 0, 1) := by decide +kernel
theorem dX7_sumOfTeeth_6 : decode cX7_sumOfTeeth 6 = .ok (.getfield 45, 3) := by decide +kernel
theorem dX7_sumOfTeeth_9 : decode cX7_sumOfTeeth 9 = .ok (.if_icmp .ge 18, 3) := by decide +kernel
theorem dX7_sumOfTeeth_12 : decode cX7_sumOfTeeth 12 = .ok (.iload_n 1, 1) := by decide +kernel
theorem dX7_sumOfTeeth_13 : decode cX7_sumOfTeeth 13 = .ok (.aload_n 0, 1) := by decide +kernel
theorem dX7_sumOfTeeth_14 : decode cX7_sumOfTeeth 14 = .ok (.getfield 9, 3) := by decide +kernel
theorem dX7_sumOfTeeth_17 : decode cX7_sumOfTeeth 17 = .ok (.iload_n 2, 1) := by decide +kernel
theorem dX7_sumOfTeeth_18 : decode cX7_sumOfTeeth 18 = .ok (.iaload, 1) := by decide +kernel
theorem dX7_sumOfTeeth_19 : decode cX7_sumOfTeeth 19 = .ok (.iadd, 1) := by decide +kernel
theorem dX7_sumOfTeeth_20 : decode cX7_sumOfTeeth 20 = .ok (.istore_n 1, 1) := by decide +kernel
theorem dX7_sumOfTeeth_21 : decode cX7_sumOfTeeth 21 = .ok (.iinc 2 1, 3) := by decide +kernel
theorem dX7_sumOfTeeth_24 : decode cX7_sumOfTeeth 24 = .ok (.goto (-20), 3) := by decide +kernel
theorem dX7_sumOfTeeth_27 : decode cX7_sumOfTeeth 27 = .ok (.iload_n 1, 1) := by decide +kernel
theorem dX7_sumOfTeeth_28 : decode cX7_sumOfTeeth 28 = .ok (.ireturn, 1) := by decide +kernel
theorem dX7_dryGears_0 : decode cX7_dryGears 0 = .ok (.iconst 0, 1) := by decide +kernel
theorem dX7_dryGears_1 : decode cX7_dryGears 1 = .ok (.istore_n 1, 1) := by decide +kernel
theorem dX7_dryGears_2 : decode cX7_dryGears 2 = .ok (.iconst 0, 1) := by decide +kernel
theorem dX7_dryGears_3 : decode cX7_dryGears 3 = .ok (.istore_n 2, 1) := by decide +kernel
theorem dX7_dryGears_4 : decode cX7_dryGears 4 = .ok (.iload_n 2, 1) := by decide +kernel
theorem dX7_dryGears_5 : decode cX7_dryGears 5 = .ok (.aload_n 0, 1) := by decide +kernel
theorem dX7_dryGears_6 : decode cX7_dryGears 6 = .ok (.getfield 45, 3) := by decide +kernel
theorem dX7_dryGears_9 : decode cX7_dryGears 9 = .ok (.if_icmp .ge 21, 3) := by decide +kernel
theorem dX7_dryGears_12 : decode cX7_dryGears 12 = .ok (.aload_n 0, 1) := by decide +kernel
theorem dX7_dryGears_13 : decode cX7_dryGears 13 = .ok (.getfield 19, 3) := by decide +kernel
theorem dX7_dryGears_16 : decode cX7_dryGears 16 = .ok (.iload_n 2, 1) := by decide +kernel
theorem dX7_dryGears_17 : decode cX7_dryGears 17 = .ok (.baload, 1) := by decide +kernel
theorem dX7_dryGears_18 : decode cX7_dryGears 18 = .ok (.ifCond .ne 6, 3) := by decide +kernel
theorem dX7_dryGears_21 : decode cX7_dryGears 21 = .ok (.iinc 1 1, 3) := by decide +kernel
theorem dX7_dryGears_24 : decode cX7_dryGears 24 = .ok (.iinc 2 1, 3) := by decide +kernel
theorem dX7_dryGears_27 : decode cX7_dryGears 27 = .ok (.goto (-23), 3) := by decide +kernel
theorem dX7_dryGears_30 : decode cX7_dryGears 30 = .ok (.iload_n 1, 1) := by decide +kernel
theorem dX7_dryGears_31 : decode cX7_dryGears 31 = .ok (.ireturn, 1) := by decide +kernel
theorem dX8_init_0 : decode cX8_init 0 = .ok (.aload_n 0, 1) := by decide +kernel
theorem dX8_init_1 : decode cX8_init 1 = .ok (.invokespecial 3, 3) := by decide +kernel
theorem dX8_init_4 : decode cX8_init 4 = .ok (.aload_n 0, 1) := by decide +kernel
theorem dX8_init_5 : decode cX8_init 5 = .ok (.bipush 10, 2) := by decide +kernel
theorem dX8_init_7 : decode cX8_init 7 = .ok (.newarray .long, 2) := by decide +kernel
theorem dX8_init_9 : decode cX8_init 9 = .ok (.putfield 9, 3) := by decide +kernel
theorem dX8_init_12 : decode cX8_init 12 = .ok (.aload_n 0, 1) := by decide +kernel
theorem dX8_init_13 : decode cX8_init 13 = .ok (.bipush 10, 2) := by decide +kernel
theorem dX8_init_15 : decode cX8_init 15 = .ok (.newarray .int, 2) := by decide +kernel
theorem dX8_init_17 : decode cX8_init 17 = .ok (.putfield 15, 3) := by decide +kernel
theorem dX8_init_20 : decode cX8_init 20 = .ok (.aload_n 0, 1) := by decide +kernel
theorem dX8_init_21 : decode cX8_init 21 = .ok (.iconst 0, 1) := by decide +kernel
theorem dX8_init_22 : decode cX8_init 22 = .ok (.putfield 19, 3) := by decide +kernel
theorem dX8_init_25 : decode cX8_init 25 = .ok (.return_, 1) := by decide +kernel
set_option maxRecDepth 20000 in
theorem ggX8_trace_X8_reach : GoodIn wsX8_trace wsX8_reach := goodIn_ca (goodIn_r _ [10, 2, 1, 4, 30, 31, 32] (by decide +kernel) (by decide +kernel)) (goodIn_sub (fun _ h => List.mem_cons_of_mem _ (List.mem_append_right _ h)) (by decide +kernel))
set_option maxRecDepth 20000 in
theorem gX8_trace_X8_reach : GoodIn wsX8_trace (wsV RX8 25 RX8 yX8_reach wsX8_reach) := goodIn_app (goodIn_of _ (by decide +kernel)) ggX8_trace_X8_reach
set_option maxRecDepth 20000 in
theorem ggX8_trace_X7_jointOf : GoodIn wsX8_trace wsX7_jointOf := goodIn_ca (goodIn_r _ [15, 16, 33, 34, 35, 36, 37, 38, 39, 40, 41, 42, 43, 44, 45, 46, 47, 48, 49] (by decide +kernel) (by decide +kernel)) (goodIn_sub (fun _ h => List.mem_cons_of_mem _ (List.mem_append_right _ h)) (by decide +kernel))
set_option maxRecDepth 20000 in
theorem gX8_trace_X7_jointOf : GoodIn wsX8_trace (wsV RX8 34 RX7 yX7_jointOf wsX7_jointOf) := goodIn_app (goodIn_of _ (by decide +kernel)) ggX8_trace_X7_jointOf
set_option maxRecDepth 20000 in
theorem ggX8_trace_X7_unitsBehind : GoodIn wsX8_trace wsX7_unitsBehind := goodIn_ca (goodIn_r _ [20, 21, 22, 23, 24, 25, 26, 27, 28, 29, 33, 34, 35, 36, 37, 38, 39, 40, 41, 42, 43, 44, 45, 46, 47, 48, 49] (by decide +kernel) (by decide +kernel)) (goodIn_sub (fun _ h => List.mem_cons_of_mem _ (List.mem_append_right _ h)) (by decide +kernel))
set_option maxRecDepth 20000 in
theorem gX8_trace_X7_unitsBehind : GoodIn wsX8_trace (wsV RX8 38 RX7 yX7_unitsBehind wsX7_unitsBehind) := goodIn_app (goodIn_of _ (by decide +kernel)) ggX8_trace_X7_unitsBehind
theorem dX8_trace_0 : decode cX8_trace 0 = .ok (.iconst 0, 1) := by decide +kernel
theorem dX8_trace_1 : decode cX8_trace 1 = .ok (.istore_n 3, 1) := by decide +kernel
theorem dX8_trace_2 : decode cX8_trace 2 = .ok (.iload_n 3, 1) := by decide +kernel
theorem dX8_trace_3 : decode cX8_trace 3 = .ok (.bipush 10, 2) := by decide +kernel
theorem dX8_trace_5 : decode cX8_trace 5 = .ok (.if_icmp .ge 16, 3) := by decide +kernel
theorem dX8_trace_8 : decode cX8_trace 8 = .ok (.aload_n 0, 1) := by decide +kernel
theorem dX8_trace_9 : decode cX8_trace 9 = .ok (.getfield 9, 3) := by decide +kernel
theorem dX8_trace_12 : decode cX8_trace 12 = .ok (.iload_n 3, 1) := by decide +kernel
theorem dX8_trace_13 : decode cX8_trace 13 = .ok (.lconst 0, 1) := by decide +kernel
theorem dX8_trace_14 : decode cX8_trace 14 = .ok (.lastore, 1) := by decide +kernel
theorem dX8_trace_15 : decode cX8_trace 15 = .ok (.iinc 3 1, 3) := by decide +kernel
theorem dX8_trace_18 : decode cX8_trace 18 = .ok (.goto (-16), 3) := by decide +kernel
theorem dX8_trace_21 : decode cX8_trace 21 = .ok (.aload_n 0, 1) := by decide +kernel
theorem dX8_trace_22 : decode cX8_trace 22 = .ok (.iconst 0, 1) := by decide +kernel
theorem dX8_trace_23 : decode cX8_trace 23 = .ok (.putfield 19, 3) := by decide +kernel
theorem dX8_trace_26 : decode cX8_trace 26 = .ok (.aload_n 0, 1) := by decide +kernel
theorem dX8_trace_27 : decode cX8_trace 27 = .ok (.iload_n 2, 1) := by decide +kernel
theorem dX8_trace_28 : decode cX8_trace 28 = .ok (.ldc2_w 23, 3) := by decide +kernel
theorem dX8_trace_31 : decode cX8_trace 31 = .ok (.invokevirtual 25, 3) := by decide +kernel
theorem dX8_trace_34 : decode cX8_trace 34 = .ok (.iconst 0, 1) := by decide +kernel
theorem dX8_trace_35 : decode cX8_trace 35 = .ok (.istore_n 3, 1) := by decide +kernel
theorem dX8_trace_36 : decode cX8_trace 36 = .ok (.iload_n 3, 1) := by decide +kernel
theorem dX8_trace_37 : decode cX8_trace 37 = .ok (.aload_n 0, 1) := by decide +kernel
theorem dX8_trace_38 : decode cX8_trace 38 = .ok (.getfield 19, 3) := by decide +kernel
theorem dX8_trace_41 : decode cX8_trace 41 = .ok (.if_icmp .ge 91, 3) := by decide +kernel
theorem dX8_trace_44 : decode cX8_trace 44 = .ok (.iload_n 3, 1) := by decide +kernel
theorem dX8_trace_45 : decode cX8_trace 45 = .ok (.bipush 10, 2) := by decide +kernel
theorem dX8_trace_47 : decode cX8_trace 47 = .ok (.if_icmp .ge 85, 3) := by decide +kernel
theorem dX8_trace_50 : decode cX8_trace 50 = .ok (.aload_n 0, 1) := by decide +kernel
theorem dX8_trace_51 : decode cX8_trace 51 = .ok (.getfield 15, 3) := by decide +kernel
theorem dX8_trace_54 : decode cX8_trace 54 = .ok (.iload_n 3, 1) := by decide +kernel
theorem dX8_trace_55 : decode cX8_trace 55 = .ok (.iaload, 1) := by decide +kernel
theorem dX8_trace_56 : decode cX8_trace 56 = .ok (.istore 4, 2) := by decide +kernel
theorem dX8_trace_58 : decode cX8_trace 58 = .ok (.iconst 0, 1) := by decide +kernel
theorem dX8_trace_59 : decode cX8_trace 59 = .ok (.istore 5, 2) := by decide +kernel
theorem dX8_trace_61 : decode cX8_trace 61 = .ok (.iload 5, 2) := by decide +kernel
theorem dX8_trace_63 : decode cX8_trace 63 = .ok (.aload_n 1, 1) := by decide +kernel
theorem dX8_trace_64 : decode cX8_trace 64 = .ok (.getfield 29, 3) := by decide +kernel
theorem dX8_trace_67 : decode cX8_trace 67 = .ok (.if_icmp .ge 59, 3) := by decide +kernel
theorem dX8_trace_70 : decode cX8_trace 70 = .ok (.aload_n 1, 1) := by decide +kernel
theorem dX8_trace_71 : decode cX8_trace 71 = .ok (.iload 4, 2) := by decide +kernel
theorem dX8_trace_73 : decode cX8_trace 73 = .ok (.iload 5, 2) := by decide +kernel
theorem dX8_trace_75 : decode cX8_trace 75 = .ok (.invokevirtual 34, 3) := by decide +kernel
theorem dX8_trace_78 : decode cX8_trace 78 = .ok (.istore 6, 2) := by decide +kernel
theorem dX8_trace_80 : decode cX8_trace 80 = .ok (.iload 6, 2) := by decide +kernel
theorem dX8_trace_82 : decode cX8_trace 82 = .ok (.ifCond .eq 38, 3) := by decide +kernel
theorem dX8_trace_85 : decode cX8_trace 85 = .ok (.aload_n 0, 1) := by decide +kernel
theorem dX8_trace_86 : decode cX8_trace 86 = .ok (.getfield 9, 3) := by decide +kernel
theorem dX8_trace_89 : decode cX8_trace 89 = .ok (.iload 5, 2) := by decide +kernel
theorem dX8_trace_91 : decode cX8_trace 91 = .ok (.laload, 1) := by decide +kernel
theorem dX8_trace_92 : decode cX8_trace 92 = .ok (.lconst 0, 1) := by decide +kernel
theorem dX8_trace_93 : decode cX8_trace 93 = .ok (.lcmp, 1) := by decide +kernel
theorem dX8_trace_94 : decode cX8_trace 94 = .ok (.ifCond .ne 26, 3) := by decide +kernel
theorem dX8_trace_97 : decode cX8_trace 97 = .ok (.aload_n 0, 1) := by decide +kernel
theorem dX8_trace_98 : decode cX8_trace 98 = .ok (.iload 5, 2) := by decide +kernel
theorem dX8_trace_100 : decode cX8_trace 100 = .ok (.aload_n 1, 1) := by decide +kernel
theorem dX8_trace_101 : decode cX8_trace 101 = .ok (.aload_n 0, 1) := by decide +kernel
theorem dX8_trace_102 : decode cX8_trace 102 = .ok (.getfield 9, 3) := by decide +kernel
theorem dX8_trace_105 : decode cX8_trace 105 = .ok (.iload 4, 2) := by decide +kernel
theorem dX8_trace_107 : decode cX8_trace 107 = .ok (.laload, 1) := by decide +kernel
theorem dX8_trace_108 : decode cX8_trace 108 = .ok (.iload 4, 2) := by decide +kernel
theorem dX8_trace_110 : decode cX8_trace 110 = .ok (.iload 5, 2) := by decide +kernel
theorem dX8_trace_112 : decode cX8_trace 112 = .ok (.iload 6, 2) := by decide +kernel
theorem dX8_trace_114 : decode cX8_trace 114 = .ok (.invokevirtual 38, 3) := by decide +kernel
theorem dX8_trace_117 : decode cX8_trace 117 = .ok (.invokevirtual 25, 3) := by decide +kernel
theorem dX8_trace_120 : decode cX8_trace 120 = .ok (.iinc 5 1, 3) := by decide +kernel
theorem dX8_trace_123 : decode cX8_trace 123 = .ok (.goto (-62), 3) := by decide +kernel
theorem dX8_trace_126 : decode cX8_trace 126 = .ok (.iinc 3 1, 3) := by decide +kernel
theorem dX8_trace_129 : decode cX8_trace 129 = .ok (.goto (-93), 3) := by decide +kernel
theorem dX8_trace_132 : decode cX8_trace 132 = .ok (.return_, 1) := by decide +kernel
theorem dX8_reach_0 : decode cX8_reach 0 = .ok (.iload_n 1, 1) := by decide +kernel
theorem dX8_reach_1 : decode cX8_reach 1 = .ok (.ifCond .lt 45, 3) := by decide +kernel
theorem dX8_reach_4 : decode cX8_reach 4 = .ok (.iload_n 1, 1) := by decide +kernel
theorem dX8_reach_5 : decode cX8_reach 5 = .ok (.bipush 10, 2) := by decide +kernel
theorem dX8_reach_7 : decode cX8_reach 7 = .ok (.if_icmp .ge 39, 3) := by decide +kernel
theorem dX8_reach_10 : decode cX8_reach 10 = .ok (.aload_n 0, 1) := by decide +kernel
theorem dX8_reach_11 : decode cX8_reach 11 = .ok (.getfield 19, 3) := by decide +kernel
theorem dX8_reach_14 : decode cX8_reach 14 = .ok (.bipush 10, 2) := by decide +kernel
theorem dX8_reach_16 : decode cX8_reach 16 = .ok (.if_icmp .ge 30, 3) := by decide +kernel
theorem dX8_reach_19 : decode cX8_reach 19 = .ok (.aload_n 0, 1) := by decide +kernel
theorem dX8_reach_20 : decode cX8_reach 20 = .ok (.getfield 9, 3) := by decide +kernel
theorem dX8_reach_23 : decode cX8_reach 23 = .ok (.iload_n 1, 1) := by decide +kernel
theorem dX8_reach_24 : decode cX8_reach 24 = .ok (.lload_n 2, 1) := by decide +kernel
theorem dX8_reach_25 : decode cX8_reach 25 = .ok (.lastore, 1) := by decide +kernel
theorem dX8_reach_26 : decode cX8_reach 26 = .ok (.aload_n 0, 1) := by decide +kernel
theorem dX8_reach_27 : decode cX8_reach 27 = .ok (.getfield 15, 3) := by decide +kernel
theorem dX8_reach_30 : decode cX8_reach 30 = .ok (.aload_n 0, 1) := by decide +kernel
theorem dX8_reach_31 : decode cX8_reach 31 = .ok (.getfield 19, 3) := by decide +kernel
theorem dX8_reach_34 : decode cX8_reach 34 = .ok (.iload_n 1, 1) := by decide +kernel
theorem dX8_reach_35 : decode cX8_reach 35 = .ok (.iastore, 1) := by decide +kernel
theorem dX8_reach_36 : decode cX8_reach 36 = .ok (.aload_n 0, 1) := by decide +kernel
theorem dX8_reach_37 : decode cX8_reach 37 = .ok (.dup, 1) := by decide +kernel
theorem dX8_reach_38 : decode cX8_reach 38 = .ok (.getfield 19, 3) := by decide +kernel
theorem dX8_reach_41 : decode cX8_reach 41 = .ok (.iconst 1, 1) := by decide +kernel
theorem dX8_reach_42 : decode cX8_reach 42 = .ok (.iadd, 1) := by decide +kernel
theorem dX8_reach_43 : decode cX8_reach 43 = .ok (.putfield 19, 3) := by decide +kernel
theorem dX8_reach_46 : decode cX8_reach 46 = .ok (.return_, 1) := by decide +kernel
theorem dX8_holds_0 : decode cX8_holds 0 = .ok (.aload_n 0, 1) := by decide +kernel
theorem dX8_holds_1 : decode cX8_holds 1 = .ok (.getfield 9, 3) := by decide +kernel
theorem dX8_holds_4 : decode cX8_holds 4 = .ok (.iload_n 1, 1) := by decide +kernel
theorem dX8_holds_5 : decode cX8_holds 5 = .ok (.laload, 1) := by decide +kernel
theorem dX8_holds_6 : decode cX8_holds 6 = .ok (.lconst 0, 1) := by decide +kernel
theorem dX8_holds_7 : decode cX8_holds 7 = .ok (.lcmp, 1) := by decide +kernel
theorem dX8_holds_8 : decode cX8_holds 8 = .ok (.ifCond .eq 7, 3) := by decide +kernel
theorem dX8_holds_11 : decode cX8_holds 11 = .ok (.iconst 1, 1) := by decide +kernel
theorem dX8_holds_12 : decode cX8_holds 12 = .ok (.goto 4, 3) := by decide +kernel
theorem dX8_holds_15 : decode cX8_holds 15 = .ok (.iconst 0, 1) := by decide +kernel
theorem dX8_holds_16 : decode cX8_holds 16 = .ok (.ireturn, 1) := by decide +kernel
theorem dX8_lowestGear_0 : decode cX8_lowestGear 0 = .ok (.iconst 0, 1) := by decide +kernel
theorem dX8_lowestGear_1 : decode cX8_lowestGear 1 = .ok (.istore_n 1, 1) := by decide +kernel
theorem dX8_lowestGear_2 : decode cX8_lowestGear 2 = .ok (.iload_n 1, 1) := by decide +kernel
theorem dX8_lowestGear_3 : decode cX8_lowestGear 3 = .ok (.bipush 10, 2) := by decide +kernel
theorem dX8_lowestGear_5 : decode cX8_lowestGear 5 = .ok (.if_icmp .ge 22, 3) := by decide +kernel
theorem dX8_lowestGear_8 : decode cX8_lowestGear 8 = .ok (.aload_n 0, 1) := by decide +kernel
theorem dX8_lowestGear_9 : decode cX8_lowestGear 9 = .ok (.getfield 9, 3) := by decide +kernel
theorem dX8_lowestGear_12 : decode cX8_lowestGear 12 = .ok (.iload_n 1, 1) := by decide +kernel
theorem dX8_lowestGear_13 : decode cX8_lowestGear 13 = .ok (.laload, 1) := by decide +kernel
theorem dX8_lowestGear_14 : decode cX8_lowestGear 14 = .ok (.lconst 0, 1) := by decide +kernel
theorem dX8_lowestGear_15 : decode cX8_lowestGear 15 = .ok (.lcmp, 1) := by decide +kernel
theorem dX8_lowestGear_16 : decode cX8_lowestGear 16 = .ok (.ifCond .eq 5, 3) := by decide +kernel
theorem dX8_lowestGear_19 : decode cX8_lowestGear 19 = .ok (.iload_n 1, 1) := by decide +kernel
theorem dX8_lowestGear_20 : decode cX8_lowestGear 20 = .ok (.ireturn, 1) := by decide +kernel
theorem dX8_lowestGear_21 : decode cX8_lowestGear 21 = .ok (.iinc 1 1, 3) := by decide +kernel
theorem dX8_lowestGear_24 : decode cX8_lowestGear 24 = .ok (.goto (-22), 3) := by decide +kernel
theorem dX8_lowestGear_27 : decode cX8_lowestGear 27 = .ok (.iconst (-1), 1) := by decide +kernel
theorem dX8_lowestGear_28 : decode cX8_lowestGear 28 = .ok (.ireturn, 1) := by decide +kernel
set_option maxRecDepth 20000 in
theorem ggX8_springGear_X8_holds : GoodIn wsX8_springGear wsX8_holds := goodIn_ca (goodIn_r _ [6, 7, 31, 32, 33] (by decide +kernel) (by decide +kernel)) (goodIn_sub (fun _ h => List.mem_cons_of_mem _ (List.mem_append_right _ h)) (by decide +kernel))
set_option maxRecDepth 20000 in
theorem gX8_springGear_X8_holds : GoodIn wsX8_springGear (wsV RX8 42 RX8 yX8_holds wsX8_holds) := goodIn_app (goodIn_of _ (by decide +kernel)) ggX8_springGear_X8_holds
set_option maxRecDepth 20000 in
theorem ggX8_springGear_X7_hasSpring : GoodIn wsX8_springGear wsX7_hasSpring := goodIn_ca (goodIn_r _ [12, 13, 14, 15, 16, 17, 18, 19, 20, 21, 22, 23, 24, 25, 26, 27, 28, 29, 30] (by decide +kernel) (by decide +kernel)) (goodIn_sub (fun _ h => List.mem_cons_of_mem _ (List.mem_append_right _ h)) (by decide +kernel))
set_option maxRecDepth 20000 in
theorem gX8_springGear_X7_hasSpring : GoodIn wsX8_springGear (wsV RX8 46 RX7 yX7_hasSpring wsX7_hasSpring) := goodIn_app (goodIn_of _ (by decide +kernel)) ggX8_springGear_X7_hasSpring
theorem dX8_springGear_0 : decode cX8_springGear 0 = .ok (.iconst 0, 1) := by decide +kernel
theorem dX8_springGear_1 : decode cX8_springGear 1 = .ok (.istore_n 2, 1) := by decide +kernel
theorem dX8_springGear_2 : decode cX8_springGear 2 = .ok (.iload_n 2, 1) := by decide +kernel
theorem dX8_springGear_3 : decode cX8_springGear 3 = .ok (.aload_n 1, 1) := by decide +kernel
theorem dX8_springGear_4 : decode cX8_springGear 4 = .ok (.getfield 29, 3) := by decide +kernel
theorem dX8_springGear_7 : decode cX8_springGear 7 = .ok (.if_icmp .ge 27, 3) := by decide +kernel
theorem dX8_springGear_10 : decode cX8_springGear 10 = .ok (.aload_n 0, 1) := by decide +kernel
theorem dX8_springGear_11 : decode cX8_springGear 11 = .ok (.iload_n 2, 1) := by decide +kernel
theorem dX8_springGear_12 : decode cX8_springGear 12 = .ok (.invokevirtual 42, 3) := by decide +kernel
theorem dX8_springGear_15 : decode cX8_springGear 15 = .ok (.ifCond .eq 13, 3) := by decide +kernel
theorem dX8_springGear_18 : decode cX8_springGear 18 = .ok (.aload_n 1, 1) := by decide +kernel
theorem dX8_springGear_19 : decode cX8_springGear 19 = .ok (.iload_n 2, 1) := by decide +kernel
theorem dX8_springGear_20 : decode cX8_springGear 20 = .ok (.invokevirtual 46, 3) := by decide +kernel
theorem dX8_springGear_23 : decode cX8_springGear 23 = .ok (.ifCond .eq 5, 3) := by decide +kernel
theorem dX8_springGear_26 : decode cX8_springGear 26 = .ok (.iload_n 2, 1) := by decide +kernel
theorem dX8_springGear_27 : decode cX8_springGear 27 = .ok (.ireturn, 1) := by decide +kernel
theorem dX8_springGear_28 : decode cX8_springGear 28 = .ok (.iinc 2 1, 3) := by decide +kernel
theorem dX8_springGear_31 : decode cX8_springGear 31 = .ok (.goto (-29), 3) := by decide +kernel
theorem dX8_springGear_34 : decode cX8_springGear 34 = .ok (.iconst (-1), 1) := by decide +kernel
theorem dX8_springGear_35 : decode cX8_springGear 35 = .ok (.ireturn, 1) := by decide +kernel
set_option maxRecDepth 20000 in
theorem ggX8_drag_X8_holds : GoodIn wsX8_drag wsX8_holds := goodIn_ca (goodIn_r _ [8, 9, 10, 11, 12] (by decide +kernel) (by decide +kernel)) (goodIn_sub (fun _ h => List.mem_cons_of_mem _ (List.mem_append_right _ h)) (by decide +kernel))
set_option maxRecDepth 20000 in
theorem gX8_drag_X8_holds : GoodIn wsX8_drag (wsV RX8 42 RX8 yX8_holds wsX8_holds) := goodIn_app (goodIn_of _ (by decide +kernel)) ggX8_drag_X8_holds
theorem dX8_drag_0 : decode cX8_drag 0 = .ok (.aload_n 0, 1) := by decide +kernel
theorem dX8_drag_1 : decode cX8_drag 1 = .ok (.getfield 19, 3) := by decide +kernel
theorem dX8_drag_4 : decode cX8_drag 4 = .ok (.istore_n 2, 1) := by decide +kernel
theorem dX8_drag_5 : decode cX8_drag 5 = .ok (.iconst 0, 1) := by decide +kernel
theorem dX8_drag_6 : decode cX8_drag 6 = .ok (.istore_n 3, 1) := by decide +kernel
theorem dX8_drag_7 : decode cX8_drag 7 = .ok (.iload_n 3, 1) := by decide +kernel
theorem dX8_drag_8 : decode cX8_drag 8 = .ok (.aload_n 1, 1) := by decide +kernel
theorem dX8_drag_9 : decode cX8_drag 9 = .ok (.getfield 29, 3) := by decide +kernel
theorem dX8_drag_12 : decode cX8_drag 12 = .ok (.if_icmp .ge 29, 3) := by decide +kernel
theorem dX8_drag_15 : decode cX8_drag 15 = .ok (.aload_n 0, 1) := by decide +kernel
theorem dX8_drag_16 : decode cX8_drag 16 = .ok (.iload_n 3, 1) := by decide +kernel
theorem dX8_drag_17 : decode cX8_drag 17 = .ok (.invokevirtual 42, 3) := by decide +kernel
theorem dX8_drag_20 : decode cX8_drag 20 = .ok (.ifCond .eq 15, 3) := by decide +kernel
theorem dX8_drag_23 : decode cX8_drag 23 = .ok (.aload_n 1, 1) := by decide +kernel
theorem dX8_drag_24 : decode cX8_drag 24 = .ok (.getfield 49, 3) := by decide +kernel
theorem dX8_drag_27 : decode cX8_drag 27 = .ok (.iload_n 3, 1) := by decide +kernel
theorem dX8_drag_28 : decode cX8_drag 28 = .ok (.baload, 1) := by decide +kernel
theorem dX8_drag_29 : decode cX8_drag 29 = .ok (.ifCond .ne 6, 3) := by decide +kernel
theorem dX8_drag_32 : decode cX8_drag 32 = .ok (.iinc 2 1, 3) := by decide +kernel
theorem dX8_drag_35 : decode cX8_drag 35 = .ok (.iinc 3 1, 3) := by decide +kernel
theorem dX8_drag_38 : decode cX8_drag 38 = .ok (.goto (-31), 3) := by decide +kernel
theorem dX8_drag_41 : decode cX8_drag 41 = .ok (.iload_n 2, 1) := by decide +kernel
theorem dX8_drag_42 : decode cX8_drag 42 = .ok (.ireturn, 1) := by decide +kernel
theorem dX8_isBlocked_0 : decode cX8_isBlocked 0 = .ok (.iconst 0, 1) := by decide +kernel
theorem dX8_isBlocked_1 : decode cX8_isBlocked 1 = .ok (.istore_n 3, 1) := by decide +kernel
theorem dX8_isBlocked_2 : decode cX8_isBlocked 2 = .ok (.iload_n 3, 1) := by decide +kernel
theorem dX8_isBlocked_3 : decode cX8_isBlocked 3 = .ok (.aload_n 1, 1) := by decide +kernel
theorem dX8_isBlocked_4 : decode cX8_isBlocked 4 = .ok (.getfield 29, 3) := by decide +kernel
theorem dX8_isBlocked_7 : decode cX8_isBlocked 7 = .ok (.if_icmp .ge 71, 3) := by decide +kernel
theorem dX8_isBlocked_10 : decode cX8_isBlocked 10 = .ok (.aload_n 1, 1) := by decide +kernel
theorem dX8_isBlocked_11 : decode cX8_isBlocked 11 = .ok (.getfield 53, 3) := by decide +kernel
theorem dX8_isBlocked_14 : decode cX8_isBlocked 14 = .ok (.iload_n 2, 1) := by decide +kernel
theorem dX8_isBlocked_15 : decode cX8_isBlocked 15 = .ok (.baload, 1) := by decide +kernel
theorem dX8_isBlocked_16 : decode cX8_isBlocked 16 = .ok (.ifCond .eq 22, 3) := by decide +kernel
theorem dX8_isBlocked_19 : decode cX8_isBlocked 19 = .ok (.aload_n 0, 1) := by decide +kernel
theorem dX8_isBlocked_20 : decode cX8_isBlocked 20 = .ok (.getfield 9, 3) := by decide +kernel
theorem dX8_isBlocked_23 : decode cX8_isBlocked 23 = .ok (.iload_n 3, 1) := by decide +kernel
theorem dX8_isBlocked_24 : decode cX8_isBlocked 24 = .ok (.laload, 1) := by decide +kernel
theorem dX8_isBlocked_25 : decode cX8_isBlocked 25 = .ok (.lconst 0, 1) := by decide +kernel
theorem dX8_isBlocked_26 : decode cX8_isBlocked 26 = .ok (.lcmp, 1) := by decide +kernel
theorem dX8_isBlocked_27 : decode cX8_isBlocked 27 = .ok (.ifCond .le 7, 3) := by decide +kernel
theorem dX8_isBlocked_30 : decode cX8_isBlocked 30 = .ok (.iconst 1, 1) := by decide +kernel
theorem dX8_isBlocked_31 : decode cX8_isBlocked 31 = .ok (.goto 23, 3) := by decide +kernel
theorem dX8_isBlocked_34 : decode cX8_isBlocked 34 = .ok (.iconst 0, 1) := by decide +kernel
theorem dX8_isBlocked_35 : decode cX8_isBlocked 35 = .ok (.goto 19, 3) := by decide +kernel
theorem dX8_isBlocked_38 : decode cX8_isBlocked 38 = .ok (.aload_n 0, 1) := by decide +kernel
theorem dX8_isBlocked_39 : decode cX8_isBlocked 39 = .ok (.getfield 9, 3) := by decide +kernel
theorem dX8_isBlocked_42 : decode cX8_isBlocked 42 = .ok (.iload_n 3, 1) := by decide +kernel
theorem dX8_isBlocked_43 : decode cX8_isBlocked 43 = .ok (.laload, 1) := by decide +kernel
theorem dX8_isBlocked_44 : decode cX8_isBlocked 44 = .ok (.lconst 0, 1) := by decide +kernel
theorem dX8_isBlocked_45 : decode cX8_isBlocked 45 = .ok (.lcmp, 1) := by decide +kernel
theorem dX8_isBlocked_46 : decode cX8_isBlocked 46 = .ok (.ifCond .ge 7, 3) := by decide +kernel
theorem dX8_isBlocked_49 : decode cX8_isBlocked 49 = .ok (.iconst 1, 1) := by decide +kernel
theorem dX8_isBlocked_50 : decode cX8_isBlocked 50 = .ok (.goto 4, 3) := by decide +kernel
theorem dX8_isBlocked_53 : decode cX8_isBlocked 53 = .ok (.iconst 0, 1) := by decide +kernel
theorem dX8_isBlocked_54 : decode cX8_isBlocked 54 = .ok (.istore 4, 2) := by decide +kernel
theorem dX8_isBlocked_56 : decode cX8_isBlocked 56 = .ok (.iload 4, 2) := by decide +kernel
theorem dX8_isBlocked_58 : decode cX8_isBlocked 58 = .ok (.ifCond .eq 14, 3) := by decide +kernel
theorem dX8_isBlocked_61 : decode cX8_isBlocked 61 = .ok (.aload_n 1, 1) := by decide +kernel
theorem dX8_isBlocked_62 : decode cX8_isBlocked 62 = .ok (.getfield 56, 3) := by decide +kernel
theorem dX8_isBlocked_65 : decode cX8_isBlocked 65 = .ok (.iload_n 3, 1) := by decide +kernel
theorem dX8_isBlocked_66 : decode cX8_isBlocked 66 = .ok (.baload, 1) := by decide +kernel
theorem dX8_isBlocked_67 : decode cX8_isBlocked 67 = .ok (.ifCond .eq 5, 3) := by decide +kernel
theorem dX8_isBlocked_70 : decode cX8_isBlocked 70 = .ok (.iconst 1, 1) := by decide +kernel
theorem dX8_isBlocked_71 : decode cX8_isBlocked 71 = .ok (.ireturn, 1) := by decide +kernel
theorem dX8_isBlocked_72 : decode cX8_isBlocked 72 = .ok (.iinc 3 1, 3) := by decide +kernel
theorem dX8_isBlocked_75 : decode cX8_isBlocked 75 = .ok (.goto (-73), 3) := by decide +kernel
theorem dX8_isBlocked_78 : decode cX8_isBlocked 78 = .ok (.iconst 0, 1) := by decide +kernel
theorem dX8_isBlocked_79 : decode cX8_isBlocked 79 = .ok (.ireturn, 1) := by decide +kernel
