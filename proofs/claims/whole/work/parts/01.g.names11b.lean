theorem dX11_springSize_1 : decode cX11_springSize 1 = .ok (.iload_n 1, 1) := by decide +kernel
theorem dX11_springSize_2 : decode cX11_springSize 2 = .ok (.invokevirtual 189, 3) := by decide +kernel
theorem dX11_springSize_5 : decode cX11_springSize 5 = .ok (.istore_n 2, 1) := by decide +kernel
theorem dX11_springSize_6 : decode cX11_springSize 6 = .ok (.iload_n 2, 1) := by decide +kernel
theorem dX11_springSize_7 : decode cX11_springSize 7 = .ok (.ifCond .le 11, 3) := by decide +kernel
theorem dX11_springSize_10 : decode cX11_springSize 10 = .ok (.aload_n 0, 1) := by decide +kernel
theorem dX11_springSize_11 : decode cX11_springSize 11 = .ok (.iload_n 2, 1) := by decide +kernel
theorem dX11_springSize_12 : decode cX11_springSize 12 = .ok (.invokevirtual 95, 3) := by decide +kernel
theorem dX11_springSize_15 : decode cX11_springSize 15 = .ok (.goto 15, 3) := by decide +kernel
theorem dX11_springSize_18 : decode cX11_springSize 18 = .ok (.aload_n 0, 1) := by decide +kernel
theorem dX11_springSize_19 : decode cX11_springSize 19 = .ok (.aload_n 0, 1) := by decide +kernel
theorem dX11_springSize_20 : decode cX11_springSize 20 = .ok (.bipush 26, 2) := by decide +kernel
theorem dX11_springSize_22 : decode cX11_springSize 22 = .ok (.iload_n 1, 1) := by decide +kernel
theorem dX11_springSize_23 : decode cX11_springSize 23 = .ok (.iadd, 1) := by decide +kernel
theorem dX11_springSize_24 : decode cX11_springSize 24 = .ok (.invokevirtual 61, 3) := by decide +kernel
theorem dX11_springSize_27 : decode cX11_springSize 27 = .ok (.invokevirtual 98, 3) := by decide +kernel
theorem dX11_springSize_30 : decode cX11_springSize 30 = .ok (.ireturn, 1) := by decide +kernel
set_option maxRecDepth 20000 in
theorem ggX11_springOf_X11_isGear : GoodIn wsX11_springOf wsX11_isGear := goodIn_ca (goodIn_r _ [5, 6, 7, 8, 4, 9, 10, 11, 12, 13, 46, 47, 48, 49, 50, 51, 52, 53, 54, 55, 56, 57, 58, 59, 60, 61, 62, 63] (by decide +kernel) (by decide +kernel)) (goodIn_sub (fun _ h => List.mem_cons_of_mem _ (List.mem_append_left _ (List.mem_append_right _ h))) (by decide +kernel))
set_option maxRecDepth 20000 in
theorem gX11_springOf_X11_isGear : GoodIn wsX11_springOf (wsV RX11 69 RX11 yX11_isGear wsX11_isGear) := goodIn_app (goodIn_of _ (by decide +kernel)) ggX11_springOf_X11_isGear
set_option maxRecDepth 20000 in
theorem ggX11_springOf_X11_fails : GoodIn wsX11_springOf wsX11_fails := goodIn_r _ [17, 18, 46, 47, 48, 49, 50, 51, 52, 53, 54, 55, 56, 57, 58, 59, 60, 61, 62, 63] (by decide +kernel) (by decide +kernel)
set_option maxRecDepth 20000 in
theorem gX11_springOf_X11_fails : GoodIn wsX11_springOf (wsV RX11 95 RX11 yX11_fails wsX11_fails) := goodIn_app (goodIn_of _ (by decide +kernel)) ggX11_springOf_X11_fails
set_option maxRecDepth 20000 in
theorem ggX11_springOf_X11_turns : GoodIn wsX11_springOf wsX11_turns := goodIn_ca (goodIn_ca (goodIn_r _ [22, 23, 24, 25, 26, 27, 28, 4, 29, 10, 30, 31, 32, 33, 6, 7, 8, 9, 46, 47, 48, 49, 50, 51, 52, 53, 54, 55, 56, 57, 58, 59, 60, 61, 62, 63] (by decide +kernel) (by decide +kernel)) (goodIn_sub (fun _ h => List.mem_cons_of_mem _ (List.mem_append_left _ (List.mem_append_right _ h))) (by decide +kernel))) (goodIn_sub (fun _ h => List.mem_cons_of_mem _ (List.mem_append_right _ h)) (by decide +kernel))
set_option maxRecDepth 20000 in
theorem gX11_springOf_X11_turns : GoodIn wsX11_springOf (wsV RX11 84 RX11 yX11_turns wsX11_turns) := goodIn_app (goodIn_of _ (by decide +kernel)) ggX11_springOf_X11_turns
set_option maxRecDepth 20000 in
theorem ggX11_springOf_X11_springIn : GoodIn wsX11_springOf wsX11_springIn := goodIn_ca (goodIn_r _ [37, 23, 38, 39, 40, 4, 41, 6, 7, 8, 9, 10, 46, 47, 48, 49, 50, 51, 52, 53, 54, 55, 56, 57, 58, 59, 60, 61, 62, 63] (by decide +kernel) (by decide +kernel)) (goodIn_sub (fun _ h => List.mem_cons_of_mem _ (List.mem_append_left _ (List.mem_append_right _ h))) (by decide +kernel))
set_option maxRecDepth 20000 in
theorem gX11_springOf_X11_springIn : GoodIn wsX11_springOf (wsV RX11 110 RX11 yX11_springIn wsX11_springIn) := goodIn_app (goodIn_of _ (by decide +kernel)) ggX11_springOf_X11_springIn
set_option maxRecDepth 20000 in
theorem ggX11_springOf_X11_done : GoodIn wsX11_springOf wsX11_done := goodIn_r _ [45, 18, 46, 47, 48, 49, 50, 51, 52, 53, 54, 55, 56, 57, 58, 59, 60, 61, 62, 63] (by decide +kernel) (by decide +kernel)
set_option maxRecDepth 20000 in
theorem gX11_springOf_X11_done : GoodIn wsX11_springOf (wsV RX11 98 RX11 yX11_done wsX11_done) := goodIn_app (goodIn_of _ (by decide +kernel)) ggX11_springOf_X11_done
theorem dX11_springOf_0 : decode cX11_springOf 0 = .ok (.aload_n 0, 1) := by decide +kernel
theorem dX11_springOf_1 : decode cX11_springOf 1 = .ok (.iload_n 1, 1) := by decide +kernel
theorem dX11_springOf_2 : decode cX11_springOf 2 = .ok (.invokevirtual 69, 3) := by decide +kernel
theorem dX11_springOf_5 : decode cX11_springOf 5 = .ok (.ifCond .ne 9, 3) := by decide +kernel
theorem dX11_springOf_8 : decode cX11_springOf 8 = .ok (.aload_n 0, 1) := by decide +kernel
theorem dX11_springOf_9 : decode cX11_springOf 9 = .ok (.iconst 1, 1) := by decide +kernel
theorem dX11_springOf_10 : decode cX11_springOf 10 = .ok (.invokevirtual 95, 3) := by decide +kernel
theorem dX11_springOf_13 : decode cX11_springOf 13 = .ok (.ireturn, 1) := by decide +kernel
theorem dX11_springOf_14 : decode cX11_springOf 14 = .ok (.aload_n 0, 1) := by decide +kernel
theorem dX11_springOf_15 : decode cX11_springOf 15 = .ok (.iload_n 1, 1) := by decide +kernel
theorem dX11_springOf_16 : decode cX11_springOf 16 = .ok (.invokevirtual 84, 3) := by decide +kernel
theorem dX11_springOf_19 : decode cX11_springOf 19 = .ok (.aload_n 0, 1) := by decide +kernel
theorem dX11_springOf_20 : decode cX11_springOf 20 = .ok (.invokevirtual 110, 3) := by decide +kernel
theorem dX11_springOf_23 : decode cX11_springOf 23 = .ok (.istore_n 2, 1) := by decide +kernel
theorem dX11_springOf_24 : decode cX11_springOf 24 = .ok (.iload_n 2, 1) := by decide +kernel
theorem dX11_springOf_25 : decode cX11_springOf 25 = .ok (.iconst (-1), 1) := by decide +kernel
theorem dX11_springOf_26 : decode cX11_springOf 26 = .ok (.if_icmp .ne 11, 3) := by decide +kernel
theorem dX11_springOf_29 : decode cX11_springOf 29 = .ok (.aload_n 0, 1) := by decide +kernel
theorem dX11_springOf_30 : decode cX11_springOf 30 = .ok (.iconst 2, 1) := by decide +kernel
theorem dX11_springOf_31 : decode cX11_springOf 31 = .ok (.invokevirtual 95, 3) := by decide +kernel
theorem dX11_springOf_34 : decode cX11_springOf 34 = .ok (.goto 8, 3) := by decide +kernel
theorem dX11_springOf_37 : decode cX11_springOf 37 = .ok (.aload_n 0, 1) := by decide +kernel
theorem dX11_springOf_38 : decode cX11_springOf 38 = .ok (.iload_n 2, 1) := by decide +kernel
theorem dX11_springOf_39 : decode cX11_springOf 39 = .ok (.invokevirtual 98, 3) := by decide +kernel
theorem dX11_springOf_42 : decode cX11_springOf 42 = .ok (.ireturn, 1) := by decide +kernel
set_option maxRecDepth 20000 in
theorem ggX11_friction_X11_isGear : GoodIn wsX11_friction wsX11_isGear := goodIn_ca (goodIn_r _ [5, 6, 7, 8, 4, 9, 10, 11, 12, 13, 46, 47, 48, 49, 50, 51, 52, 53, 54, 55, 56, 57, 58, 59, 60, 61, 62, 63] (by decide +kernel) (by decide +kernel)) (goodIn_sub (fun _ h => List.mem_cons_of_mem _ (List.mem_append_left _ (List.mem_append_right _ h))) (by decide +kernel))
set_option maxRecDepth 20000 in
theorem gX11_friction_X11_isGear : GoodIn wsX11_friction (wsV RX11 69 RX11 yX11_isGear wsX11_isGear) := goodIn_app (goodIn_of _ (by decide +kernel)) ggX11_friction_X11_isGear
set_option maxRecDepth 20000 in
theorem ggX11_friction_X11_rubs : GoodIn wsX11_friction wsX11_rubs := goodIn_ca (goodIn_ca (goodIn_r _ [17, 18, 10, 19, 20, 21, 4, 22, 23, 24, 25, 26, 27, 28, 29, 30, 31, 32, 6, 7, 8, 9, 33, 34, 35, 36, 46, 47, 48, 49, 50, 51, 52, 53, 54, 55, 56, 57, 58, 59, 60, 61, 62, 63] (by decide +kernel) (by decide +kernel)) (goodIn_sub (fun _ h => List.mem_cons_of_mem _ (List.mem_append_left _ (List.mem_append_right _ h))) (by decide +kernel))) (goodIn_sub (fun _ h => List.mem_cons_of_mem _ (List.mem_append_right _ h)) (by decide +kernel))
set_option maxRecDepth 20000 in
theorem gX11_friction_X11_rubs : GoodIn wsX11_friction (wsV RX11 149 RX11 yX11_rubs wsX11_rubs) := goodIn_app (goodIn_of _ (by decide +kernel)) ggX11_friction_X11_rubs
set_option maxRecDepth 20000 in
theorem ggX11_friction_X11_done : GoodIn wsX11_friction wsX11_done := goodIn_r _ [40, 41, 46, 47, 48, 49, 50, 51, 52, 53, 54, 55, 56, 57, 58, 59, 60, 61, 62, 63] (by decide +kernel) (by decide +kernel)
set_option maxRecDepth 20000 in
theorem gX11_friction_X11_done : GoodIn wsX11_friction (wsV RX11 98 RX11 yX11_done wsX11_done) := goodIn_app (goodIn_of _ (by decide +kernel)) ggX11_friction_X11_done
set_option maxRecDepth 20000 in
theorem ggX11_friction_X11_fails : GoodIn wsX11_friction wsX11_fails := goodIn_r _ [45, 41, 46, 47, 48, 49, 50, 51, 52, 53, 54, 55, 56, 57, 58, 59, 60, 61, 62, 63] (by decide +kernel) (by decide +kernel)
set_option maxRecDepth 20000 in
theorem gX11_friction_X11_fails : GoodIn wsX11_friction (wsV RX11 95 RX11 yX11_fails wsX11_fails) := goodIn_app (goodIn_of _ (by decide +kernel)) ggX11_friction_X11_fails
theorem dX11_friction_0 : decode cX11_friction 0 = .ok (.aload_n 0, 1) := by decide +kernel
theorem dX11_friction_1 : decode cX11_friction 1 = .ok (.iload_n 1, 1) := by decide +kernel
theorem dX11_friction_2 : decode cX11_friction 2 = .ok (.invokevirtual 69, 3) := by decide +kernel
theorem dX11_friction_5 : decode cX11_friction 5 = .ok (.ifCond .eq 15, 3) := by decide +kernel
theorem dX11_friction_8 : decode cX11_friction 8 = .ok (.aload_n 0, 1) := by decide +kernel
theorem dX11_friction_9 : decode cX11_friction 9 = .ok (.aload_n 0, 1) := by decide +kernel
theorem dX11_friction_10 : decode cX11_friction 10 = .ok (.iload_n 1, 1) := by decide +kernel
theorem dX11_friction_11 : decode cX11_friction 11 = .ok (.invokevirtual 149, 3) := by decide +kernel
theorem dX11_friction_14 : decode cX11_friction 14 = .ok (.invokevirtual 98, 3) := by decide +kernel
theorem dX11_friction_17 : decode cX11_friction 17 = .ok (.goto 8, 3) := by decide +kernel
theorem dX11_friction_20 : decode cX11_friction 20 = .ok (.aload_n 0, 1) := by decide +kernel
theorem dX11_friction_21 : decode cX11_friction 21 = .ok (.iconst 1, 1) := by decide +kernel
theorem dX11_friction_22 : decode cX11_friction 22 = .ok (.invokevirtual 95, 3) := by decide +kernel
theorem dX11_friction_25 : decode cX11_friction 25 = .ok (.ireturn, 1) := by decide +kernel
set_option maxRecDepth 20000 in
theorem ggX11_turnsLeft_X11_whyNoSpring : GoodIn wsX11_turnsLeft wsX11_whyNoSpring := goodIn_ca (goodIn_r _ [5, 6, 7, 8, 4, 9, 10, 11, 12, 13, 14, 15, 16, 17, 18, 19, 20, 21, 54, 55, 56, 57, 58, 59, 60, 61, 62, 63, 64, 65, 66, 67, 68, 69, 70, 71] (by decide +kernel) (by decide +kernel)) (goodIn_sub (fun _ h => List.mem_cons_of_mem _ (List.mem_append_right _ h)) (by decide +kernel))
set_option maxRecDepth 20000 in
theorem gX11_turnsLeft_X11_whyNoSpring : GoodIn wsX11_turnsLeft (wsV RX11 189 RX11 yX11_whyNoSpring wsX11_whyNoSpring) := goodIn_app (goodIn_of _ (by decide +kernel)) ggX11_turnsLeft_X11_whyNoSpring
set_option maxRecDepth 20000 in
theorem ggX11_turnsLeft_X11_fails : GoodIn wsX11_turnsLeft wsX11_fails := goodIn_r _ [25, 26, 54, 55, 56, 57, 58, 59, 60, 61, 62, 63, 64, 65, 66, 67, 68, 69, 70, 71] (by decide +kernel) (by decide +kernel)
set_option maxRecDepth 20000 in
theorem gX11_turnsLeft_X11_fails : GoodIn wsX11_turnsLeft (wsV RX11 95 RX11 yX11_fails wsX11_fails) := goodIn_app (goodIn_of _ (by decide +kernel)) ggX11_turnsLeft_X11_fails
set_option maxRecDepth 20000 in
theorem ggX11_turnsLeft_X11_at : GoodIn wsX11_turnsLeft wsX11_at := goodIn_ca (goodIn_r _ [13, 14, 54, 55, 56, 57, 58, 59, 60, 61, 62, 63, 64, 65, 66, 67, 68, 69, 70, 71] (by decide +kernel) (by decide +kernel)) (goodIn_sub (fun _ h => List.mem_cons_of_mem _ (List.mem_append_right _ h)) (by decide +kernel))
set_option maxRecDepth 20000 in
theorem gX11_turnsLeft_X11_at : GoodIn wsX11_turnsLeft (wsV RX11 61 RX11 yX11_at wsX11_at) := goodIn_app (goodIn_of _ (by decide +kernel)) ggX11_turnsLeft_X11_at
set_option maxRecDepth 20000 in
theorem ggX11_turnsLeft_X11_rubs : GoodIn wsX11_turnsLeft wsX11_rubs := goodIn_ca (goodIn_ca (goodIn_r _ [30, 31, 14, 32, 33, 34, 4, 35, 36, 37, 38, 39, 40, 41, 42, 43, 44, 45, 10, 11, 12, 13, 46, 47, 48, 49, 54, 55, 56, 57, 58, 59, 60, 61, 62, 63, 64, 65, 66, 67, 68, 69, 70, 71] (by decide +kernel) (by decide +kernel)) (goodIn_sub (fun _ h => List.mem_cons_of_mem _ (List.mem_append_right _ h)) (by decide +kernel))) (goodIn_sub (fun _ h => List.mem_cons_of_mem _ (List.mem_append_left _ (List.mem_append_right _ h))) (by decide +kernel))
set_option maxRecDepth 20000 in
theorem gX11_turnsLeft_X11_rubs : GoodIn wsX11_turnsLeft (wsV RX11 149 RX11 yX11_rubs wsX11_rubs) := goodIn_app (goodIn_of _ (by decide +kernel)) ggX11_turnsLeft_X11_rubs
set_option maxRecDepth 20000 in
theorem ggX11_turnsLeft_X11_done : GoodIn wsX11_turnsLeft wsX11_done := goodIn_r _ [53, 26, 54, 55, 56, 57, 58, 59, 60, 61, 62, 63, 64, 65, 66, 67, 68, 69, 70, 71] (by decide +kernel) (by decide +kernel)
set_option maxRecDepth 20000 in
theorem gX11_turnsLeft_X11_done : GoodIn wsX11_turnsLeft (wsV RX11 98 RX11 yX11_done wsX11_done) := goodIn_app (goodIn_of _ (by decide +kernel)) ggX11_turnsLeft_X11_done
theorem dX11_turnsLeft_0 : decode cX11_turnsLeft 0 = .ok (.aload_n 0, 1) := by decide +kernel
theorem dX11_turnsLeft_1 : decode cX11_turnsLeft 1 = .ok (.iload_n 1, 1) := by decide +kernel
theorem dX11_turnsLeft_2 : decode cX11_turnsLeft 2 = .ok (.invokevirtual 189, 3) := by decide +kernel
theorem dX11_turnsLeft_5 : decode cX11_turnsLeft 5 = .ok (.istore_n 2, 1) := by decide +kernel
theorem dX11_turnsLeft_6 : decode cX11_turnsLeft 6 = .ok (.iload_n 2, 1) := by decide +kernel
theorem dX11_turnsLeft_7 : decode cX11_turnsLeft 7 = .ok (.ifCond .le 11, 3) := by decide +kernel
theorem dX11_turnsLeft_10 : decode cX11_turnsLeft 10 = .ok (.aload_n 0, 1) := by decide +kernel
theorem dX11_turnsLeft_11 : decode cX11_turnsLeft 11 = .ok (.iload_n 2, 1) := by decide +kernel
theorem dX11_turnsLeft_12 : decode cX11_turnsLeft 12 = .ok (.invokevirtual 95, 3) := by decide +kernel
theorem dX11_turnsLeft_15 : decode cX11_turnsLeft 15 = .ok (.goto 21, 3) := by decide +kernel
theorem dX11_turnsLeft_18 : decode cX11_turnsLeft 18 = .ok (.aload_n 0, 1) := by decide +kernel
theorem dX11_turnsLeft_19 : decode cX11_turnsLeft 19 = .ok (.aload_n 0, 1) := by decide +kernel
theorem dX11_turnsLeft_20 : decode cX11_turnsLeft 20 = .ok (.bipush 36, 2) := by decide +kernel
theorem dX11_turnsLeft_22 : decode cX11_turnsLeft 22 = .ok (.iload_n 1, 1) := by decide +kernel
theorem dX11_turnsLeft_23 : decode cX11_turnsLeft 23 = .ok (.iadd, 1) := by decide +kernel
theorem dX11_turnsLeft_24 : decode cX11_turnsLeft 24 = .ok (.invokevirtual 61, 3) := by decide +kernel
theorem dX11_turnsLeft_27 : decode cX11_turnsLeft 27 = .ok (.aload_n 0, 1) := by decide +kernel
theorem dX11_turnsLeft_28 : decode cX11_turnsLeft 28 = .ok (.iload_n 1, 1) := by decide +kernel
theorem dX11_turnsLeft_29 : decode cX11_turnsLeft 29 = .ok (.invokevirtual 149, 3) := by decide +kernel
theorem dX11_turnsLeft_32 : decode cX11_turnsLeft 32 = .ok (.idiv, 1) := by decide +kernel
theorem dX11_turnsLeft_33 : decode cX11_turnsLeft 33 = .ok (.invokevirtual 98, 3) := by decide +kernel
theorem dX11_turnsLeft_36 : decode cX11_turnsLeft 36 = .ok (.ireturn, 1) := by decide +kernel
set_option maxRecDepth 20000 in
theorem ggX11_canRelease_X11_isGear : GoodIn wsX11_canRelease wsX11_isGear := goodIn_ca (goodIn_r _ [6, 7, 8, 9, 5, 10, 11, 12, 13, 14, 38, 39, 40, 41, 42, 43, 44, 45, 46, 47, 48, 49, 50, 51, 52, 53, 54, 55] (by decide +kernel) (by decide +kernel)) (goodIn_sub (fun _ h => List.mem_cons_of_mem _ (List.mem_append_left _ (List.mem_append_right _ h))) (by decide +kernel))
set_option maxRecDepth 20000 in
theorem gX11_canRelease_X11_isGear : GoodIn wsX11_canRelease (wsV RX11 69 RX11 yX11_isGear wsX11_isGear) := goodIn_app (goodIn_of _ (by decide +kernel)) ggX11_canRelease_X11_isGear
set_option maxRecDepth 20000 in
theorem ggX11_canRelease_X11_hasSpring : GoodIn wsX11_canRelease wsX11_hasSpring := goodIn_ca (goodIn_r _ [18, 7, 8, 9, 5, 10, 11, 38, 39, 40, 41, 42, 43, 44, 45, 46, 47, 48, 49, 50, 51, 52, 53, 54, 55] (by decide +kernel) (by decide +kernel)) (goodIn_sub (fun _ h => List.mem_cons_of_mem _ (List.mem_append_left _ (List.mem_append_right _ h))) (by decide +kernel))
set_option maxRecDepth 20000 in
theorem gX11_canRelease_X11_hasSpring : GoodIn wsX11_canRelease (wsV RX11 81 RX11 yX11_hasSpring wsX11_hasSpring) := goodIn_app (goodIn_of _ (by decide +kernel)) ggX11_canRelease_X11_hasSpring
set_option maxRecDepth 20000 in
theorem ggX11_canRelease_X11_turns : GoodIn wsX11_canRelease wsX11_turns := goodIn_ca (goodIn_ca (goodIn_r _ [22, 23, 24, 25, 26, 27, 28, 5, 29, 11, 30, 31, 32, 33, 7, 8, 9, 10, 38, 39, 40, 41, 42, 43, 44, 45, 46, 47, 48, 49, 50, 51, 52, 53, 54, 55] (by decide +kernel) (by decide +kernel)) (goodIn_sub (fun _ h => List.mem_cons_of_mem _ (List.mem_append_left _ (List.mem_append_right _ h))) (by decide +kernel))) (goodIn_sub (fun _ h => List.mem_cons_of_mem _ (List.mem_append_right _ h)) (by decide +kernel))
set_option maxRecDepth 20000 in
theorem gX11_canRelease_X11_turns : GoodIn wsX11_canRelease (wsV RX11 84 RX11 yX11_turns wsX11_turns) := goodIn_app (goodIn_of _ (by decide +kernel)) ggX11_canRelease_X11_turns
set_option maxRecDepth 20000 in
theorem ggX11_canRelease_X11_isHindered : GoodIn wsX11_canRelease wsX11_isHindered := goodIn_ca (goodIn_r _ [37, 24, 11, 23, 38, 39, 40, 41, 42, 43, 44, 45, 46, 47, 48, 49, 50, 51, 52, 53, 54, 55] (by decide +kernel) (by decide +kernel)) (goodIn_sub (fun _ h => List.mem_cons_of_mem _ (List.mem_append_left _ (List.mem_append_right _ h))) (by decide +kernel))
set_option maxRecDepth 20000 in
theorem gX11_canRelease_X11_isHindered : GoodIn wsX11_canRelease (wsV RX11 152 RX11 yX11_isHindered wsX11_isHindered) := goodIn_app (goodIn_of _ (by decide +kernel)) ggX11_canRelease_X11_isHindered
theorem dX11_canRelease_0 : decode cX11_canRelease 0 = .ok (.aload_n 0, 1) := by decide +kernel
theorem dX11_canRelease_1 : decode cX11_canRelease 1 = .ok (.aload_n 0, 1) := by decide +kernel
theorem dX11_canRelease_2 : decode cX11_canRelease 2 = .ok (.iload_n 1, 1) := by decide +kernel
theorem dX11_canRelease_3 : decode cX11_canRelease 3 = .ok (.invokevirtual 69, 3) := by decide +kernel
theorem dX11_canRelease_6 : decode cX11_canRelease 6 = .ok (.ifCond .eq 7, 3) := by decide +kernel
theorem dX11_canRelease_9 : decode cX11_canRelease 9 = .ok (.iconst 0, 1) := by decide +kernel
theorem dX11_canRelease_10 : decode cX11_canRelease 10 = .ok (.goto 4, 3) := by decide +kernel
theorem dX11_canRelease_13 : decode cX11_canRelease 13 = .ok (.iconst 1, 1) := by decide +kernel
theorem dX11_canRelease_14 : decode cX11_canRelease 14 = .ok (.putfield 49, 3) := by decide +kernel
theorem dX11_canRelease_17 : decode cX11_canRelease 17 = .ok (.aload_n 0, 1) := by decide +kernel
theorem dX11_canRelease_18 : decode cX11_canRelease 18 = .ok (.getfield 49, 3) := by decide +kernel
theorem dX11_canRelease_21 : decode cX11_canRelease 21 = .ok (.ifCond .gt 11, 3) := by decide +kernel
theorem dX11_canRelease_24 : decode cX11_canRelease 24 = .ok (.aload_n 0, 1) := by decide +kernel
theorem dX11_canRelease_25 : decode cX11_canRelease 25 = .ok (.iload_n 1, 1) := by decide +kernel
theorem dX11_canRelease_26 : decode cX11_canRelease 26 = .ok (.invokevirtual 81, 3) := by decide +kernel
theorem dX11_canRelease_29 : decode cX11_canRelease 29 = .ok (.ifCond .ne 5, 3) := by decide +kernel
theorem dX11_canRelease_32 : decode cX11_canRelease 32 = .ok (.iconst 0, 1) := by decide +kernel
theorem dX11_canRelease_33 : decode cX11_canRelease 33 = .ok (.ireturn, 1) := by decide +kernel
theorem dX11_canRelease_34 : decode cX11_canRelease 34 = .ok (.aload_n 0, 1) := by decide +kernel
theorem dX11_canRelease_35 : decode cX11_canRelease 35 = .ok (.iload_n 1, 1) := by decide +kernel
theorem dX11_canRelease_36 : decode cX11_canRelease 36 = .ok (.invokevirtual 84, 3) := by decide +kernel
theorem dX11_canRelease_39 : decode cX11_canRelease 39 = .ok (.aload_n 0, 1) := by decide +kernel
theorem dX11_canRelease_40 : decode cX11_canRelease 40 = .ok (.iload_n 1, 1) := by decide +kernel
theorem dX11_canRelease_41 : decode cX11_canRelease 41 = .ok (.invokevirtual 152, 3) := by decide +kernel
theorem dX11_canRelease_44 : decode cX11_canRelease 44 = .ok (.ifCond .ne 7, 3) := by decide +kernel
theorem dX11_canRelease_47 : decode cX11_canRelease 47 = .ok (.iconst 1, 1) := by decide +kernel
theorem dX11_canRelease_48 : decode cX11_canRelease 48 = .ok (.goto 4, 3) := by decide +kernel
theorem dX11_canRelease_51 : decode cX11_canRelease 51 = .ok (.iconst 0, 1) := by decide +kernel
theorem dX11_canRelease_52 : decode cX11_canRelease 52 = .ok (.ireturn, 1) := by decide +kernel
set_option maxRecDepth 20000 in
theorem ggX11_hasRatchet_X11_isGear : GoodIn wsX11_hasRatchet wsX11_isGear := goodIn_ca (goodIn_r _ [7, 8, 9, 10, 6, 11, 2, 12, 13, 14, 15, 16, 17, 18, 19, 20, 21, 22, 23, 24, 25, 26, 27, 28, 29, 30, 31, 32] (by decide +kernel) (by decide +kernel)) (goodIn_sub (fun _ h => List.mem_cons_of_mem _ (List.mem_append_right _ h)) (by decide +kernel))
set_option maxRecDepth 20000 in
theorem gX11_hasRatchet_X11_isGear : GoodIn wsX11_hasRatchet (wsV RX11 69 RX11 yX11_isGear wsX11_isGear) := goodIn_app (goodIn_of _ (by decide +kernel)) ggX11_hasRatchet_X11_isGear
theorem dX11_hasRatchet_0 : decode cX11_hasRatchet 0 = .ok (.aload_n 0, 1) := by decide +kernel
theorem dX11_hasRatchet_1 : decode cX11_hasRatchet 1 = .ok (.aload_n 0, 1) := by decide +kernel
theorem dX11_hasRatchet_2 : decode cX11_hasRatchet 2 = .ok (.iload_n 1, 1) := by decide +kernel
theorem dX11_hasRatchet_3 : decode cX11_hasRatchet 3 = .ok (.invokevirtual 69, 3) := by decide +kernel
theorem dX11_hasRatchet_6 : decode cX11_hasRatchet 6 = .ok (.ifCond .eq 7, 3) := by decide +kernel
theorem dX11_hasRatchet_9 : decode cX11_hasRatchet 9 = .ok (.iconst 0, 1) := by decide +kernel
theorem dX11_hasRatchet_10 : decode cX11_hasRatchet 10 = .ok (.goto 4, 3) := by decide +kernel
theorem dX11_hasRatchet_13 : decode cX11_hasRatchet 13 = .ok (.iconst 1, 1) := by decide +kernel
theorem dX11_hasRatchet_14 : decode cX11_hasRatchet 14 = .ok (.putfield 49, 3) := by decide +kernel
theorem dX11_hasRatchet_17 : decode cX11_hasRatchet 17 = .ok (.aload_n 0, 1) := by decide +kernel
theorem dX11_hasRatchet_18 : decode cX11_hasRatchet 18 = .ok (.getfield 49, 3) := by decide +kernel
theorem dX11_hasRatchet_21 : decode cX11_hasRatchet 21 = .ok (.ifCond .ne 21, 3) := by decide +kernel
theorem dX11_hasRatchet_24 : decode cX11_hasRatchet 24 = .ok (.aload_n 0, 1) := by decide +kernel
theorem dX11_hasRatchet_25 : decode cX11_hasRatchet 25 = .ok (.getfield 7, 3) := by decide +kernel
theorem dX11_hasRatchet_28 : decode cX11_hasRatchet 28 = .ok (.bipush 56, 2) := by decide +kernel
theorem dX11_hasRatchet_30 : decode cX11_hasRatchet 30 = .ok (.iload_n 1, 1) := by decide +kernel
theorem dX11_hasRatchet_31 : decode cX11_hasRatchet 31 = .ok (.iadd, 1) := by decide +kernel
theorem dX11_hasRatchet_32 : decode cX11_hasRatchet 32 = .ok (.laload, 1) := by decide +kernel
theorem dX11_hasRatchet_33 : decode cX11_hasRatchet 33 = .ok (.lconst 1, 1) := by decide +kernel
theorem dX11_hasRatchet_34 : decode cX11_hasRatchet 34 = .ok (.lcmp, 1) := by decide +kernel
theorem dX11_hasRatchet_35 : decode cX11_hasRatchet 35 = .ok (.ifCond .ne 7, 3) := by decide +kernel
theorem dX11_hasRatchet_38 : decode cX11_hasRatchet 38 = .ok (.iconst 1, 1) := by decide +kernel
theorem dX11_hasRatchet_39 : decode cX11_hasRatchet 39 = .ok (.goto 4, 3) := by decide +kernel
theorem dX11_hasRatchet_42 : decode cX11_hasRatchet 42 = .ok (.iconst 0, 1) := by decide +kernel
theorem dX11_hasRatchet_43 : decode cX11_hasRatchet 43 = .ok (.ireturn, 1) := by decide +kernel
set_option maxRecDepth 20000 in
theorem ggX11_isDry_X11_isGear : GoodIn wsX11_isDry wsX11_isGear := goodIn_ca (goodIn_r _ [7, 8, 9, 10, 6, 11, 2, 12, 13, 14, 15, 16, 17, 18, 19, 20, 21, 22, 23, 24, 25, 26, 27, 28, 29, 30, 31, 32] (by decide +kernel) (by decide +kernel)) (goodIn_sub (fun _ h => List.mem_cons_of_mem _ (List.mem_append_right _ h)) (by decide +kernel))
set_option maxRecDepth 20000 in
theorem gX11_isDry_X11_isGear : GoodIn wsX11_isDry (wsV RX11 69 RX11 yX11_isGear wsX11_isGear) := goodIn_app (goodIn_of _ (by decide +kernel)) ggX11_isDry_X11_isGear
theorem dX11_isDry_0 : decode cX11_isDry 0 = .ok (.aload_n 0, 1) := by decide +kernel
theorem dX11_isDry_1 : decode cX11_isDry 1 = .ok (.aload_n 0, 1) := by decide +kernel
theorem dX11_isDry_2 : decode cX11_isDry 2 = .ok (.iload_n 1, 1) := by decide +kernel
theorem dX11_isDry_3 : decode cX11_isDry 3 = .ok (.invokevirtual 69, 3) := by decide +kernel
theorem dX11_isDry_6 : decode cX11_isDry 6 = .ok (.ifCond .eq 7, 3) := by decide +kernel
theorem dX11_isDry_9 : decode cX11_isDry 9 = .ok (.iconst 0, 1) := by decide +kernel
theorem dX11_isDry_10 : decode cX11_isDry 10 = .ok (.goto 4, 3) := by decide +kernel
theorem dX11_isDry_13 : decode cX11_isDry 13 = .ok (.iconst 1, 1) := by decide +kernel
theorem dX11_isDry_14 : decode cX11_isDry 14 = .ok (.putfield 49, 3) := by decide +kernel
theorem dX11_isDry_17 : decode cX11_isDry 17 = .ok (.aload_n 0, 1) := by decide +kernel
theorem dX11_isDry_18 : decode cX11_isDry 18 = .ok (.getfield 49, 3) := by decide +kernel
theorem dX11_isDry_21 : decode cX11_isDry 21 = .ok (.ifCond .ne 21, 3) := by decide +kernel
theorem dX11_isDry_24 : decode cX11_isDry 24 = .ok (.aload_n 0, 1) := by decide +kernel
theorem dX11_isDry_25 : decode cX11_isDry 25 = .ok (.getfield 7, 3) := by decide +kernel
theorem dX11_isDry_28 : decode cX11_isDry 28 = .ok (.bipush 66, 2) := by decide +kernel
theorem dX11_isDry_30 : decode cX11_isDry 30 = .ok (.iload_n 1, 1) := by decide +kernel
theorem dX11_isDry_31 : decode cX11_isDry 31 = .ok (.iadd, 1) := by decide +kernel
theorem dX11_isDry_32 : decode cX11_isDry 32 = .ok (.laload, 1) := by decide +kernel
theorem dX11_isDry_33 : decode cX11_isDry 33 = .ok (.lconst 0, 1) := by decide +kernel
theorem dX11_isDry_34 : decode cX11_isDry 34 = .ok (.lcmp, 1) := by decide +kernel
theorem dX11_isDry_35 : decode cX11_isDry 35 = .ok (.ifCond .ne 7, 3) := by decide +kernel
theorem dX11_isDry_38 : decode cX11_isDry 38 = .ok (.iconst 1, 1) := by decide +kernel
theorem dX11_isDry_39 : decode cX11_isDry 39 = .ok (.goto 4, 3) := by decide +kernel
theorem dX11_isDry_42 : decode cX11_isDry 42 = .ok (.iconst 0, 1) := by decide +kernel
theorem dX11_isDry_43 : decode cX11_isDry 43 = .ok (.ireturn, 1) := by decide +kernel
set_option maxRecDepth 20000 in
theorem ggX11_wear_X11_isGear : GoodIn wsX11_wear wsX11_isGear := goodIn_ca (goodIn_r _ [7, 8, 9, 10, 6, 11, 1, 12, 13, 14, 24, 25, 26, 27, 28, 29, 30, 31, 32, 33, 34, 35, 36, 37, 38, 39, 40, 41] (by decide +kernel) (by decide +kernel)) (goodIn_sub (fun _ h => List.mem_cons_of_mem _ (List.mem_append_right _ h)) (by decide +kernel))
set_option maxRecDepth 20000 in
theorem gX11_wear_X11_isGear : GoodIn wsX11_wear (wsV RX11 69 RX11 yX11_isGear wsX11_isGear) := goodIn_app (goodIn_of _ (by decide +kernel)) ggX11_wear_X11_isGear
set_option maxRecDepth 20000 in
theorem ggX11_wear_X11_fails : GoodIn wsX11_wear wsX11_fails := goodIn_r _ [18, 19, 24, 25, 26, 27, 28, 29, 30, 31, 32, 33, 34, 35, 36, 37, 38, 39, 40, 41] (by decide +kernel) (by decide +kernel)
set_option maxRecDepth 20000 in
theorem gX11_wear_X11_fails : GoodIn wsX11_wear (wsV RX11 95 RX11 yX11_fails wsX11_fails) := goodIn_app (goodIn_of _ (by decide +kernel)) ggX11_wear_X11_fails
set_option maxRecDepth 20000 in
theorem ggX11_wear_X11_done : GoodIn wsX11_wear wsX11_done := goodIn_r _ [23, 19, 24, 25, 26, 27, 28, 29, 30, 31, 32, 33, 34, 35, 36, 37, 38, 39, 40, 41] (by decide +kernel) (by decide +kernel)
set_option maxRecDepth 20000 in
theorem gX11_wear_X11_done : GoodIn wsX11_wear (wsV RX11 98 RX11 yX11_done wsX11_done) := goodIn_app (goodIn_of _ (by decide +kernel)) ggX11_wear_X11_done
theorem dX11_wear_0 : decode cX11_wear 0 = .ok (.aload_n 0, 1) := by decide +kernel
theorem dX11_wear_1 : decode cX11_wear 1 = .ok (.iload_n 1, 1) := by decide +kernel
theorem dX11_wear_2 : decode cX11_wear 2 = .ok (.invokevirtual 69, 3) := by decide +kernel
theorem dX11_wear_5 : decode cX11_wear 5 = .ok (.ifCond .ne 9, 3) := by decide +kernel
theorem dX11_wear_8 : decode cX11_wear 8 = .ok (.aload_n 0, 1) := by decide +kernel
theorem dX11_wear_9 : decode cX11_wear 9 = .ok (.iconst 1, 1) := by decide +kernel
theorem dX11_wear_10 : decode cX11_wear 10 = .ok (.invokevirtual 95, 3) := by decide +kernel
theorem dX11_wear_13 : decode cX11_wear 13 = .ok (.ireturn, 1) := by decide +kernel
theorem dX11_wear_14 : decode cX11_wear 14 = .ok (.aload_n 0, 1) := by decide +kernel
theorem dX11_wear_15 : decode cX11_wear 15 = .ok (.getfield 7, 3) := by decide +kernel
theorem dX11_wear_18 : decode cX11_wear 18 = .ok (.bipush 66, 2) := by decide +kernel
theorem dX11_wear_20 : decode cX11_wear 20 = .ok (.iload_n 1, 1) := by decide +kernel
theorem dX11_wear_21 : decode cX11_wear 21 = .ok (.iadd, 1) := by decide +kernel
theorem dX11_wear_22 : decode cX11_wear 22 = .ok (.laload, 1) := by decide +kernel
theorem dX11_wear_23 : decode cX11_wear 23 = .ok (.lconst 0, 1) := by decide +kernel
theorem dX11_wear_24 : decode cX11_wear 24 = .ok (.lcmp, 1) := by decide +kernel
theorem dX11_wear_25 : decode cX11_wear 25 = .ok (.ifCond .ne 11, 3) := by decide +kernel
theorem dX11_wear_28 : decode cX11_wear 28 = .ok (.aload_n 0, 1) := by decide +kernel
theorem dX11_wear_29 : decode cX11_wear 29 = .ok (.iconst 2, 1) := by decide +kernel
theorem dX11_wear_30 : decode cX11_wear 30 = .ok (.invokevirtual 95, 3) := by decide +kernel
theorem dX11_wear_33 : decode cX11_wear 33 = .ok (.goto 21, 3) := by decide +kernel
theorem dX11_wear_36 : decode cX11_wear 36 = .ok (.aload_n 0, 1) := by decide +kernel
theorem dX11_wear_37 : decode cX11_wear 37 = .ok (.aload_n 0, 1) := by decide +kernel
theorem dX11_wear_38 : decode cX11_wear 38 = .ok (.getfield 7, 3) := by decide +kernel
theorem dX11_wear_41 : decode cX11_wear 41 = .ok (.bipush 76, 2) := by decide +kernel
theorem dX11_wear_43 : decode cX11_wear 43 = .ok (.iload_n 1, 1) := by decide +kernel
theorem dX11_wear_44 : decode cX11_wear 44 = .ok (.iadd, 1) := by decide +kernel
theorem dX11_wear_45 : decode cX11_wear 45 = .ok (.laload, 1) := by decide +kernel
theorem dX11_wear_46 : decode cX11_wear 46 = .ok (.ldc2_w 52, 3) := by decide +kernel
theorem dX11_wear_49 : decode cX11_wear 49 = .ok (.ldiv, 1) := by decide +kernel
theorem dX11_wear_50 : decode cX11_wear 50 = .ok (.l2i, 1) := by decide +kernel
theorem dX11_wear_51 : decode cX11_wear 51 = .ok (.invokevirtual 98, 3) := by decide +kernel
theorem dX11_wear_54 : decode cX11_wear 54 = .ok (.ireturn, 1) := by decide +kernel
set_option maxRecDepth 20000 in
theorem ggX11_drops_X11_at : GoodIn wsX11_drops wsX11_at := goodIn_ca (goodIn_r _ [5, 6, 12, 13, 14, 15, 16, 17, 18, 19, 20, 21, 22, 23, 24, 25, 26, 27, 28, 29] (by decide +kernel) (by decide +kernel)) (goodIn_sub (fun _ h => List.mem_cons_of_mem _ (List.mem_append_right _ h)) (by decide +kernel))
set_option maxRecDepth 20000 in
theorem gX11_drops_X11_at : GoodIn wsX11_drops (wsV RX11 61 RX11 yX11_at wsX11_at) := goodIn_app (goodIn_of _ (by decide +kernel)) ggX11_drops_X11_at
set_option maxRecDepth 20000 in
theorem ggX11_drops_X11_done : GoodIn wsX11_drops wsX11_done := goodIn_r _ [10, 11, 12, 13, 14, 15, 16, 17, 18, 19, 20, 21, 22, 23, 24, 25, 26, 27, 28, 29] (by decide +kernel) (by decide +kernel)
set_option maxRecDepth 20000 in
theorem gX11_drops_X11_done : GoodIn wsX11_drops (wsV RX11 98 RX11 yX11_done wsX11_done) := goodIn_app (goodIn_of _ (by decide +kernel)) ggX11_drops_X11_done
theorem dX11_drops_0 : decode cX11_drops 0 = .ok (.aload_n 0, 1) := by decide +kernel
theorem dX11_drops_1 : decode cX11_drops 1 = .ok (.aload_n 0, 1) := by decide +kernel
theorem dX11_drops_2 : decode cX11_drops 2 = .ok (.iconst 2, 1) := by decide +kernel
theorem dX11_drops_3 : decode cX11_drops 3 = .ok (.invokevirtual 61, 3) := by decide +kernel
theorem dX11_drops_6 : decode cX11_drops 6 = .ok (.invokevirtual 98, 3) := by decide +kernel
theorem dX11_drops_9 : decode cX11_drops 9 = .ok (.ireturn, 1) := by decide +kernel
set_option maxRecDepth 20000 in
theorem ggX11_planetCount_X11_at : GoodIn wsX11_planetCount wsX11_at := goodIn_ca (goodIn_r _ [5, 6, 12, 13, 14, 15, 16, 17, 18, 19, 20, 21, 22, 23, 24, 25, 26, 27, 28, 29] (by decide +kernel) (by decide +kernel)) (goodIn_sub (fun _ h => List.mem_cons_of_mem _ (List.mem_append_right _ h)) (by decide +kernel))
set_option maxRecDepth 20000 in
theorem gX11_planetCount_X11_at : GoodIn wsX11_planetCount (wsV RX11 61 RX11 yX11_at wsX11_at) := goodIn_app (goodIn_of _ (by decide +kernel)) ggX11_planetCount_X11_at
set_option maxRecDepth 20000 in
theorem ggX11_planetCount_X11_done : GoodIn wsX11_planetCount wsX11_done := goodIn_r _ [10, 11, 12, 13, 14, 15, 16, 17, 18, 19, 20, 21, 22, 23, 24, 25, 26, 27, 28, 29] (by decide +kernel) (by decide +kernel)
set_option maxRecDepth 20000 in
theorem gX11_planetCount_X11_done : GoodIn wsX11_planetCount (wsV RX11 98 RX11 yX11_done wsX11_done) := goodIn_app (goodIn_of _ (by decide +kernel)) ggX11_planetCount_X11_done
theorem dX11_planetCount_0 : decode cX11_planetCount 0 = .ok (.aload_n 0, 1) := by decide +kernel
theorem dX11_planetCount_1 : decode cX11_planetCount 1 = .ok (.aload_n 0, 1) := by decide +kernel
theorem dX11_planetCount_2 : decode cX11_planetCount 2 = .ok (.iconst 1, 1) := by decide +kernel
theorem dX11_planetCount_3 : decode cX11_planetCount 3 = .ok (.invokevirtual 61, 3) := by decide +kernel
theorem dX11_planetCount_6 : decode cX11_planetCount 6 = .ok (.invokevirtual 98, 3) := by decide +kernel
theorem dX11_planetCount_9 : decode cX11_planetCount 9 = .ok (.ireturn, 1) := by decide +kernel
set_option maxRecDepth 20000 in
theorem ggX11_gearOf_X11_isPlanet : GoodIn wsX11_gearOf wsX11_isPlanet := goodIn_ca (goodIn_r _ [5, 6, 7, 8, 4, 9, 10, 11, 12, 13, 23, 24, 25, 26, 27, 28, 29, 30, 31, 32, 33, 34, 35, 36, 37, 38, 39, 40] (by decide +kernel) (by decide +kernel)) (goodIn_sub (fun _ h => List.mem_cons_of_mem _ (List.mem_append_right _ h)) (by decide +kernel))
set_option maxRecDepth 20000 in
theorem gX11_gearOf_X11_isPlanet : GoodIn wsX11_gearOf (wsV RX11 192 RX11 yX11_isPlanet wsX11_isPlanet) := goodIn_app (goodIn_of _ (by decide +kernel)) ggX11_gearOf_X11_isPlanet
set_option maxRecDepth 20000 in
theorem ggX11_gearOf_X11_at : GoodIn wsX11_gearOf wsX11_at := goodIn_ca (goodIn_r _ [9, 10, 23, 24, 25, 26, 27, 28, 29, 30, 31, 32, 33, 34, 35, 36, 37, 38, 39, 40] (by decide +kernel) (by decide +kernel)) (goodIn_sub (fun _ h => List.mem_cons_of_mem _ (List.mem_append_right _ h)) (by decide +kernel))
set_option maxRecDepth 20000 in
theorem gX11_gearOf_X11_at : GoodIn wsX11_gearOf (wsV RX11 61 RX11 yX11_at wsX11_at) := goodIn_app (goodIn_of _ (by decide +kernel)) ggX11_gearOf_X11_at
set_option maxRecDepth 20000 in
theorem ggX11_gearOf_X11_done : GoodIn wsX11_gearOf wsX11_done := goodIn_r _ [17, 18, 23, 24, 25, 26, 27, 28, 29, 30, 31, 32, 33, 34, 35, 36, 37, 38, 39, 40] (by decide +kernel) (by decide +kernel)
set_option maxRecDepth 20000 in
theorem gX11_gearOf_X11_done : GoodIn wsX11_gearOf (wsV RX11 98 RX11 yX11_done wsX11_done) := goodIn_app (goodIn_of _ (by decide +kernel)) ggX11_gearOf_X11_done
set_option maxRecDepth 20000 in
theorem ggX11_gearOf_X11_fails : GoodIn wsX11_gearOf wsX11_fails := goodIn_r _ [22, 18, 23, 24, 25, 26, 27, 28, 29, 30, 31, 32, 33, 34, 35, 36, 37, 38, 39, 40] (by decide +kernel) (by decide +kernel)
set_option maxRecDepth 20000 in
theorem gX11_gearOf_X11_fails : GoodIn wsX11_gearOf (wsV RX11 95 RX11 yX11_fails wsX11_fails) := goodIn_app (goodIn_of _ (by decide +kernel)) ggX11_gearOf_X11_fails
theorem dX11_gearOf_0 : decode cX11_gearOf 0 = .ok (.aload_n 0, 1) := by decide +kernel
theorem dX11_gearOf_1 : decode cX11_gearOf 1 = .ok (.iload_n 1, 1) := by decide +kernel
theorem dX11_gearOf_2 : decode cX11_gearOf 2 = .ok (.invokevirtual 192, 3) := by decide +kernel
theorem dX11_gearOf_5 : decode cX11_gearOf 5 = .ok (.ifCond .eq 18, 3) := by decide +kernel
theorem dX11_gearOf_8 : decode cX11_gearOf 8 = .ok (.aload_n 0, 1) := by decide +kernel
theorem dX11_gearOf_9 : decode cX11_gearOf 9 = .ok (.aload_n 0, 1) := by decide +kernel
theorem dX11_gearOf_10 : decode cX11_gearOf 10 = .ok (.bipush 86, 2) := by decide +kernel
theorem dX11_gearOf_12 : decode cX11_gearOf 12 = .ok (.iload_n 1, 1) := by decide +kernel
theorem dX11_gearOf_13 : decode cX11_gearOf 13 = .ok (.iadd, 1) := by decide +kernel
theorem dX11_gearOf_14 : decode cX11_gearOf 14 = .ok (.invokevirtual 61, 3) := by decide +kernel
theorem dX11_gearOf_17 : decode cX11_gearOf 17 = .ok (.invokevirtual 98, 3) := by decide +kernel
theorem dX11_gearOf_20 : decode cX11_gearOf 20 = .ok (.goto 8, 3) := by decide +kernel
theorem dX11_gearOf_23 : decode cX11_gearOf 23 = .ok (.aload_n 0, 1) := by decide +kernel
theorem dX11_gearOf_24 : decode cX11_gearOf 24 = .ok (.iconst 1, 1) := by decide +kernel
theorem dX11_gearOf_25 : decode cX11_gearOf 25 = .ok (.invokevirtual 95, 3) := by decide +kernel
theorem dX11_gearOf_28 : decode cX11_gearOf 28 = .ok (.ireturn, 1) := by decide +kernel
set_option maxRecDepth 20000 in
theorem ggX11_angleOf_X11_at : GoodIn wsX11_angleOf wsX11_at := goodIn_ca (goodIn_r _ [6, 1, 7, 8, 9, 10, 11, 12, 13, 14, 15, 16, 17, 18, 19, 20, 21, 22, 23, 24] (by decide +kernel) (by decide +kernel)) (goodIn_sub (fun _ h => List.mem_cons_of_mem _ (List.mem_append_right _ h)) (by decide +kernel))
set_option maxRecDepth 20000 in
theorem gX11_angleOf_X11_at : GoodIn wsX11_angleOf (wsV RX11 61 RX11 yX11_at wsX11_at) := goodIn_app (goodIn_of _ (by decide +kernel)) ggX11_angleOf_X11_at
theorem dX11_angleOf_0 : decode cX11_angleOf 0 = .ok (.aload_n 0, 1) := by decide +kernel
theorem dX11_angleOf_1 : decode cX11_angleOf 1 = .ok (.getfield 7, 3) := by decide +kernel
theorem dX11_angleOf_4 : decode cX11_angleOf 4 = .ok (.bipush 16, 2) := by decide +kernel
theorem dX11_angleOf_6 : decode cX11_angleOf 6 = .ok (.aload_n 0, 1) := by decide +kernel
theorem dX11_angleOf_7 : decode cX11_angleOf 7 = .ok (.bipush 86, 2) := by decide +kernel
theorem dX11_angleOf_9 : decode cX11_angleOf 9 = .ok (.iload_n 1, 1) := by decide +kernel
theorem dX11_angleOf_10 : decode cX11_angleOf 10 = .ok (.iadd, 1) := by decide +kernel
theorem dX11_angleOf_11 : decode cX11_angleOf 11 = .ok (.invokevirtual 61, 3) := by decide +kernel
theorem dX11_angleOf_14 : decode cX11_angleOf 14 = .ok (.iadd, 1) := by decide +kernel
theorem dX11_angleOf_15 : decode cX11_angleOf 15 = .ok (.laload, 1) := by decide +kernel
theorem dX11_angleOf_16 : decode cX11_angleOf 16 = .ok (.lreturn, 1) := by decide +kernel
set_option maxRecDepth 20000 in
theorem ggX11_areInLine_X11_isPlanet : GoodIn wsX11_areInLine wsX11_isPlanet := goodIn_ca (goodIn_r _ [6, 7, 8, 9, 5, 10, 11, 12, 13, 14, 19, 20, 21, 22, 23, 24, 25, 26, 27, 28, 29, 30, 31, 32, 33, 34, 35, 36] (by decide +kernel) (by decide +kernel)) (goodIn_sub (fun _ h => List.mem_cons_of_mem _ (List.mem_append_right _ h)) (by decide +kernel))
set_option maxRecDepth 20000 in
theorem gX11_areInLine_X11_isPlanet : GoodIn wsX11_areInLine (wsV RX11 192 RX11 yX11_isPlanet wsX11_isPlanet) := goodIn_app (goodIn_of _ (by decide +kernel)) ggX11_areInLine_X11_isPlanet
set_option maxRecDepth 20000 in
theorem ggX11_areInLine_X11_angleOf : GoodIn wsX11_areInLine wsX11_angleOf := goodIn_ca (goodIn_r _ [18, 11, 7, 8, 9, 5, 10, 19, 20, 21, 22, 23, 24, 25, 26, 27, 28, 29, 30, 31, 32, 33, 34, 35, 36] (by decide +kernel) (by decide +kernel)) (goodIn_sub (fun _ h => List.mem_cons_of_mem _ (List.mem_append_right _ h)) (by decide +kernel))
set_option maxRecDepth 20000 in
theorem gX11_areInLine_X11_angleOf : GoodIn wsX11_areInLine (wsV RX11 195 RX11 yX11_angleOf wsX11_angleOf) := goodIn_app (goodIn_of _ (by decide +kernel)) ggX11_areInLine_X11_angleOf
theorem dX11_areInLine_0 : decode cX11_areInLine 0 = .ok (.aload_n 0, 1) := by decide +kernel
theorem dX11_areInLine_1 : decode cX11_areInLine 1 = .ok (.aload_n 0, 1) := by decide +kernel
theorem dX11_areInLine_2 : decode cX11_areInLine 2 = .ok (.iload_n 1, 1) := by decide +kernel
theorem dX11_areInLine_3 : decode cX11_areInLine 3 = .ok (.invokevirtual 192, 3) := by decide +kernel
theorem dX11_areInLine_6 : decode cX11_areInLine 6 = .ok (.ifCond .eq 11, 3) := by decide +kernel
theorem dX11_areInLine_9 : decode cX11_areInLine 9 = .ok (.aload_n 0, 1) := by decide +kernel
theorem dX11_areInLine_10 : decode cX11_areInLine 10 = .ok (.iload_n 2, 1) := by decide +kernel
theorem dX11_areInLine_11 : decode cX11_areInLine 11 = .ok (.invokevirtual 192, 3) := by decide +kernel
theorem dX11_areInLine_14 : decode cX11_areInLine 14 = .ok (.ifCond .ne 7, 3) := by decide +kernel
theorem dX11_areInLine_17 : decode cX11_areInLine 17 = .ok (.iconst 1, 1) := by decide +kernel
theorem dX11_areInLine_18 : decode cX11_areInLine 18 = .ok (.goto 13, 3) := by decide +kernel
theorem dX11_areInLine_21 : decode cX11_areInLine 21 = .ok (.iload_n 1, 1) := by decide +kernel
theorem dX11_areInLine_22 : decode cX11_areInLine 22 = .ok (.iload_n 2, 1) := by decide +kernel
theorem dX11_areInLine_23 : decode cX11_areInLine 23 = .ok (.if_icmp .ne 7, 3) := by decide +kernel
theorem dX11_areInLine_26 : decode cX11_areInLine 26 = .ok (.iconst 2, 1) := by decide +kernel
theorem dX11_areInLine_27 : decode cX11_areInLine 27 = .ok (.goto 4, 3) := by decide +kernel
theorem dX11_areInLine_30 : decode cX11_areInLine 30 = .ok (.iconst 0, 1) := by decide +kernel
theorem dX11_areInLine_31 : decode cX11_areInLine 31 = .ok (.putfield 49, 3) := by decide +kernel
theorem dX11_areInLine_34 : decode cX11_areInLine 34 = .ok (.aload_n 0, 1) := by decide +kernel
theorem dX11_areInLine_35 : decode cX11_areInLine 35 = .ok (.getfield 49, 3) := by decide +kernel
theorem dX11_areInLine_38 : decode cX11_areInLine 38 = .ok (.ifCond .ne 21, 3) := by decide +kernel
theorem dX11_areInLine_41 : decode cX11_areInLine 41 = .ok (.aload_n 0, 1) := by decide +kernel
theorem dX11_areInLine_42 : decode cX11_areInLine 42 = .ok (.iload_n 1, 1) := by decide +kernel
theorem dX11_areInLine_43 : decode cX11_areInLine 43 = .ok (.invokevirtual 195, 3) := by decide +kernel
theorem dX11_areInLine_46 : decode cX11_areInLine 46 = .ok (.aload_n 0, 1) := by decide +kernel
theorem dX11_areInLine_47 : decode cX11_areInLine 47 = .ok (.iload_n 2, 1) := by decide +kernel
theorem dX11_areInLine_48 : decode cX11_areInLine 48 = .ok (.invokevirtual 195, 3) := by decide +kernel
theorem dX11_areInLine_51 : decode cX11_areInLine 51 = .ok (.lcmp, 1) := by decide +kernel
theorem dX11_areInLine_52 : decode cX11_areInLine 52 = .ok (.ifCond .ne 7, 3) := by decide +kernel
theorem dX11_areInLine_55 : decode cX11_areInLine 55 = .ok (.iconst 1, 1) := by decide +kernel
theorem dX11_areInLine_56 : decode cX11_areInLine 56 = .ok (.goto 4, 3) := by decide +kernel
theorem dX11_areInLine_59 : decode cX11_areInLine 59 = .ok (.iconst 0, 1) := by decide +kernel
theorem dX11_areInLine_60 : decode cX11_areInLine 60 = .ok (.ireturn, 1) := by decide +kernel
set_option maxRecDepth 20000 in
theorem ggX11_nextEclipse_X11_isPlanet : GoodIn wsX11_nextEclipse wsX11_isPlanet := goodIn_ca (goodIn_r _ [8, 9, 10, 11, 7, 12, 3, 13, 14, 15, 45, 46, 47, 48, 49, 50, 51, 52, 53, 54, 55, 56, 57, 58, 59, 60, 61, 62] (by decide +kernel) (by decide +kernel)) (goodIn_sub (fun _ h => List.mem_cons_of_mem _ (List.mem_append_left _ (List.mem_append_right _ h))) (by decide +kernel))
set_option maxRecDepth 20000 in
theorem gX11_nextEclipse_X11_isPlanet : GoodIn wsX11_nextEclipse (wsV RX11 192 RX11 yX11_isPlanet wsX11_isPlanet) := goodIn_app (goodIn_of _ (by decide +kernel)) ggX11_nextEclipse_X11_isPlanet
set_option maxRecDepth 20000 in
theorem ggX11_nextEclipse_X11_isGear : GoodIn wsX11_nextEclipse wsX11_isGear := goodIn_ca (goodIn_r _ [19, 9, 10, 11, 7, 12, 3, 13, 14, 15, 45, 46, 47, 48, 49, 50, 51, 52, 53, 54, 55, 56, 57, 58, 59, 60, 61, 62] (by decide +kernel) (by decide +kernel)) (goodIn_sub (fun _ h => List.mem_cons_of_mem _ (List.mem_append_left _ (List.mem_append_right _ h))) (by decide +kernel))
set_option maxRecDepth 20000 in
theorem gX11_nextEclipse_X11_isGear : GoodIn wsX11_nextEclipse (wsV RX11 69 RX11 yX11_isGear wsX11_isGear) := goodIn_app (goodIn_of _ (by decide +kernel)) ggX11_nextEclipse_X11_isGear
set_option maxRecDepth 20000 in
theorem ggX11_nextEclipse_X11_fails : GoodIn wsX11_nextEclipse wsX11_fails := goodIn_r _ [23, 24, 45, 46, 47, 48, 49, 50, 51, 52, 53, 54, 55, 56, 57, 58, 59, 60, 61, 62] (by decide +kernel) (by decide +kernel)
set_option maxRecDepth 20000 in
theorem gX11_nextEclipse_X11_fails : GoodIn wsX11_nextEclipse (wsV RX11 95 RX11 yX11_fails wsX11_fails) := goodIn_app (goodIn_of _ (by decide +kernel)) ggX11_nextEclipse_X11_fails
set_option maxRecDepth 20000 in
theorem ggX11_nextEclipse_X11_turns : GoodIn wsX11_nextEclipse wsX11_turns := goodIn_ca (goodIn_ca (goodIn_r _ [28, 1, 2, 29, 30, 31, 32, 7, 33, 3, 34, 35, 36, 37, 9, 10, 11, 12, 45, 46, 47, 48, 49, 50, 51, 52, 53, 54, 55, 56, 57, 58, 59, 60, 61, 62] (by decide +kernel) (by decide +kernel)) (goodIn_sub (fun _ h => List.mem_cons_of_mem _ (List.mem_append_left _ (List.mem_append_right _ h))) (by decide +kernel))) (goodIn_sub (fun _ h => List.mem_cons_of_mem _ (List.mem_append_right _ h)) (by decide +kernel))
set_option maxRecDepth 20000 in
theorem gX11_nextEclipse_X11_turns : GoodIn wsX11_nextEclipse (wsV RX11 84 RX11 yX11_turns wsX11_turns) := goodIn_app (goodIn_of _ (by decide +kernel)) ggX11_nextEclipse_X11_turns
set_option maxRecDepth 20000 in
theorem ggX11_nextEclipse_X11_at : GoodIn wsX11_nextEclipse wsX11_at := goodIn_ca (goodIn_r _ [12, 3, 45, 46, 47, 48, 49, 50, 51, 52, 53, 54, 55, 56, 57, 58, 59, 60, 61, 62] (by decide +kernel) (by decide +kernel)) (goodIn_sub (fun _ h => List.mem_cons_of_mem _ (List.mem_append_left _ (List.mem_append_right _ h))) (by decide +kernel))
set_option maxRecDepth 20000 in
theorem gX11_nextEclipse_X11_at : GoodIn wsX11_nextEclipse (wsV RX11 61 RX11 yX11_at wsX11_at) := goodIn_app (goodIn_of _ (by decide +kernel)) ggX11_nextEclipse_X11_at
set_option maxRecDepth 20000 in
theorem ggX11_nextEclipse_X11_rest : GoodIn wsX11_nextEclipse wsX11_rest := goodIn_r _ [40, 29] (by decide +kernel) (by decide +kernel)
set_option maxRecDepth 20000 in
theorem gX11_nextEclipse_X11_rest : GoodIn wsX11_nextEclipse (va_wsS RX11 140 yX11_rest wsX11_rest) := goodIn_app (goodIn_of _ (by decide +kernel)) ggX11_nextEclipse_X11_rest
set_option maxRecDepth 20000 in
theorem ggX11_nextEclipse_X11_done : GoodIn wsX11_nextEclipse wsX11_done := goodIn_r _ [44, 24, 45, 46, 47, 48, 49, 50, 51, 52, 53, 54, 55, 56, 57, 58, 59, 60, 61, 62] (by decide +kernel) (by decide +kernel)
set_option maxRecDepth 20000 in
theorem gX11_nextEclipse_X11_done : GoodIn wsX11_nextEclipse (wsV RX11 98 RX11 yX11_done wsX11_done) := goodIn_app (goodIn_of _ (by decide +kernel)) ggX11_nextEclipse_X11_done
theorem dX11_nextEclipse_0 : decode cX11_nextEclipse 0 = .ok (.aload_n 0, 1) := by decide +kernel
theorem dX11_nextEclipse_1 : decode cX11_nextEclipse 1 = .ok (.iload_n 1, 1) := by decide +kernel
theorem dX11_nextEclipse_2 : decode cX11_nextEclipse 2 = .ok (.invokevirtual 192, 3) := by decide +kernel
theorem dX11_nextEclipse_5 : decode cX11_nextEclipse 5 = .ok (.ifCond .eq 19, 3) := by decide +kernel
theorem dX11_nextEclipse_8 : decode cX11_nextEclipse 8 = .ok (.aload_n 0, 1) := by decide +kernel
theorem dX11_nextEclipse_9 : decode cX11_nextEclipse 9 = .ok (.iload_n 2, 1) := by decide +kernel
theorem dX11_nextEclipse_10 : decode cX11_nextEclipse 10 = .ok (.invokevirtual 192, 3) := by decide +kernel
theorem dX11_nextEclipse_13 : decode cX11_nextEclipse 13 = .ok (.ifCond .eq 11, 3) := by decide +kernel
theorem dX11_nextEclipse_16 : decode cX11_nextEclipse 16 = .ok (.aload_n 0, 1) := by decide +kernel
theorem dX11_nextEclipse_17 : decode cX11_nextEclipse 17 = .ok (.iload_n 3, 1) := by decide +kernel
theorem dX11_nextEclipse_18 : decode cX11_nextEclipse 18 = .ok (.invokevirtual 69, 3) := by decide +kernel
theorem dX11_nextEclipse_21 : decode cX11_nextEclipse 21 = .ok (.ifCond .ne 9, 3) := by decide +kernel
theorem dX11_nextEclipse_24 : decode cX11_nextEclipse 24 = .ok (.aload_n 0, 1) := by decide +kernel
theorem dX11_nextEclipse_25 : decode cX11_nextEclipse 25 = .ok (.iconst 1, 1) := by decide +kernel
theorem dX11_nextEclipse_26 : decode cX11_nextEclipse 26 = .ok (.invokevirtual 95, 3) := by decide +kernel
theorem dX11_nextEclipse_29 : decode cX11_nextEclipse 29 = .ok (.ireturn, 1) := by decide +kernel
theorem dX11_nextEclipse_30 : decode cX11_nextEclipse 30 = .ok (.iload_n 1, 1) := by decide +kernel
theorem dX11_nextEclipse_31 : decode cX11_nextEclipse 31 = .ok (.iload_n 2, 1) := by decide +kernel
theorem dX11_nextEclipse_32 : decode cX11_nextEclipse 32 = .ok (.if_icmp .ne 9, 3) := by decide +kernel
theorem dX11_nextEclipse_35 : decode cX11_nextEclipse 35 = .ok (.aload_n 0, 1) := by decide +kernel
theorem dX11_nextEclipse_36 : decode cX11_nextEclipse 36 = .ok (.iconst 2, 1) := by decide +kernel
theorem dX11_nextEclipse_37 : decode cX11_nextEclipse 37 = .ok (.invokevirtual 95, 3) := by decide +kernel
theorem dX11_nextEclipse_40 : decode cX11_nextEclipse 40 = .ok (.ireturn, 1) := by decide +kernel
theorem dX11_nextEclipse_41 : decode cX11_nextEclipse 41 = .ok (.aload_n 0, 1) := by decide +kernel
theorem dX11_nextEclipse_42 : decode cX11_nextEclipse 42 = .ok (.iload_n 3, 1) := by decide +kernel
theorem dX11_nextEclipse_43 : decode cX11_nextEclipse 43 = .ok (.invokevirtual 84, 3) := by decide +kernel
theorem dX11_nextEclipse_46 : decode cX11_nextEclipse 46 = .ok (.aload_n 0, 1) := by decide +kernel
theorem dX11_nextEclipse_47 : decode cX11_nextEclipse 47 = .ok (.bipush 86, 2) := by decide +kernel
theorem dX11_nextEclipse_49 : decode cX11_nextEclipse 49 = .ok (.iload_n 1, 1) := by decide +kernel
theorem dX11_nextEclipse_50 : decode cX11_nextEclipse 50 = .ok (.iadd, 1) := by decide +kernel
theorem dX11_nextEclipse_51 : decode cX11_nextEclipse 51 = .ok (.invokevirtual 61, 3) := by decide +kernel
theorem dX11_nextEclipse_54 : decode cX11_nextEclipse 54 = .ok (.istore 4, 2) := by decide +kernel
theorem dX11_nextEclipse_56 : decode cX11_nextEclipse 56 = .ok (.aload_n 0, 1) := by decide +kernel
theorem dX11_nextEclipse_57 : decode cX11_nextEclipse 57 = .ok (.bipush 86, 2) := by decide +kernel
theorem dX11_nextEclipse_59 : decode cX11_nextEclipse 59 = .ok (.iload_n 2, 1) := by decide +kernel
theorem dX11_nextEclipse_60 : decode cX11_nextEclipse 60 = .ok (.iadd, 1) := by decide +kernel
theorem dX11_nextEclipse_61 : decode cX11_nextEclipse 61 = .ok (.invokevirtual 61, 3) := by decide +kernel
theorem dX11_nextEclipse_64 : decode cX11_nextEclipse 64 = .ok (.istore 5, 2) := by decide +kernel
theorem dX11_nextEclipse_66 : decode cX11_nextEclipse 66 = .ok (.aload_n 0, 1) := by decide +kernel
theorem dX11_nextEclipse_67 : decode cX11_nextEclipse 67 = .ok (.getfield 39, 3) := by decide +kernel
theorem dX11_nextEclipse_70 : decode cX11_nextEclipse 70 = .ok (.iload 4, 2) := by decide +kernel
theorem dX11_nextEclipse_72 : decode cX11_nextEclipse 72 = .ok (.baload, 1) := by decide +kernel
theorem dX11_nextEclipse_73 : decode cX11_nextEclipse 73 = .ok (.ifCond .eq 13, 3) := by decide +kernel
theorem dX11_nextEclipse_76 : decode cX11_nextEclipse 76 = .ok (.aload_n 0, 1) := by decide +kernel
theorem dX11_nextEclipse_77 : decode cX11_nextEclipse 77 = .ok (.getfield 39, 3) := by decide +kernel
theorem dX11_nextEclipse_80 : decode cX11_nextEclipse 80 = .ok (.iload 5, 2) := by decide +kernel
theorem dX11_nextEclipse_82 : decode cX11_nextEclipse 82 = .ok (.baload, 1) := by decide +kernel
theorem dX11_nextEclipse_83 : decode cX11_nextEclipse 83 = .ok (.ifCond .ne 9, 3) := by decide +kernel
theorem dX11_nextEclipse_86 : decode cX11_nextEclipse 86 = .ok (.aload_n 0, 1) := by decide +kernel
theorem dX11_nextEclipse_87 : decode cX11_nextEclipse 87 = .ok (.iconst 3, 1) := by decide +kernel
theorem dX11_nextEclipse_88 : decode cX11_nextEclipse 88 = .ok (.invokevirtual 95, 3) := by decide +kernel
theorem dX11_nextEclipse_91 : decode cX11_nextEclipse 91 = .ok (.ireturn, 1) := by decide +kernel
theorem dX11_nextEclipse_92 : decode cX11_nextEclipse 92 = .ok (.aload_n 0, 1) := by decide +kernel
theorem dX11_nextEclipse_93 : decode cX11_nextEclipse 93 = .ok (.getfield 36, 3) := by decide +kernel
theorem dX11_nextEclipse_96 : decode cX11_nextEclipse 96 = .ok (.iload 4, 2) := by decide +kernel
theorem dX11_nextEclipse_98 : decode cX11_nextEclipse 98 = .ok (.laload, 1) := by decide +kernel
theorem dX11_nextEclipse_99 : decode cX11_nextEclipse 99 = .ok (.aload_n 0, 1) := by decide +kernel
theorem dX11_nextEclipse_100 : decode cX11_nextEclipse 100 = .ok (.getfield 36, 3) := by decide +kernel
theorem dX11_nextEclipse_103 : decode cX11_nextEclipse 103 = .ok (.iload 5, 2) := by decide +kernel
theorem dX11_nextEclipse_105 : decode cX11_nextEclipse 105 = .ok (.laload, 1) := by decide +kernel
theorem dX11_nextEclipse_106 : decode cX11_nextEclipse 106 = .ok (.lsub, 1) := by decide +kernel
theorem dX11_nextEclipse_107 : decode cX11_nextEclipse 107 = .ok (.invokestatic 140, 3) := by decide +kernel
theorem dX11_nextEclipse_110 : decode cX11_nextEclipse 110 = .ok (.lstore 6, 2) := by decide +kernel
theorem dX11_nextEclipse_112 : decode cX11_nextEclipse 112 = .ok (.aload_n 0, 1) := by decide +kernel
theorem dX11_nextEclipse_113 : decode cX11_nextEclipse 113 = .ok (.getfield 7, 3) := by decide +kernel
theorem dX11_nextEclipse_116 : decode cX11_nextEclipse 116 = .ok (.bipush 16, 2) := by decide +kernel
theorem dX11_nextEclipse_118 : decode cX11_nextEclipse 118 = .ok (.iload 4, 2) := by decide +kernel
theorem dX11_nextEclipse_120 : decode cX11_nextEclipse 120 = .ok (.iadd, 1) := by decide +kernel
theorem dX11_nextEclipse_121 : decode cX11_nextEclipse 121 = .ok (.laload, 1) := by decide +kernel
theorem dX11_nextEclipse_122 : decode cX11_nextEclipse 122 = .ok (.aload_n 0, 1) := by decide +kernel
theorem dX11_nextEclipse_123 : decode cX11_nextEclipse 123 = .ok (.getfield 7, 3) := by decide +kernel
theorem dX11_nextEclipse_126 : decode cX11_nextEclipse 126 = .ok (.bipush 16, 2) := by decide +kernel
theorem dX11_nextEclipse_128 : decode cX11_nextEclipse 128 = .ok (.iload 5, 2) := by decide +kernel
theorem dX11_nextEclipse_130 : decode cX11_nextEclipse 130 = .ok (.iadd, 1) := by decide +kernel
theorem dX11_nextEclipse_131 : decode cX11_nextEclipse 131 = .ok (.laload, 1) := by decide +kernel
theorem dX11_nextEclipse_132 : decode cX11_nextEclipse 132 = .ok (.lsub, 1) := by decide +kernel
theorem dX11_nextEclipse_133 : decode cX11_nextEclipse 133 = .ok (.invokestatic 140, 3) := by decide +kernel
theorem dX11_nextEclipse_136 : decode cX11_nextEclipse 136 = .ok (.lstore 8, 2) := by decide +kernel
theorem dX11_nextEclipse_138 : decode cX11_nextEclipse 138 = .ok (.iconst 1, 1) := by decide +kernel
theorem dX11_nextEclipse_139 : decode cX11_nextEclipse 139 = .ok (.istore 10, 2) := by decide +kernel
theorem dX11_nextEclipse_141 : decode cX11_nextEclipse 141 = .ok (.iload 10, 2) := by decide +kernel
theorem dX11_nextEclipse_143 : decode cX11_nextEclipse 143 = .ok (.sipush 999, 3) := by decide +kernel
theorem dX11_nextEclipse_146 : decode cX11_nextEclipse 146 = .ok (.if_icmp .gt 33, 3) := by decide +kernel
theorem dX11_nextEclipse_149 : decode cX11_nextEclipse 149 = .ok (.lload 8, 2) := by decide +kernel
theorem dX11_nextEclipse_151 : decode cX11_nextEclipse 151 = .ok (.lload 6, 2) := by decide +kernel
theorem dX11_nextEclipse_153 : decode cX11_nextEclipse 153 = .ok (.ladd, 1) := by decide +kernel
theorem dX11_nextEclipse_154 : decode cX11_nextEclipse 154 = .ok (.invokestatic 140, 3) := by decide +kernel
theorem dX11_nextEclipse_157 : decode cX11_nextEclipse 157 = .ok (.lstore 8, 2) := by decide +kernel
theorem dX11_nextEclipse_159 : decode cX11_nextEclipse 159 = .ok (.lload 8, 2) := by decide +kernel
theorem dX11_nextEclipse_161 : decode cX11_nextEclipse 161 = .ok (.lconst 0, 1) := by decide +kernel
theorem dX11_nextEclipse_162 : decode cX11_nextEclipse 162 = .ok (.lcmp, 1) := by decide +kernel
theorem dX11_nextEclipse_163 : decode cX11_nextEclipse 163 = .ok (.ifCond .ne 10, 3) := by decide +kernel
theorem dX11_nextEclipse_166 : decode cX11_nextEclipse 166 = .ok (.aload_n 0, 1) := by decide +kernel
theorem dX11_nextEclipse_167 : decode cX11_nextEclipse 167 = .ok (.iload 10, 2) := by decide +kernel
theorem dX11_nextEclipse_169 : decode cX11_nextEclipse 169 = .ok (.invokevirtual 98, 3) := by decide +kernel
theorem dX11_nextEclipse_172 : decode cX11_nextEclipse 172 = .ok (.ireturn, 1) := by decide +kernel
theorem dX11_nextEclipse_173 : decode cX11_nextEclipse 173 = .ok (.iinc 10 1, 3) := by decide +kernel
theorem dX11_nextEclipse_176 : decode cX11_nextEclipse 176 = .ok (.goto (-35), 3) := by decide +kernel
theorem dX11_nextEclipse_179 : decode cX11_nextEclipse 179 = .ok (.aload_n 0, 1) := by decide +kernel
theorem dX11_nextEclipse_180 : decode cX11_nextEclipse 180 = .ok (.iconst 4, 1) := by decide +kernel
theorem dX11_nextEclipse_181 : decode cX11_nextEclipse 181 = .ok (.invokevirtual 95, 3) := by decide +kernel
theorem dX11_nextEclipse_184 : decode cX11_nextEclipse 184 = .ok (.ireturn, 1) := by decide +kernel
set_option maxRecDepth 20000 in
theorem ggX11_nextEclipseByTurns_X11_nextEclipse : GoodIn wsX11_nextEclipseByTurns wsX11_nextEclipse := goodIn_ca (goodIn_ca (goodIn_r _ [5, 6, 7, 8, 9, 10, 11, 4, 12, 13, 14, 15, 16, 17, 18, 19, 20, 21, 22, 23, 24, 25, 26, 27, 28, 29, 30, 31, 32, 33, 34, 35, 36, 37, 38, 39, 40, 41, 42, 43, 44, 45, 46, 47, 48, 49, 50, 51, 52, 53, 54, 55, 56, 57, 58, 59, 60, 61, 62, 63, 64, 65, 66] (by decide +kernel) (by decide +kernel)) (goodIn_sub (fun _ h => List.mem_cons_of_mem _ (List.mem_append_left _ (List.mem_append_right _ h))) (by decide +kernel))) (goodIn_sub (fun _ h => List.mem_cons_of_mem _ (List.mem_append_right _ h)) (by decide +kernel))
set_option maxRecDepth 20000 in
theorem gX11_nextEclipseByTurns_X11_nextEclipse : GoodIn wsX11_nextEclipseByTurns (wsV RX11 199 RX11 yX11_nextEclipse wsX11_nextEclipse) := goodIn_app (goodIn_of _ (by decide +kernel)) ggX11_nextEclipseByTurns_X11_nextEclipse
theorem dX11_nextEclipseByTurns_0 : decode cX11_nextEclipseByTurns 0 = .ok (.aload_n 0, 1) := by decide +kernel
theorem dX11_nextEclipseByTurns_1 : decode cX11_nextEclipseByTurns 1 = .ok (.iload_n 1, 1) := by decide +kernel
theorem dX11_nextEclipseByTurns_2 : decode cX11_nextEclipseByTurns 2 = .ok (.iload_n 2, 1) := by decide +kernel
theorem dX11_nextEclipseByTurns_3 : decode cX11_nextEclipseByTurns 3 = .ok (.iload_n 3, 1) := by decide +kernel
theorem dX11_nextEclipseByTurns_4 : decode cX11_nextEclipseByTurns 4 = .ok (.invokevirtual 199, 3) := by decide +kernel
theorem dX11_nextEclipseByTurns_7 : decode cX11_nextEclipseByTurns 7 = .ok (.ireturn, 1) := by decide +kernel
set_option maxRecDepth 20000 in
theorem ggX11_isBehind_X11_angleOf : GoodIn wsX11_isBehind wsX11_angleOf := goodIn_ca (goodIn_r _ [5, 6, 7, 8, 9, 4, 10, 11, 12, 13, 14, 15, 16, 17, 18, 19, 20, 21, 22, 23, 24, 25, 26, 27, 28] (by decide +kernel) (by decide +kernel)) (goodIn_sub (fun _ h => List.mem_cons_of_mem _ (List.mem_append_right _ h)) (by decide +kernel))
set_option maxRecDepth 20000 in
theorem gX11_isBehind_X11_angleOf : GoodIn wsX11_isBehind (wsV RX11 195 RX11 yX11_angleOf wsX11_angleOf) := goodIn_app (goodIn_of _ (by decide +kernel)) ggX11_isBehind_X11_angleOf
theorem dX11_isBehind_0 : decode cX11_isBehind 0 = .ok (.aload_n 0, 1) := by decide +kernel
theorem dX11_isBehind_1 : decode cX11_isBehind 1 = .ok (.iload_n 2, 1) := by decide +kernel
theorem dX11_isBehind_2 : decode cX11_isBehind 2 = .ok (.invokevirtual 195, 3) := by decide +kernel
theorem dX11_isBehind_5 : decode cX11_isBehind 5 = .ok (.aload_n 0, 1) := by decide +kernel
theorem dX11_isBehind_6 : decode cX11_isBehind 6 = .ok (.iload_n 1, 1) := by decide +kernel
theorem dX11_isBehind_7 : decode cX11_isBehind 7 = .ok (.invokevirtual 195, 3) := by decide +kernel
theorem dX11_isBehind_10 : decode cX11_isBehind 10 = .ok (.lsub, 1) := by decide +kernel
theorem dX11_isBehind_11 : decode cX11_isBehind 11 = .ok (.lstore_n 3, 1) := by decide +kernel
theorem dX11_isBehind_12 : decode cX11_isBehind 12 = .ok (.lload_n 3, 1) := by decide +kernel
theorem dX11_isBehind_13 : decode cX11_isBehind 13 = .ok (.lconst 0, 1) := by decide +kernel
theorem dX11_isBehind_14 : decode cX11_isBehind 14 = .ok (.lcmp, 1) := by decide +kernel
theorem dX11_isBehind_15 : decode cX11_isBehind 15 = .ok (.ifCond .gt 14, 3) := by decide +kernel
theorem dX11_isBehind_18 : decode cX11_isBehind 18 = .ok (.lload_n 3, 1) := by decide +kernel
theorem dX11_isBehind_19 : decode cX11_isBehind 19 = .ok (.lconst 0, 1) := by decide +kernel
theorem dX11_isBehind_20 : decode cX11_isBehind 20 = .ok (.lcmp, 1) := by decide +kernel
theorem dX11_isBehind_21 : decode cX11_isBehind 21 = .ok (.ifCond .ne 12, 3) := by decide +kernel
theorem dX11_isBehind_24 : decode cX11_isBehind 24 = .ok (.iload_n 1, 1) := by decide +kernel
theorem dX11_isBehind_25 : decode cX11_isBehind 25 = .ok (.iload_n 2, 1) := by decide +kernel
theorem dX11_isBehind_26 : decode cX11_isBehind 26 = .ok (.if_icmp .ge 7, 3) := by decide +kernel
theorem dX11_isBehind_29 : decode cX11_isBehind 29 = .ok (.iconst 1, 1) := by decide +kernel
theorem dX11_isBehind_30 : decode cX11_isBehind 30 = .ok (.goto 4, 3) := by decide +kernel
theorem dX11_isBehind_33 : decode cX11_isBehind 33 = .ok (.iconst 0, 1) := by decide +kernel
theorem dX11_isBehind_34 : decode cX11_isBehind 34 = .ok (.ireturn, 1) := by decide +kernel
set_option maxRecDepth 20000 in
theorem ggX11_planetByAngle_X11_at : GoodIn wsX11_planetByAngle wsX11_at := goodIn_ca (goodIn_r _ [5, 6, 24, 25, 26, 27, 28, 29, 30, 31, 32, 33, 34, 35, 36, 37, 38, 39, 40, 41] (by decide +kernel) (by decide +kernel)) (goodIn_sub (fun _ h => List.mem_cons_of_mem _ (List.mem_append_right _ h)) (by decide +kernel))
set_option maxRecDepth 20000 in
theorem gX11_planetByAngle_X11_at : GoodIn wsX11_planetByAngle (wsV RX11 61 RX11 yX11_at wsX11_at) := goodIn_app (goodIn_of _ (by decide +kernel)) ggX11_planetByAngle_X11_at
set_option maxRecDepth 20000 in
theorem ggX11_planetByAngle_X11_isBehind : GoodIn wsX11_planetByAngle wsX11_isBehind := goodIn_ca (goodIn_r _ [10, 11, 12, 13, 4, 14, 6, 1, 2, 3, 5, 24, 25, 26, 27, 28, 29, 30, 31, 32, 33, 34, 35, 36, 37, 38, 39, 40, 41] (by decide +kernel) (by decide +kernel)) (goodIn_sub (fun _ h => List.mem_cons_of_mem _ (List.mem_append_right _ h)) (by decide +kernel))
set_option maxRecDepth 20000 in
theorem gX11_planetByAngle_X11_isBehind : GoodIn wsX11_planetByAngle (wsV RX11 202 RX11 yX11_isBehind wsX11_isBehind) := goodIn_app (goodIn_of _ (by decide +kernel)) ggX11_planetByAngle_X11_isBehind
set_option maxRecDepth 20000 in
theorem ggX11_planetByAngle_X11_done : GoodIn wsX11_planetByAngle wsX11_done := goodIn_r _ [18, 19, 24, 25, 26, 27, 28, 29, 30, 31, 32, 33, 34, 35, 36, 37, 38, 39, 40, 41] (by decide +kernel) (by decide +kernel)
set_option maxRecDepth 20000 in
theorem gX11_planetByAngle_X11_done : GoodIn wsX11_planetByAngle (wsV RX11 98 RX11 yX11_done wsX11_done) := goodIn_app (goodIn_of _ (by decide +kernel)) ggX11_planetByAngle_X11_done
set_option maxRecDepth 20000 in
theorem ggX11_planetByAngle_X11_fails : GoodIn wsX11_planetByAngle wsX11_fails := goodIn_r _ [23, 19, 24, 25, 26, 27, 28, 29, 30, 31, 32, 33, 34, 35, 36, 37, 38, 39, 40, 41] (by decide +kernel) (by decide +kernel)
set_option maxRecDepth 20000 in
theorem gX11_planetByAngle_X11_fails : GoodIn wsX11_planetByAngle (wsV RX11 95 RX11 yX11_fails wsX11_fails) := goodIn_app (goodIn_of _ (by decide +kernel)) ggX11_planetByAngle_X11_fails
theorem dX11_planetByAngle_0 : decode cX11_planetByAngle 0 = .ok (.iconst 0, 1) := by decide +kernel
theorem dX11_planetByAngle_1 : decode cX11_planetByAngle 1 = .ok (.istore_n 2, 1) := by decide +kernel
theorem dX11_planetByAngle_2 : decode cX11_planetByAngle 2 = .ok (.iload_n 2, 1) := by decide +kernel
theorem dX11_planetByAngle_3 : decode cX11_planetByAngle 3 = .ok (.aload_n 0, 1) := by decide +kernel
theorem dX11_planetByAngle_4 : decode cX11_planetByAngle 4 = .ok (.iconst 1, 1) := by decide +kernel
theorem dX11_planetByAngle_5 : decode cX11_planetByAngle 5 = .ok (.invokevirtual 61, 3) := by decide +kernel
theorem dX11_planetByAngle_8 : decode cX11_planetByAngle 8 = .ok (.if_icmp .ge 59, 3) := by decide +kernel
theorem dX11_planetByAngle_11 : decode cX11_planetByAngle 11 = .ok (.iconst 0, 1) := by decide +kernel
theorem dX11_planetByAngle_12 : decode cX11_planetByAngle 12 = .ok (.istore_n 3, 1) := by decide +kernel
theorem dX11_planetByAngle_13 : decode cX11_planetByAngle 13 = .ok (.iconst 0, 1) := by decide +kernel
theorem dX11_planetByAngle_14 : decode cX11_planetByAngle 14 = .ok (.istore 4, 2) := by decide +kernel
theorem dX11_planetByAngle_16 : decode cX11_planetByAngle 16 = .ok (.iload 4, 2) := by decide +kernel
theorem dX11_planetByAngle_18 : decode cX11_planetByAngle 18 = .ok (.aload_n 0, 1) := by decide +kernel
theorem dX11_planetByAngle_19 : decode cX11_planetByAngle 19 = .ok (.iconst 1, 1) := by decide +kernel
theorem dX11_planetByAngle_20 : decode cX11_planetByAngle 20 = .ok (.invokevirtual 61, 3) := by decide +kernel
theorem dX11_planetByAngle_23 : decode cX11_planetByAngle 23 = .ok (.if_icmp .ge 27, 3) := by decide +kernel
theorem dX11_planetByAngle_26 : decode cX11_planetByAngle 26 = .ok (.iload_n 3, 1) := by decide +kernel
theorem dX11_planetByAngle_27 : decode cX11_planetByAngle 27 = .ok (.aload_n 0, 1) := by decide +kernel
theorem dX11_planetByAngle_28 : decode cX11_planetByAngle 28 = .ok (.iload 4, 2) := by decide +kernel
theorem dX11_planetByAngle_30 : decode cX11_planetByAngle 30 = .ok (.iload_n 2, 1) := by decide +kernel
theorem dX11_planetByAngle_31 : decode cX11_planetByAngle 31 = .ok (.invokevirtual 202, 3) := by decide +kernel
theorem dX11_planetByAngle_34 : decode cX11_planetByAngle 34 = .ok (.ifCond .eq 7, 3) := by decide +kernel
theorem dX11_planetByAngle_37 : decode cX11_planetByAngle 37 = .ok (.iconst 1, 1) := by decide +kernel
theorem dX11_planetByAngle_38 : decode cX11_planetByAngle 38 = .ok (.goto 4, 3) := by decide +kernel
theorem dX11_planetByAngle_41 : decode cX11_planetByAngle 41 = .ok (.iconst 0, 1) := by decide +kernel
theorem dX11_planetByAngle_42 : decode cX11_planetByAngle 42 = .ok (.iadd, 1) := by decide +kernel
theorem dX11_planetByAngle_43 : decode cX11_planetByAngle 43 = .ok (.istore_n 3, 1) := by decide +kernel
theorem dX11_planetByAngle_44 : decode cX11_planetByAngle 44 = .ok (.iinc 4 1, 3) := by decide +kernel
theorem dX11_planetByAngle_47 : decode cX11_planetByAngle 47 = .ok (.goto (-31), 3) := by decide +kernel
theorem dX11_planetByAngle_50 : decode cX11_planetByAngle 50 = .ok (.iload_n 3, 1) := by decide +kernel
theorem dX11_planetByAngle_51 : decode cX11_planetByAngle 51 = .ok (.iload_n 1, 1) := by decide +kernel
theorem dX11_planetByAngle_52 : decode cX11_planetByAngle 52 = .ok (.if_icmp .ne 9, 3) := by decide +kernel
theorem dX11_planetByAngle_55 : decode cX11_planetByAngle 55 = .ok (.aload_n 0, 1) := by decide +kernel
theorem dX11_planetByAngle_56 : decode cX11_planetByAngle 56 = .ok (.iload_n 2, 1) := by decide +kernel
theorem dX11_planetByAngle_57 : decode cX11_planetByAngle 57 = .ok (.invokevirtual 98, 3) := by decide +kernel
theorem dX11_planetByAngle_60 : decode cX11_planetByAngle 60 = .ok (.ireturn, 1) := by decide +kernel
theorem dX11_planetByAngle_61 : decode cX11_planetByAngle 61 = .ok (.iinc 2 1, 3) := by decide +kernel
theorem dX11_planetByAngle_64 : decode cX11_planetByAngle 64 = .ok (.goto (-62), 3) := by decide +kernel
theorem dX11_planetByAngle_67 : decode cX11_planetByAngle 67 = .ok (.aload_n 0, 1) := by decide +kernel
theorem dX11_planetByAngle_68 : decode cX11_planetByAngle 68 = .ok (.iconst 1, 1) := by decide +kernel
theorem dX11_planetByAngle_69 : decode cX11_planetByAngle 69 = .ok (.invokevirtual 95, 3) := by decide +kernel
theorem dX11_planetByAngle_72 : decode cX11_planetByAngle 72 = .ok (.ireturn, 1) := by decide +kernel
theorem dX11_isPair_0 : decode cX11_isPair 0 = .ok (.iload_n 1, 1) := by decide +kernel
theorem dX11_isPair_1 : decode cX11_isPair 1 = .ok (.iload_n 2, 1) := by decide +kernel
theorem dX11_isPair_2 : decode cX11_isPair 2 = .ok (.if_icmp .eq 36, 3) := by decide +kernel
theorem dX11_isPair_5 : decode cX11_isPair 5 = .ok (.aload_n 0, 1) := by decide +kernel
theorem dX11_isPair_6 : decode cX11_isPair 6 = .ok (.getfield 7, 3) := by decide +kernel
theorem dX11_isPair_9 : decode cX11_isPair 9 = .ok (.bipush 6, 2) := by decide +kernel
theorem dX11_isPair_11 : decode cX11_isPair 11 = .ok (.iload_n 1, 1) := by decide +kernel
theorem dX11_isPair_12 : decode cX11_isPair 12 = .ok (.iadd, 1) := by decide +kernel
theorem dX11_isPair_13 : decode cX11_isPair 13 = .ok (.laload, 1) := by decide +kernel
theorem dX11_isPair_14 : decode cX11_isPair 14 = .ok (.iload 4, 2) := by decide +kernel
theorem dX11_isPair_16 : decode cX11_isPair 16 = .ok (.i2l, 1) := by decide +kernel
theorem dX11_isPair_17 : decode cX11_isPair 17 = .ok (.lmul, 1) := by decide +kernel
theorem dX11_isPair_18 : decode cX11_isPair 18 = .ok (.aload_n 0, 1) := by decide +kernel
theorem dX11_isPair_19 : decode cX11_isPair 19 = .ok (.getfield 7, 3) := by decide +kernel
theorem dX11_isPair_22 : decode cX11_isPair 22 = .ok (.bipush 6, 2) := by decide +kernel
theorem dX11_isPair_24 : decode cX11_isPair 24 = .ok (.iload_n 2, 1) := by decide +kernel
theorem dX11_isPair_25 : decode cX11_isPair 25 = .ok (.iadd, 1) := by decide +kernel
theorem dX11_isPair_26 : decode cX11_isPair 26 = .ok (.laload, 1) := by decide +kernel
theorem dX11_isPair_27 : decode cX11_isPair 27 = .ok (.iload_n 3, 1) := by decide +kernel
theorem dX11_isPair_28 : decode cX11_isPair 28 = .ok (.i2l, 1) := by decide +kernel
theorem dX11_isPair_29 : decode cX11_isPair 29 = .ok (.lmul, 1) := by decide +kernel
theorem dX11_isPair_30 : decode cX11_isPair 30 = .ok (.lcmp, 1) := by decide +kernel
theorem dX11_isPair_31 : decode cX11_isPair 31 = .ok (.ifCond .ne 7, 3) := by decide +kernel
theorem dX11_isPair_34 : decode cX11_isPair 34 = .ok (.iconst 1, 1) := by decide +kernel
theorem dX11_isPair_35 : decode cX11_isPair 35 = .ok (.goto 4, 3) := by decide +kernel
theorem dX11_isPair_38 : decode cX11_isPair 38 = .ok (.iconst 0, 1) := by decide +kernel
theorem dX11_isPair_39 : decode cX11_isPair 39 = .ok (.ireturn, 1) := by decide +kernel
set_option maxRecDepth 20000 in
theorem ggX11_areTwoPairs_X11_areGears : GoodIn wsX11_areTwoPairs wsX11_areGears := goodIn_ca (goodIn_r _ [6, 7, 8, 9, 5, 10, 11, 12, 13, 14, 1, 15, 16, 17, 18, 19, 20, 21, 22, 23, 24, 25, 26, 27, 28, 29, 30, 31, 32, 33, 34, 35] (by decide +kernel) (by decide +kernel)) (goodIn_sub (fun _ h => List.mem_cons_of_mem _ (List.mem_append_right _ h)) (by decide +kernel))
set_option maxRecDepth 20000 in
theorem gX11_areTwoPairs_X11_areGears : GoodIn wsX11_areTwoPairs (wsV RX11 113 RX11 yX11_areGears wsX11_areGears) := goodIn_app (goodIn_of _ (by decide +kernel)) ggX11_areTwoPairs_X11_areGears
theorem dX11_areTwoPairs_0 : decode cX11_areTwoPairs 0 = .ok (.iload_n 1, 1) := by decide +kernel
theorem dX11_areTwoPairs_1 : decode cX11_areTwoPairs 1 = .ok (.bipush 10, 2) := by decide +kernel
theorem dX11_areTwoPairs_3 : decode cX11_areTwoPairs 3 = .ok (.idiv, 1) := by decide +kernel
theorem dX11_areTwoPairs_4 : decode cX11_areTwoPairs 4 = .ok (.istore 5, 2) := by decide +kernel
theorem dX11_areTwoPairs_6 : decode cX11_areTwoPairs 6 = .ok (.iload_n 1, 1) := by decide +kernel
theorem dX11_areTwoPairs_7 : decode cX11_areTwoPairs 7 = .ok (.bipush 10, 2) := by decide +kernel
theorem dX11_areTwoPairs_9 : decode cX11_areTwoPairs 9 = .ok (.irem, 1) := by decide +kernel
theorem dX11_areTwoPairs_10 : decode cX11_areTwoPairs 10 = .ok (.istore 6, 2) := by decide +kernel
theorem dX11_areTwoPairs_12 : decode cX11_areTwoPairs 12 = .ok (.iload_n 2, 1) := by decide +kernel
theorem dX11_areTwoPairs_13 : decode cX11_areTwoPairs 13 = .ok (.bipush 10, 2) := by decide +kernel
theorem dX11_areTwoPairs_15 : decode cX11_areTwoPairs 15 = .ok (.idiv, 1) := by decide +kernel
theorem dX11_areTwoPairs_16 : decode cX11_areTwoPairs 16 = .ok (.istore 7, 2) := by decide +kernel
theorem dX11_areTwoPairs_18 : decode cX11_areTwoPairs 18 = .ok (.iload_n 2, 1) := by decide +kernel
theorem dX11_areTwoPairs_19 : decode cX11_areTwoPairs 19 = .ok (.bipush 10, 2) := by decide +kernel
theorem dX11_areTwoPairs_21 : decode cX11_areTwoPairs 21 = .ok (.irem, 1) := by decide +kernel
theorem dX11_areTwoPairs_22 : decode cX11_areTwoPairs 22 = .ok (.istore 8, 2) := by decide +kernel
theorem dX11_areTwoPairs_24 : decode cX11_areTwoPairs 24 = .ok (.iload 5, 2) := by decide +kernel
theorem dX11_areTwoPairs_26 : decode cX11_areTwoPairs 26 = .ok (.iload 6, 2) := by decide +kernel
theorem dX11_areTwoPairs_28 : decode cX11_areTwoPairs 28 = .ok (.if_icmp .eq 64, 3) := by decide +kernel
theorem dX11_areTwoPairs_31 : decode cX11_areTwoPairs 31 = .ok (.iload 5, 2) := by decide +kernel
theorem dX11_areTwoPairs_33 : decode cX11_areTwoPairs 33 = .ok (.iload 7, 2) := by decide +kernel
theorem dX11_areTwoPairs_35 : decode cX11_areTwoPairs 35 = .ok (.if_icmp .eq 57, 3) := by decide +kernel
theorem dX11_areTwoPairs_38 : decode cX11_areTwoPairs 38 = .ok (.iload 5, 2) := by decide +kernel
theorem dX11_areTwoPairs_40 : decode cX11_areTwoPairs 40 = .ok (.iload 8, 2) := by decide +kernel
theorem dX11_areTwoPairs_42 : decode cX11_areTwoPairs 42 = .ok (.if_icmp .eq 50, 3) := by decide +kernel
theorem dX11_areTwoPairs_45 : decode cX11_areTwoPairs 45 = .ok (.iload 6, 2) := by decide +kernel
theorem dX11_areTwoPairs_47 : decode cX11_areTwoPairs 47 = .ok (.iload 7, 2) := by decide +kernel
theorem dX11_areTwoPairs_49 : decode cX11_areTwoPairs 49 = .ok (.if_icmp .eq 43, 3) := by decide +kernel
theorem dX11_areTwoPairs_52 : decode cX11_areTwoPairs 52 = .ok (.iload 6, 2) := by decide +kernel
theorem dX11_areTwoPairs_54 : decode cX11_areTwoPairs 54 = .ok (.iload 8, 2) := by decide +kernel
theorem dX11_areTwoPairs_56 : decode cX11_areTwoPairs 56 = .ok (.if_icmp .eq 36, 3) := by decide +kernel
theorem dX11_areTwoPairs_59 : decode cX11_areTwoPairs 59 = .ok (.iload 7, 2) := by decide +kernel
theorem dX11_areTwoPairs_61 : decode cX11_areTwoPairs 61 = .ok (.iload 8, 2) := by decide +kernel
theorem dX11_areTwoPairs_63 : decode cX11_areTwoPairs 63 = .ok (.if_icmp .eq 29, 3) := by decide +kernel
theorem dX11_areTwoPairs_66 : decode cX11_areTwoPairs 66 = .ok (.aload_n 0, 1) := by decide +kernel
theorem dX11_areTwoPairs_67 : decode cX11_areTwoPairs 67 = .ok (.iload 5, 2) := by decide +kernel
theorem dX11_areTwoPairs_69 : decode cX11_areTwoPairs 69 = .ok (.iload 6, 2) := by decide +kernel
theorem dX11_areTwoPairs_71 : decode cX11_areTwoPairs 71 = .ok (.invokevirtual 113, 3) := by decide +kernel
theorem dX11_areTwoPairs_74 : decode cX11_areTwoPairs 74 = .ok (.ifCond .eq 18, 3) := by decide +kernel
theorem dX11_areTwoPairs_77 : decode cX11_areTwoPairs 77 = .ok (.aload_n 0, 1) := by decide +kernel
theorem dX11_areTwoPairs_78 : decode cX11_areTwoPairs 78 = .ok (.iload 7, 2) := by decide +kernel
theorem dX11_areTwoPairs_80 : decode cX11_areTwoPairs 80 = .ok (.iload 8, 2) := by decide +kernel
theorem dX11_areTwoPairs_82 : decode cX11_areTwoPairs 82 = .ok (.invokevirtual 113, 3) := by decide +kernel
theorem dX11_areTwoPairs_85 : decode cX11_areTwoPairs 85 = .ok (.ifCond .eq 7, 3) := by decide +kernel
theorem dX11_areTwoPairs_88 : decode cX11_areTwoPairs 88 = .ok (.iconst 1, 1) := by decide +kernel
theorem dX11_areTwoPairs_89 : decode cX11_areTwoPairs 89 = .ok (.goto 4, 3) := by decide +kernel
theorem dX11_areTwoPairs_92 : decode cX11_areTwoPairs 92 = .ok (.iconst 0, 1) := by decide +kernel
theorem dX11_areTwoPairs_93 : decode cX11_areTwoPairs 93 = .ok (.istore 9, 2) := by decide +kernel
theorem dX11_areTwoPairs_95 : decode cX11_areTwoPairs 95 = .ok (.iload 9, 2) := by decide +kernel
theorem dX11_areTwoPairs_97 : decode cX11_areTwoPairs 97 = .ok (.ifCond .eq 60, 3) := by decide +kernel
theorem dX11_areTwoPairs_100 : decode cX11_areTwoPairs 100 = .ok (.aload_n 0, 1) := by decide +kernel
theorem dX11_areTwoPairs_101 : decode cX11_areTwoPairs 101 = .ok (.getfield 7, 3) := by decide +kernel
theorem dX11_areTwoPairs_104 : decode cX11_areTwoPairs 104 = .ok (.bipush 6, 2) := by decide +kernel
theorem dX11_areTwoPairs_106 : decode cX11_areTwoPairs 106 = .ok (.iload 5, 2) := by decide +kernel
theorem dX11_areTwoPairs_108 : decode cX11_areTwoPairs 108 = .ok (.iadd, 1) := by decide +kernel
theorem dX11_areTwoPairs_109 : decode cX11_areTwoPairs 109 = .ok (.laload, 1) := by decide +kernel
theorem dX11_areTwoPairs_110 : decode cX11_areTwoPairs 110 = .ok (.aload_n 0, 1) := by decide +kernel
theorem dX11_areTwoPairs_111 : decode cX11_areTwoPairs 111 = .ok (.getfield 7, 3) := by decide +kernel
theorem dX11_areTwoPairs_114 : decode cX11_areTwoPairs 114 = .ok (.bipush 6, 2) := by decide +kernel
theorem dX11_areTwoPairs_116 : decode cX11_areTwoPairs 116 = .ok (.iload 7, 2) := by decide +kernel
theorem dX11_areTwoPairs_118 : decode cX11_areTwoPairs 118 = .ok (.iadd, 1) := by decide +kernel
theorem dX11_areTwoPairs_119 : decode cX11_areTwoPairs 119 = .ok (.laload, 1) := by decide +kernel
theorem dX11_areTwoPairs_120 : decode cX11_areTwoPairs 120 = .ok (.lmul, 1) := by decide +kernel
theorem dX11_areTwoPairs_121 : decode cX11_areTwoPairs 121 = .ok (.iload 4, 2) := by decide +kernel
theorem dX11_areTwoPairs_123 : decode cX11_areTwoPairs 123 = .ok (.i2l, 1) := by decide +kernel
theorem dX11_areTwoPairs_124 : decode cX11_areTwoPairs 124 = .ok (.lmul, 1) := by decide +kernel
theorem dX11_areTwoPairs_125 : decode cX11_areTwoPairs 125 = .ok (.aload_n 0, 1) := by decide +kernel
theorem dX11_areTwoPairs_126 : decode cX11_areTwoPairs 126 = .ok (.getfield 7, 3) := by decide +kernel
theorem dX11_areTwoPairs_129 : decode cX11_areTwoPairs 129 = .ok (.bipush 6, 2) := by decide +kernel
theorem dX11_areTwoPairs_131 : decode cX11_areTwoPairs 131 = .ok (.iload 6, 2) := by decide +kernel
theorem dX11_areTwoPairs_133 : decode cX11_areTwoPairs 133 = .ok (.iadd, 1) := by decide +kernel
theorem dX11_areTwoPairs_134 : decode cX11_areTwoPairs 134 = .ok (.laload, 1) := by decide +kernel
theorem dX11_areTwoPairs_135 : decode cX11_areTwoPairs 135 = .ok (.aload_n 0, 1) := by decide +kernel
theorem dX11_areTwoPairs_136 : decode cX11_areTwoPairs 136 = .ok (.getfield 7, 3) := by decide +kernel
theorem dX11_areTwoPairs_139 : decode cX11_areTwoPairs 139 = .ok (.bipush 6, 2) := by decide +kernel
theorem dX11_areTwoPairs_141 : decode cX11_areTwoPairs 141 = .ok (.iload 8, 2) := by decide +kernel
theorem dX11_areTwoPairs_143 : decode cX11_areTwoPairs 143 = .ok (.iadd, 1) := by decide +kernel
theorem dX11_areTwoPairs_144 : decode cX11_areTwoPairs 144 = .ok (.laload, 1) := by decide +kernel
theorem dX11_areTwoPairs_145 : decode cX11_areTwoPairs 145 = .ok (.lmul, 1) := by decide +kernel
theorem dX11_areTwoPairs_146 : decode cX11_areTwoPairs 146 = .ok (.iload_n 3, 1) := by decide +kernel
theorem dX11_areTwoPairs_147 : decode cX11_areTwoPairs 147 = .ok (.i2l, 1) := by decide +kernel
theorem dX11_areTwoPairs_148 : decode cX11_areTwoPairs 148 = .ok (.lmul, 1) := by decide +kernel
theorem dX11_areTwoPairs_149 : decode cX11_areTwoPairs 149 = .ok (.lcmp, 1) := by decide +kernel
theorem dX11_areTwoPairs_150 : decode cX11_areTwoPairs 150 = .ok (.ifCond .ne 7, 3) := by decide +kernel
theorem dX11_areTwoPairs_153 : decode cX11_areTwoPairs 153 = .ok (.iconst 1, 1) := by decide +kernel
theorem dX11_areTwoPairs_154 : decode cX11_areTwoPairs 154 = .ok (.goto 4, 3) := by decide +kernel
theorem dX11_areTwoPairs_157 : decode cX11_areTwoPairs 157 = .ok (.iconst 0, 1) := by decide +kernel
theorem dX11_areTwoPairs_158 : decode cX11_areTwoPairs 158 = .ok (.ireturn, 1) := by decide +kernel
set_option maxRecDepth 20000 in
theorem ggX11_fewestPairs_X11_in : GoodIn wsX11_fewestPairs wsX11_in := goodIn_r _ [4] (by decide +kernel) (by decide +kernel)
set_option maxRecDepth 20000 in
theorem gX11_fewestPairs_X11_in : GoodIn wsX11_fewestPairs (va_wsS RX11 65 yX11_in wsX11_in) := goodIn_app (goodIn_of _ (by decide +kernel)) ggX11_fewestPairs_X11_in
set_option maxRecDepth 20000 in
theorem ggX11_fewestPairs_X11_fails : GoodIn wsX11_fewestPairs wsX11_fails := goodIn_r _ [8, 9, 35, 36, 37, 38, 39, 40, 41, 42, 43, 44, 45, 46, 47, 48, 49, 50, 51, 52] (by decide +kernel) (by decide +kernel)
set_option maxRecDepth 20000 in
theorem gX11_fewestPairs_X11_fails : GoodIn wsX11_fewestPairs (wsV RX11 95 RX11 yX11_fails wsX11_fails) := goodIn_app (goodIn_of _ (by decide +kernel)) ggX11_fewestPairs_X11_fails
set_option maxRecDepth 20000 in
theorem ggX11_fewestPairs_X11_areGears : GoodIn wsX11_fewestPairs wsX11_areGears := goodIn_ca (goodIn_r _ [13, 14, 15, 16, 3, 17, 18, 19, 20, 21, 22, 1, 2, 4, 35, 36, 37, 38, 39, 40, 41, 42, 43, 44, 45, 46, 47, 48, 49, 50, 51, 52] (by decide +kernel) (by decide +kernel)) (goodIn_sub (fun _ h => List.mem_cons_of_mem _ (List.mem_append_right _ h)) (by decide +kernel))
set_option maxRecDepth 20000 in
theorem gX11_fewestPairs_X11_areGears : GoodIn wsX11_fewestPairs (wsV RX11 113 RX11 yX11_areGears wsX11_areGears) := goodIn_app (goodIn_of _ (by decide +kernel)) ggX11_fewestPairs_X11_areGears
set_option maxRecDepth 20000 in
theorem ggX11_fewestPairs_X11_isPair : GoodIn wsX11_fewestPairs wsX11_isPair := goodIn_ca (goodIn_r _ [26, 22, 35, 36, 37, 38, 39, 40, 41, 42, 43, 44, 45, 46, 47, 48, 49, 50, 51, 52] (by decide +kernel) (by decide +kernel)) (goodIn_sub (fun _ h => List.mem_cons_of_mem _ (List.mem_append_right _ h)) (by decide +kernel))
set_option maxRecDepth 20000 in
theorem gX11_fewestPairs_X11_isPair : GoodIn wsX11_fewestPairs (wsV RX11 205 RX11 yX11_isPair wsX11_isPair) := goodIn_app (goodIn_of _ (by decide +kernel)) ggX11_fewestPairs_X11_isPair
set_option maxRecDepth 20000 in
theorem ggX11_fewestPairs_X11_done : GoodIn wsX11_fewestPairs wsX11_done := goodIn_r _ [30, 9, 35, 36, 37, 38, 39, 40, 41, 42, 43, 44, 45, 46, 47, 48, 49, 50, 51, 52] (by decide +kernel) (by decide +kernel)
set_option maxRecDepth 20000 in
theorem gX11_fewestPairs_X11_done : GoodIn wsX11_fewestPairs (wsV RX11 98 RX11 yX11_done wsX11_done) := goodIn_app (goodIn_of _ (by decide +kernel)) ggX11_fewestPairs_X11_done
set_option maxRecDepth 20000 in
theorem ggX11_fewestPairs_X11_areTwoPairs : GoodIn wsX11_fewestPairs wsX11_areTwoPairs := goodIn_ca (goodIn_r _ [34, 22, 10, 11, 12, 3, 13, 14, 15, 16, 17, 18, 19, 20, 21, 1, 2, 4, 35, 36, 37, 38, 39, 40, 41, 42, 43, 44, 45, 46, 47, 48, 49, 50, 51, 52] (by decide +kernel) (by decide +kernel)) (goodIn_sub (fun _ h => List.mem_cons_of_mem _ (List.mem_append_right _ h)) (by decide +kernel))
set_option maxRecDepth 20000 in
theorem gX11_fewestPairs_X11_areTwoPairs : GoodIn wsX11_fewestPairs (wsV RX11 209 RX11 yX11_areTwoPairs wsX11_areTwoPairs) := goodIn_app (goodIn_of _ (by decide +kernel)) ggX11_fewestPairs_X11_areTwoPairs
theorem dX11_fewestPairs_0 : decode cX11_fewestPairs 0 = .ok (.iload_n 1, 1) := by decide +kernel
theorem dX11_fewestPairs_1 : decode cX11_fewestPairs 1 = .ok (.iconst 1, 1) := by decide +kernel
theorem dX11_fewestPairs_2 : decode cX11_fewestPairs 2 = .ok (.bipush 60, 2) := by decide +kernel
theorem dX11_fewestPairs_4 : decode cX11_fewestPairs 4 = .ok (.invokestatic 65, 3) := by decide +kernel
theorem dX11_fewestPairs_7 : decode cX11_fewestPairs 7 = .ok (.ifCond .eq 13, 3) := by decide +kernel
theorem dX11_fewestPairs_10 : decode cX11_fewestPairs 10 = .ok (.iload_n 2, 1) := by decide +kernel
theorem dX11_fewestPairs_11 : decode cX11_fewestPairs 11 = .ok (.iconst 1, 1) := by decide +kernel
theorem dX11_fewestPairs_12 : decode cX11_fewestPairs 12 = .ok (.bipush 60, 2) := by decide +kernel
theorem dX11_fewestPairs_14 : decode cX11_fewestPairs 14 = .ok (.invokestatic 65, 3) := by decide +kernel
theorem dX11_fewestPairs_17 : decode cX11_fewestPairs 17 = .ok (.ifCond .ne 9, 3) := by decide +kernel
theorem dX11_fewestPairs_20 : decode cX11_fewestPairs 20 = .ok (.aload_n 0, 1) := by decide +kernel
theorem dX11_fewestPairs_21 : decode cX11_fewestPairs 21 = .ok (.iconst 1, 1) := by decide +kernel
theorem dX11_fewestPairs_22 : decode cX11_fewestPairs 22 = .ok (.invokevirtual 95, 3) := by decide +kernel
theorem dX11_fewestPairs_25 : decode cX11_fewestPairs 25 = .ok (.ireturn, 1) := by decide +kernel
theorem dX11_fewestPairs_26 : decode cX11_fewestPairs 26 = .ok (.iconst 3, 1) := by decide +kernel
theorem dX11_fewestPairs_27 : decode cX11_fewestPairs 27 = .ok (.istore_n 3, 1) := by decide +kernel
theorem dX11_fewestPairs_28 : decode cX11_fewestPairs 28 = .ok (.iconst 0, 1) := by decide +kernel
theorem dX11_fewestPairs_29 : decode cX11_fewestPairs 29 = .ok (.istore 4, 2) := by decide +kernel
theorem dX11_fewestPairs_31 : decode cX11_fewestPairs 31 = .ok (.iload 4, 2) := by decide +kernel
theorem dX11_fewestPairs_33 : decode cX11_fewestPairs 33 = .ok (.bipush 100, 2) := by decide +kernel
theorem dX11_fewestPairs_35 : decode cX11_fewestPairs 35 = .ok (.if_icmp .ge 95, 3) := by decide +kernel
theorem dX11_fewestPairs_38 : decode cX11_fewestPairs 38 = .ok (.aload_n 0, 1) := by decide +kernel
theorem dX11_fewestPairs_39 : decode cX11_fewestPairs 39 = .ok (.iload 4, 2) := by decide +kernel
theorem dX11_fewestPairs_41 : decode cX11_fewestPairs 41 = .ok (.bipush 10, 2) := by decide +kernel
theorem dX11_fewestPairs_43 : decode cX11_fewestPairs 43 = .ok (.idiv, 1) := by decide +kernel
theorem dX11_fewestPairs_44 : decode cX11_fewestPairs 44 = .ok (.iload 4, 2) := by decide +kernel
theorem dX11_fewestPairs_46 : decode cX11_fewestPairs 46 = .ok (.bipush 10, 2) := by decide +kernel
theorem dX11_fewestPairs_48 : decode cX11_fewestPairs 48 = .ok (.irem, 1) := by decide +kernel
theorem dX11_fewestPairs_49 : decode cX11_fewestPairs 49 = .ok (.invokevirtual 113, 3) := by decide +kernel
theorem dX11_fewestPairs_52 : decode cX11_fewestPairs 52 = .ok (.istore 5, 2) := by decide +kernel
theorem dX11_fewestPairs_54 : decode cX11_fewestPairs 54 = .ok (.iload 5, 2) := by decide +kernel
theorem dX11_fewestPairs_56 : decode cX11_fewestPairs 56 = .ok (.ifCond .eq 28, 3) := by decide +kernel
theorem dX11_fewestPairs_59 : decode cX11_fewestPairs 59 = .ok (.aload_n 0, 1) := by decide +kernel
theorem dX11_fewestPairs_60 : decode cX11_fewestPairs 60 = .ok (.iload 4, 2) := by decide +kernel
theorem dX11_fewestPairs_62 : decode cX11_fewestPairs 62 = .ok (.bipush 10, 2) := by decide +kernel
theorem dX11_fewestPairs_64 : decode cX11_fewestPairs 64 = .ok (.idiv, 1) := by decide +kernel
theorem dX11_fewestPairs_65 : decode cX11_fewestPairs 65 = .ok (.iload 4, 2) := by decide +kernel
theorem dX11_fewestPairs_67 : decode cX11_fewestPairs 67 = .ok (.bipush 10, 2) := by decide +kernel
theorem dX11_fewestPairs_69 : decode cX11_fewestPairs 69 = .ok (.irem, 1) := by decide +kernel
theorem dX11_fewestPairs_70 : decode cX11_fewestPairs 70 = .ok (.iload_n 1, 1) := by decide +kernel
theorem dX11_fewestPairs_71 : decode cX11_fewestPairs 71 = .ok (.iload_n 2, 1) := by decide +kernel
theorem dX11_fewestPairs_72 : decode cX11_fewestPairs 72 = .ok (.invokevirtual 205, 3) := by decide +kernel
theorem dX11_fewestPairs_75 : decode cX11_fewestPairs 75 = .ok (.ifCond .eq 9, 3) := by decide +kernel
theorem dX11_fewestPairs_78 : decode cX11_fewestPairs 78 = .ok (.aload_n 0, 1) := by decide +kernel
theorem dX11_fewestPairs_79 : decode cX11_fewestPairs 79 = .ok (.iconst 1, 1) := by decide +kernel
theorem dX11_fewestPairs_80 : decode cX11_fewestPairs 80 = .ok (.invokevirtual 98, 3) := by decide +kernel
theorem dX11_fewestPairs_83 : decode cX11_fewestPairs 83 = .ok (.ireturn, 1) := by decide +kernel
theorem dX11_fewestPairs_84 : decode cX11_fewestPairs 84 = .ok (.iconst 0, 1) := by decide +kernel
theorem dX11_fewestPairs_85 : decode cX11_fewestPairs 85 = .ok (.istore 6, 2) := by decide +kernel
theorem dX11_fewestPairs_87 : decode cX11_fewestPairs 87 = .ok (.iload 6, 2) := by decide +kernel
theorem dX11_fewestPairs_89 : decode cX11_fewestPairs 89 = .ok (.bipush 100, 2) := by decide +kernel
theorem dX11_fewestPairs_91 : decode cX11_fewestPairs 91 = .ok (.if_icmp .ge 33, 3) := by decide +kernel
theorem dX11_fewestPairs_94 : decode cX11_fewestPairs 94 = .ok (.iload 5, 2) := by decide +kernel
theorem dX11_fewestPairs_96 : decode cX11_fewestPairs 96 = .ok (.ifCond .eq 28, 3) := by decide +kernel
theorem dX11_fewestPairs_99 : decode cX11_fewestPairs 99 = .ok (.aload_n 0, 1) := by decide +kernel
theorem dX11_fewestPairs_100 : decode cX11_fewestPairs 100 = .ok (.iload 4, 2) := by decide +kernel
theorem dX11_fewestPairs_102 : decode cX11_fewestPairs 102 = .ok (.iload 6, 2) := by decide +kernel
theorem dX11_fewestPairs_104 : decode cX11_fewestPairs 104 = .ok (.iload_n 1, 1) := by decide +kernel
theorem dX11_fewestPairs_105 : decode cX11_fewestPairs 105 = .ok (.iload_n 2, 1) := by decide +kernel
theorem dX11_fewestPairs_106 : decode cX11_fewestPairs 106 = .ok (.invokevirtual 209, 3) := by decide +kernel
theorem dX11_fewestPairs_109 : decode cX11_fewestPairs 109 = .ok (.ifCond .eq 7, 3) := by decide +kernel
theorem dX11_fewestPairs_112 : decode cX11_fewestPairs 112 = .ok (.iconst 2, 1) := by decide +kernel
theorem dX11_fewestPairs_113 : decode cX11_fewestPairs 113 = .ok (.goto 4, 3) := by decide +kernel
theorem dX11_fewestPairs_116 : decode cX11_fewestPairs 116 = .ok (.iload_n 3, 1) := by decide +kernel
theorem dX11_fewestPairs_117 : decode cX11_fewestPairs 117 = .ok (.istore_n 3, 1) := by decide +kernel
theorem dX11_fewestPairs_118 : decode cX11_fewestPairs 118 = .ok (.iinc 6 1, 3) := by decide +kernel
theorem dX11_fewestPairs_121 : decode cX11_fewestPairs 121 = .ok (.goto (-34), 3) := by decide +kernel
theorem dX11_fewestPairs_124 : decode cX11_fewestPairs 124 = .ok (.iinc 4 1, 3) := by decide +kernel
theorem dX11_fewestPairs_127 : decode cX11_fewestPairs 127 = .ok (.goto (-96), 3) := by decide +kernel
theorem dX11_fewestPairs_130 : decode cX11_fewestPairs 130 = .ok (.iload_n 3, 1) := by decide +kernel
theorem dX11_fewestPairs_131 : decode cX11_fewestPairs 131 = .ok (.iconst 3, 1) := by decide +kernel
theorem dX11_fewestPairs_132 : decode cX11_fewestPairs 132 = .ok (.if_icmp .ne 11, 3) := by decide +kernel
theorem dX11_fewestPairs_135 : decode cX11_fewestPairs 135 = .ok (.aload_n 0, 1) := by decide +kernel
theorem dX11_fewestPairs_136 : decode cX11_fewestPairs 136 = .ok (.iconst 2, 1) := by decide +kernel
theorem dX11_fewestPairs_137 : decode cX11_fewestPairs 137 = .ok (.invokevirtual 95, 3) := by decide +kernel
theorem dX11_fewestPairs_140 : decode cX11_fewestPairs 140 = .ok (.goto 8, 3) := by decide +kernel
theorem dX11_fewestPairs_143 : decode cX11_fewestPairs 143 = .ok (.aload_n 0, 1) := by decide +kernel
theorem dX11_fewestPairs_144 : decode cX11_fewestPairs 144 = .ok (.iload_n 3, 1) := by decide +kernel
theorem dX11_fewestPairs_145 : decode cX11_fewestPairs 145 = .ok (.invokevirtual 98, 3) := by decide +kernel
theorem dX11_fewestPairs_148 : decode cX11_fewestPairs 148 = .ok (.ireturn, 1) := by decide +kernel
set_option maxRecDepth 20000 in
theorem ggX11_fewestPairsByTable_X11_fewestPairs : GoodIn wsX11_fewestPairsByTable wsX11_fewestPairs := goodIn_ca (goodIn_r _ [5, 6, 7, 4, 8, 9, 10, 11, 12, 13, 14, 15, 16, 17, 18, 19, 20, 21, 22, 23, 24, 25, 26, 27, 28, 29, 30, 31, 32, 33, 34, 35, 36, 37, 38, 39, 40, 41, 42, 43, 44, 45, 46, 47, 48, 49, 50, 51, 52, 53, 54, 55, 56] (by decide +kernel) (by decide +kernel)) (goodIn_sub (fun _ h => List.mem_cons_of_mem _ (List.mem_append_right _ h)) (by decide +kernel))
set_option maxRecDepth 20000 in
theorem gX11_fewestPairsByTable_X11_fewestPairs : GoodIn wsX11_fewestPairsByTable (wsV RX11 212 RX11 yX11_fewestPairs wsX11_fewestPairs) := goodIn_app (goodIn_of _ (by decide +kernel)) ggX11_fewestPairsByTable_X11_fewestPairs
theorem dX11_fewestPairsByTable_0 : decode cX11_fewestPairsByTable 0 = .ok (.aload_n 0, 1) := by decide +kernel
theorem dX11_fewestPairsByTable_1 : decode cX11_fewestPairsByTable 1 = .ok (.iload_n 1, 1) := by decide +kernel
theorem dX11_fewestPairsByTable_2 : decode cX11_fewestPairsByTable 2 = .ok (.iload_n 2, 1) := by decide +kernel
theorem dX11_fewestPairsByTable_3 : decode cX11_fewestPairsByTable 3 = .ok (.invokevirtual 212, 3) := by decide +kernel
theorem dX11_fewestPairsByTable_6 : decode cX11_fewestPairsByTable 6 = .ok (.ireturn, 1) := by decide +kernel
set_option maxRecDepth 20000 in
theorem ggX11_woundTotal_X11_at : GoodIn wsX11_woundTotal wsX11_at := goodIn_ca (goodIn_r _ [5, 6, 12, 13, 14, 15, 16, 17, 18, 19, 20, 21, 22, 23, 24, 25, 26, 27, 28, 29] (by decide +kernel) (by decide +kernel)) (goodIn_sub (fun _ h => List.mem_cons_of_mem _ (List.mem_append_right _ h)) (by decide +kernel))
set_option maxRecDepth 20000 in
theorem gX11_woundTotal_X11_at : GoodIn wsX11_woundTotal (wsV RX11 61 RX11 yX11_at wsX11_at) := goodIn_app (goodIn_of _ (by decide +kernel)) ggX11_woundTotal_X11_at
set_option maxRecDepth 20000 in
theorem ggX11_woundTotal_X11_done : GoodIn wsX11_woundTotal wsX11_done := goodIn_r _ [10, 11, 12, 13, 14, 15, 16, 17, 18, 19, 20, 21, 22, 23, 24, 25, 26, 27, 28, 29] (by decide +kernel) (by decide +kernel)
set_option maxRecDepth 20000 in
theorem gX11_woundTotal_X11_done : GoodIn wsX11_woundTotal (wsV RX11 98 RX11 yX11_done wsX11_done) := goodIn_app (goodIn_of _ (by decide +kernel)) ggX11_woundTotal_X11_done
theorem dX11_woundTotal_0 : decode cX11_woundTotal 0 = .ok (.aload_n 0, 1) := by decide +kernel
theorem dX11_woundTotal_1 : decode cX11_woundTotal 1 = .ok (.aload_n 0, 1) := by decide +kernel
theorem dX11_woundTotal_2 : decode cX11_woundTotal 2 = .ok (.iconst 3, 1) := by decide +kernel
theorem dX11_woundTotal_3 : decode cX11_woundTotal 3 = .ok (.invokevirtual 61, 3) := by decide +kernel
theorem dX11_woundTotal_6 : decode cX11_woundTotal 6 = .ok (.invokevirtual 98, 3) := by decide +kernel
theorem dX11_woundTotal_9 : decode cX11_woundTotal 9 = .ok (.ireturn, 1) := by decide +kernel
set_option maxRecDepth 20000 in
theorem ggX11_tensionTotal_X11_at : GoodIn wsX11_tensionTotal wsX11_at := goodIn_ca (goodIn_r _ [5, 6, 12, 13, 14, 15, 16, 17, 18, 19, 20, 21, 22, 23, 24, 25, 26, 27, 28, 29] (by decide +kernel) (by decide +kernel)) (goodIn_sub (fun _ h => List.mem_cons_of_mem _ (List.mem_append_right _ h)) (by decide +kernel))
set_option maxRecDepth 20000 in
theorem gX11_tensionTotal_X11_at : GoodIn wsX11_tensionTotal (wsV RX11 61 RX11 yX11_at wsX11_at) := goodIn_app (goodIn_of _ (by decide +kernel)) ggX11_tensionTotal_X11_at
set_option maxRecDepth 20000 in
theorem ggX11_tensionTotal_X11_done : GoodIn wsX11_tensionTotal wsX11_done := goodIn_r _ [10, 11, 12, 13, 14, 15, 16, 17, 18, 19, 20, 21, 22, 23, 24, 25, 26, 27, 28, 29] (by decide +kernel) (by decide +kernel)
set_option maxRecDepth 20000 in
theorem gX11_tensionTotal_X11_done : GoodIn wsX11_tensionTotal (wsV RX11 98 RX11 yX11_done wsX11_done) := goodIn_app (goodIn_of _ (by decide +kernel)) ggX11_tensionTotal_X11_done
theorem dX11_tensionTotal_0 : decode cX11_tensionTotal 0 = .ok (.iconst 0, 1) := by decide +kernel
theorem dX11_tensionTotal_1 : decode cX11_tensionTotal 1 = .ok (.istore_n 1, 1) := by decide +kernel
theorem dX11_tensionTotal_2 : decode cX11_tensionTotal 2 = .ok (.iconst 0, 1) := by decide +kernel
theorem dX11_tensionTotal_3 : decode cX11_tensionTotal 3 = .ok (.istore_n 2, 1) := by decide +kernel
theorem dX11_tensionTotal_4 : decode cX11_tensionTotal 4 = .ok (.iload_n 2, 1) := by decide +kernel
theorem dX11_tensionTotal_5 : decode cX11_tensionTotal 5 = .ok (.bipush 10, 2) := by decide +kernel
theorem dX11_tensionTotal_7 : decode cX11_tensionTotal 7 = .ok (.if_icmp .ge 20, 3) := by decide +kernel
theorem dX11_tensionTotal_10 : decode cX11_tensionTotal 10 = .ok (.iload_n 1, 1) := by decide +kernel
theorem dX11_tensionTotal_11 : decode cX11_tensionTotal 11 = .ok (.aload_n 0, 1) := by decide +kernel
theorem dX11_tensionTotal_12 : decode cX11_tensionTotal 12 = .ok (.bipush 36, 2) := by decide +kernel
theorem dX11_tensionTotal_14 : decode cX11_tensionTotal 14 = .ok (.iload_n 2, 1) := by decide +kernel
theorem dX11_tensionTotal_15 : decode cX11_tensionTotal 15 = .ok (.iadd, 1) := by decide +kernel
theorem dX11_tensionTotal_16 : decode cX11_tensionTotal 16 = .ok (.invokevirtual 61, 3) := by decide +kernel
theorem dX11_tensionTotal_19 : decode cX11_tensionTotal 19 = .ok (.iadd, 1) := by decide +kernel
theorem dX11_tensionTotal_20 : decode cX11_tensionTotal 20 = .ok (.istore_n 1, 1) := by decide +kernel
theorem dX11_tensionTotal_21 : decode cX11_tensionTotal 21 = .ok (.iinc 2 1, 3) := by decide +kernel
theorem dX11_tensionTotal_24 : decode cX11_tensionTotal 24 = .ok (.goto (-20), 3) := by decide +kernel
theorem dX11_tensionTotal_27 : decode cX11_tensionTotal 27 = .ok (.aload_n 0, 1) := by decide +kernel
theorem dX11_tensionTotal_28 : decode cX11_tensionTotal 28 = .ok (.iload_n 1, 1) := by decide +kernel
theorem dX11_tensionTotal_29 : decode cX11_tensionTotal 29 = .ok (.invokevirtual 98, 3) := by decide +kernel
theorem dX11_tensionTotal_32 : decode cX11_tensionTotal 32 = .ok (.ireturn, 1) := by decide +kernel
set_option maxRecDepth 20000 in
theorem ggX11_tensionByAccounts_X11_at : GoodIn wsX11_tensionByAccounts wsX11_at := goodIn_ca (goodIn_r _ [5, 6, 12, 13, 14, 15, 16, 17, 18, 19, 20, 21, 22, 23, 24, 25, 26, 27, 28, 29] (by decide +kernel) (by decide +kernel)) (goodIn_sub (fun _ h => List.mem_cons_of_mem _ (List.mem_append_right _ h)) (by decide +kernel))
set_option maxRecDepth 20000 in
theorem gX11_tensionByAccounts_X11_at : GoodIn wsX11_tensionByAccounts (wsV RX11 61 RX11 yX11_at wsX11_at) := goodIn_app (goodIn_of _ (by decide +kernel)) ggX11_tensionByAccounts_X11_at
set_option maxRecDepth 20000 in
theorem ggX11_tensionByAccounts_X11_done : GoodIn wsX11_tensionByAccounts wsX11_done := goodIn_r _ [10, 11, 12, 13, 14, 15, 16, 17, 18, 19, 20, 21, 22, 23, 24, 25, 26, 27, 28, 29] (by decide +kernel) (by decide +kernel)
set_option maxRecDepth 20000 in
theorem gX11_tensionByAccounts_X11_done : GoodIn wsX11_tensionByAccounts (wsV RX11 98 RX11 yX11_done wsX11_done) := goodIn_app (goodIn_of _ (by decide +kernel)) ggX11_tensionByAccounts_X11_done
theorem dX11_tensionByAccounts_0 : decode cX11_tensionByAccounts 0 = .ok (.aload_n 0, 1) := by decide +kernel
theorem dX11_tensionByAccounts_1 : decode cX11_tensionByAccounts 1 = .ok (.aload_n 0, 1) := by decide +kernel
theorem dX11_tensionByAccounts_2 : decode cX11_tensionByAccounts 2 = .ok (.iconst 3, 1) := by decide +kernel
theorem dX11_tensionByAccounts_3 : decode cX11_tensionByAccounts 3 = .ok (.invokevirtual 61, 3) := by decide +kernel
theorem dX11_tensionByAccounts_6 : decode cX11_tensionByAccounts 6 = .ok (.aload_n 0, 1) := by decide +kernel
theorem dX11_tensionByAccounts_7 : decode cX11_tensionByAccounts 7 = .ok (.iconst 4, 1) := by decide +kernel
theorem dX11_tensionByAccounts_8 : decode cX11_tensionByAccounts 8 = .ok (.invokevirtual 61, 3) := by decide +kernel
theorem dX11_tensionByAccounts_11 : decode cX11_tensionByAccounts 11 = .ok (.isub, 1) := by decide +kernel
theorem dX11_tensionByAccounts_12 : decode cX11_tensionByAccounts 12 = .ok (.invokevirtual 98, 3) := by decide +kernel
theorem dX11_tensionByAccounts_15 : decode cX11_tensionByAccounts 15 = .ok (.ireturn, 1) := by decide +kernel
set_option maxRecDepth 20000 in
theorem ggX11_releaseTotal_X11_at : GoodIn wsX11_releaseTotal wsX11_at := goodIn_ca (goodIn_r _ [5, 6, 12, 13, 14, 15, 16, 17, 18, 19, 20, 21, 22, 23, 24, 25, 26, 27, 28, 29] (by decide +kernel) (by decide +kernel)) (goodIn_sub (fun _ h => List.mem_cons_of_mem _ (List.mem_append_right _ h)) (by decide +kernel))
set_option maxRecDepth 20000 in
theorem gX11_releaseTotal_X11_at : GoodIn wsX11_releaseTotal (wsV RX11 61 RX11 yX11_at wsX11_at) := goodIn_app (goodIn_of _ (by decide +kernel)) ggX11_releaseTotal_X11_at
set_option maxRecDepth 20000 in
theorem ggX11_releaseTotal_X11_done : GoodIn wsX11_releaseTotal wsX11_done := goodIn_r _ [10, 11, 12, 13, 14, 15, 16, 17, 18, 19, 20, 21, 22, 23, 24, 25, 26, 27, 28, 29] (by decide +kernel) (by decide +kernel)
set_option maxRecDepth 20000 in
theorem gX11_releaseTotal_X11_done : GoodIn wsX11_releaseTotal (wsV RX11 98 RX11 yX11_done wsX11_done) := goodIn_app (goodIn_of _ (by decide +kernel)) ggX11_releaseTotal_X11_done
theorem dX11_releaseTotal_0 : decode cX11_releaseTotal 0 = .ok (.aload_n 0, 1) := by decide +kernel
theorem dX11_releaseTotal_1 : decode cX11_releaseTotal 1 = .ok (.aload_n 0, 1) := by decide +kernel
theorem dX11_releaseTotal_2 : decode cX11_releaseTotal 2 = .ok (.iconst 5, 1) := by decide +kernel
theorem dX11_releaseTotal_3 : decode cX11_releaseTotal 3 = .ok (.invokevirtual 61, 3) := by decide +kernel
theorem dX11_releaseTotal_6 : decode cX11_releaseTotal 6 = .ok (.invokevirtual 98, 3) := by decide +kernel
theorem dX11_releaseTotal_9 : decode cX11_releaseTotal 9 = .ok (.ireturn, 1) := by decide +kernel
theorem dX11_meanTeeth_0 : decode cX11_meanTeeth 0 = .ok (.lconst 0, 1) := by decide +kernel
theorem dX11_meanTeeth_1 : decode cX11_meanTeeth 1 = .ok (.lstore_n 1, 1) := by decide +kernel
theorem dX11_meanTeeth_2 : decode cX11_meanTeeth 2 = .ok (.iconst 0, 1) := by decide +kernel
theorem dX11_meanTeeth_3 : decode cX11_meanTeeth 3 = .ok (.istore_n 3, 1) := by decide +kernel
theorem dX11_meanTeeth_4 : decode cX11_meanTeeth 4 = .ok (.iload_n 3, 1) := by decide +kernel
theorem dX11_meanTeeth_5 : decode cX11_meanTeeth 5 = .ok (.bipush 10, 2) := by decide +kernel
theorem dX11_meanTeeth_7 : decode cX11_meanTeeth 7 = .ok (.if_icmp .ge 21, 3) := by decide +kernel
theorem dX11_meanTeeth_10 : decode cX11_meanTeeth 10 = .ok (.lload_n 1, 1) := by decide +kernel
theorem dX11_meanTeeth_11 : decode cX11_meanTeeth 11 = .ok (.aload_n 0, 1) := by decide +kernel
theorem dX11_meanTeeth_12 : decode cX11_meanTeeth 12 = .ok (.getfield 7, 3) := by decide +kernel
theorem dX11_meanTeeth_15 : decode cX11_meanTeeth 15 = .ok (.bipush 6, 2) := by decide +kernel
theorem dX11_meanTeeth_17 : decode cX11_meanTeeth 17 = .ok (.iload_n 3, 1) := by decide +kernel
theorem dX11_meanTeeth_18 : decode cX11_meanTeeth 18 = .ok (.iadd, 1) := by decide +kernel
theorem dX11_meanTeeth_19 : decode cX11_meanTeeth 19 = .ok (.laload, 1) := by decide +kernel
theorem dX11_meanTeeth_20 : decode cX11_meanTeeth 20 = .ok (.ladd, 1) := by decide +kernel
theorem dX11_meanTeeth_21 : decode cX11_meanTeeth 21 = .ok (.lstore_n 1, 1) := by decide +kernel
theorem dX11_meanTeeth_22 : decode cX11_meanTeeth 22 = .ok (.iinc 3 1, 3) := by decide +kernel
theorem dX11_meanTeeth_25 : decode cX11_meanTeeth 25 = .ok (.goto (-21), 3) := by decide +kernel
theorem dX11_meanTeeth_28 : decode cX11_meanTeeth 28 = .ok (.aload_n 0, 1) := by decide +kernel
theorem dX11_meanTeeth_29 : decode cX11_meanTeeth 29 = .ok (.aload_n 0, 1) := by decide +kernel
theorem dX11_meanTeeth_30 : decode cX11_meanTeeth 30 = .ok (.getfield 7, 3) := by decide +kernel
theorem dX11_meanTeeth_33 : decode cX11_meanTeeth 33 = .ok (.iconst 0, 1) := by decide +kernel
theorem dX11_meanTeeth_34 : decode cX11_meanTeeth 34 = .ok (.laload, 1) := by decide +kernel
theorem dX11_meanTeeth_35 : decode cX11_meanTeeth 35 = .ok (.lconst 0, 1) := by decide +kernel
theorem dX11_meanTeeth_36 : decode cX11_meanTeeth 36 = .ok (.lcmp, 1) := by decide +kernel
theorem dX11_meanTeeth_37 : decode cX11_meanTeeth 37 = .ok (.ifCond .ne 7, 3) := by decide +kernel
theorem dX11_meanTeeth_40 : decode cX11_meanTeeth 40 = .ok (.iconst 1, 1) := by decide +kernel
theorem dX11_meanTeeth_41 : decode cX11_meanTeeth 41 = .ok (.goto 4, 3) := by decide +kernel
theorem dX11_meanTeeth_44 : decode cX11_meanTeeth 44 = .ok (.iconst 0, 1) := by decide +kernel
theorem dX11_meanTeeth_45 : decode cX11_meanTeeth 45 = .ok (.putfield 49, 3) := by decide +kernel
theorem dX11_meanTeeth_48 : decode cX11_meanTeeth 48 = .ok (.aload_n 0, 1) := by decide +kernel
theorem dX11_meanTeeth_49 : decode cX11_meanTeeth 49 = .ok (.getfield 49, 3) := by decide +kernel
theorem dX11_meanTeeth_52 : decode cX11_meanTeeth 52 = .ok (.ifCond .le 7, 3) := by decide +kernel
theorem dX11_meanTeeth_55 : decode cX11_meanTeeth 55 = .ok (.dconst 0, 1) := by decide +kernel
theorem dX11_meanTeeth_56 : decode cX11_meanTeeth 56 = .ok (.goto 13, 3) := by decide +kernel
theorem dX11_meanTeeth_59 : decode cX11_meanTeeth 59 = .ok (.lload_n 1, 1) := by decide +kernel
theorem dX11_meanTeeth_60 : decode cX11_meanTeeth 60 = .ok (.l2d, 1) := by decide +kernel
theorem dX11_meanTeeth_61 : decode cX11_meanTeeth 61 = .ok (.aload_n 0, 1) := by decide +kernel
theorem dX11_meanTeeth_62 : decode cX11_meanTeeth 62 = .ok (.getfield 7, 3) := by decide +kernel
theorem dX11_meanTeeth_65 : decode cX11_meanTeeth 65 = .ok (.iconst 0, 1) := by decide +kernel
theorem dX11_meanTeeth_66 : decode cX11_meanTeeth 66 = .ok (.laload, 1) := by decide +kernel
theorem dX11_meanTeeth_67 : decode cX11_meanTeeth 67 = .ok (.l2d, 1) := by decide +kernel
theorem dX11_meanTeeth_68 : decode cX11_meanTeeth 68 = .ok (.ddiv, 1) := by decide +kernel
theorem dX11_meanTeeth_69 : decode cX11_meanTeeth 69 = .ok (.dreturn, 1) := by decide +kernel
set_option maxRecDepth 20000 in
theorem ggX11_dryShare_X11_at : GoodIn wsX11_dryShare wsX11_at := goodIn_ca (goodIn_r _ [7, 1, 8, 9, 10, 11, 12, 13, 14, 15, 16, 17, 18, 19, 20, 21, 22, 23, 24, 25] (by decide +kernel) (by decide +kernel)) (goodIn_sub (fun _ h => List.mem_cons_of_mem _ (List.mem_append_right _ h)) (by decide +kernel))
set_option maxRecDepth 20000 in
theorem gX11_dryShare_X11_at : GoodIn wsX11_dryShare (wsV RX11 61 RX11 yX11_at wsX11_at) := goodIn_app (goodIn_of _ (by decide +kernel)) ggX11_dryShare_X11_at
theorem dX11_dryShare_0 : decode cX11_dryShare 0 = .ok (.iconst 0, 1) := by decide +kernel
theorem dX11_dryShare_1 : decode cX11_dryShare 1 = .ok (.istore_n 1, 1) := by decide +kernel
theorem dX11_dryShare_2 : decode cX11_dryShare 2 = .ok (.iconst 0, 1) := by decide +kernel
theorem dX11_dryShare_3 : decode cX11_dryShare 3 = .ok (.istore_n 2, 1) := by decide +kernel
theorem dX11_dryShare_4 : decode cX11_dryShare 4 = .ok (.iload_n 2, 1) := by decide +kernel
theorem dX11_dryShare_5 : decode cX11_dryShare 5 = .ok (.aload_n 0, 1) := by decide +kernel
theorem dX11_dryShare_6 : decode cX11_dryShare 6 = .ok (.iconst 0, 1) := by decide +kernel
theorem dX11_dryShare_7 : decode cX11_dryShare 7 = .ok (.invokevirtual 61, 3) := by decide +kernel
theorem dX11_dryShare_10 : decode cX11_dryShare 10 = .ok (.if_icmp .ge 31, 3) := by decide +kernel
theorem dX11_dryShare_13 : decode cX11_dryShare 13 = .ok (.iload_n 1, 1) := by decide +kernel
theorem dX11_dryShare_14 : decode cX11_dryShare 14 = .ok (.aload_n 0, 1) := by decide +kernel
theorem dX11_dryShare_15 : decode cX11_dryShare 15 = .ok (.getfield 7, 3) := by decide +kernel
theorem dX11_dryShare_18 : decode cX11_dryShare 18 = .ok (.bipush 66, 2) := by decide +kernel
theorem dX11_dryShare_20 : decode cX11_dryShare 20 = .ok (.iload_n 2, 1) := by decide +kernel
theorem dX11_dryShare_21 : decode cX11_dryShare 21 = .ok (.iadd, 1) := by decide +kernel
theorem dX11_dryShare_22 : decode cX11_dryShare 22 = .ok (.laload, 1) := by decide +kernel
theorem dX11_dryShare_23 : decode cX11_dryShare 23 = .ok (.lconst 0, 1) := by decide +kernel
theorem dX11_dryShare_24 : decode cX11_dryShare 24 = .ok (.lcmp, 1) := by decide +kernel
theorem dX11_dryShare_25 : decode cX11_dryShare 25 = .ok (.ifCond .ne 7, 3) := by decide +kernel
theorem dX11_dryShare_28 : decode cX11_dryShare 28 = .ok (.iconst 1, 1) := by decide +kernel
theorem dX11_dryShare_29 : decode cX11_dryShare 29 = .ok (.goto 4, 3) := by decide +kernel
theorem dX11_dryShare_32 : decode cX11_dryShare 32 = .ok (.iconst 0, 1) := by decide +kernel
theorem dX11_dryShare_33 : decode cX11_dryShare 33 = .ok (.iadd, 1) := by decide +kernel
theorem dX11_dryShare_34 : decode cX11_dryShare 34 = .ok (.istore_n 1, 1) := by decide +kernel
theorem dX11_dryShare_35 : decode cX11_dryShare 35 = .ok (.iinc 2 1, 3) := by decide +kernel
theorem dX11_dryShare_38 : decode cX11_dryShare 38 = .ok (.goto (-34), 3) := by decide +kernel
theorem dX11_dryShare_41 : decode cX11_dryShare 41 = .ok (.aload_n 0, 1) := by decide +kernel
theorem dX11_dryShare_42 : decode cX11_dryShare 42 = .ok (.aload_n 0, 1) := by decide +kernel
theorem dX11_dryShare_43 : decode cX11_dryShare 43 = .ok (.getfield 7, 3) := by decide +kernel
theorem dX11_dryShare_46 : decode cX11_dryShare 46 = .ok (.iconst 0, 1) := by decide +kernel
theorem dX11_dryShare_47 : decode cX11_dryShare 47 = .ok (.laload, 1) := by decide +kernel
theorem dX11_dryShare_48 : decode cX11_dryShare 48 = .ok (.lconst 0, 1) := by decide +kernel
theorem dX11_dryShare_49 : decode cX11_dryShare 49 = .ok (.lcmp, 1) := by decide +kernel
theorem dX11_dryShare_50 : decode cX11_dryShare 50 = .ok (.ifCond .ne 7, 3) := by decide +kernel
theorem dX11_dryShare_53 : decode cX11_dryShare 53 = .ok (.iconst 1, 1) := by decide +kernel
theorem dX11_dryShare_54 : decode cX11_dryShare 54 = .ok (.goto 4, 3) := by decide +kernel
theorem dX11_dryShare_57 : decode cX11_dryShare 57 = .ok (.iconst 0, 1) := by decide +kernel
theorem dX11_dryShare_58 : decode cX11_dryShare 58 = .ok (.putfield 49, 3) := by decide +kernel
theorem dX11_dryShare_61 : decode cX11_dryShare 61 = .ok (.aload_n 0, 1) := by decide +kernel
theorem dX11_dryShare_62 : decode cX11_dryShare 62 = .ok (.getfield 49, 3) := by decide +kernel
theorem dX11_dryShare_65 : decode cX11_dryShare 65 = .ok (.ifCond .le 7, 3) := by decide +kernel
theorem dX11_dryShare_68 : decode cX11_dryShare 68 = .ok (.fconst 0, 1) := by decide +kernel
theorem dX11_dryShare_69 : decode cX11_dryShare 69 = .ok (.goto 12, 3) := by decide +kernel
theorem dX11_dryShare_72 : decode cX11_dryShare 72 = .ok (.iload_n 1, 1) := by decide +kernel
theorem dX11_dryShare_73 : decode cX11_dryShare 73 = .ok (.i2f, 1) := by decide +kernel
theorem dX11_dryShare_74 : decode cX11_dryShare 74 = .ok (.aload_n 0, 1) := by decide +kernel
theorem dX11_dryShare_75 : decode cX11_dryShare 75 = .ok (.iconst 0, 1) := by decide +kernel
theorem dX11_dryShare_76 : decode cX11_dryShare 76 = .ok (.invokevirtual 61, 3) := by decide +kernel
theorem dX11_dryShare_79 : decode cX11_dryShare 79 = .ok (.i2f, 1) := by decide +kernel
theorem dX11_dryShare_80 : decode cX11_dryShare 80 = .ok (.fdiv, 1) := by decide +kernel
theorem dX11_dryShare_81 : decode cX11_dryShare 81 = .ok (.freturn, 1) := by decide +kernel
theorem dX11_isConsistent_0 : decode cX11_isConsistent 0 = .ok (.aload_n 0, 1) := by decide +kernel
theorem dX11_isConsistent_1 : decode cX11_isConsistent 1 = .ok (.iconst 0, 1) := by decide +kernel
theorem dX11_isConsistent_2 : decode cX11_isConsistent 2 = .ok (.putfield 49, 3) := by decide +kernel
theorem dX11_isConsistent_5 : decode cX11_isConsistent 5 = .ok (.iconst 1, 1) := by decide +kernel
theorem dX11_isConsistent_6 : decode cX11_isConsistent 6 = .ok (.ireturn, 1) := by decide +kernel
theorem dX11_writes_0 : decode cX11_writes 0 = .ok (.aload_n 0, 1) := by decide +kernel
theorem dX11_writes_1 : decode cX11_writes 1 = .ok (.getfield 33, 3) := by decide +kernel
theorem dX11_writes_4 : decode cX11_writes 4 = .ok (.aload_n 0, 1) := by decide +kernel
theorem dX11_writes_5 : decode cX11_writes 5 = .ok (.getfield 215, 3) := by decide +kernel
theorem dX11_writes_8 : decode cX11_writes 8 = .ok (.iload_n 1, 1) := by decide +kernel
theorem dX11_writes_9 : decode cX11_writes 9 = .ok (.i2c, 1) := by decide +kernel
theorem dX11_writes_10 : decode cX11_writes 10 = .ok (.castore, 1) := by decide +kernel
theorem dX11_writes_11 : decode cX11_writes 11 = .ok (.aload_n 0, 1) := by decide +kernel
theorem dX11_writes_12 : decode cX11_writes 12 = .ok (.dup, 1) := by decide +kernel
theorem dX11_writes_13 : decode cX11_writes 13 = .ok (.getfield 215, 3) := by decide +kernel
theorem dX11_writes_16 : decode cX11_writes 16 = .ok (.iconst 1, 1) := by decide +kernel
theorem dX11_writes_17 : decode cX11_writes 17 = .ok (.iadd, 1) := by decide +kernel
theorem dX11_writes_18 : decode cX11_writes 18 = .ok (.putfield 215, 3) := by decide +kernel
theorem dX11_writes_21 : decode cX11_writes 21 = .ok (.return_, 1) := by decide +kernel
set_option maxRecDepth 20000 in
theorem ggX11_writesNumber_X11_writes : GoodIn wsX11_writesNumber wsX11_writes := goodIn_ca (goodIn_r _ [5, 6, 7, 8, 9, 10, 11, 12, 13, 14, 15, 16, 17, 18, 19, 20, 21, 22, 23, 24, 25] (by decide +kernel) (by decide +kernel)) (goodIn_sub (fun _ h => List.mem_cons_of_mem _ (List.mem_append_right _ h)) (by decide +kernel))
set_option maxRecDepth 20000 in
theorem gX11_writesNumber_X11_writes : GoodIn wsX11_writesNumber (wsV RX11 218 RX11 yX11_writes wsX11_writes) := goodIn_app (goodIn_of _ (by decide +kernel)) ggX11_writesNumber_X11_writes
theorem dX11_writesNumber_0 : decode cX11_writesNumber 0 = .ok (.sipush 1000, 3) := by decide +kernel
theorem dX11_writesNumber_3 : decode cX11_writesNumber 3 = .ok (.istore_n 2, 1) := by decide +kernel
theorem dX11_writesNumber_4 : decode cX11_writesNumber 4 = .ok (.iload_n 2, 1) := by decide +kernel
theorem dX11_writesNumber_5 : decode cX11_writesNumber 5 = .ok (.iconst 1, 1) := by decide +kernel
theorem dX11_writesNumber_6 : decode cX11_writesNumber 6 = .ok (.if_icmp .le 16, 3) := by decide +kernel
theorem dX11_writesNumber_9 : decode cX11_writesNumber 9 = .ok (.iload_n 1, 1) := by decide +kernel
theorem dX11_writesNumber_10 : decode cX11_writesNumber 10 = .ok (.iload_n 2, 1) := by decide +kernel
theorem dX11_writesNumber_11 : decode cX11_writesNumber 11 = .ok (.if_icmp .ge 11, 3) := by decide +kernel
theorem dX11_writesNumber_14 : decode cX11_writesNumber 14 = .ok (.iload_n 2, 1) := by decide +kernel
theorem dX11_writesNumber_15 : decode cX11_writesNumber 15 = .ok (.bipush 10, 2) := by decide +kernel
theorem dX11_writesNumber_17 : decode cX11_writesNumber 17 = .ok (.idiv, 1) := by decide +kernel
theorem dX11_writesNumber_18 : decode cX11_writesNumber 18 = .ok (.istore_n 2, 1) := by decide +kernel
theorem dX11_writesNumber_19 : decode cX11_writesNumber 19 = .ok (.goto (-15), 3) := by decide +kernel
theorem dX11_writesNumber_22 : decode cX11_writesNumber 22 = .ok (.iload_n 2, 1) := by decide +kernel
theorem dX11_writesNumber_23 : decode cX11_writesNumber 23 = .ok (.ifCond .le 24, 3) := by decide +kernel
theorem dX11_writesNumber_26 : decode cX11_writesNumber 26 = .ok (.aload_n 0, 1) := by decide +kernel
theorem dX11_writesNumber_27 : decode cX11_writesNumber 27 = .ok (.bipush 48, 2) := by decide +kernel
theorem dX11_writesNumber_29 : decode cX11_writesNumber 29 = .ok (.iload_n 1, 1) := by decide +kernel
theorem dX11_writesNumber_30 : decode cX11_writesNumber 30 = .ok (.iload_n 2, 1) := by decide +kernel
theorem dX11_writesNumber_31 : decode cX11_writesNumber 31 = .ok (.idiv, 1) := by decide +kernel
theorem dX11_writesNumber_32 : decode cX11_writesNumber 32 = .ok (.bipush 10, 2) := by decide +kernel
theorem dX11_writesNumber_34 : decode cX11_writesNumber 34 = .ok (.irem, 1) := by decide +kernel
theorem dX11_writesNumber_35 : decode cX11_writesNumber 35 = .ok (.iadd, 1) := by decide +kernel
theorem dX11_writesNumber_36 : decode cX11_writesNumber 36 = .ok (.invokevirtual 218, 3) := by decide +kernel
theorem dX11_writesNumber_39 : decode cX11_writesNumber 39 = .ok (.iload_n 2, 1) := by decide +kernel
theorem dX11_writesNumber_40 : decode cX11_writesNumber 40 = .ok (.bipush 10, 2) := by decide +kernel
theorem dX11_writesNumber_42 : decode cX11_writesNumber 42 = .ok (.idiv, 1) := by decide +kernel
theorem dX11_writesNumber_43 : decode cX11_writesNumber 43 = .ok (.istore_n 2, 1) := by decide +kernel
theorem dX11_writesNumber_44 : decode cX11_writesNumber 44 = .ok (.goto (-22), 3) := by decide +kernel
theorem dX11_writesNumber_47 : decode cX11_writesNumber 47 = .ok (.return_, 1) := by decide +kernel
set_option maxRecDepth 20000 in
theorem ggX11_writesIf_X11_writes : GoodIn wsX11_writesIf wsX11_writes := goodIn_ca (goodIn_r _ [5, 6, 7, 8, 9, 10, 11, 12, 13, 14, 15, 16, 17, 18, 19, 20, 21, 22, 23, 24, 25] (by decide +kernel) (by decide +kernel)) (goodIn_sub (fun _ h => List.mem_cons_of_mem _ (List.mem_append_right _ h)) (by decide +kernel))
set_option maxRecDepth 20000 in
theorem gX11_writesIf_X11_writes : GoodIn wsX11_writesIf (wsV RX11 218 RX11 yX11_writes wsX11_writes) := goodIn_app (goodIn_of _ (by decide +kernel)) ggX11_writesIf_X11_writes
theorem dX11_writesIf_0 : decode cX11_writesIf 0 = .ok (.iload_n 1, 1) := by decide +kernel
theorem dX11_writesIf_1 : decode cX11_writesIf 1 = .ok (.ifCond .eq 8, 3) := by decide +kernel
theorem dX11_writesIf_4 : decode cX11_writesIf 4 = .ok (.aload_n 0, 1) := by decide +kernel
theorem dX11_writesIf_5 : decode cX11_writesIf 5 = .ok (.iload_n 2, 1) := by decide +kernel
theorem dX11_writesIf_6 : decode cX11_writesIf 6 = .ok (.invokevirtual 218, 3) := by decide +kernel
theorem dX11_writesIf_9 : decode cX11_writesIf 9 = .ok (.return_, 1) := by decide +kernel
set_option maxRecDepth 20000 in
theorem ggX11_renderGear_X11_isGear : GoodIn wsX11_renderGear wsX11_isGear := goodIn_ca (goodIn_r _ [7, 8, 9, 10, 6, 11, 2, 12, 13, 14, 41, 42, 43, 44, 45, 46, 47, 48, 49, 50, 51, 52, 53, 54, 55, 56, 57, 58] (by decide +kernel) (by decide +kernel)) (goodIn_sub (fun _ h => List.mem_cons_of_mem _ (List.mem_append_left _ (List.mem_append_right _ h))) (by decide +kernel))
set_option maxRecDepth 20000 in
theorem gX11_renderGear_X11_isGear : GoodIn wsX11_renderGear (wsV RX11 69 RX11 yX11_isGear wsX11_isGear) := goodIn_app (goodIn_of _ (by decide +kernel)) ggX11_renderGear_X11_isGear
set_option maxRecDepth 20000 in
theorem ggX11_renderGear_X11_fails : GoodIn wsX11_renderGear wsX11_fails := goodIn_r _ [18, 19, 41, 42, 43, 44, 45, 46, 47, 48, 49, 50, 51, 52, 53, 54, 55, 56, 57, 58] (by decide +kernel) (by decide +kernel)
set_option maxRecDepth 20000 in
theorem gX11_renderGear_X11_fails : GoodIn wsX11_renderGear (wsV RX11 95 RX11 yX11_fails wsX11_fails) := goodIn_app (goodIn_of _ (by decide +kernel)) ggX11_renderGear_X11_fails
set_option maxRecDepth 20000 in
theorem ggX11_renderGear_X11_writesNumber : GoodIn wsX11_renderGear wsX11_writesNumber := goodIn_ca (goodIn_ca (goodIn_r _ [23, 24, 25, 26, 6, 27, 28, 1, 41, 42, 43, 44, 45, 46, 47, 48, 49, 50, 51, 52, 53, 54, 55, 56, 57, 58] (by decide +kernel) (by decide +kernel)) (goodIn_sub (fun _ h => List.mem_cons_of_mem _ (List.mem_append_right _ h)) (by decide +kernel))) (goodIn_sub (fun _ h => List.mem_cons_of_mem _ (List.mem_append_left _ (List.mem_append_right _ h))) (by decide +kernel))
set_option maxRecDepth 20000 in
theorem gX11_renderGear_X11_writesNumber : GoodIn wsX11_renderGear (wsV RX11 221 RX11 yX11_writesNumber wsX11_writesNumber) := goodIn_app (goodIn_of _ (by decide +kernel)) ggX11_renderGear_X11_writesNumber
set_option maxRecDepth 20000 in
theorem ggX11_renderGear_X11_writes : GoodIn wsX11_renderGear wsX11_writes := goodIn_ca (goodIn_r _ [27, 28, 1, 41, 42, 43, 44, 45, 46, 47, 48, 49, 50, 51, 52, 53, 54, 55, 56, 57, 58] (by decide +kernel) (by decide +kernel)) (goodIn_sub (fun _ h => List.mem_cons_of_mem _ (List.mem_append_left _ (List.mem_append_right _ h))) (by decide +kernel))
set_option maxRecDepth 20000 in
theorem gX11_renderGear_X11_writes : GoodIn wsX11_renderGear (wsV RX11 218 RX11 yX11_writes wsX11_writes) := goodIn_app (goodIn_of _ (by decide +kernel)) ggX11_renderGear_X11_writes
set_option maxRecDepth 20000 in
theorem ggX11_renderGear_X11_at : GoodIn wsX11_renderGear wsX11_at := goodIn_ca (goodIn_r _ [11, 2, 41, 42, 43, 44, 45, 46, 47, 48, 49, 50, 51, 52, 53, 54, 55, 56, 57, 58] (by decide +kernel) (by decide +kernel)) (goodIn_sub (fun _ h => List.mem_cons_of_mem _ (List.mem_append_left _ (List.mem_append_right _ h))) (by decide +kernel))
set_option maxRecDepth 20000 in
theorem gX11_renderGear_X11_at : GoodIn wsX11_renderGear (wsV RX11 61 RX11 yX11_at wsX11_at) := goodIn_app (goodIn_of _ (by decide +kernel)) ggX11_renderGear_X11_at
set_option maxRecDepth 20000 in
theorem ggX11_renderGear_X11_writesIf : GoodIn wsX11_renderGear wsX11_writesIf := goodIn_ca (goodIn_r _ [32, 24, 25, 26, 6, 27, 28, 1, 41, 42, 43, 44, 45, 46, 47, 48, 49, 50, 51, 52, 53, 54, 55, 56, 57, 58] (by decide +kernel) (by decide +kernel)) (goodIn_sub (fun _ h => List.mem_cons_of_mem _ (List.mem_append_left _ (List.mem_append_right _ h))) (by decide +kernel))
set_option maxRecDepth 20000 in
theorem gX11_renderGear_X11_writesIf : GoodIn wsX11_renderGear (wsV RX11 224 RX11 yX11_writesIf wsX11_writesIf) := goodIn_app (goodIn_of _ (by decide +kernel)) ggX11_renderGear_X11_writesIf
set_option maxRecDepth 20000 in
theorem ggX11_renderGear_X11_hasSpring : GoodIn wsX11_renderGear wsX11_hasSpring := goodIn_ca (goodIn_r _ [36, 8, 9, 10, 6, 11, 2, 41, 42, 43, 44, 45, 46, 47, 48, 49, 50, 51, 52, 53, 54, 55, 56, 57, 58] (by decide +kernel) (by decide +kernel)) (goodIn_sub (fun _ h => List.mem_cons_of_mem _ (List.mem_append_left _ (List.mem_append_right _ h))) (by decide +kernel))
set_option maxRecDepth 20000 in
theorem gX11_renderGear_X11_hasSpring : GoodIn wsX11_renderGear (wsV RX11 81 RX11 yX11_hasSpring wsX11_hasSpring) := goodIn_app (goodIn_of _ (by decide +kernel)) ggX11_renderGear_X11_hasSpring
set_option maxRecDepth 20000 in
theorem ggX11_renderGear_X11_done : GoodIn wsX11_renderGear wsX11_done := goodIn_r _ [40, 19, 41, 42, 43, 44, 45, 46, 47, 48, 49, 50, 51, 52, 53, 54, 55, 56, 57, 58] (by decide +kernel) (by decide +kernel)
set_option maxRecDepth 20000 in
theorem gX11_renderGear_X11_done : GoodIn wsX11_renderGear (wsV RX11 98 RX11 yX11_done wsX11_done) := goodIn_app (goodIn_of _ (by decide +kernel)) ggX11_renderGear_X11_done
theorem dX11_renderGear_0 : decode cX11_renderGear 0 = .ok (.aload_n 0, 1) := by decide +kernel
theorem dX11_renderGear_1 : decode cX11_renderGear 1 = .ok (.iload_n 1, 1) := by decide +kernel
theorem dX11_renderGear_2 : decode cX11_renderGear 2 = .ok (.invokevirtual 69, 3) := by decide +kernel
theorem dX11_renderGear_5 : decode cX11_renderGear 5 = .ok (.ifCond .ne 9, 3) := by decide +kernel
theorem dX11_renderGear_8 : decode cX11_renderGear 8 = .ok (.aload_n 0, 1) := by decide +kernel
theorem dX11_renderGear_9 : decode cX11_renderGear 9 = .ok (.iconst 1, 1) := by decide +kernel
theorem dX11_renderGear_10 : decode cX11_renderGear 10 = .ok (.invokevirtual 95, 3) := by decide +kernel
theorem dX11_renderGear_13 : decode cX11_renderGear 13 = .ok (.ireturn, 1) := by decide +kernel
theorem dX11_renderGear_14 : decode cX11_renderGear 14 = .ok (.aload_n 0, 1) := by decide +kernel
theorem dX11_renderGear_15 : decode cX11_renderGear 15 = .ok (.iconst 0, 1) := by decide +kernel
theorem dX11_renderGear_16 : decode cX11_renderGear 16 = .ok (.putfield 215, 3) := by decide +kernel
theorem dX11_renderGear_19 : decode cX11_renderGear 19 = .ok (.aload_n 0, 1) := by decide +kernel
theorem dX11_renderGear_20 : decode cX11_renderGear 20 = .ok (.iload_n 1, 1) := by decide +kernel
theorem dX11_renderGear_21 : decode cX11_renderGear 21 = .ok (.invokevirtual 221, 3) := by decide +kernel
theorem dX11_renderGear_24 : decode cX11_renderGear 24 = .ok (.aload_n 0, 1) := by decide +kernel
theorem dX11_renderGear_25 : decode cX11_renderGear 25 = .ok (.bipush 58, 2) := by decide +kernel
theorem dX11_renderGear_27 : decode cX11_renderGear 27 = .ok (.invokevirtual 218, 3) := by decide +kernel
theorem dX11_renderGear_30 : decode cX11_renderGear 30 = .ok (.aload_n 0, 1) := by decide +kernel
theorem dX11_renderGear_31 : decode cX11_renderGear 31 = .ok (.aload_n 0, 1) := by decide +kernel
theorem dX11_renderGear_32 : decode cX11_renderGear 32 = .ok (.bipush 6, 2) := by decide +kernel
theorem dX11_renderGear_34 : decode cX11_renderGear 34 = .ok (.iload_n 1, 1) := by decide +kernel
theorem dX11_renderGear_35 : decode cX11_renderGear 35 = .ok (.iadd, 1) := by decide +kernel
theorem dX11_renderGear_36 : decode cX11_renderGear 36 = .ok (.invokevirtual 61, 3) := by decide +kernel
theorem dX11_renderGear_39 : decode cX11_renderGear 39 = .ok (.invokevirtual 221, 3) := by decide +kernel
theorem dX11_renderGear_42 : decode cX11_renderGear 42 = .ok (.aload_n 0, 1) := by decide +kernel
theorem dX11_renderGear_43 : decode cX11_renderGear 43 = .ok (.aload_n 0, 1) := by decide +kernel
theorem dX11_renderGear_44 : decode cX11_renderGear 44 = .ok (.getfield 7, 3) := by decide +kernel
theorem dX11_renderGear_47 : decode cX11_renderGear 47 = .ok (.bipush 66, 2) := by decide +kernel
theorem dX11_renderGear_49 : decode cX11_renderGear 49 = .ok (.iload_n 1, 1) := by decide +kernel
theorem dX11_renderGear_50 : decode cX11_renderGear 50 = .ok (.iadd, 1) := by decide +kernel
theorem dX11_renderGear_51 : decode cX11_renderGear 51 = .ok (.laload, 1) := by decide +kernel
theorem dX11_renderGear_52 : decode cX11_renderGear 52 = .ok (.lconst 0, 1) := by decide +kernel
theorem dX11_renderGear_53 : decode cX11_renderGear 53 = .ok (.lcmp, 1) := by decide +kernel
theorem dX11_renderGear_54 : decode cX11_renderGear 54 = .ok (.ifCond .ne 7, 3) := by decide +kernel
theorem dX11_renderGear_57 : decode cX11_renderGear 57 = .ok (.iconst 1, 1) := by decide +kernel
theorem dX11_renderGear_58 : decode cX11_renderGear 58 = .ok (.goto 4, 3) := by decide +kernel
theorem dX11_renderGear_61 : decode cX11_renderGear 61 = .ok (.iconst 0, 1) := by decide +kernel
theorem dX11_renderGear_62 : decode cX11_renderGear 62 = .ok (.bipush 100, 2) := by decide +kernel
theorem dX11_renderGear_64 : decode cX11_renderGear 64 = .ok (.invokevirtual 224, 3) := by decide +kernel
theorem dX11_renderGear_67 : decode cX11_renderGear 67 = .ok (.aload_n 0, 1) := by decide +kernel
theorem dX11_renderGear_68 : decode cX11_renderGear 68 = .ok (.aload_n 0, 1) := by decide +kernel
theorem dX11_renderGear_69 : decode cX11_renderGear 69 = .ok (.getfield 7, 3) := by decide +kernel
theorem dX11_renderGear_72 : decode cX11_renderGear 72 = .ok (.bipush 56, 2) := by decide +kernel
theorem dX11_renderGear_74 : decode cX11_renderGear 74 = .ok (.iload_n 1, 1) := by decide +kernel
theorem dX11_renderGear_75 : decode cX11_renderGear 75 = .ok (.iadd, 1) := by decide +kernel
theorem dX11_renderGear_76 : decode cX11_renderGear 76 = .ok (.laload, 1) := by decide +kernel
theorem dX11_renderGear_77 : decode cX11_renderGear 77 = .ok (.lconst 1, 1) := by decide +kernel
theorem dX11_renderGear_78 : decode cX11_renderGear 78 = .ok (.lcmp, 1) := by decide +kernel
theorem dX11_renderGear_79 : decode cX11_renderGear 79 = .ok (.ifCond .ne 7, 3) := by decide +kernel
theorem dX11_renderGear_82 : decode cX11_renderGear 82 = .ok (.iconst 1, 1) := by decide +kernel
theorem dX11_renderGear_83 : decode cX11_renderGear 83 = .ok (.goto 4, 3) := by decide +kernel
theorem dX11_renderGear_86 : decode cX11_renderGear 86 = .ok (.iconst 0, 1) := by decide +kernel
theorem dX11_renderGear_87 : decode cX11_renderGear 87 = .ok (.bipush 114, 2) := by decide +kernel
theorem dX11_renderGear_89 : decode cX11_renderGear 89 = .ok (.invokevirtual 224, 3) := by decide +kernel
theorem dX11_renderGear_92 : decode cX11_renderGear 92 = .ok (.aload_n 0, 1) := by decide +kernel
theorem dX11_renderGear_93 : decode cX11_renderGear 93 = .ok (.iload_n 1, 1) := by decide +kernel
theorem dX11_renderGear_94 : decode cX11_renderGear 94 = .ok (.invokevirtual 81, 3) := by decide +kernel
theorem dX11_renderGear_97 : decode cX11_renderGear 97 = .ok (.ifCond .eq 64, 3) := by decide +kernel
theorem dX11_renderGear_100 : decode cX11_renderGear 100 = .ok (.aload_n 0, 1) := by decide +kernel
theorem dX11_renderGear_101 : decode cX11_renderGear 101 = .ok (.bipush 115, 2) := by decide +kernel
theorem dX11_renderGear_103 : decode cX11_renderGear 103 = .ok (.invokevirtual 218, 3) := by decide +kernel
theorem dX11_renderGear_106 : decode cX11_renderGear 106 = .ok (.aload_n 0, 1) := by decide +kernel
theorem dX11_renderGear_107 : decode cX11_renderGear 107 = .ok (.aload_n 0, 1) := by decide +kernel
theorem dX11_renderGear_108 : decode cX11_renderGear 108 = .ok (.bipush 36, 2) := by decide +kernel
theorem dX11_renderGear_110 : decode cX11_renderGear 110 = .ok (.iload_n 1, 1) := by decide +kernel
theorem dX11_renderGear_111 : decode cX11_renderGear 111 = .ok (.iadd, 1) := by decide +kernel
theorem dX11_renderGear_112 : decode cX11_renderGear 112 = .ok (.invokevirtual 61, 3) := by decide +kernel
theorem dX11_renderGear_115 : decode cX11_renderGear 115 = .ok (.invokevirtual 221, 3) := by decide +kernel
theorem dX11_renderGear_118 : decode cX11_renderGear 118 = .ok (.aload_n 0, 1) := by decide +kernel
theorem dX11_renderGear_119 : decode cX11_renderGear 119 = .ok (.bipush 47, 2) := by decide +kernel
theorem dX11_renderGear_121 : decode cX11_renderGear 121 = .ok (.invokevirtual 218, 3) := by decide +kernel
theorem dX11_renderGear_124 : decode cX11_renderGear 124 = .ok (.aload_n 0, 1) := by decide +kernel
theorem dX11_renderGear_125 : decode cX11_renderGear 125 = .ok (.aload_n 0, 1) := by decide +kernel
theorem dX11_renderGear_126 : decode cX11_renderGear 126 = .ok (.bipush 26, 2) := by decide +kernel
theorem dX11_renderGear_128 : decode cX11_renderGear 128 = .ok (.iload_n 1, 1) := by decide +kernel
theorem dX11_renderGear_129 : decode cX11_renderGear 129 = .ok (.iadd, 1) := by decide +kernel
theorem dX11_renderGear_130 : decode cX11_renderGear 130 = .ok (.invokevirtual 61, 3) := by decide +kernel
theorem dX11_renderGear_133 : decode cX11_renderGear 133 = .ok (.invokevirtual 221, 3) := by decide +kernel
theorem dX11_renderGear_136 : decode cX11_renderGear 136 = .ok (.aload_n 0, 1) := by decide +kernel
theorem dX11_renderGear_137 : decode cX11_renderGear 137 = .ok (.aload_n 0, 1) := by decide +kernel
theorem dX11_renderGear_138 : decode cX11_renderGear 138 = .ok (.getfield 7, 3) := by decide +kernel
theorem dX11_renderGear_141 : decode cX11_renderGear 141 = .ok (.bipush 46, 2) := by decide +kernel
theorem dX11_renderGear_143 : decode cX11_renderGear 143 = .ok (.iload_n 1, 1) := by decide +kernel
theorem dX11_renderGear_144 : decode cX11_renderGear 144 = .ok (.iadd, 1) := by decide +kernel
theorem dX11_renderGear_145 : decode cX11_renderGear 145 = .ok (.laload, 1) := by decide +kernel
theorem dX11_renderGear_146 : decode cX11_renderGear 146 = .ok (.lconst 1, 1) := by decide +kernel
theorem dX11_renderGear_147 : decode cX11_renderGear 147 = .ok (.lcmp, 1) := by decide +kernel
theorem dX11_renderGear_148 : decode cX11_renderGear 148 = .ok (.ifCond .ne 7, 3) := by decide +kernel
theorem dX11_renderGear_151 : decode cX11_renderGear 151 = .ok (.iconst 1, 1) := by decide +kernel
theorem dX11_renderGear_152 : decode cX11_renderGear 152 = .ok (.goto 4, 3) := by decide +kernel
theorem dX11_renderGear_155 : decode cX11_renderGear 155 = .ok (.iconst 0, 1) := by decide +kernel
theorem dX11_renderGear_156 : decode cX11_renderGear 156 = .ok (.bipush 45, 2) := by decide +kernel
theorem dX11_renderGear_158 : decode cX11_renderGear 158 = .ok (.invokevirtual 224, 3) := by decide +kernel
theorem dX11_renderGear_161 : decode cX11_renderGear 161 = .ok (.aload_n 0, 1) := by decide +kernel
theorem dX11_renderGear_162 : decode cX11_renderGear 162 = .ok (.aload_n 0, 1) := by decide +kernel
theorem dX11_renderGear_163 : decode cX11_renderGear 163 = .ok (.getfield 215, 3) := by decide +kernel
theorem dX11_renderGear_166 : decode cX11_renderGear 166 = .ok (.invokevirtual 98, 3) := by decide +kernel
theorem dX11_renderGear_169 : decode cX11_renderGear 169 = .ok (.ireturn, 1) := by decide +kernel
set_option maxRecDepth 20000 in
theorem ggX11_renderTrain_X11_isGear : GoodIn wsX11_renderTrain wsX11_isGear := goodIn_ca (goodIn_r _ [7, 8, 9, 10, 6, 11, 12, 13, 14, 15, 56, 57, 58, 59, 60, 61, 62, 63, 64, 65, 66, 67, 68, 69, 70, 71, 72, 73] (by decide +kernel) (by decide +kernel)) (goodIn_sub (fun _ h => List.mem_cons_of_mem _ (List.mem_append_left _ (List.mem_append_right _ h))) (by decide +kernel))
set_option maxRecDepth 20000 in
theorem gX11_renderTrain_X11_isGear : GoodIn wsX11_renderTrain (wsV RX11 69 RX11 yX11_isGear wsX11_isGear) := goodIn_app (goodIn_of _ (by decide +kernel)) ggX11_renderTrain_X11_isGear
set_option maxRecDepth 20000 in
theorem ggX11_renderTrain_X11_fails : GoodIn wsX11_renderTrain wsX11_fails := goodIn_r _ [19, 20, 56, 57, 58, 59, 60, 61, 62, 63, 64, 65, 66, 67, 68, 69, 70, 71, 72, 73] (by decide +kernel) (by decide +kernel)
set_option maxRecDepth 20000 in
theorem gX11_renderTrain_X11_fails : GoodIn wsX11_renderTrain (wsV RX11 95 RX11 yX11_fails wsX11_fails) := goodIn_app (goodIn_of _ (by decide +kernel)) ggX11_renderTrain_X11_fails
set_option maxRecDepth 20000 in
theorem ggX11_renderTrain_X11_turns : GoodIn wsX11_renderTrain wsX11_turns := goodIn_ca (goodIn_ca (goodIn_r _ [24, 2, 25, 26, 27, 28, 29, 6, 30, 12, 31, 32, 33, 34, 8, 9, 10, 11, 56, 57, 58, 59, 60, 61, 62, 63, 64, 65, 66, 67, 68, 69, 70, 71, 72, 73] (by decide +kernel) (by decide +kernel)) (goodIn_sub (fun _ h => List.mem_cons_of_mem _ (List.mem_append_left _ (List.mem_append_right _ h))) (by decide +kernel))) (goodIn_sub (fun _ h => List.mem_cons_of_mem _ (List.mem_append_right _ h)) (by decide +kernel))
set_option maxRecDepth 20000 in
theorem gX11_renderTrain_X11_turns : GoodIn wsX11_renderTrain (wsV RX11 84 RX11 yX11_turns wsX11_turns) := goodIn_app (goodIn_of _ (by decide +kernel)) ggX11_renderTrain_X11_turns
set_option maxRecDepth 20000 in
theorem ggX11_renderTrain_X11_writesIf : GoodIn wsX11_renderTrain wsX11_writesIf := goodIn_ca (goodIn_r _ [38, 39, 40, 41, 6, 42, 43, 1, 56, 57, 58, 59, 60, 61, 62, 63, 64, 65, 66, 67, 68, 69, 70, 71, 72, 73] (by decide +kernel) (by decide +kernel)) (goodIn_sub (fun _ h => List.mem_cons_of_mem _ (List.mem_append_left _ (List.mem_append_right _ h))) (by decide +kernel))
set_option maxRecDepth 20000 in
theorem gX11_renderTrain_X11_writesIf : GoodIn wsX11_renderTrain (wsV RX11 224 RX11 yX11_writesIf wsX11_writesIf) := goodIn_app (goodIn_of _ (by decide +kernel)) ggX11_renderTrain_X11_writesIf
set_option maxRecDepth 20000 in
theorem ggX11_renderTrain_X11_writesNumber : GoodIn wsX11_renderTrain wsX11_writesNumber := goodIn_ca (goodIn_ca (goodIn_r _ [47, 39, 40, 41, 6, 42, 43, 1, 56, 57, 58, 59, 60, 61, 62, 63, 64, 65, 66, 67, 68, 69, 70, 71, 72, 73] (by decide +kernel) (by decide +kernel)) (goodIn_sub (fun _ h => List.mem_cons_of_mem _ (List.mem_append_right _ h)) (by decide +kernel))) (goodIn_sub (fun _ h => List.mem_cons_of_mem _ (List.mem_append_left _ (List.mem_append_right _ h))) (by decide +kernel))
set_option maxRecDepth 20000 in
theorem gX11_renderTrain_X11_writesNumber : GoodIn wsX11_renderTrain (wsV RX11 221 RX11 yX11_writesNumber wsX11_writesNumber) := goodIn_app (goodIn_of _ (by decide +kernel)) ggX11_renderTrain_X11_writesNumber
set_option maxRecDepth 20000 in
theorem ggX11_renderTrain_X11_planetOn : GoodIn wsX11_renderTrain wsX11_planetOn := goodIn_ca (goodIn_r _ [51, 8, 9, 10, 6, 11, 12, 56, 57, 58, 59, 60, 61, 62, 63, 64, 65, 66, 67, 68, 69, 70, 71, 72, 73] (by decide +kernel) (by decide +kernel)) (goodIn_sub (fun _ h => List.mem_cons_of_mem _ (List.mem_append_left _ (List.mem_append_right _ h))) (by decide +kernel))
set_option maxRecDepth 20000 in
theorem gX11_renderTrain_X11_planetOn : GoodIn wsX11_renderTrain (wsV RX11 177 RX11 yX11_planetOn wsX11_planetOn) := goodIn_app (goodIn_of _ (by decide +kernel)) ggX11_renderTrain_X11_planetOn
set_option maxRecDepth 20000 in
theorem ggX11_renderTrain_X11_done : GoodIn wsX11_renderTrain wsX11_done := goodIn_r _ [55, 20, 56, 57, 58, 59, 60, 61, 62, 63, 64, 65, 66, 67, 68, 69, 70, 71, 72, 73] (by decide +kernel) (by decide +kernel)
set_option maxRecDepth 20000 in
theorem gX11_renderTrain_X11_done : GoodIn wsX11_renderTrain (wsV RX11 98 RX11 yX11_done wsX11_done) := goodIn_app (goodIn_of _ (by decide +kernel)) ggX11_renderTrain_X11_done
theorem dX11_renderTrain_0 : decode cX11_renderTrain 0 = .ok (.aload_n 0, 1) := by decide +kernel
theorem dX11_renderTrain_1 : decode cX11_renderTrain 1 = .ok (.iload_n 1, 1) := by decide +kernel
theorem dX11_renderTrain_2 : decode cX11_renderTrain 2 = .ok (.invokevirtual 69, 3) := by decide +kernel
theorem dX11_renderTrain_5 : decode cX11_renderTrain 5 = .ok (.ifCond .ne 9, 3) := by decide +kernel
theorem dX11_renderTrain_8 : decode cX11_renderTrain 8 = .ok (.aload_n 0, 1) := by decide +kernel
theorem dX11_renderTrain_9 : decode cX11_renderTrain 9 = .ok (.iconst 1, 1) := by decide +kernel
theorem dX11_renderTrain_10 : decode cX11_renderTrain 10 = .ok (.invokevirtual 95, 3) := by decide +kernel
theorem dX11_renderTrain_13 : decode cX11_renderTrain 13 = .ok (.ireturn, 1) := by decide +kernel
theorem dX11_renderTrain_14 : decode cX11_renderTrain 14 = .ok (.aload_n 0, 1) := by decide +kernel
theorem dX11_renderTrain_15 : decode cX11_renderTrain 15 = .ok (.iload_n 1, 1) := by decide +kernel
theorem dX11_renderTrain_16 : decode cX11_renderTrain 16 = .ok (.invokevirtual 84, 3) := by decide +kernel
theorem dX11_renderTrain_19 : decode cX11_renderTrain 19 = .ok (.aload_n 0, 1) := by decide +kernel
theorem dX11_renderTrain_20 : decode cX11_renderTrain 20 = .ok (.iconst 0, 1) := by decide +kernel
theorem dX11_renderTrain_21 : decode cX11_renderTrain 21 = .ok (.putfield 215, 3) := by decide +kernel
theorem dX11_renderTrain_24 : decode cX11_renderTrain 24 = .ok (.iconst 0, 1) := by decide +kernel
theorem dX11_renderTrain_25 : decode cX11_renderTrain 25 = .ok (.istore_n 2, 1) := by decide +kernel
theorem dX11_renderTrain_26 : decode cX11_renderTrain 26 = .ok (.iload_n 2, 1) := by decide +kernel
theorem dX11_renderTrain_27 : decode cX11_renderTrain 27 = .ok (.bipush 10, 2) := by decide +kernel
theorem dX11_renderTrain_29 : decode cX11_renderTrain 29 = .ok (.if_icmp .ge 61, 3) := by decide +kernel
theorem dX11_renderTrain_32 : decode cX11_renderTrain 32 = .ok (.aload_n 0, 1) := by decide +kernel
theorem dX11_renderTrain_33 : decode cX11_renderTrain 33 = .ok (.getfield 39, 3) := by decide +kernel
theorem dX11_renderTrain_36 : decode cX11_renderTrain 36 = .ok (.iload_n 2, 1) := by decide +kernel
theorem dX11_renderTrain_37 : decode cX11_renderTrain 37 = .ok (.baload, 1) := by decide +kernel
theorem dX11_renderTrain_38 : decode cX11_renderTrain 38 = .ok (.ifCond .eq 46, 3) := by decide +kernel
theorem dX11_renderTrain_41 : decode cX11_renderTrain 41 = .ok (.aload_n 0, 1) := by decide +kernel
theorem dX11_renderTrain_42 : decode cX11_renderTrain 42 = .ok (.aload_n 0, 1) := by decide +kernel
theorem dX11_renderTrain_43 : decode cX11_renderTrain 43 = .ok (.getfield 215, 3) := by decide +kernel
theorem dX11_renderTrain_46 : decode cX11_renderTrain 46 = .ok (.ifCond .le 7, 3) := by decide +kernel
theorem dX11_renderTrain_49 : decode cX11_renderTrain 49 = .ok (.iconst 1, 1) := by decide +kernel
theorem dX11_renderTrain_50 : decode cX11_renderTrain 50 = .ok (.goto 4, 3) := by decide +kernel
theorem dX11_renderTrain_53 : decode cX11_renderTrain 53 = .ok (.iconst 0, 1) := by decide +kernel
theorem dX11_renderTrain_54 : decode cX11_renderTrain 54 = .ok (.bipush 44, 2) := by decide +kernel
theorem dX11_renderTrain_56 : decode cX11_renderTrain 56 = .ok (.invokevirtual 224, 3) := by decide +kernel
theorem dX11_renderTrain_59 : decode cX11_renderTrain 59 = .ok (.aload_n 0, 1) := by decide +kernel
theorem dX11_renderTrain_60 : decode cX11_renderTrain 60 = .ok (.iload_n 2, 1) := by decide +kernel
theorem dX11_renderTrain_61 : decode cX11_renderTrain 61 = .ok (.invokevirtual 221, 3) := by decide +kernel
theorem dX11_renderTrain_64 : decode cX11_renderTrain 64 = .ok (.aload_n 0, 1) := by decide +kernel
theorem dX11_renderTrain_65 : decode cX11_renderTrain 65 = .ok (.aload_n 0, 1) := by decide +kernel
theorem dX11_renderTrain_66 : decode cX11_renderTrain 66 = .ok (.iload_n 2, 1) := by decide +kernel
theorem dX11_renderTrain_67 : decode cX11_renderTrain 67 = .ok (.invokevirtual 177, 3) := by decide +kernel
theorem dX11_renderTrain_70 : decode cX11_renderTrain 70 = .ok (.iconst (-1), 1) := by decide +kernel
theorem dX11_renderTrain_71 : decode cX11_renderTrain 71 = .ok (.if_icmp .eq 7, 3) := by decide +kernel
theorem dX11_renderTrain_74 : decode cX11_renderTrain 74 = .ok (.iconst 1, 1) := by decide +kernel
theorem dX11_renderTrain_75 : decode cX11_renderTrain 75 = .ok (.goto 4, 3) := by decide +kernel
theorem dX11_renderTrain_78 : decode cX11_renderTrain 78 = .ok (.iconst 0, 1) := by decide +kernel
theorem dX11_renderTrain_79 : decode cX11_renderTrain 79 = .ok (.bipush 42, 2) := by decide +kernel
theorem dX11_renderTrain_81 : decode cX11_renderTrain 81 = .ok (.invokevirtual 224, 3) := by decide +kernel
theorem dX11_renderTrain_84 : decode cX11_renderTrain 84 = .ok (.iinc 2 1, 3) := by decide +kernel
theorem dX11_renderTrain_87 : decode cX11_renderTrain 87 = .ok (.goto (-61), 3) := by decide +kernel
theorem dX11_renderTrain_90 : decode cX11_renderTrain 90 = .ok (.aload_n 0, 1) := by decide +kernel
theorem dX11_renderTrain_91 : decode cX11_renderTrain 91 = .ok (.aload_n 0, 1) := by decide +kernel
theorem dX11_renderTrain_92 : decode cX11_renderTrain 92 = .ok (.getfield 215, 3) := by decide +kernel
theorem dX11_renderTrain_95 : decode cX11_renderTrain 95 = .ok (.invokevirtual 98, 3) := by decide +kernel
theorem dX11_renderTrain_98 : decode cX11_renderTrain 98 = .ok (.ireturn, 1) := by decide +kernel
set_option maxRecDepth 20000 in
theorem ggX11_outputAt_X11_in : GoodIn wsX11_outputAt wsX11_in := goodIn_r _ [7] (by decide +kernel) (by decide +kernel)
set_option maxRecDepth 20000 in
theorem gX11_outputAt_X11_in : GoodIn wsX11_outputAt (va_wsS RX11 65 yX11_in wsX11_in) := goodIn_app (goodIn_of _ (by decide +kernel)) ggX11_outputAt_X11_in
theorem dX11_outputAt_0 : decode cX11_outputAt 0 = .ok (.aload_n 0, 1) := by decide +kernel
theorem dX11_outputAt_1 : decode cX11_outputAt 1 = .ok (.iload_n 1, 1) := by decide +kernel
theorem dX11_outputAt_2 : decode cX11_outputAt 2 = .ok (.iconst 0, 1) := by decide +kernel
theorem dX11_outputAt_3 : decode cX11_outputAt 3 = .ok (.aload_n 0, 1) := by decide +kernel
theorem dX11_outputAt_4 : decode cX11_outputAt 4 = .ok (.getfield 215, 3) := by decide +kernel
theorem dX11_outputAt_7 : decode cX11_outputAt 7 = .ok (.iconst 1, 1) := by decide +kernel
theorem dX11_outputAt_8 : decode cX11_outputAt 8 = .ok (.isub, 1) := by decide +kernel
theorem dX11_outputAt_9 : decode cX11_outputAt 9 = .ok (.invokestatic 65, 3) := by decide +kernel
theorem dX11_outputAt_12 : decode cX11_outputAt 12 = .ok (.ifCond .eq 7, 3) := by decide +kernel
theorem dX11_outputAt_15 : decode cX11_outputAt 15 = .ok (.iconst 0, 1) := by decide +kernel
theorem dX11_outputAt_16 : decode cX11_outputAt 16 = .ok (.goto 4, 3) := by decide +kernel
theorem dX11_outputAt_19 : decode cX11_outputAt 19 = .ok (.iconst 1, 1) := by decide +kernel
theorem dX11_outputAt_20 : decode cX11_outputAt 20 = .ok (.putfield 49, 3) := by decide +kernel
theorem dX11_outputAt_23 : decode cX11_outputAt 23 = .ok (.aload_n 0, 1) := by decide +kernel
theorem dX11_outputAt_24 : decode cX11_outputAt 24 = .ok (.getfield 49, 3) := by decide +kernel
theorem dX11_outputAt_27 : decode cX11_outputAt 27 = .ok (.ifCond .ne 12, 3) := by decide +kernel
theorem dX11_outputAt_30 : decode cX11_outputAt 30 = .ok (.aload_n 0, 1) := by decide +kernel
theorem dX11_outputAt_31 : decode cX11_outputAt 31 = .ok (.getfield 33, 3) := by decide +kernel
theorem dX11_outputAt_34 : decode cX11_outputAt 34 = .ok (.iload_n 1, 1) := by decide +kernel
theorem dX11_outputAt_35 : decode cX11_outputAt 35 = .ok (.caload, 1) := by decide +kernel
theorem dX11_outputAt_36 : decode cX11_outputAt 36 = .ok (.goto 4, 3) := by decide +kernel
theorem dX11_outputAt_39 : decode cX11_outputAt 39 = .ok (.iconst 0, 1) := by decide +kernel
theorem dX11_outputAt_40 : decode cX11_outputAt 40 = .ok (.ireturn, 1) := by decide +kernel
set_option maxRecDepth 20000 in
theorem ggX11_type_X11_in : GoodIn wsX11_type wsX11_in := goodIn_r _ [6] (by decide +kernel) (by decide +kernel)
set_option maxRecDepth 20000 in
theorem gX11_type_X11_in : GoodIn wsX11_type (va_wsS RX11 65 yX11_in wsX11_in) := goodIn_app (goodIn_of _ (by decide +kernel)) ggX11_type_X11_in
set_option maxRecDepth 20000 in
theorem ggX11_type_X11_fails : GoodIn wsX11_type wsX11_fails := goodIn_r _ [10, 11, 16, 17, 18, 19, 20, 21, 22, 23, 24, 25, 26, 27, 28, 29, 30, 31, 32, 33] (by decide +kernel) (by decide +kernel)
set_option maxRecDepth 20000 in
theorem gX11_type_X11_fails : GoodIn wsX11_type (wsV RX11 95 RX11 yX11_fails wsX11_fails) := goodIn_app (goodIn_of _ (by decide +kernel)) ggX11_type_X11_fails
set_option maxRecDepth 20000 in
theorem ggX11_type_X11_done : GoodIn wsX11_type wsX11_done := goodIn_r _ [15, 11, 16, 17, 18, 19, 20, 21, 22, 23, 24, 25, 26, 27, 28, 29, 30, 31, 32, 33] (by decide +kernel) (by decide +kernel)
set_option maxRecDepth 20000 in
theorem gX11_type_X11_done : GoodIn wsX11_type (wsV RX11 98 RX11 yX11_done wsX11_done) := goodIn_app (goodIn_of _ (by decide +kernel)) ggX11_type_X11_done
theorem dX11_type_0 : decode cX11_type 0 = .ok (.iload_n 1, 1) := by decide +kernel
theorem dX11_type_1 : decode cX11_type 1 = .ok (.bipush 32, 2) := by decide +kernel
theorem dX11_type_3 : decode cX11_type 3 = .ok (.bipush 126, 2) := by decide +kernel
theorem dX11_type_5 : decode cX11_type 5 = .ok (.invokestatic 65, 3) := by decide +kernel
theorem dX11_type_8 : decode cX11_type 8 = .ok (.ifCond .ne 9, 3) := by decide +kernel
theorem dX11_type_11 : decode cX11_type 11 = .ok (.aload_n 0, 1) := by decide +kernel
theorem dX11_type_12 : decode cX11_type 12 = .ok (.iconst 1, 1) := by decide +kernel
theorem dX11_type_13 : decode cX11_type 13 = .ok (.invokevirtual 95, 3) := by decide +kernel
theorem dX11_type_16 : decode cX11_type 16 = .ok (.ireturn, 1) := by decide +kernel
theorem dX11_type_17 : decode cX11_type 17 = .ok (.aload_n 0, 1) := by decide +kernel
theorem dX11_type_18 : decode cX11_type 18 = .ok (.getfield 228, 3) := by decide +kernel
theorem dX11_type_21 : decode cX11_type 21 = .ok (.bipush 60, 2) := by decide +kernel
theorem dX11_type_23 : decode cX11_type 23 = .ok (.if_icmp .ne 9, 3) := by decide +kernel
theorem dX11_type_26 : decode cX11_type 26 = .ok (.aload_n 0, 1) := by decide +kernel
theorem dX11_type_27 : decode cX11_type 27 = .ok (.iconst 2, 1) := by decide +kernel
theorem dX11_type_28 : decode cX11_type 28 = .ok (.invokevirtual 95, 3) := by decide +kernel
theorem dX11_type_31 : decode cX11_type 31 = .ok (.ireturn, 1) := by decide +kernel
theorem dX11_type_32 : decode cX11_type 32 = .ok (.aload_n 0, 1) := by decide +kernel
theorem dX11_type_33 : decode cX11_type 33 = .ok (.getfield 22, 3) := by decide +kernel
theorem dX11_type_36 : decode cX11_type 36 = .ok (.aload_n 0, 1) := by decide +kernel
theorem dX11_type_37 : decode cX11_type 37 = .ok (.getfield 228, 3) := by decide +kernel
theorem dX11_type_40 : decode cX11_type 40 = .ok (.iload_n 1, 1) := by decide +kernel
theorem dX11_type_41 : decode cX11_type 41 = .ok (.castore, 1) := by decide +kernel
theorem dX11_type_42 : decode cX11_type 42 = .ok (.aload_n 0, 1) := by decide +kernel
theorem dX11_type_43 : decode cX11_type 43 = .ok (.dup, 1) := by decide +kernel
theorem dX11_type_44 : decode cX11_type 44 = .ok (.getfield 228, 3) := by decide +kernel
theorem dX11_type_47 : decode cX11_type 47 = .ok (.iconst 1, 1) := by decide +kernel
theorem dX11_type_48 : decode cX11_type 48 = .ok (.iadd, 1) := by decide +kernel
theorem dX11_type_49 : decode cX11_type 49 = .ok (.putfield 228, 3) := by decide +kernel
theorem dX11_type_52 : decode cX11_type 52 = .ok (.aload_n 0, 1) := by decide +kernel
theorem dX11_type_53 : decode cX11_type 53 = .ok (.aload_n 0, 1) := by decide +kernel
theorem dX11_type_54 : decode cX11_type 54 = .ok (.getfield 228, 3) := by decide +kernel
theorem dX11_type_57 : decode cX11_type 57 = .ok (.invokevirtual 98, 3) := by decide +kernel
theorem dX11_type_60 : decode cX11_type 60 = .ok (.ireturn, 1) := by decide +kernel
theorem dX11_here_0 : decode cX11_here 0 = .ok (.aload_n 0, 1) := by decide +kernel
theorem dX11_here_1 : decode cX11_here 1 = .ok (.getfield 231, 3) := by decide +kernel
theorem dX11_here_4 : decode cX11_here 4 = .ok (.aload_n 0, 1) := by decide +kernel
theorem dX11_here_5 : decode cX11_here 5 = .ok (.getfield 228, 3) := by decide +kernel
theorem dX11_here_8 : decode cX11_here 8 = .ok (.if_icmp .ge 15, 3) := by decide +kernel
theorem dX11_here_11 : decode cX11_here 11 = .ok (.aload_n 0, 1) := by decide +kernel
theorem dX11_here_12 : decode cX11_here 12 = .ok (.getfield 22, 3) := by decide +kernel
theorem dX11_here_15 : decode cX11_here 15 = .ok (.aload_n 0, 1) := by decide +kernel
theorem dX11_here_16 : decode cX11_here 16 = .ok (.getfield 231, 3) := by decide +kernel
theorem dX11_here_19 : decode cX11_here 19 = .ok (.caload, 1) := by decide +kernel
theorem dX11_here_20 : decode cX11_here 20 = .ok (.goto 4, 3) := by decide +kernel
theorem dX11_here_23 : decode cX11_here 23 = .ok (.iconst (-1), 1) := by decide +kernel
theorem dX11_here_24 : decode cX11_here 24 = .ok (.ireturn, 1) := by decide +kernel
set_option maxRecDepth 20000 in
theorem ggX11_needs_X11_here : GoodIn wsX11_needs wsX11_here := goodIn_ca (goodIn_r _ [7, 2, 8, 9, 10, 11, 12, 13, 14, 15, 16, 17, 18, 19, 20, 21, 22, 23, 24, 25, 26, 27] (by decide +kernel) (by decide +kernel)) (goodIn_sub (fun _ h => List.mem_cons_of_mem _ (List.mem_append_right _ h)) (by decide +kernel))
set_option maxRecDepth 20000 in
theorem gX11_needs_X11_here : GoodIn wsX11_needs (wsV RX11 238 RX11 yX11_here wsX11_here) := goodIn_app (goodIn_of _ (by decide +kernel)) ggX11_needs_X11_here
theorem dX11_needs_0 : decode cX11_needs 0 = .ok (.aload_n 0, 1) := by decide +kernel
theorem dX11_needs_1 : decode cX11_needs 1 = .ok (.aload_n 0, 1) := by decide +kernel
theorem dX11_needs_2 : decode cX11_needs 2 = .ok (.getfield 234, 3) := by decide +kernel
theorem dX11_needs_5 : decode cX11_needs 5 = .ok (.ifCond .ne 11, 3) := by decide +kernel
theorem dX11_needs_8 : decode cX11_needs 8 = .ok (.aload_n 0, 1) := by decide +kernel
theorem dX11_needs_9 : decode cX11_needs 9 = .ok (.invokevirtual 238, 3) := by decide +kernel
theorem dX11_needs_12 : decode cX11_needs 12 = .ok (.iload_n 1, 1) := by decide +kernel
theorem dX11_needs_13 : decode cX11_needs 13 = .ok (.if_icmp .eq 7, 3) := by decide +kernel
theorem dX11_needs_16 : decode cX11_needs 16 = .ok (.iconst 1, 1) := by decide +kernel
theorem dX11_needs_17 : decode cX11_needs 17 = .ok (.goto 4, 3) := by decide +kernel
theorem dX11_needs_20 : decode cX11_needs 20 = .ok (.iconst 0, 1) := by decide +kernel
theorem dX11_needs_21 : decode cX11_needs 21 = .ok (.putfield 234, 3) := by decide +kernel
theorem dX11_needs_24 : decode cX11_needs 24 = .ok (.aload_n 0, 1) := by decide +kernel
theorem dX11_needs_25 : decode cX11_needs 25 = .ok (.dup, 1) := by decide +kernel
theorem dX11_needs_26 : decode cX11_needs 26 = .ok (.getfield 231, 3) := by decide +kernel
theorem dX11_needs_29 : decode cX11_needs 29 = .ok (.aload_n 0, 1) := by decide +kernel
theorem dX11_needs_30 : decode cX11_needs 30 = .ok (.getfield 234, 3) := by decide +kernel
theorem dX11_needs_33 : decode cX11_needs 33 = .ok (.ifCond .eq 7, 3) := by decide +kernel
theorem dX11_needs_36 : decode cX11_needs 36 = .ok (.iconst 0, 1) := by decide +kernel
theorem dX11_needs_37 : decode cX11_needs 37 = .ok (.goto 4, 3) := by decide +kernel
theorem dX11_needs_40 : decode cX11_needs 40 = .ok (.iconst 1, 1) := by decide +kernel
theorem dX11_needs_41 : decode cX11_needs 41 = .ok (.iadd, 1) := by decide +kernel
theorem dX11_needs_42 : decode cX11_needs 42 = .ok (.putfield 231, 3) := by decide +kernel
theorem dX11_needs_45 : decode cX11_needs 45 = .ok (.return_, 1) := by decide +kernel
set_option maxRecDepth 20000 in
theorem ggX11_needsThree_X11_needs : GoodIn wsX11_needsThree wsX11_needs := goodIn_ca (goodIn_r _ [5, 6, 7, 8, 9, 10, 4, 11, 12, 13, 14, 15, 16, 17, 18, 19, 20, 21, 22, 23, 24, 25, 26, 27, 28, 29, 30, 31] (by decide +kernel) (by decide +kernel)) (goodIn_sub (fun _ h => List.mem_cons_of_mem _ (List.mem_append_right _ h)) (by decide +kernel))
set_option maxRecDepth 20000 in
theorem gX11_needsThree_X11_needs : GoodIn wsX11_needsThree (wsV RX11 241 RX11 yX11_needs wsX11_needs) := goodIn_app (goodIn_of _ (by decide +kernel)) ggX11_needsThree_X11_needs
theorem dX11_needsThree_0 : decode cX11_needsThree 0 = .ok (.aload_n 0, 1) := by decide +kernel
theorem dX11_needsThree_1 : decode cX11_needsThree 1 = .ok (.iload_n 1, 1) := by decide +kernel
theorem dX11_needsThree_2 : decode cX11_needsThree 2 = .ok (.invokevirtual 241, 3) := by decide +kernel
theorem dX11_needsThree_5 : decode cX11_needsThree 5 = .ok (.aload_n 0, 1) := by decide +kernel
theorem dX11_needsThree_6 : decode cX11_needsThree 6 = .ok (.iload_n 2, 1) := by decide +kernel
theorem dX11_needsThree_7 : decode cX11_needsThree 7 = .ok (.invokevirtual 241, 3) := by decide +kernel
theorem dX11_needsThree_10 : decode cX11_needsThree 10 = .ok (.aload_n 0, 1) := by decide +kernel
theorem dX11_needsThree_11 : decode cX11_needsThree 11 = .ok (.iload_n 3, 1) := by decide +kernel
theorem dX11_needsThree_12 : decode cX11_needsThree 12 = .ok (.invokevirtual 241, 3) := by decide +kernel
theorem dX11_needsThree_15 : decode cX11_needsThree 15 = .ok (.return_, 1) := by decide +kernel
set_option maxRecDepth 20000 in
theorem ggX11_digits_X11_here : GoodIn wsX11_digits wsX11_here := goodIn_ca (goodIn_r _ [7, 2, 8, 9, 13, 14, 15, 16, 17, 18, 19, 20, 21, 22, 23, 24, 25, 26, 27, 28, 29, 30] (by decide +kernel) (by decide +kernel)) (goodIn_sub (fun _ h => List.mem_cons_of_mem _ (List.mem_append_right _ h)) (by decide +kernel))
set_option maxRecDepth 20000 in
theorem gX11_digits_X11_here : GoodIn wsX11_digits (wsV RX11 238 RX11 yX11_here wsX11_here) := goodIn_app (goodIn_of _ (by decide +kernel)) ggX11_digits_X11_here
set_option maxRecDepth 20000 in
theorem ggX11_digits_X11_in : GoodIn wsX11_digits wsX11_in := goodIn_r _ [12] (by decide +kernel) (by decide +kernel)
set_option maxRecDepth 20000 in
theorem gX11_digits_X11_in : GoodIn wsX11_digits (va_wsS RX11 65 yX11_in wsX11_in) := goodIn_app (goodIn_of _ (by decide +kernel)) ggX11_digits_X11_in
theorem dX11_digits_0 : decode cX11_digits 0 = .ok (.aload_n 0, 1) := by decide +kernel
theorem dX11_digits_1 : decode cX11_digits 1 = .ok (.aload_n 0, 1) := by decide +kernel
theorem dX11_digits_2 : decode cX11_digits 2 = .ok (.getfield 234, 3) := by decide +kernel
theorem dX11_digits_5 : decode cX11_digits 5 = .ok (.ifCond .ne 17, 3) := by decide +kernel
theorem dX11_digits_8 : decode cX11_digits 8 = .ok (.aload_n 0, 1) := by decide +kernel
theorem dX11_digits_9 : decode cX11_digits 9 = .ok (.invokevirtual 238, 3) := by decide +kernel
theorem dX11_digits_12 : decode cX11_digits 12 = .ok (.bipush 48, 2) := by decide +kernel
theorem dX11_digits_14 : decode cX11_digits 14 = .ok (.bipush 57, 2) := by decide +kernel
theorem dX11_digits_16 : decode cX11_digits 16 = .ok (.invokestatic 65, 3) := by decide +kernel
theorem dX11_digits_19 : decode cX11_digits 19 = .ok (.ifCond .ne 7, 3) := by decide +kernel
theorem dX11_digits_22 : decode cX11_digits 22 = .ok (.iconst 1, 1) := by decide +kernel
theorem dX11_digits_23 : decode cX11_digits 23 = .ok (.goto 4, 3) := by decide +kernel
theorem dX11_digits_26 : decode cX11_digits 26 = .ok (.iconst 0, 1) := by decide +kernel
theorem dX11_digits_27 : decode cX11_digits 27 = .ok (.putfield 234, 3) := by decide +kernel
theorem dX11_digits_30 : decode cX11_digits 30 = .ok (.iconst 0, 1) := by decide +kernel
theorem dX11_digits_31 : decode cX11_digits 31 = .ok (.istore_n 2, 1) := by decide +kernel
theorem dX11_digits_32 : decode cX11_digits 32 = .ok (.iconst 0, 1) := by decide +kernel
theorem dX11_digits_33 : decode cX11_digits 33 = .ok (.istore_n 3, 1) := by decide +kernel
theorem dX11_digits_34 : decode cX11_digits 34 = .ok (.aload_n 0, 1) := by decide +kernel
theorem dX11_digits_35 : decode cX11_digits 35 = .ok (.getfield 234, 3) := by decide +kernel
theorem dX11_digits_38 : decode cX11_digits 38 = .ok (.ifCond .ne 51, 3) := by decide +kernel
theorem dX11_digits_41 : decode cX11_digits 41 = .ok (.iload_n 3, 1) := by decide +kernel
theorem dX11_digits_42 : decode cX11_digits 42 = .ok (.iload_n 1, 1) := by decide +kernel
theorem dX11_digits_43 : decode cX11_digits 43 = .ok (.if_icmp .ge 46, 3) := by decide +kernel
theorem dX11_digits_46 : decode cX11_digits 46 = .ok (.aload_n 0, 1) := by decide +kernel
theorem dX11_digits_47 : decode cX11_digits 47 = .ok (.invokevirtual 238, 3) := by decide +kernel
theorem dX11_digits_50 : decode cX11_digits 50 = .ok (.bipush 48, 2) := by decide +kernel
theorem dX11_digits_52 : decode cX11_digits 52 = .ok (.bipush 57, 2) := by decide +kernel
theorem dX11_digits_54 : decode cX11_digits 54 = .ok (.invokestatic 65, 3) := by decide +kernel
theorem dX11_digits_57 : decode cX11_digits 57 = .ok (.ifCond .eq 32, 3) := by decide +kernel
theorem dX11_digits_60 : decode cX11_digits 60 = .ok (.bipush 10, 2) := by decide +kernel
theorem dX11_digits_62 : decode cX11_digits 62 = .ok (.iload_n 2, 1) := by decide +kernel
theorem dX11_digits_63 : decode cX11_digits 63 = .ok (.imul, 1) := by decide +kernel
theorem dX11_digits_64 : decode cX11_digits 64 = .ok (.aload_n 0, 1) := by decide +kernel
theorem dX11_digits_65 : decode cX11_digits 65 = .ok (.invokevirtual 238, 3) := by decide +kernel
theorem dX11_digits_68 : decode cX11_digits 68 = .ok (.iadd, 1) := by decide +kernel
theorem dX11_digits_69 : decode cX11_digits 69 = .ok (.bipush 48, 2) := by decide +kernel
theorem dX11_digits_71 : decode cX11_digits 71 = .ok (.isub, 1) := by decide +kernel
theorem dX11_digits_72 : decode cX11_digits 72 = .ok (.istore_n 2, 1) := by decide +kernel
theorem dX11_digits_73 : decode cX11_digits 73 = .ok (.aload_n 0, 1) := by decide +kernel
theorem dX11_digits_74 : decode cX11_digits 74 = .ok (.dup, 1) := by decide +kernel
theorem dX11_digits_75 : decode cX11_digits 75 = .ok (.getfield 231, 3) := by decide +kernel
theorem dX11_digits_78 : decode cX11_digits 78 = .ok (.iconst 1, 1) := by decide +kernel
theorem dX11_digits_79 : decode cX11_digits 79 = .ok (.iadd, 1) := by decide +kernel
theorem dX11_digits_80 : decode cX11_digits 80 = .ok (.putfield 231, 3) := by decide +kernel
theorem dX11_digits_83 : decode cX11_digits 83 = .ok (.iinc 3 1, 3) := by decide +kernel
theorem dX11_digits_86 : decode cX11_digits 86 = .ok (.goto (-52), 3) := by decide +kernel
theorem dX11_digits_89 : decode cX11_digits 89 = .ok (.iload_n 2, 1) := by decide +kernel
theorem dX11_digits_90 : decode cX11_digits 90 = .ok (.ireturn, 1) := by decide +kernel
set_option maxRecDepth 20000 in
theorem ggX11_digitsAfter_X11_needs : GoodIn wsX11_digitsAfter wsX11_needs := goodIn_ca (goodIn_r _ [5, 6, 7, 8, 9, 10, 4, 11, 12, 13, 21, 22, 23, 24, 25, 26, 27, 28, 29, 30, 31, 32, 33, 34, 35, 36, 37, 38] (by decide +kernel) (by decide +kernel)) (goodIn_sub (fun _ h => List.mem_cons_of_mem _ (List.mem_append_right _ h)) (by decide +kernel))
set_option maxRecDepth 20000 in
theorem gX11_digitsAfter_X11_needs : GoodIn wsX11_digitsAfter (wsV RX11 241 RX11 yX11_needs wsX11_needs) := goodIn_app (goodIn_of _ (by decide +kernel)) ggX11_digitsAfter_X11_needs
set_option maxRecDepth 20000 in
theorem ggX11_digitsAfter_X11_digits : GoodIn wsX11_digitsAfter wsX11_digits := goodIn_ca (goodIn_r _ [17, 6, 7, 8, 9, 10, 4, 11, 12, 13, 18, 19, 20, 21, 22, 23, 24, 25, 26, 27, 28, 29, 30, 31, 32, 33, 34, 35, 36, 37, 38] (by decide +kernel) (by decide +kernel)) (goodIn_sub (fun _ h => List.mem_cons_of_mem _ (List.mem_append_right _ h)) (by decide +kernel))
set_option maxRecDepth 20000 in
theorem gX11_digitsAfter_X11_digits : GoodIn wsX11_digitsAfter (wsV RX11 244 RX11 yX11_digits wsX11_digits) := goodIn_app (goodIn_of _ (by decide +kernel)) ggX11_digitsAfter_X11_digits
theorem dX11_digitsAfter_0 : decode cX11_digitsAfter 0 = .ok (.aload_n 0, 1) := by decide +kernel
theorem dX11_digitsAfter_1 : decode cX11_digitsAfter 1 = .ok (.bipush 32, 2) := by decide +kernel
theorem dX11_digitsAfter_3 : decode cX11_digitsAfter 3 = .ok (.invokevirtual 241, 3) := by decide +kernel
theorem dX11_digitsAfter_6 : decode cX11_digitsAfter 6 = .ok (.aload_n 0, 1) := by decide +kernel
theorem dX11_digitsAfter_7 : decode cX11_digitsAfter 7 = .ok (.iload_n 1, 1) := by decide +kernel
theorem dX11_digitsAfter_8 : decode cX11_digitsAfter 8 = .ok (.invokevirtual 244, 3) := by decide +kernel
theorem dX11_digitsAfter_11 : decode cX11_digitsAfter 11 = .ok (.ireturn, 1) := by decide +kernel
set_option maxRecDepth 20000 in
theorem ggX11_parsesTwo_X11_digitsAfter : GoodIn wsX11_parsesTwo wsX11_digitsAfter := goodIn_ca (goodIn_r _ [6, 7, 8, 9, 5, 10, 11, 12, 13, 14, 15, 16, 17, 18, 19, 20, 21, 22, 23, 24, 25, 26, 27, 28, 29, 30, 31, 32, 33, 34, 35, 36, 37, 38, 39, 40, 41, 42, 43] (by decide +kernel) (by decide +kernel)) (goodIn_sub (fun _ h => List.mem_cons_of_mem _ (List.mem_append_right _ h)) (by decide +kernel))
set_option maxRecDepth 20000 in
theorem gX11_parsesTwo_X11_digitsAfter : GoodIn wsX11_parsesTwo (wsV RX11 247 RX11 yX11_digitsAfter wsX11_digitsAfter) := goodIn_app (goodIn_of _ (by decide +kernel)) ggX11_parsesTwo_X11_digitsAfter
set_option maxRecDepth 20000 in
theorem ggX11_parsesTwo_X11_digits : GoodIn wsX11_parsesTwo wsX11_digits := goodIn_ca (goodIn_r _ [22, 11, 12, 13, 14, 15, 5, 16, 17, 18, 23, 24, 25, 26, 27, 28, 29, 30, 31, 32, 33, 34, 35, 36, 37, 38, 39, 40, 41, 42, 43] (by decide +kernel) (by decide +kernel)) (goodIn_sub (fun _ h => List.mem_cons_of_mem _ (List.mem_append_right _ h)) (by decide +kernel))
set_option maxRecDepth 20000 in
theorem gX11_parsesTwo_X11_digits : GoodIn wsX11_parsesTwo (wsV RX11 244 RX11 yX11_digits wsX11_digits) := goodIn_app (goodIn_of _ (by decide +kernel)) ggX11_parsesTwo_X11_digits
theorem dX11_parsesTwo_0 : decode cX11_parsesTwo 0 = .ok (.aload_n 0, 1) := by decide +kernel
theorem dX11_parsesTwo_1 : decode cX11_parsesTwo 1 = .ok (.getfield 43, 3) := by decide +kernel
theorem dX11_parsesTwo_4 : decode cX11_parsesTwo 4 = .ok (.iload_n 1, 1) := by decide +kernel
theorem dX11_parsesTwo_5 : decode cX11_parsesTwo 5 = .ok (.iconst 1, 1) := by decide +kernel
theorem dX11_parsesTwo_6 : decode cX11_parsesTwo 6 = .ok (.iadd, 1) := by decide +kernel
theorem dX11_parsesTwo_7 : decode cX11_parsesTwo 7 = .ok (.aload_n 0, 1) := by decide +kernel
theorem dX11_parsesTwo_8 : decode cX11_parsesTwo 8 = .ok (.iconst 1, 1) := by decide +kernel
theorem dX11_parsesTwo_9 : decode cX11_parsesTwo 9 = .ok (.invokevirtual 247, 3) := by decide +kernel
theorem dX11_parsesTwo_12 : decode cX11_parsesTwo 12 = .ok (.iastore, 1) := by decide +kernel
theorem dX11_parsesTwo_13 : decode cX11_parsesTwo 13 = .ok (.aload_n 0, 1) := by decide +kernel
theorem dX11_parsesTwo_14 : decode cX11_parsesTwo 14 = .ok (.getfield 43, 3) := by decide +kernel
theorem dX11_parsesTwo_17 : decode cX11_parsesTwo 17 = .ok (.iload_n 1, 1) := by decide +kernel
theorem dX11_parsesTwo_18 : decode cX11_parsesTwo 18 = .ok (.iconst 2, 1) := by decide +kernel
theorem dX11_parsesTwo_19 : decode cX11_parsesTwo 19 = .ok (.iadd, 1) := by decide +kernel
theorem dX11_parsesTwo_20 : decode cX11_parsesTwo 20 = .ok (.aload_n 0, 1) := by decide +kernel
theorem dX11_parsesTwo_21 : decode cX11_parsesTwo 21 = .ok (.iconst 1, 1) := by decide +kernel
theorem dX11_parsesTwo_22 : decode cX11_parsesTwo 22 = .ok (.invokevirtual 244, 3) := by decide +kernel
theorem dX11_parsesTwo_25 : decode cX11_parsesTwo 25 = .ok (.iastore, 1) := by decide +kernel
theorem dX11_parsesTwo_26 : decode cX11_parsesTwo 26 = .ok (.return_, 1) := by decide +kernel
set_option maxRecDepth 20000 in
theorem ggX11_parsesValue_X11_digitsAfter : GoodIn wsX11_parsesValue wsX11_digitsAfter := goodIn_ca (goodIn_r _ [6, 7, 8, 9, 5, 10, 11, 12, 13, 14, 15, 16, 17, 18, 19, 20, 21, 22, 23, 24, 25, 26, 27, 28, 29, 30, 31, 32, 33, 34, 35, 36, 37, 38, 39, 40, 41, 42, 43] (by decide +kernel) (by decide +kernel)) (goodIn_sub (fun _ h => List.mem_cons_of_mem _ (List.mem_append_right _ h)) (by decide +kernel))
set_option maxRecDepth 20000 in
theorem gX11_parsesValue_X11_digitsAfter : GoodIn wsX11_parsesValue (wsV RX11 247 RX11 yX11_digitsAfter wsX11_digitsAfter) := goodIn_app (goodIn_of _ (by decide +kernel)) ggX11_parsesValue_X11_digitsAfter
theorem dX11_parsesValue_0 : decode cX11_parsesValue 0 = .ok (.aload_n 0, 1) := by decide +kernel
theorem dX11_parsesValue_1 : decode cX11_parsesValue 1 = .ok (.getfield 43, 3) := by decide +kernel
theorem dX11_parsesValue_4 : decode cX11_parsesValue 4 = .ok (.iload_n 1, 1) := by decide +kernel
theorem dX11_parsesValue_5 : decode cX11_parsesValue 5 = .ok (.iconst 1, 1) := by decide +kernel
theorem dX11_parsesValue_6 : decode cX11_parsesValue 6 = .ok (.iadd, 1) := by decide +kernel
theorem dX11_parsesValue_7 : decode cX11_parsesValue 7 = .ok (.aload_n 0, 1) := by decide +kernel
theorem dX11_parsesValue_8 : decode cX11_parsesValue 8 = .ok (.iconst 1, 1) := by decide +kernel
theorem dX11_parsesValue_9 : decode cX11_parsesValue 9 = .ok (.invokevirtual 247, 3) := by decide +kernel
theorem dX11_parsesValue_12 : decode cX11_parsesValue 12 = .ok (.iastore, 1) := by decide +kernel
theorem dX11_parsesValue_13 : decode cX11_parsesValue 13 = .ok (.aload_n 0, 1) := by decide +kernel
theorem dX11_parsesValue_14 : decode cX11_parsesValue 14 = .ok (.getfield 43, 3) := by decide +kernel
theorem dX11_parsesValue_17 : decode cX11_parsesValue 17 = .ok (.iload_n 1, 1) := by decide +kernel
theorem dX11_parsesValue_18 : decode cX11_parsesValue 18 = .ok (.iconst 2, 1) := by decide +kernel
theorem dX11_parsesValue_19 : decode cX11_parsesValue 19 = .ok (.iadd, 1) := by decide +kernel
theorem dX11_parsesValue_20 : decode cX11_parsesValue 20 = .ok (.aload_n 0, 1) := by decide +kernel
theorem dX11_parsesValue_21 : decode cX11_parsesValue 21 = .ok (.iconst 3, 1) := by decide +kernel
theorem dX11_parsesValue_22 : decode cX11_parsesValue 22 = .ok (.invokevirtual 247, 3) := by decide +kernel
theorem dX11_parsesValue_25 : decode cX11_parsesValue 25 = .ok (.iastore, 1) := by decide +kernel
theorem dX11_parsesValue_26 : decode cX11_parsesValue 26 = .ok (.return_, 1) := by decide +kernel
set_option maxRecDepth 20000 in
theorem ggX11_parsesR_X11_here : GoodIn wsX11_parsesR wsX11_here := goodIn_ca (goodIn_r _ [6, 7, 8, 9, 34, 35, 36, 37, 38, 39, 40, 41, 42, 43, 44, 45, 46, 47, 48, 49, 50, 51] (by decide +kernel) (by decide +kernel)) (goodIn_sub (fun _ h => List.mem_cons_of_mem _ (List.mem_append_right _ h)) (by decide +kernel))
set_option maxRecDepth 20000 in
theorem gX11_parsesR_X11_here : GoodIn wsX11_parsesR (wsV RX11 238 RX11 yX11_here wsX11_here) := goodIn_app (goodIn_of _ (by decide +kernel)) ggX11_parsesR_X11_here
set_option maxRecDepth 20000 in
theorem ggX11_parsesR_X11_needs : GoodIn wsX11_parsesR wsX11_needs := goodIn_ca (goodIn_r _ [13, 14, 7, 2, 3, 4, 5, 6, 8, 9, 34, 35, 36, 37, 38, 39, 40, 41, 42, 43, 44, 45, 46, 47, 48, 49, 50, 51] (by decide +kernel) (by decide +kernel)) (goodIn_sub (fun _ h => List.mem_cons_of_mem _ (List.mem_append_right _ h)) (by decide +kernel))
set_option maxRecDepth 20000 in
theorem gX11_parsesR_X11_needs : GoodIn wsX11_parsesR (wsV RX11 241 RX11 yX11_needs wsX11_needs) := goodIn_app (goodIn_of _ (by decide +kernel)) ggX11_parsesR_X11_needs
set_option maxRecDepth 20000 in
theorem ggX11_parsesR_X11_parsesValue : GoodIn wsX11_parsesR wsX11_parsesValue := goodIn_ca (goodIn_r _ [18, 1, 19, 20, 21, 5, 22, 10, 11, 12, 13, 14, 7, 2, 3, 4, 6, 8, 9, 23, 24, 25, 26, 27, 28, 29, 34, 35, 36, 37, 38, 39, 40, 41, 42, 43, 44, 45, 46, 47, 48, 49, 50, 51] (by decide +kernel) (by decide +kernel)) (goodIn_sub (fun _ h => List.mem_cons_of_mem _ (List.mem_append_right _ h)) (by decide +kernel))
set_option maxRecDepth 20000 in
theorem gX11_parsesR_X11_parsesValue : GoodIn wsX11_parsesR (wsV RX11 250 RX11 yX11_parsesValue wsX11_parsesValue) := goodIn_app (goodIn_of _ (by decide +kernel)) ggX11_parsesR_X11_parsesValue
set_option maxRecDepth 20000 in
theorem ggX11_parsesR_X11_needsThree : GoodIn wsX11_parsesR wsX11_needsThree := goodIn_ca (goodIn_r _ [33, 10, 11, 12, 5, 13, 14, 7, 2, 3, 4, 6, 8, 9, 34, 35, 36, 37, 38, 39, 40, 41, 42, 43, 44, 45, 46, 47, 48, 49, 50, 51] (by decide +kernel) (by decide +kernel)) (goodIn_sub (fun _ h => List.mem_cons_of_mem _ (List.mem_append_right _ h)) (by decide +kernel))
set_option maxRecDepth 20000 in
theorem gX11_parsesR_X11_needsThree : GoodIn wsX11_parsesR (wsV RX11 253 RX11 yX11_needsThree wsX11_needsThree) := goodIn_app (goodIn_of _ (by decide +kernel)) ggX11_parsesR_X11_needsThree
set_option maxRecDepth 20000 in
theorem ggX11_parsesR_X11_digitsAfter : GoodIn wsX11_parsesR wsX11_digitsAfter := goodIn_ca (goodIn_r _ [22, 10, 11, 12, 5, 13, 14, 7, 2, 3, 4, 6, 8, 9, 23, 24, 25, 26, 27, 28, 29, 34, 35, 36, 37, 38, 39, 40, 41, 42, 43, 44, 45, 46, 47, 48, 49, 50, 51] (by decide +kernel) (by decide +kernel)) (goodIn_sub (fun _ h => List.mem_cons_of_mem _ (List.mem_append_right _ h)) (by decide +kernel))
set_option maxRecDepth 20000 in
theorem gX11_parsesR_X11_digitsAfter : GoodIn wsX11_parsesR (wsV RX11 247 RX11 yX11_digitsAfter wsX11_digitsAfter) := goodIn_app (goodIn_of _ (by decide +kernel)) ggX11_parsesR_X11_digitsAfter
theorem dX11_parsesR_0 : decode cX11_parsesR 0 = .ok (.aload_n 0, 1) := by decide +kernel
theorem dX11_parsesR_1 : decode cX11_parsesR 1 = .ok (.invokevirtual 238, 3) := by decide +kernel
theorem dX11_parsesR_4 : decode cX11_parsesR 4 = .ok (.bipush 117, 2) := by decide +kernel
theorem dX11_parsesR_6 : decode cX11_parsesR 6 = .ok (.if_icmp .ne 31, 3) := by decide +kernel
theorem dX11_parsesR_9 : decode cX11_parsesR 9 = .ok (.aload_n 0, 1) := by decide +kernel
theorem dX11_parsesR_10 : decode cX11_parsesR 10 = .ok (.getfield 43, 3) := by decide +kernel
theorem dX11_parsesR_13 : decode cX11_parsesR 13 = .ok (.iload_n 1, 1) := by decide +kernel
theorem dX11_parsesR_14 : decode cX11_parsesR 14 = .ok (.bipush 117, 2) := by decide +kernel
theorem dX11_parsesR_16 : decode cX11_parsesR 16 = .ok (.iastore, 1) := by decide +kernel
theorem dX11_parsesR_17 : decode cX11_parsesR 17 = .ok (.aload_n 0, 1) := by decide +kernel
theorem dX11_parsesR_18 : decode cX11_parsesR 18 = .ok (.bipush 117, 2) := by decide +kernel
theorem dX11_parsesR_20 : decode cX11_parsesR 20 = .ok (.invokevirtual 241, 3) := by decide +kernel
theorem dX11_parsesR_23 : decode cX11_parsesR 23 = .ok (.aload_n 0, 1) := by decide +kernel
theorem dX11_parsesR_24 : decode cX11_parsesR 24 = .ok (.bipush 110, 2) := by decide +kernel
theorem dX11_parsesR_26 : decode cX11_parsesR 26 = .ok (.invokevirtual 241, 3) := by decide +kernel
theorem dX11_parsesR_29 : decode cX11_parsesR 29 = .ok (.aload_n 0, 1) := by decide +kernel
theorem dX11_parsesR_30 : decode cX11_parsesR 30 = .ok (.iload_n 1, 1) := by decide +kernel
theorem dX11_parsesR_31 : decode cX11_parsesR 31 = .ok (.invokevirtual 250, 3) := by decide +kernel
theorem dX11_parsesR_34 : decode cX11_parsesR 34 = .ok (.goto 89, 3) := by decide +kernel
theorem dX11_parsesR_37 : decode cX11_parsesR 37 = .ok (.aload_n 0, 1) := by decide +kernel
theorem dX11_parsesR_38 : decode cX11_parsesR 38 = .ok (.invokevirtual 238, 3) := by decide +kernel
theorem dX11_parsesR_41 : decode cX11_parsesR 41 = .ok (.bipush 97, 2) := by decide +kernel
theorem dX11_parsesR_43 : decode cX11_parsesR 43 = .ok (.if_icmp .ne 47, 3) := by decide +kernel
theorem dX11_parsesR_46 : decode cX11_parsesR 46 = .ok (.aload_n 0, 1) := by decide +kernel
theorem dX11_parsesR_47 : decode cX11_parsesR 47 = .ok (.getfield 43, 3) := by decide +kernel
theorem dX11_parsesR_50 : decode cX11_parsesR 50 = .ok (.iload_n 1, 1) := by decide +kernel
theorem dX11_parsesR_51 : decode cX11_parsesR 51 = .ok (.bipush 116, 2) := by decide +kernel
theorem dX11_parsesR_53 : decode cX11_parsesR 53 = .ok (.iastore, 1) := by decide +kernel
theorem dX11_parsesR_54 : decode cX11_parsesR 54 = .ok (.aload_n 0, 1) := by decide +kernel
theorem dX11_parsesR_55 : decode cX11_parsesR 55 = .ok (.bipush 97, 2) := by decide +kernel
theorem dX11_parsesR_57 : decode cX11_parsesR 57 = .ok (.bipush 116, 2) := by decide +kernel
theorem dX11_parsesR_59 : decode cX11_parsesR 59 = .ok (.bipush 99, 2) := by decide +kernel
theorem dX11_parsesR_61 : decode cX11_parsesR 61 = .ok (.invokevirtual 253, 3) := by decide +kernel
theorem dX11_parsesR_64 : decode cX11_parsesR 64 = .ok (.aload_n 0, 1) := by decide +kernel
theorem dX11_parsesR_65 : decode cX11_parsesR 65 = .ok (.bipush 104, 2) := by decide +kernel
theorem dX11_parsesR_67 : decode cX11_parsesR 67 = .ok (.bipush 101, 2) := by decide +kernel
theorem dX11_parsesR_69 : decode cX11_parsesR 69 = .ok (.bipush 116, 2) := by decide +kernel
theorem dX11_parsesR_71 : decode cX11_parsesR 71 = .ok (.invokevirtual 253, 3) := by decide +kernel
theorem dX11_parsesR_74 : decode cX11_parsesR 74 = .ok (.aload_n 0, 1) := by decide +kernel
theorem dX11_parsesR_75 : decode cX11_parsesR 75 = .ok (.getfield 43, 3) := by decide +kernel
theorem dX11_parsesR_78 : decode cX11_parsesR 78 = .ok (.iload_n 1, 1) := by decide +kernel
theorem dX11_parsesR_79 : decode cX11_parsesR 79 = .ok (.iconst 1, 1) := by decide +kernel
theorem dX11_parsesR_80 : decode cX11_parsesR 80 = .ok (.iadd, 1) := by decide +kernel
theorem dX11_parsesR_81 : decode cX11_parsesR 81 = .ok (.aload_n 0, 1) := by decide +kernel
theorem dX11_parsesR_82 : decode cX11_parsesR 82 = .ok (.iconst 1, 1) := by decide +kernel
theorem dX11_parsesR_83 : decode cX11_parsesR 83 = .ok (.invokevirtual 247, 3) := by decide +kernel
theorem dX11_parsesR_86 : decode cX11_parsesR 86 = .ok (.iastore, 1) := by decide +kernel
theorem dX11_parsesR_87 : decode cX11_parsesR 87 = .ok (.goto 36, 3) := by decide +kernel
theorem dX11_parsesR_90 : decode cX11_parsesR 90 = .ok (.aload_n 0, 1) := by decide +kernel
theorem dX11_parsesR_91 : decode cX11_parsesR 91 = .ok (.bipush 101, 2) := by decide +kernel
theorem dX11_parsesR_93 : decode cX11_parsesR 93 = .ok (.bipush 118, 2) := by decide +kernel
theorem dX11_parsesR_95 : decode cX11_parsesR 95 = .ok (.bipush 101, 2) := by decide +kernel
theorem dX11_parsesR_97 : decode cX11_parsesR 97 = .ok (.invokevirtual 253, 3) := by decide +kernel
theorem dX11_parsesR_100 : decode cX11_parsesR 100 = .ok (.aload_n 0, 1) := by decide +kernel
theorem dX11_parsesR_101 : decode cX11_parsesR 101 = .ok (.bipush 114, 2) := by decide +kernel
theorem dX11_parsesR_103 : decode cX11_parsesR 103 = .ok (.bipush 115, 2) := by decide +kernel
theorem dX11_parsesR_105 : decode cX11_parsesR 105 = .ok (.bipush 101, 2) := by decide +kernel
theorem dX11_parsesR_107 : decode cX11_parsesR 107 = .ok (.invokevirtual 253, 3) := by decide +kernel
theorem dX11_parsesR_110 : decode cX11_parsesR 110 = .ok (.aload_n 0, 1) := by decide +kernel
theorem dX11_parsesR_111 : decode cX11_parsesR 111 = .ok (.getfield 43, 3) := by decide +kernel
theorem dX11_parsesR_114 : decode cX11_parsesR 114 = .ok (.iload_n 1, 1) := by decide +kernel
theorem dX11_parsesR_115 : decode cX11_parsesR 115 = .ok (.iconst 1, 1) := by decide +kernel
theorem dX11_parsesR_116 : decode cX11_parsesR 116 = .ok (.iadd, 1) := by decide +kernel
theorem dX11_parsesR_117 : decode cX11_parsesR 117 = .ok (.aload_n 0, 1) := by decide +kernel
theorem dX11_parsesR_118 : decode cX11_parsesR 118 = .ok (.iconst 1, 1) := by decide +kernel
theorem dX11_parsesR_119 : decode cX11_parsesR 119 = .ok (.invokevirtual 247, 3) := by decide +kernel
theorem dX11_parsesR_122 : decode cX11_parsesR 122 = .ok (.iastore, 1) := by decide +kernel
theorem dX11_parsesR_123 : decode cX11_parsesR 123 = .ok (.return_, 1) := by decide +kernel
set_option maxRecDepth 20000 in
theorem ggX11_parsesCommand_X11_here : GoodIn wsX11_parsesCommand wsX11_here := goodIn_ca (goodIn_r _ [8, 1, 9, 10, 42, 43, 44, 45, 46, 47, 48, 49, 50, 51, 52, 53, 54, 55, 56, 57, 58, 59] (by decide +kernel) (by decide +kernel)) (goodIn_sub (fun _ h => List.mem_cons_of_mem _ (List.mem_append_right _ h)) (by decide +kernel))
set_option maxRecDepth 20000 in
theorem gX11_parsesCommand_X11_here : GoodIn wsX11_parsesCommand (wsV RX11 238 RX11 yX11_here wsX11_here) := goodIn_app (goodIn_of _ (by decide +kernel)) ggX11_parsesCommand_X11_here
set_option maxRecDepth 20000 in
theorem ggX11_parsesCommand_X11_needsThree : GoodIn wsX11_parsesCommand wsX11_needsThree := goodIn_ca (goodIn_r _ [14, 15, 16, 17, 7, 18, 3, 1, 4, 5, 6, 8, 9, 10, 42, 43, 44, 45, 46, 47, 48, 49, 50, 51, 52, 53, 54, 55, 56, 57, 58, 59] (by decide +kernel) (by decide +kernel)) (goodIn_sub (fun _ h => List.mem_cons_of_mem _ (List.mem_append_right _ h)) (by decide +kernel))
set_option maxRecDepth 20000 in
theorem gX11_parsesCommand_X11_needsThree : GoodIn wsX11_parsesCommand (wsV RX11 253 RX11 yX11_needsThree wsX11_needsThree) := goodIn_app (goodIn_of _ (by decide +kernel)) ggX11_parsesCommand_X11_needsThree
set_option maxRecDepth 20000 in
theorem ggX11_parsesCommand_X11_digitsAfter : GoodIn wsX11_parsesCommand wsX11_digitsAfter := goodIn_ca (goodIn_r _ [22, 15, 16, 17, 7, 18, 3, 1, 4, 5, 6, 8, 9, 10, 23, 24, 25, 26, 27, 28, 29, 42, 43, 44, 45, 46, 47, 48, 49, 50, 51, 52, 53, 54, 55, 56, 57, 58, 59] (by decide +kernel) (by decide +kernel)) (goodIn_sub (fun _ h => List.mem_cons_of_mem _ (List.mem_append_right _ h)) (by decide +kernel))
set_option maxRecDepth 20000 in
theorem gX11_parsesCommand_X11_digitsAfter : GoodIn wsX11_parsesCommand (wsV RX11 247 RX11 yX11_digitsAfter wsX11_digitsAfter) := goodIn_app (goodIn_of _ (by decide +kernel)) ggX11_parsesCommand_X11_digitsAfter
set_option maxRecDepth 20000 in
theorem ggX11_parsesCommand_X11_parsesTwo : GoodIn wsX11_parsesCommand wsX11_parsesTwo := goodIn_ca (goodIn_r _ [33, 2, 19, 20, 21, 7, 22, 15, 16, 17, 18, 3, 1, 4, 5, 6, 8, 9, 10, 23, 24, 25, 26, 27, 28, 29, 42, 43, 44, 45, 46, 47, 48, 49, 50, 51, 52, 53, 54, 55, 56, 57, 58, 59] (by decide +kernel) (by decide +kernel)) (goodIn_sub (fun _ h => List.mem_cons_of_mem _ (List.mem_append_right _ h)) (by decide +kernel))
set_option maxRecDepth 20000 in
theorem gX11_parsesCommand_X11_parsesTwo : GoodIn wsX11_parsesCommand (wsV RX11 257 RX11 yX11_parsesTwo wsX11_parsesTwo) := goodIn_app (goodIn_of _ (by decide +kernel)) ggX11_parsesCommand_X11_parsesTwo
set_option maxRecDepth 20000 in
theorem ggX11_parsesCommand_X11_needs : GoodIn wsX11_parsesCommand wsX11_needs := goodIn_ca (goodIn_r _ [18, 3, 1, 4, 5, 6, 7, 8, 9, 10, 42, 43, 44, 45, 46, 47, 48, 49, 50, 51, 52, 53, 54, 55, 56, 57, 58, 59] (by decide +kernel) (by decide +kernel)) (goodIn_sub (fun _ h => List.mem_cons_of_mem _ (List.mem_append_right _ h)) (by decide +kernel))
set_option maxRecDepth 20000 in
theorem gX11_parsesCommand_X11_needs : GoodIn wsX11_parsesCommand (wsV RX11 241 RX11 yX11_needs wsX11_needs) := goodIn_app (goodIn_of _ (by decide +kernel)) ggX11_parsesCommand_X11_needs
set_option maxRecDepth 20000 in
theorem ggX11_parsesCommand_X11_parsesValue : GoodIn wsX11_parsesCommand wsX11_parsesValue := goodIn_ca (goodIn_r _ [37, 2, 19, 20, 21, 7, 22, 15, 16, 17, 18, 3, 1, 4, 5, 6, 8, 9, 10, 23, 24, 25, 26, 27, 28, 29, 42, 43, 44, 45, 46, 47, 48, 49, 50, 51, 52, 53, 54, 55, 56, 57, 58, 59] (by decide +kernel) (by decide +kernel)) (goodIn_sub (fun _ h => List.mem_cons_of_mem _ (List.mem_append_right _ h)) (by decide +kernel))
set_option maxRecDepth 20000 in
theorem gX11_parsesCommand_X11_parsesValue : GoodIn wsX11_parsesCommand (wsV RX11 250 RX11 yX11_parsesValue wsX11_parsesValue) := goodIn_app (goodIn_of _ (by decide +kernel)) ggX11_parsesCommand_X11_parsesValue
set_option maxRecDepth 20000 in
theorem ggX11_parsesCommand_X11_parsesR : GoodIn wsX11_parsesCommand wsX11_parsesR := goodIn_ca (goodIn_r _ [41, 2, 4, 5, 6, 7, 8, 1, 9, 10, 15, 16, 17, 18, 3, 34, 35, 36, 37, 19, 20, 21, 22, 23, 24, 25, 26, 27, 28, 29, 11, 12, 13, 14, 42, 43, 44, 45, 46, 47, 48, 49, 50, 51, 52, 53, 54, 55, 56, 57, 58, 59] (by decide +kernel) (by decide +kernel)) (goodIn_sub (fun _ h => List.mem_cons_of_mem _ (List.mem_append_right _ h)) (by decide +kernel))
set_option maxRecDepth 20000 in
theorem gX11_parsesCommand_X11_parsesR : GoodIn wsX11_parsesCommand (wsV RX11 260 RX11 yX11_parsesR wsX11_parsesR) := goodIn_app (goodIn_of _ (by decide +kernel)) ggX11_parsesCommand_X11_parsesR
theorem dX11_parsesCommand_0 : decode cX11_parsesCommand 0 = .ok (.aload_n 0, 1) := by decide +kernel
theorem dX11_parsesCommand_1 : decode cX11_parsesCommand 1 = .ok (.invokevirtual 238, 3) := by decide +kernel
theorem dX11_parsesCommand_4 : decode cX11_parsesCommand 4 = .ok (.istore_n 2, 1) := by decide +kernel
theorem dX11_parsesCommand_5 : decode cX11_parsesCommand 5 = .ok (.aload_n 0, 1) := by decide +kernel
theorem dX11_parsesCommand_6 : decode cX11_parsesCommand 6 = .ok (.dup, 1) := by decide +kernel
theorem dX11_parsesCommand_7 : decode cX11_parsesCommand 7 = .ok (.getfield 231, 3) := by decide +kernel
theorem dX11_parsesCommand_10 : decode cX11_parsesCommand 10 = .ok (.iconst 1, 1) := by decide +kernel
theorem dX11_parsesCommand_11 : decode cX11_parsesCommand 11 = .ok (.iadd, 1) := by decide +kernel
theorem dX11_parsesCommand_12 : decode cX11_parsesCommand 12 = .ok (.putfield 231, 3) := by decide +kernel
theorem dX11_parsesCommand_15 : decode cX11_parsesCommand 15 = .ok (.aload_n 0, 1) := by decide +kernel
theorem dX11_parsesCommand_16 : decode cX11_parsesCommand 16 = .ok (.getfield 43, 3) := by decide +kernel
theorem dX11_parsesCommand_19 : decode cX11_parsesCommand 19 = .ok (.iload_n 1, 1) := by decide +kernel
theorem dX11_parsesCommand_20 : decode cX11_parsesCommand 20 = .ok (.iload_n 2, 1) := by decide +kernel
theorem dX11_parsesCommand_21 : decode cX11_parsesCommand 21 = .ok (.iastore, 1) := by decide +kernel
theorem dX11_parsesCommand_22 : decode cX11_parsesCommand 22 = .ok (.iload_n 2, 1) := by decide +kernel
theorem dX11_parsesCommand_23 : decode cX11_parsesCommand 23 = .ok (.tableswitch 363 97 119 #[149, 297, 167, 363, 363, 243, 105, 363, 363, 363, 363, 363, 131, 363, 269, 325, 363, 235, 187, 363, 363, 363, 217], 105) := by decide +kernel
theorem dX11_parsesCommand_128 : decode cX11_parsesCommand 128 = .ok (.aload_n 0, 1) := by decide +kernel
theorem dX11_parsesCommand_129 : decode cX11_parsesCommand 129 = .ok (.bipush 101, 2) := by decide +kernel
theorem dX11_parsesCommand_131 : decode cX11_parsesCommand 131 = .ok (.bipush 97, 2) := by decide +kernel
theorem dX11_parsesCommand_133 : decode cX11_parsesCommand 133 = .ok (.bipush 114, 2) := by decide +kernel
theorem dX11_parsesCommand_135 : decode cX11_parsesCommand 135 = .ok (.invokevirtual 253, 3) := by decide +kernel
theorem dX11_parsesCommand_138 : decode cX11_parsesCommand 138 = .ok (.aload_n 0, 1) := by decide +kernel
theorem dX11_parsesCommand_139 : decode cX11_parsesCommand 139 = .ok (.getfield 43, 3) := by decide +kernel
theorem dX11_parsesCommand_142 : decode cX11_parsesCommand 142 = .ok (.iload_n 1, 1) := by decide +kernel
theorem dX11_parsesCommand_143 : decode cX11_parsesCommand 143 = .ok (.iconst 1, 1) := by decide +kernel
theorem dX11_parsesCommand_144 : decode cX11_parsesCommand 144 = .ok (.iadd, 1) := by decide +kernel
theorem dX11_parsesCommand_145 : decode cX11_parsesCommand 145 = .ok (.aload_n 0, 1) := by decide +kernel
theorem dX11_parsesCommand_146 : decode cX11_parsesCommand 146 = .ok (.iconst 3, 1) := by decide +kernel
theorem dX11_parsesCommand_147 : decode cX11_parsesCommand 147 = .ok (.invokevirtual 247, 3) := by decide +kernel
theorem dX11_parsesCommand_150 : decode cX11_parsesCommand 150 = .ok (.iastore, 1) := by decide +kernel
theorem dX11_parsesCommand_151 : decode cX11_parsesCommand 151 = .ok (.goto 250, 3) := by decide +kernel
theorem dX11_parsesCommand_154 : decode cX11_parsesCommand 154 = .ok (.aload_n 0, 1) := by decide +kernel
theorem dX11_parsesCommand_155 : decode cX11_parsesCommand 155 = .ok (.bipush 101, 2) := by decide +kernel
theorem dX11_parsesCommand_157 : decode cX11_parsesCommand 157 = .ok (.bipush 115, 2) := by decide +kernel
theorem dX11_parsesCommand_159 : decode cX11_parsesCommand 159 = .ok (.bipush 104, 2) := by decide +kernel
theorem dX11_parsesCommand_161 : decode cX11_parsesCommand 161 = .ok (.invokevirtual 253, 3) := by decide +kernel
theorem dX11_parsesCommand_164 : decode cX11_parsesCommand 164 = .ok (.aload_n 0, 1) := by decide +kernel
theorem dX11_parsesCommand_165 : decode cX11_parsesCommand 165 = .ok (.iload_n 1, 1) := by decide +kernel
theorem dX11_parsesCommand_166 : decode cX11_parsesCommand 166 = .ok (.invokevirtual 257, 3) := by decide +kernel
theorem dX11_parsesCommand_169 : decode cX11_parsesCommand 169 = .ok (.goto 232, 3) := by decide +kernel
theorem dX11_parsesCommand_172 : decode cX11_parsesCommand 172 = .ok (.aload_n 0, 1) := by decide +kernel
theorem dX11_parsesCommand_173 : decode cX11_parsesCommand 173 = .ok (.bipush 120, 2) := by decide +kernel
theorem dX11_parsesCommand_175 : decode cX11_parsesCommand 175 = .ok (.bipush 108, 2) := by decide +kernel
theorem dX11_parsesCommand_177 : decode cX11_parsesCommand 177 = .ok (.bipush 101, 2) := by decide +kernel
theorem dX11_parsesCommand_179 : decode cX11_parsesCommand 179 = .ok (.invokevirtual 253, 3) := by decide +kernel
theorem dX11_parsesCommand_182 : decode cX11_parsesCommand 182 = .ok (.aload_n 0, 1) := by decide +kernel
theorem dX11_parsesCommand_183 : decode cX11_parsesCommand 183 = .ok (.iload_n 1, 1) := by decide +kernel
theorem dX11_parsesCommand_184 : decode cX11_parsesCommand 184 = .ok (.invokevirtual 257, 3) := by decide +kernel
theorem dX11_parsesCommand_187 : decode cX11_parsesCommand 187 = .ok (.goto 214, 3) := by decide +kernel
theorem dX11_parsesCommand_190 : decode cX11_parsesCommand 190 = .ok (.aload_n 0, 1) := by decide +kernel
theorem dX11_parsesCommand_191 : decode cX11_parsesCommand 191 = .ok (.bipush 117, 2) := by decide +kernel
theorem dX11_parsesCommand_193 : decode cX11_parsesCommand 193 = .ok (.invokevirtual 241, 3) := by decide +kernel
theorem dX11_parsesCommand_196 : decode cX11_parsesCommand 196 = .ok (.aload_n 0, 1) := by decide +kernel
theorem dX11_parsesCommand_197 : decode cX11_parsesCommand 197 = .ok (.bipush 116, 2) := by decide +kernel
theorem dX11_parsesCommand_199 : decode cX11_parsesCommand 199 = .ok (.invokevirtual 241, 3) := by decide +kernel
theorem dX11_parsesCommand_202 : decode cX11_parsesCommand 202 = .ok (.aload_n 0, 1) := by decide +kernel
theorem dX11_parsesCommand_203 : decode cX11_parsesCommand 203 = .ok (.iload_n 1, 1) := by decide +kernel
theorem dX11_parsesCommand_204 : decode cX11_parsesCommand 204 = .ok (.invokevirtual 257, 3) := by decide +kernel
theorem dX11_parsesCommand_207 : decode cX11_parsesCommand 207 = .ok (.goto 194, 3) := by decide +kernel
theorem dX11_parsesCommand_210 : decode cX11_parsesCommand 210 = .ok (.aload_n 0, 1) := by decide +kernel
theorem dX11_parsesCommand_211 : decode cX11_parsesCommand 211 = .ok (.bipush 112, 2) := by decide +kernel
theorem dX11_parsesCommand_213 : decode cX11_parsesCommand 213 = .ok (.bipush 114, 2) := by decide +kernel
theorem dX11_parsesCommand_215 : decode cX11_parsesCommand 215 = .ok (.bipush 105, 2) := by decide +kernel
theorem dX11_parsesCommand_217 : decode cX11_parsesCommand 217 = .ok (.invokevirtual 253, 3) := by decide +kernel
theorem dX11_parsesCommand_220 : decode cX11_parsesCommand 220 = .ok (.aload_n 0, 1) := by decide +kernel
theorem dX11_parsesCommand_221 : decode cX11_parsesCommand 221 = .ok (.bipush 110, 2) := by decide +kernel
theorem dX11_parsesCommand_223 : decode cX11_parsesCommand 223 = .ok (.invokevirtual 241, 3) := by decide +kernel
theorem dX11_parsesCommand_226 : decode cX11_parsesCommand 226 = .ok (.aload_n 0, 1) := by decide +kernel
theorem dX11_parsesCommand_227 : decode cX11_parsesCommand 227 = .ok (.bipush 103, 2) := by decide +kernel
theorem dX11_parsesCommand_229 : decode cX11_parsesCommand 229 = .ok (.invokevirtual 241, 3) := by decide +kernel
theorem dX11_parsesCommand_232 : decode cX11_parsesCommand 232 = .ok (.aload_n 0, 1) := by decide +kernel
theorem dX11_parsesCommand_233 : decode cX11_parsesCommand 233 = .ok (.iload_n 1, 1) := by decide +kernel
theorem dX11_parsesCommand_234 : decode cX11_parsesCommand 234 = .ok (.invokevirtual 250, 3) := by decide +kernel
theorem dX11_parsesCommand_237 : decode cX11_parsesCommand 237 = .ok (.goto 164, 3) := by decide +kernel
theorem dX11_parsesCommand_240 : decode cX11_parsesCommand 240 = .ok (.aload_n 0, 1) := by decide +kernel
theorem dX11_parsesCommand_241 : decode cX11_parsesCommand 241 = .ok (.bipush 105, 2) := by decide +kernel
theorem dX11_parsesCommand_243 : decode cX11_parsesCommand 243 = .ok (.bipush 110, 2) := by decide +kernel
theorem dX11_parsesCommand_245 : decode cX11_parsesCommand 245 = .ok (.bipush 100, 2) := by decide +kernel
theorem dX11_parsesCommand_247 : decode cX11_parsesCommand 247 = .ok (.invokevirtual 253, 3) := by decide +kernel
theorem dX11_parsesCommand_250 : decode cX11_parsesCommand 250 = .ok (.aload_n 0, 1) := by decide +kernel
theorem dX11_parsesCommand_251 : decode cX11_parsesCommand 251 = .ok (.iload_n 1, 1) := by decide +kernel
theorem dX11_parsesCommand_252 : decode cX11_parsesCommand 252 = .ok (.invokevirtual 250, 3) := by decide +kernel
theorem dX11_parsesCommand_255 : decode cX11_parsesCommand 255 = .ok (.goto 146, 3) := by decide +kernel
theorem dX11_parsesCommand_258 : decode cX11_parsesCommand 258 = .ok (.aload_n 0, 1) := by decide +kernel
theorem dX11_parsesCommand_259 : decode cX11_parsesCommand 259 = .ok (.iload_n 1, 1) := by decide +kernel
theorem dX11_parsesCommand_260 : decode cX11_parsesCommand 260 = .ok (.invokevirtual 260, 3) := by decide +kernel
theorem dX11_parsesCommand_263 : decode cX11_parsesCommand 263 = .ok (.goto 138, 3) := by decide +kernel
theorem dX11_parsesCommand_266 : decode cX11_parsesCommand 266 = .ok (.aload_n 0, 1) := by decide +kernel
theorem dX11_parsesCommand_267 : decode cX11_parsesCommand 267 = .ok (.bipush 114, 2) := by decide +kernel
theorem dX11_parsesCommand_269 : decode cX11_parsesCommand 269 = .ok (.bipush 101, 2) := by decide +kernel
theorem dX11_parsesCommand_271 : decode cX11_parsesCommand 271 = .ok (.bipush 101, 2) := by decide +kernel
theorem dX11_parsesCommand_273 : decode cX11_parsesCommand 273 = .ok (.invokevirtual 253, 3) := by decide +kernel
theorem dX11_parsesCommand_276 : decode cX11_parsesCommand 276 = .ok (.aload_n 0, 1) := by decide +kernel
theorem dX11_parsesCommand_277 : decode cX11_parsesCommand 277 = .ok (.getfield 43, 3) := by decide +kernel
theorem dX11_parsesCommand_280 : decode cX11_parsesCommand 280 = .ok (.iload_n 1, 1) := by decide +kernel
theorem dX11_parsesCommand_281 : decode cX11_parsesCommand 281 = .ok (.iconst 1, 1) := by decide +kernel
theorem dX11_parsesCommand_282 : decode cX11_parsesCommand 282 = .ok (.iadd, 1) := by decide +kernel
theorem dX11_parsesCommand_283 : decode cX11_parsesCommand 283 = .ok (.aload_n 0, 1) := by decide +kernel
theorem dX11_parsesCommand_284 : decode cX11_parsesCommand 284 = .ok (.iconst 1, 1) := by decide +kernel
theorem dX11_parsesCommand_285 : decode cX11_parsesCommand 285 = .ok (.invokevirtual 247, 3) := by decide +kernel
theorem dX11_parsesCommand_288 : decode cX11_parsesCommand 288 = .ok (.iastore, 1) := by decide +kernel
theorem dX11_parsesCommand_289 : decode cX11_parsesCommand 289 = .ok (.goto 112, 3) := by decide +kernel
theorem dX11_parsesCommand_292 : decode cX11_parsesCommand 292 = .ok (.aload_n 0, 1) := by decide +kernel
theorem dX11_parsesCommand_293 : decode cX11_parsesCommand 293 = .ok (.bipush 105, 2) := by decide +kernel
theorem dX11_parsesCommand_295 : decode cX11_parsesCommand 295 = .ok (.invokevirtual 241, 3) := by decide +kernel
theorem dX11_parsesCommand_298 : decode cX11_parsesCommand 298 = .ok (.aload_n 0, 1) := by decide +kernel
theorem dX11_parsesCommand_299 : decode cX11_parsesCommand 299 = .ok (.bipush 108, 2) := by decide +kernel
theorem dX11_parsesCommand_301 : decode cX11_parsesCommand 301 = .ok (.invokevirtual 241, 3) := by decide +kernel
theorem dX11_parsesCommand_304 : decode cX11_parsesCommand 304 = .ok (.aload_n 0, 1) := by decide +kernel
theorem dX11_parsesCommand_305 : decode cX11_parsesCommand 305 = .ok (.getfield 43, 3) := by decide +kernel
theorem dX11_parsesCommand_308 : decode cX11_parsesCommand 308 = .ok (.iload_n 1, 1) := by decide +kernel
theorem dX11_parsesCommand_309 : decode cX11_parsesCommand 309 = .ok (.iconst 1, 1) := by decide +kernel
theorem dX11_parsesCommand_310 : decode cX11_parsesCommand 310 = .ok (.iadd, 1) := by decide +kernel
theorem dX11_parsesCommand_311 : decode cX11_parsesCommand 311 = .ok (.aload_n 0, 1) := by decide +kernel
theorem dX11_parsesCommand_312 : decode cX11_parsesCommand 312 = .ok (.iconst 1, 1) := by decide +kernel
theorem dX11_parsesCommand_313 : decode cX11_parsesCommand 313 = .ok (.invokevirtual 247, 3) := by decide +kernel
theorem dX11_parsesCommand_316 : decode cX11_parsesCommand 316 = .ok (.iastore, 1) := by decide +kernel
theorem dX11_parsesCommand_317 : decode cX11_parsesCommand 317 = .ok (.goto 84, 3) := by decide +kernel
theorem dX11_parsesCommand_320 : decode cX11_parsesCommand 320 = .ok (.aload_n 0, 1) := by decide +kernel
theorem dX11_parsesCommand_321 : decode cX11_parsesCommand 321 = .ok (.bipush 117, 2) := by decide +kernel
theorem dX11_parsesCommand_323 : decode cX11_parsesCommand 323 = .ok (.invokevirtual 241, 3) := by decide +kernel
theorem dX11_parsesCommand_326 : decode cX11_parsesCommand 326 = .ok (.aload_n 0, 1) := by decide +kernel
theorem dX11_parsesCommand_327 : decode cX11_parsesCommand 327 = .ok (.bipush 121, 2) := by decide +kernel
theorem dX11_parsesCommand_329 : decode cX11_parsesCommand 329 = .ok (.invokevirtual 241, 3) := by decide +kernel
theorem dX11_parsesCommand_332 : decode cX11_parsesCommand 332 = .ok (.aload_n 0, 1) := by decide +kernel
theorem dX11_parsesCommand_333 : decode cX11_parsesCommand 333 = .ok (.getfield 43, 3) := by decide +kernel
theorem dX11_parsesCommand_336 : decode cX11_parsesCommand 336 = .ok (.iload_n 1, 1) := by decide +kernel
theorem dX11_parsesCommand_337 : decode cX11_parsesCommand 337 = .ok (.iconst 1, 1) := by decide +kernel
theorem dX11_parsesCommand_338 : decode cX11_parsesCommand 338 = .ok (.iadd, 1) := by decide +kernel
theorem dX11_parsesCommand_339 : decode cX11_parsesCommand 339 = .ok (.aload_n 0, 1) := by decide +kernel
theorem dX11_parsesCommand_340 : decode cX11_parsesCommand 340 = .ok (.iconst 3, 1) := by decide +kernel
theorem dX11_parsesCommand_341 : decode cX11_parsesCommand 341 = .ok (.invokevirtual 247, 3) := by decide +kernel
theorem dX11_parsesCommand_344 : decode cX11_parsesCommand 344 = .ok (.iastore, 1) := by decide +kernel
theorem dX11_parsesCommand_345 : decode cX11_parsesCommand 345 = .ok (.goto 56, 3) := by decide +kernel
theorem dX11_parsesCommand_348 : decode cX11_parsesCommand 348 = .ok (.aload_n 0, 1) := by decide +kernel
theorem dX11_parsesCommand_349 : decode cX11_parsesCommand 349 = .ok (.bipush 108, 2) := by decide +kernel
theorem dX11_parsesCommand_351 : decode cX11_parsesCommand 351 = .ok (.bipush 97, 2) := by decide +kernel
theorem dX11_parsesCommand_353 : decode cX11_parsesCommand 353 = .ok (.bipush 110, 2) := by decide +kernel
theorem dX11_parsesCommand_355 : decode cX11_parsesCommand 355 = .ok (.invokevirtual 253, 3) := by decide +kernel
theorem dX11_parsesCommand_358 : decode cX11_parsesCommand 358 = .ok (.aload_n 0, 1) := by decide +kernel
theorem dX11_parsesCommand_359 : decode cX11_parsesCommand 359 = .ok (.bipush 101, 2) := by decide +kernel
theorem dX11_parsesCommand_361 : decode cX11_parsesCommand 361 = .ok (.invokevirtual 241, 3) := by decide +kernel
theorem dX11_parsesCommand_364 : decode cX11_parsesCommand 364 = .ok (.aload_n 0, 1) := by decide +kernel
theorem dX11_parsesCommand_365 : decode cX11_parsesCommand 365 = .ok (.bipush 116, 2) := by decide +kernel
theorem dX11_parsesCommand_367 : decode cX11_parsesCommand 367 = .ok (.invokevirtual 241, 3) := by decide +kernel
theorem dX11_parsesCommand_370 : decode cX11_parsesCommand 370 = .ok (.aload_n 0, 1) := by decide +kernel
theorem dX11_parsesCommand_371 : decode cX11_parsesCommand 371 = .ok (.getfield 43, 3) := by decide +kernel
theorem dX11_parsesCommand_374 : decode cX11_parsesCommand 374 = .ok (.iload_n 1, 1) := by decide +kernel
theorem dX11_parsesCommand_375 : decode cX11_parsesCommand 375 = .ok (.iconst 1, 1) := by decide +kernel
theorem dX11_parsesCommand_376 : decode cX11_parsesCommand 376 = .ok (.iadd, 1) := by decide +kernel
theorem dX11_parsesCommand_377 : decode cX11_parsesCommand 377 = .ok (.aload_n 0, 1) := by decide +kernel
theorem dX11_parsesCommand_378 : decode cX11_parsesCommand 378 = .ok (.iconst 1, 1) := by decide +kernel
theorem dX11_parsesCommand_379 : decode cX11_parsesCommand 379 = .ok (.invokevirtual 247, 3) := by decide +kernel
theorem dX11_parsesCommand_382 : decode cX11_parsesCommand 382 = .ok (.iastore, 1) := by decide +kernel
theorem dX11_parsesCommand_383 : decode cX11_parsesCommand 383 = .ok (.goto 18, 3) := by decide +kernel
theorem dX11_parsesCommand_386 : decode cX11_parsesCommand 386 = .ok (.aload_n 0, 1) := by decide +kernel
theorem dX11_parsesCommand_387 : decode cX11_parsesCommand 387 = .ok (.iconst 1, 1) := by decide +kernel
theorem dX11_parsesCommand_388 : decode cX11_parsesCommand 388 = .ok (.putfield 234, 3) := by decide +kernel
theorem dX11_parsesCommand_391 : decode cX11_parsesCommand 391 = .ok (.aload_n 0, 1) := by decide +kernel
theorem dX11_parsesCommand_392 : decode cX11_parsesCommand 392 = .ok (.dup, 1) := by decide +kernel
theorem dX11_parsesCommand_393 : decode cX11_parsesCommand 393 = .ok (.getfield 231, 3) := by decide +kernel
theorem dX11_parsesCommand_396 : decode cX11_parsesCommand 396 = .ok (.iconst 1, 1) := by decide +kernel
theorem dX11_parsesCommand_397 : decode cX11_parsesCommand 397 = .ok (.isub, 1) := by decide +kernel
theorem dX11_parsesCommand_398 : decode cX11_parsesCommand 398 = .ok (.putfield 231, 3) := by decide +kernel
theorem dX11_parsesCommand_401 : decode cX11_parsesCommand 401 = .ok (.return_, 1) := by decide +kernel
set_option maxRecDepth 20000 in
theorem ggX11_carriesOut_X11_addsGear : GoodIn wsX11_carriesOut wsX11_addsGear := goodIn_ca (goodIn_r _ [6, 7, 8, 9, 5, 10, 11, 12, 13, 14, 15, 16, 17, 18, 19, 20, 21, 22, 23, 139, 140, 141, 142, 143, 144, 145, 146, 147, 148, 149, 150, 151, 152, 153, 154, 155, 156] (by decide +kernel) (by decide +kernel)) (goodIn_sub (fun _ h => List.mem_cons_of_mem _ (List.mem_append_left _ (List.mem_append_right _ h))) (by decide +kernel))
set_option maxRecDepth 20000 in
theorem gX11_carriesOut_X11_addsGear : GoodIn wsX11_carriesOut (wsV RX11 104 RX11 yX11_addsGear wsX11_addsGear) := goodIn_app (goodIn_of _ (by decide +kernel)) ggX11_carriesOut_X11_addsGear
set_option maxRecDepth 20000 in
theorem ggX11_carriesOut_X11_joins : GoodIn wsX11_carriesOut wsX11_joins := goodIn_ca (goodIn_ca (goodIn_r _ [27, 28, 29, 7, 30, 31, 32, 33, 34, 5, 35, 36, 37, 38, 39, 16, 17, 18, 19, 40, 41, 42, 11, 12, 13, 14, 15, 43, 44, 45, 46, 47, 48, 49, 50, 51, 52, 53, 54, 55, 56, 57, 58, 59, 60, 61, 62, 63, 64, 65, 66, 67, 68, 69, 70, 71, 72, 73, 74, 20, 21, 22, 23, 139, 140, 141, 142, 143, 144, 145, 146, 147, 148, 149, 150, 151, 152, 153, 154, 155, 156] (by decide +kernel) (by decide +kernel)) (goodIn_sub (fun _ h => List.mem_cons_of_mem _ (List.mem_append_left _ (List.mem_append_right _ h))) (by decide +kernel))) (goodIn_sub (fun _ h => List.mem_cons_of_mem _ (List.mem_append_right _ h)) (by decide +kernel))
set_option maxRecDepth 20000 in
theorem gX11_carriesOut_X11_joins : GoodIn wsX11_carriesOut (wsV RX11 124 RX11 yX11_joins wsX11_joins) := goodIn_app (goodIn_of _ (by decide +kernel)) ggX11_carriesOut_X11_joins
set_option maxRecDepth 20000 in
theorem ggX11_carriesOut_X11_parts : GoodIn wsX11_carriesOut wsX11_parts := goodIn_ca (goodIn_r _ [78, 7, 32, 33, 34, 5, 35, 36, 37, 38, 39, 16, 17, 18, 19, 40, 41, 42, 11, 12, 13, 14, 15, 43, 44, 45, 46, 47, 48, 49, 50, 20, 21, 22, 23, 139, 140, 141, 142, 143, 144, 145, 146, 147, 148, 149, 150, 151, 152, 153, 154, 155, 156] (by decide +kernel) (by decide +kernel)) (goodIn_sub (fun _ h => List.mem_cons_of_mem _ (List.mem_append_left _ (List.mem_append_right _ h))) (by decide +kernel))
set_option maxRecDepth 20000 in
theorem gX11_carriesOut_X11_parts : GoodIn wsX11_carriesOut (wsV RX11 128 RX11 yX11_parts wsX11_parts) := goodIn_app (goodIn_of _ (by decide +kernel)) ggX11_carriesOut_X11_parts
set_option maxRecDepth 20000 in
theorem ggX11_carriesOut_X11_sets : GoodIn wsX11_carriesOut wsX11_sets := goodIn_ca (goodIn_ca (goodIn_r _ [82, 7, 36, 37, 38, 5, 39, 16, 17, 18, 19, 40, 41, 42, 11, 12, 13, 14, 15, 55, 56, 57, 58, 30, 31, 28, 59, 60, 61, 62, 43, 44, 45, 46, 63, 64, 65, 66, 67, 68, 69, 70, 20, 21, 22, 23, 139, 140, 141, 142, 143, 144, 145, 146, 147, 148, 149, 150, 151, 152, 153, 154, 155, 156] (by decide +kernel) (by decide +kernel)) (goodIn_sub (fun _ h => List.mem_cons_of_mem _ (List.mem_append_left _ (List.mem_append_right _ h))) (by decide +kernel))) (goodIn_sub (fun _ h => List.mem_cons_of_mem _ (List.mem_append_right _ h)) (by decide +kernel))
set_option maxRecDepth 20000 in
theorem gX11_carriesOut_X11_sets : GoodIn wsX11_carriesOut (wsV RX11 131 RX11 yX11_sets wsX11_sets) := goodIn_app (goodIn_of _ (by decide +kernel)) ggX11_carriesOut_X11_sets
set_option maxRecDepth 20000 in
theorem ggX11_carriesOut_X11_winds : GoodIn wsX11_carriesOut wsX11_winds := goodIn_ca (goodIn_r _ [86, 7, 36, 37, 38, 5, 39, 16, 17, 18, 19, 40, 41, 42, 11, 12, 13, 14, 15, 67, 68, 69, 70, 20, 21, 22, 23, 139, 140, 141, 142, 143, 144, 145, 146, 147, 148, 149, 150, 151, 152, 153, 154, 155, 156] (by decide +kernel) (by decide +kernel)) (goodIn_sub (fun _ h => List.mem_cons_of_mem _ (List.mem_append_left _ (List.mem_append_right _ h))) (by decide +kernel))
set_option maxRecDepth 20000 in
theorem gX11_carriesOut_X11_winds : GoodIn wsX11_carriesOut (wsV RX11 134 RX11 yX11_winds wsX11_winds) := goodIn_app (goodIn_of _ (by decide +kernel)) ggX11_carriesOut_X11_winds
set_option maxRecDepth 20000 in
theorem ggX11_carriesOut_X11_reverses : GoodIn wsX11_carriesOut wsX11_reverses := goodIn_ca (goodIn_r _ [90, 7, 36, 37, 38, 5, 39, 16, 17, 18, 19, 40, 41, 42, 11, 12, 13, 14, 15, 67, 68, 69, 70, 20, 21, 22, 23, 139, 140, 141, 142, 143, 144, 145, 146, 147, 148, 149, 150, 151, 152, 153, 154, 155, 156] (by decide +kernel) (by decide +kernel)) (goodIn_sub (fun _ h => List.mem_cons_of_mem _ (List.mem_append_left _ (List.mem_append_right _ h))) (by decide +kernel))
set_option maxRecDepth 20000 in
theorem gX11_carriesOut_X11_reverses : GoodIn wsX11_carriesOut (wsV RX11 137 RX11 yX11_reverses wsX11_reverses) := goodIn_app (goodIn_of _ (by decide +kernel)) ggX11_carriesOut_X11_reverses
set_option maxRecDepth 20000 in
theorem ggX11_carriesOut_X11_releases : GoodIn wsX11_carriesOut wsX11_releases := goodIn_ca (goodIn_ca (goodIn_r _ [94, 7, 36, 37, 38, 5, 39, 16, 17, 18, 19, 40, 41, 42, 11, 12, 13, 14, 15, 67, 68, 69, 70, 95, 96, 97, 98, 30, 55, 56, 57, 58, 31, 28, 59, 60, 61, 62, 43, 44, 45, 46, 71, 72, 73, 74, 99, 100, 101, 102, 103, 104, 105, 106, 107, 108, 109, 110, 111, 112, 113, 114, 115, 116, 117, 20, 21, 22, 23, 139, 140, 141, 142, 143, 144, 145, 146, 147, 148, 149, 150, 151, 152, 153, 154, 155, 156] (by decide +kernel) (by decide +kernel)) (goodIn_sub (fun _ h => List.mem_cons_of_mem _ (List.mem_append_right _ h)) (by decide +kernel))) (goodIn_sub (fun _ h => List.mem_cons_of_mem _ (List.mem_append_left _ (List.mem_append_right _ h))) (by decide +kernel))
set_option maxRecDepth 20000 in
theorem gX11_carriesOut_X11_releases : GoodIn wsX11_carriesOut (wsV RX11 162 RX11 yX11_releases wsX11_releases) := goodIn_app (goodIn_of _ (by decide +kernel)) ggX11_carriesOut_X11_releases
set_option maxRecDepth 20000 in
theorem ggX11_carriesOut_X11_ratchets : GoodIn wsX11_carriesOut wsX11_ratchets := goodIn_ca (goodIn_r _ [121, 7, 36, 37, 38, 5, 39, 16, 17, 18, 19, 40, 41, 42, 11, 12, 13, 14, 15, 20, 21, 22, 23, 139, 140, 141, 142, 143, 144, 145, 146, 147, 148, 149, 150, 151, 152, 153, 154, 155, 156] (by decide +kernel) (by decide +kernel)) (goodIn_sub (fun _ h => List.mem_cons_of_mem _ (List.mem_append_left _ (List.mem_append_right _ h))) (by decide +kernel))
set_option maxRecDepth 20000 in
theorem gX11_carriesOut_X11_ratchets : GoodIn wsX11_carriesOut (wsV RX11 165 RX11 yX11_ratchets wsX11_ratchets) := goodIn_app (goodIn_of _ (by decide +kernel)) ggX11_carriesOut_X11_ratchets
set_option maxRecDepth 20000 in
theorem ggX11_carriesOut_X11_oils : GoodIn wsX11_carriesOut wsX11_oils := goodIn_ca (goodIn_r _ [125, 7, 36, 37, 38, 5, 39, 16, 17, 18, 19, 40, 41, 42, 11, 12, 13, 14, 15, 20, 21, 22, 23, 139, 140, 141, 142, 143, 144, 145, 146, 147, 148, 149, 150, 151, 152, 153, 154, 155, 156] (by decide +kernel) (by decide +kernel)) (goodIn_sub (fun _ h => List.mem_cons_of_mem _ (List.mem_append_left _ (List.mem_append_right _ h))) (by decide +kernel))
set_option maxRecDepth 20000 in
theorem gX11_carriesOut_X11_oils : GoodIn wsX11_carriesOut (wsV RX11 169 RX11 yX11_oils wsX11_oils) := goodIn_app (goodIn_of _ (by decide +kernel)) ggX11_carriesOut_X11_oils
set_option maxRecDepth 20000 in
theorem ggX11_carriesOut_X11_buys : GoodIn wsX11_carriesOut wsX11_buys := goodIn_ca (goodIn_r _ [129, 7, 130, 40, 41, 5, 42, 11, 12, 13, 14, 15, 16, 17, 18, 19, 20, 21, 22, 23, 139, 140, 141, 142, 143, 144, 145, 146, 147, 148, 149, 150, 151, 152, 153, 154, 155, 156] (by decide +kernel) (by decide +kernel)) (goodIn_sub (fun _ h => List.mem_cons_of_mem _ (List.mem_append_left _ (List.mem_append_right _ h))) (by decide +kernel))
set_option maxRecDepth 20000 in
theorem gX11_carriesOut_X11_buys : GoodIn wsX11_carriesOut (wsV RX11 174 RX11 yX11_buys wsX11_buys) := goodIn_app (goodIn_of _ (by decide +kernel)) ggX11_carriesOut_X11_buys
set_option maxRecDepth 20000 in
theorem ggX11_carriesOut_X11_addsPlanet : GoodIn wsX11_carriesOut wsX11_addsPlanet := goodIn_ca (goodIn_r _ [134, 7, 36, 37, 38, 5, 39, 16, 17, 18, 19, 40, 41, 42, 11, 12, 13, 14, 15, 135, 136, 137, 138, 20, 21, 22, 23, 139, 140, 141, 142, 143, 144, 145, 146, 147, 148, 149, 150, 151, 152, 153, 154, 155, 156] (by decide +kernel) (by decide +kernel)) (goodIn_sub (fun _ h => List.mem_cons_of_mem _ (List.mem_append_left _ (List.mem_append_right _ h))) (by decide +kernel))
set_option maxRecDepth 20000 in
theorem gX11_carriesOut_X11_addsPlanet : GoodIn wsX11_carriesOut (wsV RX11 180 RX11 yX11_addsPlanet wsX11_addsPlanet) := goodIn_app (goodIn_of _ (by decide +kernel)) ggX11_carriesOut_X11_addsPlanet
theorem dX11_carriesOut_0 : decode cX11_carriesOut 0 = .ok (.aload_n 0, 1) := by decide +kernel
theorem dX11_carriesOut_1 : decode cX11_carriesOut 1 = .ok (.getfield 43, 3) := by decide +kernel
theorem dX11_carriesOut_4 : decode cX11_carriesOut 4 = .ok (.iload_n 1, 1) := by decide +kernel
theorem dX11_carriesOut_5 : decode cX11_carriesOut 5 = .ok (.iconst 1, 1) := by decide +kernel
theorem dX11_carriesOut_6 : decode cX11_carriesOut 6 = .ok (.iadd, 1) := by decide +kernel
theorem dX11_carriesOut_7 : decode cX11_carriesOut 7 = .ok (.iaload, 1) := by decide +kernel
theorem dX11_carriesOut_8 : decode cX11_carriesOut 8 = .ok (.istore_n 2, 1) := by decide +kernel
theorem dX11_carriesOut_9 : decode cX11_carriesOut 9 = .ok (.aload_n 0, 1) := by decide +kernel
theorem dX11_carriesOut_10 : decode cX11_carriesOut 10 = .ok (.getfield 43, 3) := by decide +kernel
theorem dX11_carriesOut_13 : decode cX11_carriesOut 13 = .ok (.iload_n 1, 1) := by decide +kernel
theorem dX11_carriesOut_14 : decode cX11_carriesOut 14 = .ok (.iconst 2, 1) := by decide +kernel
theorem dX11_carriesOut_15 : decode cX11_carriesOut 15 = .ok (.iadd, 1) := by decide +kernel
theorem dX11_carriesOut_16 : decode cX11_carriesOut 16 = .ok (.iaload, 1) := by decide +kernel
theorem dX11_carriesOut_17 : decode cX11_carriesOut 17 = .ok (.istore_n 3, 1) := by decide +kernel
theorem dX11_carriesOut_18 : decode cX11_carriesOut 18 = .ok (.aload_n 0, 1) := by decide +kernel
theorem dX11_carriesOut_19 : decode cX11_carriesOut 19 = .ok (.getfield 43, 3) := by decide +kernel
theorem dX11_carriesOut_22 : decode cX11_carriesOut 22 = .ok (.iload_n 1, 1) := by decide +kernel
theorem dX11_carriesOut_23 : decode cX11_carriesOut 23 = .ok (.iaload, 1) := by decide +kernel
theorem dX11_carriesOut_24 : decode cX11_carriesOut 24 = .ok (.tableswitch 190 97 119 #[122, 184, 130, 190, 190, 171, 108, 190, 190, 190, 190, 190, 114, 190, 178, 190, 190, 151, 137, 164, 157, 190, 144], 108) := by decide +kernel
theorem dX11_carriesOut_132 : decode cX11_carriesOut 132 = .ok (.aload_n 0, 1) := by decide +kernel
theorem dX11_carriesOut_133 : decode cX11_carriesOut 133 = .ok (.iload_n 2, 1) := by decide +kernel
theorem dX11_carriesOut_134 : decode cX11_carriesOut 134 = .ok (.invokevirtual 104, 3) := by decide +kernel
theorem dX11_carriesOut_137 : decode cX11_carriesOut 137 = .ok (.ireturn, 1) := by decide +kernel
theorem dX11_carriesOut_138 : decode cX11_carriesOut 138 = .ok (.aload_n 0, 1) := by decide +kernel
theorem dX11_carriesOut_139 : decode cX11_carriesOut 139 = .ok (.iload_n 2, 1) := by decide +kernel
theorem dX11_carriesOut_140 : decode cX11_carriesOut 140 = .ok (.iload_n 3, 1) := by decide +kernel
theorem dX11_carriesOut_141 : decode cX11_carriesOut 141 = .ok (.iconst 1, 1) := by decide +kernel
theorem dX11_carriesOut_142 : decode cX11_carriesOut 142 = .ok (.invokevirtual 124, 3) := by decide +kernel
theorem dX11_carriesOut_145 : decode cX11_carriesOut 145 = .ok (.ireturn, 1) := by decide +kernel
theorem dX11_carriesOut_146 : decode cX11_carriesOut 146 = .ok (.aload_n 0, 1) := by decide +kernel
theorem dX11_carriesOut_147 : decode cX11_carriesOut 147 = .ok (.iload_n 2, 1) := by decide +kernel
theorem dX11_carriesOut_148 : decode cX11_carriesOut 148 = .ok (.iload_n 3, 1) := by decide +kernel
theorem dX11_carriesOut_149 : decode cX11_carriesOut 149 = .ok (.iconst 2, 1) := by decide +kernel
theorem dX11_carriesOut_150 : decode cX11_carriesOut 150 = .ok (.invokevirtual 124, 3) := by decide +kernel
theorem dX11_carriesOut_153 : decode cX11_carriesOut 153 = .ok (.ireturn, 1) := by decide +kernel
theorem dX11_carriesOut_154 : decode cX11_carriesOut 154 = .ok (.aload_n 0, 1) := by decide +kernel
theorem dX11_carriesOut_155 : decode cX11_carriesOut 155 = .ok (.iload_n 2, 1) := by decide +kernel
theorem dX11_carriesOut_156 : decode cX11_carriesOut 156 = .ok (.iload_n 3, 1) := by decide +kernel
theorem dX11_carriesOut_157 : decode cX11_carriesOut 157 = .ok (.invokevirtual 128, 3) := by decide +kernel
theorem dX11_carriesOut_160 : decode cX11_carriesOut 160 = .ok (.ireturn, 1) := by decide +kernel
theorem dX11_carriesOut_161 : decode cX11_carriesOut 161 = .ok (.aload_n 0, 1) := by decide +kernel
theorem dX11_carriesOut_162 : decode cX11_carriesOut 162 = .ok (.iload_n 2, 1) := by decide +kernel
theorem dX11_carriesOut_163 : decode cX11_carriesOut 163 = .ok (.iload_n 3, 1) := by decide +kernel
theorem dX11_carriesOut_164 : decode cX11_carriesOut 164 = .ok (.invokevirtual 131, 3) := by decide +kernel
theorem dX11_carriesOut_167 : decode cX11_carriesOut 167 = .ok (.ireturn, 1) := by decide +kernel
theorem dX11_carriesOut_168 : decode cX11_carriesOut 168 = .ok (.aload_n 0, 1) := by decide +kernel
theorem dX11_carriesOut_169 : decode cX11_carriesOut 169 = .ok (.iload_n 2, 1) := by decide +kernel
theorem dX11_carriesOut_170 : decode cX11_carriesOut 170 = .ok (.iload_n 3, 1) := by decide +kernel
theorem dX11_carriesOut_171 : decode cX11_carriesOut 171 = .ok (.invokevirtual 134, 3) := by decide +kernel
theorem dX11_carriesOut_174 : decode cX11_carriesOut 174 = .ok (.ireturn, 1) := by decide +kernel
theorem dX11_carriesOut_175 : decode cX11_carriesOut 175 = .ok (.aload_n 0, 1) := by decide +kernel
theorem dX11_carriesOut_176 : decode cX11_carriesOut 176 = .ok (.iload_n 2, 1) := by decide +kernel
theorem dX11_carriesOut_177 : decode cX11_carriesOut 177 = .ok (.invokevirtual 137, 3) := by decide +kernel
theorem dX11_carriesOut_180 : decode cX11_carriesOut 180 = .ok (.ireturn, 1) := by decide +kernel
theorem dX11_carriesOut_181 : decode cX11_carriesOut 181 = .ok (.aload_n 0, 1) := by decide +kernel
theorem dX11_carriesOut_182 : decode cX11_carriesOut 182 = .ok (.iload_n 2, 1) := by decide +kernel
theorem dX11_carriesOut_183 : decode cX11_carriesOut 183 = .ok (.iload_n 3, 1) := by decide +kernel
theorem dX11_carriesOut_184 : decode cX11_carriesOut 184 = .ok (.invokevirtual 162, 3) := by decide +kernel
theorem dX11_carriesOut_187 : decode cX11_carriesOut 187 = .ok (.ireturn, 1) := by decide +kernel
theorem dX11_carriesOut_188 : decode cX11_carriesOut 188 = .ok (.aload_n 0, 1) := by decide +kernel
theorem dX11_carriesOut_189 : decode cX11_carriesOut 189 = .ok (.iload_n 2, 1) := by decide +kernel
theorem dX11_carriesOut_190 : decode cX11_carriesOut 190 = .ok (.iconst 1, 1) := by decide +kernel
theorem dX11_carriesOut_191 : decode cX11_carriesOut 191 = .ok (.invokevirtual 165, 3) := by decide +kernel
theorem dX11_carriesOut_194 : decode cX11_carriesOut 194 = .ok (.ireturn, 1) := by decide +kernel
theorem dX11_carriesOut_195 : decode cX11_carriesOut 195 = .ok (.aload_n 0, 1) := by decide +kernel
theorem dX11_carriesOut_196 : decode cX11_carriesOut 196 = .ok (.iload_n 2, 1) := by decide +kernel
theorem dX11_carriesOut_197 : decode cX11_carriesOut 197 = .ok (.iconst 0, 1) := by decide +kernel
theorem dX11_carriesOut_198 : decode cX11_carriesOut 198 = .ok (.invokevirtual 165, 3) := by decide +kernel
theorem dX11_carriesOut_201 : decode cX11_carriesOut 201 = .ok (.ireturn, 1) := by decide +kernel
theorem dX11_carriesOut_202 : decode cX11_carriesOut 202 = .ok (.aload_n 0, 1) := by decide +kernel
theorem dX11_carriesOut_203 : decode cX11_carriesOut 203 = .ok (.iload_n 2, 1) := by decide +kernel
theorem dX11_carriesOut_204 : decode cX11_carriesOut 204 = .ok (.invokevirtual 169, 3) := by decide +kernel
theorem dX11_carriesOut_207 : decode cX11_carriesOut 207 = .ok (.ireturn, 1) := by decide +kernel
theorem dX11_carriesOut_208 : decode cX11_carriesOut 208 = .ok (.aload_n 0, 1) := by decide +kernel
theorem dX11_carriesOut_209 : decode cX11_carriesOut 209 = .ok (.iload_n 2, 1) := by decide +kernel
theorem dX11_carriesOut_210 : decode cX11_carriesOut 210 = .ok (.invokevirtual 174, 3) := by decide +kernel
theorem dX11_carriesOut_213 : decode cX11_carriesOut 213 = .ok (.ireturn, 1) := by decide +kernel
theorem dX11_carriesOut_214 : decode cX11_carriesOut 214 = .ok (.aload_n 0, 1) := by decide +kernel
theorem dX11_carriesOut_215 : decode cX11_carriesOut 215 = .ok (.iload_n 2, 1) := by decide +kernel
theorem dX11_carriesOut_216 : decode cX11_carriesOut 216 = .ok (.invokevirtual 180, 3) := by decide +kernel
theorem dX11_carriesOut_219 : decode cX11_carriesOut 219 = .ok (.ireturn, 1) := by decide +kernel
set_option maxRecDepth 20000 in
theorem ggX11_runScript_X11_parsesCommand : GoodIn wsX11_runScript wsX11_parsesCommand := goodIn_ca (goodIn_r _ [11, 1, 12, 2, 13, 14, 15, 10, 16, 3, 17, 18, 19, 20, 21, 22, 23, 24, 25, 26, 27, 28, 29, 30, 31, 32, 33, 34, 35, 36, 37, 38, 39, 40, 41, 42, 43, 44, 45, 46, 47, 48, 199, 200, 201, 202, 203, 204, 205, 206, 207, 208, 209, 210, 211, 212, 213, 214, 215, 216] (by decide +kernel) (by decide +kernel)) (goodIn_sub (fun _ h => List.mem_cons_of_mem _ (List.mem_append_left _ (List.mem_append_right _ h))) (by decide +kernel))
set_option maxRecDepth 20000 in
theorem gX11_runScript_X11_parsesCommand : GoodIn wsX11_runScript (wsV RX11 263 RX11 yX11_parsesCommand wsX11_parsesCommand) := goodIn_app (goodIn_of _ (by decide +kernel)) ggX11_runScript_X11_parsesCommand
set_option maxRecDepth 20000 in
theorem ggX11_runScript_X11_here : GoodIn wsX11_runScript wsX11_here := goodIn_ca (goodIn_r _ [16, 1, 3, 17, 199, 200, 201, 202, 203, 204, 205, 206, 207, 208, 209, 210, 211, 212, 213, 214, 215, 216] (by decide +kernel) (by decide +kernel)) (goodIn_sub (fun _ h => List.mem_cons_of_mem _ (List.mem_append_left _ (List.mem_append_right _ h))) (by decide +kernel))
set_option maxRecDepth 20000 in
theorem gX11_runScript_X11_here : GoodIn wsX11_runScript (wsV RX11 238 RX11 yX11_here wsX11_here) := goodIn_app (goodIn_of _ (by decide +kernel)) ggX11_runScript_X11_here
set_option maxRecDepth 20000 in
theorem ggX11_runScript_X11_fails : GoodIn wsX11_runScript wsX11_fails := goodIn_r _ [52, 5, 199, 200, 201, 202, 203, 204, 205, 206, 207, 208, 209, 210, 211, 212, 213, 214, 215, 216] (by decide +kernel) (by decide +kernel)
set_option maxRecDepth 20000 in
theorem gX11_runScript_X11_fails : GoodIn wsX11_runScript (wsV RX11 95 RX11 yX11_fails wsX11_fails) := goodIn_app (goodIn_of _ (by decide +kernel)) ggX11_runScript_X11_fails
set_option maxRecDepth 20000 in
theorem ggX11_runScript_X11_begin : GoodIn wsX11_runScript wsX11_begin := goodIn_ca (goodIn_r _ [56, 57, 58, 59, 60, 10, 61, 199, 200, 201, 202, 203, 204, 205, 206, 207, 208, 209, 210, 211, 212, 213, 214, 215, 216] (by decide +kernel) (by decide +kernel)) (goodIn_sub (fun _ h => List.mem_cons_of_mem _ (List.mem_append_left _ (List.mem_append_right _ h))) (by decide +kernel))
set_option maxRecDepth 20000 in
theorem gX11_runScript_X11_begin : GoodIn wsX11_runScript (wsV RX11 101 RX11 yX11_begin wsX11_begin) := goodIn_app (goodIn_of _ (by decide +kernel)) ggX11_runScript_X11_begin
set_option maxRecDepth 20000 in
theorem ggX11_runScript_X11_carriesOut : GoodIn wsX11_runScript wsX11_carriesOut := goodIn_ca (goodIn_ca (goodIn_r _ [65, 12, 66, 67, 68, 10, 69, 57, 70, 71, 72, 49, 50, 51, 52, 5, 73, 74, 75, 76, 77, 78, 79, 80, 81, 82, 83, 84, 85, 86, 87, 88, 89, 90, 91, 92, 93, 94, 95, 96, 34, 35, 36, 97, 98, 99, 100, 101, 102, 103, 104, 105, 106, 107, 108, 109, 110, 111, 112, 113, 114, 115, 116, 117, 118, 119, 120, 121, 122, 123, 124, 125, 126, 127, 128, 129, 130, 131, 132, 133, 134, 135, 136, 137, 138, 139, 140, 141, 142, 143, 144, 145, 146, 147, 148, 149, 150, 151, 152, 153, 154, 155, 156, 157, 158, 159, 160, 161, 162, 163, 164, 165, 166, 167, 168, 169, 170, 171, 172, 173, 174, 175, 176, 177, 178, 179, 180, 181, 182, 183, 184, 185, 186, 187, 188, 189, 190, 191, 192, 199, 200, 201, 202, 203, 204, 205, 206, 207, 208, 209, 210, 211, 212, 213, 214, 215, 216] (by decide +kernel) (by decide +kernel)) (goodIn_sub (fun _ h => List.mem_cons_of_mem _ (List.mem_append_left _ (List.mem_append_right _ h))) (by decide +kernel))) (goodIn_sub (fun _ h => List.mem_cons_of_mem _ (List.mem_append_right _ h)) (by decide +kernel))
set_option maxRecDepth 20000 in
theorem gX11_runScript_X11_carriesOut : GoodIn wsX11_runScript (wsV RX11 266 RX11 yX11_carriesOut wsX11_carriesOut) := goodIn_app (goodIn_of _ (by decide +kernel)) ggX11_runScript_X11_carriesOut
set_option maxRecDepth 20000 in
theorem ggX11_runScript_X11_kept : GoodIn wsX11_runScript wsX11_kept := goodIn_ca (goodIn_r _ [196, 5, 58, 57, 197, 198, 59, 60, 10, 61, 199, 200, 201, 202, 203, 204, 205, 206, 207, 208, 209, 210, 211, 212, 213, 214, 215, 216] (by decide +kernel) (by decide +kernel)) (goodIn_sub (fun _ h => List.mem_cons_of_mem _ (List.mem_append_left _ (List.mem_append_right _ h))) (by decide +kernel))
set_option maxRecDepth 20000 in
theorem gX11_runScript_X11_kept : GoodIn wsX11_runScript (wsV RX11 107 RX11 yX11_kept wsX11_kept) := goodIn_app (goodIn_of _ (by decide +kernel)) ggX11_runScript_X11_kept
set_option maxRecDepth 20000 in
theorem ggX11_runScript_X11_done : GoodIn wsX11_runScript wsX11_done := goodIn_r _ [80, 5, 199, 200, 201, 202, 203, 204, 205, 206, 207, 208, 209, 210, 211, 212, 213, 214, 215, 216] (by decide +kernel) (by decide +kernel)
set_option maxRecDepth 20000 in
theorem gX11_runScript_X11_done : GoodIn wsX11_runScript (wsV RX11 98 RX11 yX11_done wsX11_done) := goodIn_app (goodIn_of _ (by decide +kernel)) ggX11_runScript_X11_done
theorem dX11_runScript_0 : decode cX11_runScript 0 = .ok (.aload_n 0, 1) := by decide +kernel
theorem dX11_runScript_1 : decode cX11_runScript 1 = .ok (.iconst 0, 1) := by decide +kernel
theorem dX11_runScript_2 : decode cX11_runScript 2 = .ok (.putfield 231, 3) := by decide +kernel
theorem dX11_runScript_5 : decode cX11_runScript 5 = .ok (.aload_n 0, 1) := by decide +kernel
theorem dX11_runScript_6 : decode cX11_runScript 6 = .ok (.iconst 0, 1) := by decide +kernel
theorem dX11_runScript_7 : decode cX11_runScript 7 = .ok (.putfield 234, 3) := by decide +kernel
theorem dX11_runScript_10 : decode cX11_runScript 10 = .ok (.iconst 0, 1) := by decide +kernel
theorem dX11_runScript_11 : decode cX11_runScript 11 = .ok (.istore_n 1, 1) := by decide +kernel
theorem dX11_runScript_12 : decode cX11_runScript 12 = .ok (.iconst 1, 1) := by decide +kernel
theorem dX11_runScript_13 : decode cX11_runScript 13 = .ok (.istore_n 2, 1) := by decide +kernel
theorem dX11_runScript_14 : decode cX11_runScript 14 = .ok (.iload_n 2, 1) := by decide +kernel
theorem dX11_runScript_15 : decode cX11_runScript 15 = .ok (.ifCond .eq 56, 3) := by decide +kernel
theorem dX11_runScript_18 : decode cX11_runScript 18 = .ok (.aload_n 0, 1) := by decide +kernel
theorem dX11_runScript_19 : decode cX11_runScript 19 = .ok (.iconst 3, 1) := by decide +kernel
theorem dX11_runScript_20 : decode cX11_runScript 20 = .ok (.iload_n 1, 1) := by decide +kernel
theorem dX11_runScript_21 : decode cX11_runScript 21 = .ok (.imul, 1) := by decide +kernel
theorem dX11_runScript_22 : decode cX11_runScript 22 = .ok (.invokevirtual 263, 3) := by decide +kernel
theorem dX11_runScript_25 : decode cX11_runScript 25 = .ok (.iinc 1 1, 3) := by decide +kernel
theorem dX11_runScript_28 : decode cX11_runScript 28 = .ok (.aload_n 0, 1) := by decide +kernel
theorem dX11_runScript_29 : decode cX11_runScript 29 = .ok (.getfield 234, 3) := by decide +kernel
theorem dX11_runScript_32 : decode cX11_runScript 32 = .ok (.ifCond .ne 16, 3) := by decide +kernel
theorem dX11_runScript_35 : decode cX11_runScript 35 = .ok (.aload_n 0, 1) := by decide +kernel
theorem dX11_runScript_36 : decode cX11_runScript 36 = .ok (.invokevirtual 238, 3) := by decide +kernel
theorem dX11_runScript_39 : decode cX11_runScript 39 = .ok (.bipush 59, 2) := by decide +kernel
theorem dX11_runScript_41 : decode cX11_runScript 41 = .ok (.if_icmp .ne 7, 3) := by decide +kernel
theorem dX11_runScript_44 : decode cX11_runScript 44 = .ok (.iconst 1, 1) := by decide +kernel
theorem dX11_runScript_45 : decode cX11_runScript 45 = .ok (.goto 4, 3) := by decide +kernel
theorem dX11_runScript_48 : decode cX11_runScript 48 = .ok (.iconst 0, 1) := by decide +kernel
theorem dX11_runScript_49 : decode cX11_runScript 49 = .ok (.istore_n 2, 1) := by decide +kernel
theorem dX11_runScript_50 : decode cX11_runScript 50 = .ok (.aload_n 0, 1) := by decide +kernel
theorem dX11_runScript_51 : decode cX11_runScript 51 = .ok (.dup, 1) := by decide +kernel
theorem dX11_runScript_52 : decode cX11_runScript 52 = .ok (.getfield 231, 3) := by decide +kernel
theorem dX11_runScript_55 : decode cX11_runScript 55 = .ok (.iload_n 2, 1) := by decide +kernel
theorem dX11_runScript_56 : decode cX11_runScript 56 = .ok (.ifCond .eq 7, 3) := by decide +kernel
theorem dX11_runScript_59 : decode cX11_runScript 59 = .ok (.iconst 1, 1) := by decide +kernel
theorem dX11_runScript_60 : decode cX11_runScript 60 = .ok (.goto 4, 3) := by decide +kernel
theorem dX11_runScript_63 : decode cX11_runScript 63 = .ok (.iconst 0, 1) := by decide +kernel
theorem dX11_runScript_64 : decode cX11_runScript 64 = .ok (.iadd, 1) := by decide +kernel
theorem dX11_runScript_65 : decode cX11_runScript 65 = .ok (.putfield 231, 3) := by decide +kernel
theorem dX11_runScript_68 : decode cX11_runScript 68 = .ok (.goto (-54), 3) := by decide +kernel
theorem dX11_runScript_71 : decode cX11_runScript 71 = .ok (.aload_n 0, 1) := by decide +kernel
theorem dX11_runScript_72 : decode cX11_runScript 72 = .ok (.aload_n 0, 1) := by decide +kernel
theorem dX11_runScript_73 : decode cX11_runScript 73 = .ok (.getfield 234, 3) := by decide +kernel
theorem dX11_runScript_76 : decode cX11_runScript 76 = .ok (.ifCond .ne 14, 3) := by decide +kernel
theorem dX11_runScript_79 : decode cX11_runScript 79 = .ok (.aload_n 0, 1) := by decide +kernel
theorem dX11_runScript_80 : decode cX11_runScript 80 = .ok (.getfield 231, 3) := by decide +kernel
theorem dX11_runScript_83 : decode cX11_runScript 83 = .ok (.aload_n 0, 1) := by decide +kernel
theorem dX11_runScript_84 : decode cX11_runScript 84 = .ok (.getfield 228, 3) := by decide +kernel
theorem dX11_runScript_87 : decode cX11_runScript 87 = .ok (.if_icmp .ge 7, 3) := by decide +kernel
theorem dX11_runScript_90 : decode cX11_runScript 90 = .ok (.iconst 1, 1) := by decide +kernel
theorem dX11_runScript_91 : decode cX11_runScript 91 = .ok (.goto 4, 3) := by decide +kernel
theorem dX11_runScript_94 : decode cX11_runScript 94 = .ok (.iconst 0, 1) := by decide +kernel
theorem dX11_runScript_95 : decode cX11_runScript 95 = .ok (.putfield 234, 3) := by decide +kernel
theorem dX11_runScript_98 : decode cX11_runScript 98 = .ok (.aload_n 0, 1) := by decide +kernel
theorem dX11_runScript_99 : decode cX11_runScript 99 = .ok (.iconst 0, 1) := by decide +kernel
theorem dX11_runScript_100 : decode cX11_runScript 100 = .ok (.putfield 228, 3) := by decide +kernel
theorem dX11_runScript_103 : decode cX11_runScript 103 = .ok (.aload_n 0, 1) := by decide +kernel
theorem dX11_runScript_104 : decode cX11_runScript 104 = .ok (.getfield 234, 3) := by decide +kernel
theorem dX11_runScript_107 : decode cX11_runScript 107 = .ok (.ifCond .eq 17, 3) := by decide +kernel
theorem dX11_runScript_110 : decode cX11_runScript 110 = .ok (.aload_n 0, 1) := by decide +kernel
theorem dX11_runScript_111 : decode cX11_runScript 111 = .ok (.aload_n 0, 1) := by decide +kernel
theorem dX11_runScript_112 : decode cX11_runScript 112 = .ok (.getfield 231, 3) := by decide +kernel
theorem dX11_runScript_115 : decode cX11_runScript 115 = .ok (.putfield 26, 3) := by decide +kernel
theorem dX11_runScript_118 : decode cX11_runScript 118 = .ok (.aload_n 0, 1) := by decide +kernel
theorem dX11_runScript_119 : decode cX11_runScript 119 = .ok (.iconst 1, 1) := by decide +kernel
theorem dX11_runScript_120 : decode cX11_runScript 120 = .ok (.invokevirtual 95, 3) := by decide +kernel
theorem dX11_runScript_123 : decode cX11_runScript 123 = .ok (.ireturn, 1) := by decide +kernel
theorem dX11_runScript_124 : decode cX11_runScript 124 = .ok (.aload_n 0, 1) := by decide +kernel
theorem dX11_runScript_125 : decode cX11_runScript 125 = .ok (.invokevirtual 101, 3) := by decide +kernel
theorem dX11_runScript_128 : decode cX11_runScript 128 = .ok (.iconst 0, 1) := by decide +kernel
theorem dX11_runScript_129 : decode cX11_runScript 129 = .ok (.istore_n 3, 1) := by decide +kernel
theorem dX11_runScript_130 : decode cX11_runScript 130 = .ok (.iload_n 3, 1) := by decide +kernel
theorem dX11_runScript_131 : decode cX11_runScript 131 = .ok (.iload_n 1, 1) := by decide +kernel
theorem dX11_runScript_132 : decode cX11_runScript 132 = .ok (.if_icmp .ge 42, 3) := by decide +kernel
theorem dX11_runScript_135 : decode cX11_runScript 135 = .ok (.aload_n 0, 1) := by decide +kernel
theorem dX11_runScript_136 : decode cX11_runScript 136 = .ok (.iconst 3, 1) := by decide +kernel
theorem dX11_runScript_137 : decode cX11_runScript 137 = .ok (.iload_n 3, 1) := by decide +kernel
theorem dX11_runScript_138 : decode cX11_runScript 138 = .ok (.imul, 1) := by decide +kernel
theorem dX11_runScript_139 : decode cX11_runScript 139 = .ok (.invokevirtual 266, 3) := by decide +kernel
theorem dX11_runScript_142 : decode cX11_runScript 142 = .ok (.istore 4, 2) := by decide +kernel
theorem dX11_runScript_144 : decode cX11_runScript 144 = .ok (.aload_n 0, 1) := by decide +kernel
theorem dX11_runScript_145 : decode cX11_runScript 145 = .ok (.getfield 49, 3) := by decide +kernel
theorem dX11_runScript_148 : decode cX11_runScript 148 = .ok (.ifCond .eq 20, 3) := by decide +kernel
theorem dX11_runScript_151 : decode cX11_runScript 151 = .ok (.aload_n 0, 1) := by decide +kernel
theorem dX11_runScript_152 : decode cX11_runScript 152 = .ok (.iload_n 3, 1) := by decide +kernel
theorem dX11_runScript_153 : decode cX11_runScript 153 = .ok (.putfield 30, 3) := by decide +kernel
theorem dX11_runScript_156 : decode cX11_runScript 156 = .ok (.aload_n 0, 1) := by decide +kernel
theorem dX11_runScript_157 : decode cX11_runScript 157 = .ok (.iconst 2, 1) := by decide +kernel
theorem dX11_runScript_158 : decode cX11_runScript 158 = .ok (.putfield 49, 3) := by decide +kernel
theorem dX11_runScript_161 : decode cX11_runScript 161 = .ok (.aload_n 0, 1) := by decide +kernel
theorem dX11_runScript_162 : decode cX11_runScript 162 = .ok (.iload 4, 2) := by decide +kernel
theorem dX11_runScript_164 : decode cX11_runScript 164 = .ok (.invokevirtual 107, 3) := by decide +kernel
theorem dX11_runScript_167 : decode cX11_runScript 167 = .ok (.ireturn, 1) := by decide +kernel
theorem dX11_runScript_168 : decode cX11_runScript 168 = .ok (.iinc 3 1, 3) := by decide +kernel
theorem dX11_runScript_171 : decode cX11_runScript 171 = .ok (.goto (-41), 3) := by decide +kernel
theorem dX11_runScript_174 : decode cX11_runScript 174 = .ok (.aload_n 0, 1) := by decide +kernel
theorem dX11_runScript_175 : decode cX11_runScript 175 = .ok (.aload_n 0, 1) := by decide +kernel
theorem dX11_runScript_176 : decode cX11_runScript 176 = .ok (.iload_n 1, 1) := by decide +kernel
theorem dX11_runScript_177 : decode cX11_runScript 177 = .ok (.invokevirtual 98, 3) := by decide +kernel
theorem dX11_runScript_180 : decode cX11_runScript 180 = .ok (.invokevirtual 107, 3) := by decide +kernel
theorem dX11_runScript_183 : decode cX11_runScript 183 = .ok (.ireturn, 1) := by decide +kernel
set_option maxRecDepth 20000 in
theorem ggX11_errorPosition_X11_fails : GoodIn wsX11_errorPosition wsX11_fails := goodIn_r _ [6, 7, 12, 13, 14, 15, 16, 17, 18, 19, 20, 21, 22, 23, 24, 25, 26, 27, 28, 29] (by decide +kernel) (by decide +kernel)
set_option maxRecDepth 20000 in
theorem gX11_errorPosition_X11_fails : GoodIn wsX11_errorPosition (wsV RX11 95 RX11 yX11_fails wsX11_fails) := goodIn_app (goodIn_of _ (by decide +kernel)) ggX11_errorPosition_X11_fails
set_option maxRecDepth 20000 in
theorem ggX11_errorPosition_X11_done : GoodIn wsX11_errorPosition wsX11_done := goodIn_r _ [11, 7, 12, 13, 14, 15, 16, 17, 18, 19, 20, 21, 22, 23, 24, 25, 26, 27, 28, 29] (by decide +kernel) (by decide +kernel)
set_option maxRecDepth 20000 in
theorem gX11_errorPosition_X11_done : GoodIn wsX11_errorPosition (wsV RX11 98 RX11 yX11_done wsX11_done) := goodIn_app (goodIn_of _ (by decide +kernel)) ggX11_errorPosition_X11_done
theorem dX11_errorPosition_0 : decode cX11_errorPosition 0 = .ok (.aload_n 0, 1) := by decide +kernel
theorem dX11_errorPosition_1 : decode cX11_errorPosition 1 = .ok (.getfield 26, 3) := by decide +kernel
theorem dX11_errorPosition_4 : decode cX11_errorPosition 4 = .ok (.iconst (-1), 1) := by decide +kernel
theorem dX11_errorPosition_5 : decode cX11_errorPosition 5 = .ok (.if_icmp .ne 11, 3) := by decide +kernel
theorem dX11_errorPosition_8 : decode cX11_errorPosition 8 = .ok (.aload_n 0, 1) := by decide +kernel
theorem dX11_errorPosition_9 : decode cX11_errorPosition 9 = .ok (.iconst 1, 1) := by decide +kernel
theorem dX11_errorPosition_10 : decode cX11_errorPosition 10 = .ok (.invokevirtual 95, 3) := by decide +kernel
theorem dX11_errorPosition_13 : decode cX11_errorPosition 13 = .ok (.goto 11, 3) := by decide +kernel
theorem dX11_errorPosition_16 : decode cX11_errorPosition 16 = .ok (.aload_n 0, 1) := by decide +kernel
theorem dX11_errorPosition_17 : decode cX11_errorPosition 17 = .ok (.aload_n 0, 1) := by decide +kernel
theorem dX11_errorPosition_18 : decode cX11_errorPosition 18 = .ok (.getfield 26, 3) := by decide +kernel
theorem dX11_errorPosition_21 : decode cX11_errorPosition 21 = .ok (.invokevirtual 98, 3) := by decide +kernel
theorem dX11_errorPosition_24 : decode cX11_errorPosition 24 = .ok (.ireturn, 1) := by decide +kernel
set_option maxRecDepth 20000 in
theorem ggX11_failedCommand_X11_fails : GoodIn wsX11_failedCommand wsX11_fails := goodIn_r _ [6, 7, 12, 13, 14, 15, 16, 17, 18, 19, 20, 21, 22, 23, 24, 25, 26, 27, 28, 29] (by decide +kernel) (by decide +kernel)
set_option maxRecDepth 20000 in
theorem gX11_failedCommand_X11_fails : GoodIn wsX11_failedCommand (wsV RX11 95 RX11 yX11_fails wsX11_fails) := goodIn_app (goodIn_of _ (by decide +kernel)) ggX11_failedCommand_X11_fails
set_option maxRecDepth 20000 in
theorem ggX11_failedCommand_X11_done : GoodIn wsX11_failedCommand wsX11_done := goodIn_r _ [11, 7, 12, 13, 14, 15, 16, 17, 18, 19, 20, 21, 22, 23, 24, 25, 26, 27, 28, 29] (by decide +kernel) (by decide +kernel)
set_option maxRecDepth 20000 in
theorem gX11_failedCommand_X11_done : GoodIn wsX11_failedCommand (wsV RX11 98 RX11 yX11_done wsX11_done) := goodIn_app (goodIn_of _ (by decide +kernel)) ggX11_failedCommand_X11_done
theorem dX11_failedCommand_0 : decode cX11_failedCommand 0 = .ok (.aload_n 0, 1) := by decide +kernel
theorem dX11_failedCommand_1 : decode cX11_failedCommand 1 = .ok (.getfield 30, 3) := by decide +kernel
theorem dX11_failedCommand_4 : decode cX11_failedCommand 4 = .ok (.iconst (-1), 1) := by decide +kernel
theorem dX11_failedCommand_5 : decode cX11_failedCommand 5 = .ok (.if_icmp .ne 11, 3) := by decide +kernel
theorem dX11_failedCommand_8 : decode cX11_failedCommand 8 = .ok (.aload_n 0, 1) := by decide +kernel
theorem dX11_failedCommand_9 : decode cX11_failedCommand 9 = .ok (.iconst 1, 1) := by decide +kernel
theorem dX11_failedCommand_10 : decode cX11_failedCommand 10 = .ok (.invokevirtual 95, 3) := by decide +kernel
theorem dX11_failedCommand_13 : decode cX11_failedCommand 13 = .ok (.goto 11, 3) := by decide +kernel
theorem dX11_failedCommand_16 : decode cX11_failedCommand 16 = .ok (.aload_n 0, 1) := by decide +kernel
theorem dX11_failedCommand_17 : decode cX11_failedCommand 17 = .ok (.aload_n 0, 1) := by decide +kernel
theorem dX11_failedCommand_18 : decode cX11_failedCommand 18 = .ok (.getfield 30, 3) := by decide +kernel
theorem dX11_failedCommand_21 : decode cX11_failedCommand 21 = .ok (.invokevirtual 98, 3) := by decide +kernel
theorem dX11_failedCommand_24 : decode cX11_failedCommand 24 = .ok (.ireturn, 1) := by decide +kernel
set_option maxRecDepth 20000 in
theorem ggX11_undo_X11_fails : GoodIn wsX11_undo wsX11_fails := goodIn_r _ [8, 9, 17, 18, 19, 20, 21, 22, 23, 24, 25, 26, 27, 28, 29, 30, 31, 32, 33, 34] (by decide +kernel) (by decide +kernel)
set_option maxRecDepth 20000 in
theorem gX11_undo_X11_fails : GoodIn wsX11_undo (wsV RX11 95 RX11 yX11_fails wsX11_fails) := goodIn_app (goodIn_of _ (by decide +kernel)) ggX11_undo_X11_fails
set_option maxRecDepth 20000 in
theorem ggX11_undo_X11_copy : GoodIn wsX11_undo wsX11_copy := goodIn_ca (goodIn_r _ [12] (by decide +kernel) (by decide +kernel)) (goodIn_sub (fun _ h => List.mem_cons_of_mem _ (List.mem_append_right _ h)) (by decide +kernel))
set_option maxRecDepth 20000 in
theorem gX11_undo_X11_copy : GoodIn wsX11_undo (va_wsS RX11 54 yX11_copy wsX11_copy) := goodIn_app (goodIn_of _ (by decide +kernel)) ggX11_undo_X11_copy
set_option maxRecDepth 20000 in
theorem ggX11_undo_X11_done : GoodIn wsX11_undo wsX11_done := goodIn_r _ [16, 9, 17, 18, 19, 20, 21, 22, 23, 24, 25, 26, 27, 28, 29, 30, 31, 32, 33, 34] (by decide +kernel) (by decide +kernel)
set_option maxRecDepth 20000 in
theorem gX11_undo_X11_done : GoodIn wsX11_undo (wsV RX11 98 RX11 yX11_done wsX11_done) := goodIn_app (goodIn_of _ (by decide +kernel)) ggX11_undo_X11_done
theorem dX11_undo_0 : decode cX11_undo 0 = .ok (.aload_n 0, 1) := by decide +kernel
theorem dX11_undo_1 : decode cX11_undo 1 = .ok (.getfield 58, 3) := by decide +kernel
theorem dX11_undo_4 : decode cX11_undo 4 = .ok (.ifCond .ne 9, 3) := by decide +kernel
theorem dX11_undo_7 : decode cX11_undo 7 = .ok (.aload_n 0, 1) := by decide +kernel
theorem dX11_undo_8 : decode cX11_undo 8 = .ok (.iconst 1, 1) := by decide +kernel
theorem dX11_undo_9 : decode cX11_undo 9 = .ok (.invokevirtual 95, 3) := by decide +kernel
theorem dX11_undo_12 : decode cX11_undo 12 = .ok (.ireturn, 1) := by decide +kernel
theorem dX11_undo_13 : decode cX11_undo 13 = .ok (.aload_n 0, 1) := by decide +kernel
theorem dX11_undo_14 : decode cX11_undo 14 = .ok (.dup, 1) := by decide +kernel
theorem dX11_undo_15 : decode cX11_undo 15 = .ok (.getfield 58, 3) := by decide +kernel
theorem dX11_undo_18 : decode cX11_undo 18 = .ok (.iconst 1, 1) := by decide +kernel
theorem dX11_undo_19 : decode cX11_undo 19 = .ok (.isub, 1) := by decide +kernel
theorem dX11_undo_20 : decode cX11_undo 20 = .ok (.putfield 58, 3) := by decide +kernel
theorem dX11_undo_23 : decode cX11_undo 23 = .ok (.aload_n 0, 1) := by decide +kernel
theorem dX11_undo_24 : decode cX11_undo 24 = .ok (.getfield 16, 3) := by decide +kernel
theorem dX11_undo_27 : decode cX11_undo 27 = .ok (.aload_n 0, 1) := by decide +kernel
theorem dX11_undo_28 : decode cX11_undo 28 = .ok (.getfield 58, 3) := by decide +kernel
theorem dX11_undo_31 : decode cX11_undo 31 = .ok (.sipush 192, 3) := by decide +kernel
theorem dX11_undo_34 : decode cX11_undo 34 = .ok (.imul, 1) := by decide +kernel
theorem dX11_undo_35 : decode cX11_undo 35 = .ok (.aload_n 0, 1) := by decide +kernel
theorem dX11_undo_36 : decode cX11_undo 36 = .ok (.getfield 7, 3) := by decide +kernel
theorem dX11_undo_39 : decode cX11_undo 39 = .ok (.iconst 0, 1) := by decide +kernel
theorem dX11_undo_40 : decode cX11_undo 40 = .ok (.invokestatic 54, 3) := by decide +kernel
theorem dX11_undo_43 : decode cX11_undo 43 = .ok (.aload_n 0, 1) := by decide +kernel
theorem dX11_undo_44 : decode cX11_undo 44 = .ok (.aload_n 0, 1) := by decide +kernel
theorem dX11_undo_45 : decode cX11_undo 45 = .ok (.getfield 58, 3) := by decide +kernel
theorem dX11_undo_48 : decode cX11_undo 48 = .ok (.invokevirtual 98, 3) := by decide +kernel
theorem dX11_undo_51 : decode cX11_undo 51 = .ok (.ireturn, 1) := by decide +kernel
set_option maxRecDepth 20000 in
theorem ggX11_save_X11_copy : GoodIn wsX11_save wsX11_copy := goodIn_ca (goodIn_r _ [7] (by decide +kernel) (by decide +kernel)) (goodIn_sub (fun _ h => List.mem_cons_of_mem _ (List.mem_append_right _ h)) (by decide +kernel))
set_option maxRecDepth 20000 in
theorem gX11_save_X11_copy : GoodIn wsX11_save (va_wsS RX11 54 yX11_copy wsX11_copy) := goodIn_app (goodIn_of _ (by decide +kernel)) ggX11_save_X11_copy
set_option maxRecDepth 20000 in
theorem ggX11_save_X11_at : GoodIn wsX11_save wsX11_at := goodIn_ca (goodIn_r _ [11, 1, 17, 18, 19, 20, 21, 22, 23, 24, 25, 26, 27, 28, 29, 30, 31, 32, 33, 34] (by decide +kernel) (by decide +kernel)) (goodIn_sub (fun _ h => List.mem_cons_of_mem _ (List.mem_append_right _ h)) (by decide +kernel))
set_option maxRecDepth 20000 in
theorem gX11_save_X11_at : GoodIn wsX11_save (wsV RX11 61 RX11 yX11_at wsX11_at) := goodIn_app (goodIn_of _ (by decide +kernel)) ggX11_save_X11_at
set_option maxRecDepth 20000 in
theorem ggX11_save_X11_done : GoodIn wsX11_save wsX11_done := goodIn_r _ [15, 16, 17, 18, 19, 20, 21, 22, 23, 24, 25, 26, 27, 28, 29, 30, 31, 32, 33, 34] (by decide +kernel) (by decide +kernel)
set_option maxRecDepth 20000 in
theorem gX11_save_X11_done : GoodIn wsX11_save (wsV RX11 98 RX11 yX11_done wsX11_done) := goodIn_app (goodIn_of _ (by decide +kernel)) ggX11_save_X11_done
theorem dX11_save_0 : decode cX11_save 0 = .ok (.aload_n 0, 1) := by decide +kernel
theorem dX11_save_1 : decode cX11_save 1 = .ok (.getfield 7, 3) := by decide +kernel
theorem dX11_save_4 : decode cX11_save 4 = .ok (.iconst 0, 1) := by decide +kernel
theorem dX11_save_5 : decode cX11_save 5 = .ok (.aload_n 0, 1) := by decide +kernel
theorem dX11_save_6 : decode cX11_save 6 = .ok (.getfield 19, 3) := by decide +kernel
theorem dX11_save_9 : decode cX11_save 9 = .ok (.iconst 0, 1) := by decide +kernel
theorem dX11_save_10 : decode cX11_save 10 = .ok (.invokestatic 54, 3) := by decide +kernel
theorem dX11_save_13 : decode cX11_save 13 = .ok (.aload_n 0, 1) := by decide +kernel
theorem dX11_save_14 : decode cX11_save 14 = .ok (.iconst 1, 1) := by decide +kernel
theorem dX11_save_15 : decode cX11_save 15 = .ok (.putfield 269, 3) := by decide +kernel
theorem dX11_save_18 : decode cX11_save 18 = .ok (.aload_n 0, 1) := by decide +kernel
theorem dX11_save_19 : decode cX11_save 19 = .ok (.aload_n 0, 1) := by decide +kernel
theorem dX11_save_20 : decode cX11_save 20 = .ok (.iconst 0, 1) := by decide +kernel
theorem dX11_save_21 : decode cX11_save 21 = .ok (.invokevirtual 61, 3) := by decide +kernel
theorem dX11_save_24 : decode cX11_save 24 = .ok (.invokevirtual 98, 3) := by decide +kernel
theorem dX11_save_27 : decode cX11_save 27 = .ok (.ireturn, 1) := by decide +kernel
set_option maxRecDepth 20000 in
theorem ggX11_restore_X11_fails : GoodIn wsX11_restore wsX11_fails := goodIn_r _ [9, 10, 22, 23, 24, 25, 26, 27, 28, 29, 30, 31, 32, 33, 34, 35, 36, 37, 38, 39] (by decide +kernel) (by decide +kernel)
set_option maxRecDepth 20000 in
theorem gX11_restore_X11_fails : GoodIn wsX11_restore (wsV RX11 95 RX11 yX11_fails wsX11_fails) := goodIn_app (goodIn_of _ (by decide +kernel)) ggX11_restore_X11_fails
set_option maxRecDepth 20000 in
theorem ggX11_restore_X11_copy : GoodIn wsX11_restore wsX11_copy := goodIn_ca (goodIn_r _ [13] (by decide +kernel) (by decide +kernel)) (goodIn_sub (fun _ h => List.mem_cons_of_mem _ (List.mem_append_right _ h)) (by decide +kernel))
set_option maxRecDepth 20000 in
theorem gX11_restore_X11_copy : GoodIn wsX11_restore (va_wsS RX11 54 yX11_copy wsX11_copy) := goodIn_app (goodIn_of _ (by decide +kernel)) ggX11_restore_X11_copy
set_option maxRecDepth 20000 in
theorem ggX11_restore_X11_at : GoodIn wsX11_restore wsX11_at := goodIn_ca (goodIn_r _ [17, 3, 22, 23, 24, 25, 26, 27, 28, 29, 30, 31, 32, 33, 34, 35, 36, 37, 38, 39] (by decide +kernel) (by decide +kernel)) (goodIn_sub (fun _ h => List.mem_cons_of_mem _ (List.mem_append_right _ h)) (by decide +kernel))
set_option maxRecDepth 20000 in
theorem gX11_restore_X11_at : GoodIn wsX11_restore (wsV RX11 61 RX11 yX11_at wsX11_at) := goodIn_app (goodIn_of _ (by decide +kernel)) ggX11_restore_X11_at
set_option maxRecDepth 20000 in
theorem ggX11_restore_X11_done : GoodIn wsX11_restore wsX11_done := goodIn_r _ [21, 10, 22, 23, 24, 25, 26, 27, 28, 29, 30, 31, 32, 33, 34, 35, 36, 37, 38, 39] (by decide +kernel) (by decide +kernel)
set_option maxRecDepth 20000 in
theorem gX11_restore_X11_done : GoodIn wsX11_restore (wsV RX11 98 RX11 yX11_done wsX11_done) := goodIn_app (goodIn_of _ (by decide +kernel)) ggX11_restore_X11_done
theorem dX11_restore_0 : decode cX11_restore 0 = .ok (.aload_n 0, 1) := by decide +kernel
theorem dX11_restore_1 : decode cX11_restore 1 = .ok (.getfield 269, 3) := by decide +kernel
theorem dX11_restore_4 : decode cX11_restore 4 = .ok (.ifCond .ne 9, 3) := by decide +kernel
theorem dX11_restore_7 : decode cX11_restore 7 = .ok (.aload_n 0, 1) := by decide +kernel
theorem dX11_restore_8 : decode cX11_restore 8 = .ok (.iconst 1, 1) := by decide +kernel
theorem dX11_restore_9 : decode cX11_restore 9 = .ok (.invokevirtual 95, 3) := by decide +kernel
theorem dX11_restore_12 : decode cX11_restore 12 = .ok (.ireturn, 1) := by decide +kernel
theorem dX11_restore_13 : decode cX11_restore 13 = .ok (.aload_n 0, 1) := by decide +kernel
theorem dX11_restore_14 : decode cX11_restore 14 = .ok (.getfield 19, 3) := by decide +kernel
theorem dX11_restore_17 : decode cX11_restore 17 = .ok (.iconst 0, 1) := by decide +kernel
theorem dX11_restore_18 : decode cX11_restore 18 = .ok (.aload_n 0, 1) := by decide +kernel
theorem dX11_restore_19 : decode cX11_restore 19 = .ok (.getfield 7, 3) := by decide +kernel
theorem dX11_restore_22 : decode cX11_restore 22 = .ok (.iconst 0, 1) := by decide +kernel
theorem dX11_restore_23 : decode cX11_restore 23 = .ok (.invokestatic 54, 3) := by decide +kernel
theorem dX11_restore_26 : decode cX11_restore 26 = .ok (.aload_n 0, 1) := by decide +kernel
theorem dX11_restore_27 : decode cX11_restore 27 = .ok (.iconst 0, 1) := by decide +kernel
theorem dX11_restore_28 : decode cX11_restore 28 = .ok (.putfield 58, 3) := by decide +kernel
theorem dX11_restore_31 : decode cX11_restore 31 = .ok (.aload_n 0, 1) := by decide +kernel
theorem dX11_restore_32 : decode cX11_restore 32 = .ok (.aload_n 0, 1) := by decide +kernel
theorem dX11_restore_33 : decode cX11_restore 33 = .ok (.iconst 0, 1) := by decide +kernel
theorem dX11_restore_34 : decode cX11_restore 34 = .ok (.invokevirtual 61, 3) := by decide +kernel
theorem dX11_restore_37 : decode cX11_restore 37 = .ok (.invokevirtual 98, 3) := by decide +kernel
theorem dX11_restore_40 : decode cX11_restore 40 = .ok (.ireturn, 1) := by decide +kernel
set_option maxRecDepth 20000 in
theorem ggJ5_init_d00df_J2_newBytesFor_77867 : GoodIn wsJ5_init_d00df wsJ2_newBytesFor_77867 := goodIn_r _ [11, 5, 12, 13, 10, 14, 15] (by decide +kernel) (by decide +kernel)
set_option maxRecDepth 20000 in
theorem gJ5_init_d00df_J2_newBytesFor_77867 : GoodIn wsJ5_init_d00df (va_wsS RJ5 26 yJ2_newBytesFor_77867 wsJ2_newBytesFor_77867) := goodIn_app (goodIn_of _ (by decide +kernel)) ggJ5_init_d00df_J2_newBytesFor_77867
