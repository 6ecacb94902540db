theorem dX11_init_0 : decode cX11_init 0 = .ok (.aload_n 0, 1) := by decide +kernel
theorem dX11_init_1 : decode cX11_init 1 = .ok (.invokespecial 1, 3) := by decide +kernel
theorem dX11_init_4 : decode cX11_init 4 = .ok (.aload_n 0, 1) := by decide +kernel
theorem dX11_init_5 : decode cX11_init 5 = .ok (.sipush 192, 3) := by decide +kernel
theorem dX11_init_8 : decode cX11_init 8 = .ok (.newarray .long, 2) := by decide +kernel
theorem dX11_init_10 : decode cX11_init 10 = .ok (.putfield 7, 3) := by decide +kernel
theorem dX11_init_13 : decode cX11_init 13 = .ok (.aload_n 0, 1) := by decide +kernel
theorem dX11_init_14 : decode cX11_init 14 = .ok (.sipush 192, 3) := by decide +kernel
theorem dX11_init_17 : decode cX11_init 17 = .ok (.newarray .long, 2) := by decide +kernel
theorem dX11_init_19 : decode cX11_init 19 = .ok (.putfield 13, 3) := by decide +kernel
theorem dX11_init_22 : decode cX11_init 22 = .ok (.aload_n 0, 1) := by decide +kernel
theorem dX11_init_23 : decode cX11_init 23 = .ok (.sipush 1536, 3) := by decide +kernel
theorem dX11_init_26 : decode cX11_init 26 = .ok (.newarray .long, 2) := by decide +kernel
theorem dX11_init_28 : decode cX11_init 28 = .ok (.putfield 16, 3) := by decide +kernel
theorem dX11_init_31 : decode cX11_init 31 = .ok (.aload_n 0, 1) := by decide +kernel
theorem dX11_init_32 : decode cX11_init 32 = .ok (.sipush 192, 3) := by decide +kernel
theorem dX11_init_35 : decode cX11_init 35 = .ok (.newarray .long, 2) := by decide +kernel
theorem dX11_init_37 : decode cX11_init 37 = .ok (.putfield 19, 3) := by decide +kernel
theorem dX11_init_40 : decode cX11_init 40 = .ok (.aload_n 0, 1) := by decide +kernel
theorem dX11_init_41 : decode cX11_init 41 = .ok (.bipush 60, 2) := by decide +kernel
theorem dX11_init_43 : decode cX11_init 43 = .ok (.newarray .char, 2) := by decide +kernel
theorem dX11_init_45 : decode cX11_init 45 = .ok (.putfield 22, 3) := by decide +kernel
theorem dX11_init_48 : decode cX11_init 48 = .ok (.aload_n 0, 1) := by decide +kernel
theorem dX11_init_49 : decode cX11_init 49 = .ok (.iconst (-1), 1) := by decide +kernel
theorem dX11_init_50 : decode cX11_init 50 = .ok (.putfield 26, 3) := by decide +kernel
theorem dX11_init_53 : decode cX11_init 53 = .ok (.aload_n 0, 1) := by decide +kernel
theorem dX11_init_54 : decode cX11_init 54 = .ok (.iconst (-1), 1) := by decide +kernel
theorem dX11_init_55 : decode cX11_init 55 = .ok (.putfield 30, 3) := by decide +kernel
theorem dX11_init_58 : decode cX11_init 58 = .ok (.aload_n 0, 1) := by decide +kernel
theorem dX11_init_59 : decode cX11_init 59 = .ok (.bipush 100, 2) := by decide +kernel
theorem dX11_init_61 : decode cX11_init 61 = .ok (.newarray .char, 2) := by decide +kernel
theorem dX11_init_63 : decode cX11_init 63 = .ok (.putfield 33, 3) := by decide +kernel
theorem dX11_init_66 : decode cX11_init 66 = .ok (.aload_n 0, 1) := by decide +kernel
theorem dX11_init_67 : decode cX11_init 67 = .ok (.bipush 10, 2) := by decide +kernel
theorem dX11_init_69 : decode cX11_init 69 = .ok (.newarray .long, 2) := by decide +kernel
theorem dX11_init_71 : decode cX11_init 71 = .ok (.putfield 36, 3) := by decide +kernel
theorem dX11_init_74 : decode cX11_init 74 = .ok (.aload_n 0, 1) := by decide +kernel
theorem dX11_init_75 : decode cX11_init 75 = .ok (.bipush 10, 2) := by decide +kernel
theorem dX11_init_77 : decode cX11_init 77 = .ok (.newarray .boolean, 2) := by decide +kernel
theorem dX11_init_79 : decode cX11_init 79 = .ok (.putfield 39, 3) := by decide +kernel
theorem dX11_init_82 : decode cX11_init 82 = .ok (.aload_n 0, 1) := by decide +kernel
theorem dX11_init_83 : decode cX11_init 83 = .ok (.sipush 180, 3) := by decide +kernel
theorem dX11_init_86 : decode cX11_init 86 = .ok (.newarray .int, 2) := by decide +kernel
theorem dX11_init_88 : decode cX11_init 88 = .ok (.putfield 43, 3) := by decide +kernel
theorem dX11_init_91 : decode cX11_init 91 = .ok (.aload_n 0, 1) := by decide +kernel
theorem dX11_init_92 : decode cX11_init 92 = .ok (.getfield 7, 3) := by decide +kernel
theorem dX11_init_95 : decode cX11_init 95 = .ok (.iconst 2, 1) := by decide +kernel
theorem dX11_init_96 : decode cX11_init 96 = .ok (.ldc2_w 47, 3) := by decide +kernel
theorem dX11_init_99 : decode cX11_init 99 = .ok (.lastore, 1) := by decide +kernel
theorem dX11_init_100 : decode cX11_init 100 = .ok (.return_, 1) := by decide +kernel
theorem dX11_thrown_0 : decode cX11_thrown 0 = .ok (.aload_n 0, 1) := by decide +kernel
theorem dX11_thrown_1 : decode cX11_thrown 1 = .ok (.getfield 49, 3) := by decide +kernel
theorem dX11_thrown_4 : decode cX11_thrown 4 = .ok (.ireturn, 1) := by decide +kernel
theorem dX11_in_0 : decode cX11_in 0 = .ok (.iload_n 0, 1) := by decide +kernel
theorem dX11_in_1 : decode cX11_in 1 = .ok (.iload_n 1, 1) := by decide +kernel
theorem dX11_in_2 : decode cX11_in 2 = .ok (.if_icmp .lt 12, 3) := by decide +kernel
theorem dX11_in_5 : decode cX11_in 5 = .ok (.iload_n 0, 1) := by decide +kernel
theorem dX11_in_6 : decode cX11_in 6 = .ok (.iload_n 2, 1) := by decide +kernel
theorem dX11_in_7 : decode cX11_in 7 = .ok (.if_icmp .gt 7, 3) := by decide +kernel
theorem dX11_in_10 : decode cX11_in 10 = .ok (.iconst 1, 1) := by decide +kernel
theorem dX11_in_11 : decode cX11_in 11 = .ok (.goto 4, 3) := by decide +kernel
theorem dX11_in_14 : decode cX11_in 14 = .ok (.iconst 0, 1) := by decide +kernel
theorem dX11_in_15 : decode cX11_in 15 = .ok (.ireturn, 1) := by decide +kernel
theorem dX11_size_0 : decode cX11_size 0 = .ok (.lload_n 0, 1) := by decide +kernel
theorem dX11_size_1 : decode cX11_size 1 = .ok (.lconst 0, 1) := by decide +kernel
theorem dX11_size_2 : decode cX11_size 2 = .ok (.lcmp, 1) := by decide +kernel
theorem dX11_size_3 : decode cX11_size 3 = .ok (.ifCond .ge 8, 3) := by decide +kernel
theorem dX11_size_6 : decode cX11_size 6 = .ok (.lload_n 0, 1) := by decide +kernel
theorem dX11_size_7 : decode cX11_size 7 = .ok (.lneg, 1) := by decide +kernel
theorem dX11_size_8 : decode cX11_size 8 = .ok (.goto 4, 3) := by decide +kernel
theorem dX11_size_11 : decode cX11_size 11 = .ok (.lload_n 0, 1) := by decide +kernel
theorem dX11_size_12 : decode cX11_size 12 = .ok (.lreturn, 1) := by decide +kernel
theorem dX11_rest_0 : decode cX11_rest 0 = .ok (.lload_n 0, 1) := by decide +kernel
theorem dX11_rest_1 : decode cX11_rest 1 = .ok (.ldc2_w 52, 3) := by decide +kernel
theorem dX11_rest_4 : decode cX11_rest 4 = .ok (.lrem, 1) := by decide +kernel
theorem dX11_rest_5 : decode cX11_rest 5 = .ok (.ldc2_w 52, 3) := by decide +kernel
theorem dX11_rest_8 : decode cX11_rest 8 = .ok (.ladd, 1) := by decide +kernel
theorem dX11_rest_9 : decode cX11_rest 9 = .ok (.ldc2_w 52, 3) := by decide +kernel
theorem dX11_rest_12 : decode cX11_rest 12 = .ok (.lrem, 1) := by decide +kernel
theorem dX11_rest_13 : decode cX11_rest 13 = .ok (.lreturn, 1) := by decide +kernel
theorem dX11_done_0 : decode cX11_done 0 = .ok (.aload_n 0, 1) := by decide +kernel
theorem dX11_done_1 : decode cX11_done 1 = .ok (.iconst 0, 1) := by decide +kernel
theorem dX11_done_2 : decode cX11_done 2 = .ok (.putfield 49, 3) := by decide +kernel
theorem dX11_done_5 : decode cX11_done 5 = .ok (.iload_n 1, 1) := by decide +kernel
theorem dX11_done_6 : decode cX11_done 6 = .ok (.ireturn, 1) := by decide +kernel
theorem dX11_fails_0 : decode cX11_fails 0 = .ok (.aload_n 0, 1) := by decide +kernel
theorem dX11_fails_1 : decode cX11_fails 1 = .ok (.iload_n 1, 1) := by decide +kernel
theorem dX11_fails_2 : decode cX11_fails 2 = .ok (.putfield 49, 3) := by decide +kernel
theorem dX11_fails_5 : decode cX11_fails 5 = .ok (.iconst 0, 1) := by decide +kernel
theorem dX11_fails_6 : decode cX11_fails 6 = .ok (.ireturn, 1) := by decide +kernel
theorem dX11_copy_0 : decode cX11_copy 0 = .ok (.iconst 0, 1) := by decide +kernel
theorem dX11_copy_1 : decode cX11_copy 1 = .ok (.istore 4, 2) := by decide +kernel
theorem dX11_copy_3 : decode cX11_copy 3 = .ok (.iload 4, 2) := by decide +kernel
theorem dX11_copy_5 : decode cX11_copy 5 = .ok (.sipush 192, 3) := by decide +kernel
theorem dX11_copy_8 : decode cX11_copy 8 = .ok (.if_icmp .ge 21, 3) := by decide +kernel
theorem dX11_copy_11 : decode cX11_copy 11 = .ok (.aload_n 2, 1) := by decide +kernel
theorem dX11_copy_12 : decode cX11_copy 12 = .ok (.iload_n 3, 1) := by decide +kernel
theorem dX11_copy_13 : decode cX11_copy 13 = .ok (.iload 4, 2) := by decide +kernel
theorem dX11_copy_15 : decode cX11_copy 15 = .ok (.iadd, 1) := by decide +kernel
theorem dX11_copy_16 : decode cX11_copy 16 = .ok (.aload_n 0, 1) := by decide +kernel
theorem dX11_copy_17 : decode cX11_copy 17 = .ok (.iload_n 1, 1) := by decide +kernel
theorem dX11_copy_18 : decode cX11_copy 18 = .ok (.iload 4, 2) := by decide +kernel
theorem dX11_copy_20 : decode cX11_copy 20 = .ok (.iadd, 1) := by decide +kernel
theorem dX11_copy_21 : decode cX11_copy 21 = .ok (.laload, 1) := by decide +kernel
theorem dX11_copy_22 : decode cX11_copy 22 = .ok (.lastore, 1) := by decide +kernel
theorem dX11_copy_23 : decode cX11_copy 23 = .ok (.iinc 4 1, 3) := by decide +kernel
theorem dX11_copy_26 : decode cX11_copy 26 = .ok (.goto (-23), 3) := by decide +kernel
theorem dX11_copy_29 : decode cX11_copy 29 = .ok (.return_, 1) := by decide +kernel
set_option maxRecDepth 20000 in
theorem ggX11_begin_X11_copy : GoodIn wsX11_begin wsX11_copy := goodIn_ca (goodIn_r _ [6] (by decide +kernel) (by decide +kernel)) (goodIn_sub (fun _ h => List.mem_cons_of_mem _ (List.mem_append_right _ h)) (by decide +kernel))
set_option maxRecDepth 20000 in
theorem gX11_begin_X11_copy : GoodIn wsX11_begin (va_wsS RX11 54 yX11_copy wsX11_copy) := goodIn_app (goodIn_of _ (by decide +kernel)) ggX11_begin_X11_copy
theorem dX11_begin_0 : decode cX11_begin 0 = .ok (.aload_n 0, 1) := by decide +kernel
theorem dX11_begin_1 : decode cX11_begin 1 = .ok (.getfield 7, 3) := by decide +kernel
theorem dX11_begin_4 : decode cX11_begin 4 = .ok (.iconst 0, 1) := by decide +kernel
theorem dX11_begin_5 : decode cX11_begin 5 = .ok (.aload_n 0, 1) := by decide +kernel
theorem dX11_begin_6 : decode cX11_begin 6 = .ok (.getfield 13, 3) := by decide +kernel
theorem dX11_begin_9 : decode cX11_begin 9 = .ok (.iconst 0, 1) := by decide +kernel
theorem dX11_begin_10 : decode cX11_begin 10 = .ok (.invokestatic 54, 3) := by decide +kernel
theorem dX11_begin_13 : decode cX11_begin 13 = .ok (.return_, 1) := by decide +kernel
set_option maxRecDepth 20000 in
theorem ggX11_kept_X11_copy : GoodIn wsX11_kept wsX11_copy := goodIn_ca (goodIn_r _ [9] (by decide +kernel) (by decide +kernel)) (goodIn_sub (fun _ h => List.mem_cons_of_mem _ (List.mem_append_right _ h)) (by decide +kernel))
set_option maxRecDepth 20000 in
theorem gX11_kept_X11_copy : GoodIn wsX11_kept (va_wsS RX11 54 yX11_copy wsX11_copy) := goodIn_app (goodIn_of _ (by decide +kernel)) ggX11_kept_X11_copy
theorem dX11_kept_0 : decode cX11_kept 0 = .ok (.aload_n 0, 1) := by decide +kernel
theorem dX11_kept_1 : decode cX11_kept 1 = .ok (.getfield 49, 3) := by decide +kernel
theorem dX11_kept_4 : decode cX11_kept 4 = .ok (.ifCond .eq 18, 3) := by decide +kernel
theorem dX11_kept_7 : decode cX11_kept 7 = .ok (.aload_n 0, 1) := by decide +kernel
theorem dX11_kept_8 : decode cX11_kept 8 = .ok (.getfield 13, 3) := by decide +kernel
theorem dX11_kept_11 : decode cX11_kept 11 = .ok (.iconst 0, 1) := by decide +kernel
theorem dX11_kept_12 : decode cX11_kept 12 = .ok (.aload_n 0, 1) := by decide +kernel
theorem dX11_kept_13 : decode cX11_kept 13 = .ok (.getfield 7, 3) := by decide +kernel
theorem dX11_kept_16 : decode cX11_kept 16 = .ok (.iconst 0, 1) := by decide +kernel
theorem dX11_kept_17 : decode cX11_kept 17 = .ok (.invokestatic 54, 3) := by decide +kernel
theorem dX11_kept_20 : decode cX11_kept 20 = .ok (.iconst 0, 1) := by decide +kernel
theorem dX11_kept_21 : decode cX11_kept 21 = .ok (.ireturn, 1) := by decide +kernel
theorem dX11_kept_22 : decode cX11_kept 22 = .ok (.aload_n 0, 1) := by decide +kernel
theorem dX11_kept_23 : decode cX11_kept 23 = .ok (.getfield 58, 3) := by decide +kernel
theorem dX11_kept_26 : decode cX11_kept 26 = .ok (.bipush 8, 2) := by decide +kernel
theorem dX11_kept_28 : decode cX11_kept 28 = .ok (.if_icmp .ne 44, 3) := by decide +kernel
theorem dX11_kept_31 : decode cX11_kept 31 = .ok (.iconst 0, 1) := by decide +kernel
theorem dX11_kept_32 : decode cX11_kept 32 = .ok (.istore_n 2, 1) := by decide +kernel
theorem dX11_kept_33 : decode cX11_kept 33 = .ok (.iload_n 2, 1) := by decide +kernel
theorem dX11_kept_34 : decode cX11_kept 34 = .ok (.sipush 1344, 3) := by decide +kernel
theorem dX11_kept_37 : decode cX11_kept 37 = .ok (.if_icmp .ge 25, 3) := by decide +kernel
theorem dX11_kept_40 : decode cX11_kept 40 = .ok (.aload_n 0, 1) := by decide +kernel
theorem dX11_kept_41 : decode cX11_kept 41 = .ok (.getfield 16, 3) := by decide +kernel
theorem dX11_kept_44 : decode cX11_kept 44 = .ok (.iload_n 2, 1) := by decide +kernel
theorem dX11_kept_45 : decode cX11_kept 45 = .ok (.aload_n 0, 1) := by decide +kernel
theorem dX11_kept_46 : decode cX11_kept 46 = .ok (.getfield 16, 3) := by decide +kernel
theorem dX11_kept_49 : decode cX11_kept 49 = .ok (.iload_n 2, 1) := by decide +kernel
theorem dX11_kept_50 : decode cX11_kept 50 = .ok (.sipush 192, 3) := by decide +kernel
theorem dX11_kept_53 : decode cX11_kept 53 = .ok (.iadd, 1) := by decide +kernel
theorem dX11_kept_54 : decode cX11_kept 54 = .ok (.laload, 1) := by decide +kernel
theorem dX11_kept_55 : decode cX11_kept 55 = .ok (.lastore, 1) := by decide +kernel
theorem dX11_kept_56 : decode cX11_kept 56 = .ok (.iinc 2 1, 3) := by decide +kernel
theorem dX11_kept_59 : decode cX11_kept 59 = .ok (.goto (-26), 3) := by decide +kernel
theorem dX11_kept_62 : decode cX11_kept 62 = .ok (.aload_n 0, 1) := by decide +kernel
theorem dX11_kept_63 : decode cX11_kept 63 = .ok (.dup, 1) := by decide +kernel
theorem dX11_kept_64 : decode cX11_kept 64 = .ok (.getfield 58, 3) := by decide +kernel
theorem dX11_kept_67 : decode cX11_kept 67 = .ok (.iconst 1, 1) := by decide +kernel
theorem dX11_kept_68 : decode cX11_kept 68 = .ok (.isub, 1) := by decide +kernel
theorem dX11_kept_69 : decode cX11_kept 69 = .ok (.putfield 58, 3) := by decide +kernel
theorem dX11_kept_72 : decode cX11_kept 72 = .ok (.aload_n 0, 1) := by decide +kernel
theorem dX11_kept_73 : decode cX11_kept 73 = .ok (.getfield 13, 3) := by decide +kernel
theorem dX11_kept_76 : decode cX11_kept 76 = .ok (.iconst 0, 1) := by decide +kernel
theorem dX11_kept_77 : decode cX11_kept 77 = .ok (.aload_n 0, 1) := by decide +kernel
theorem dX11_kept_78 : decode cX11_kept 78 = .ok (.getfield 16, 3) := by decide +kernel
theorem dX11_kept_81 : decode cX11_kept 81 = .ok (.aload_n 0, 1) := by decide +kernel
theorem dX11_kept_82 : decode cX11_kept 82 = .ok (.getfield 58, 3) := by decide +kernel
theorem dX11_kept_85 : decode cX11_kept 85 = .ok (.sipush 192, 3) := by decide +kernel
theorem dX11_kept_88 : decode cX11_kept 88 = .ok (.imul, 1) := by decide +kernel
theorem dX11_kept_89 : decode cX11_kept 89 = .ok (.invokestatic 54, 3) := by decide +kernel
theorem dX11_kept_92 : decode cX11_kept 92 = .ok (.aload_n 0, 1) := by decide +kernel
theorem dX11_kept_93 : decode cX11_kept 93 = .ok (.dup, 1) := by decide +kernel
theorem dX11_kept_94 : decode cX11_kept 94 = .ok (.getfield 58, 3) := by decide +kernel
theorem dX11_kept_97 : decode cX11_kept 97 = .ok (.iconst 1, 1) := by decide +kernel
theorem dX11_kept_98 : decode cX11_kept 98 = .ok (.iadd, 1) := by decide +kernel
theorem dX11_kept_99 : decode cX11_kept 99 = .ok (.putfield 58, 3) := by decide +kernel
theorem dX11_kept_102 : decode cX11_kept 102 = .ok (.iload_n 1, 1) := by decide +kernel
theorem dX11_kept_103 : decode cX11_kept 103 = .ok (.ireturn, 1) := by decide +kernel
theorem dX11_at_0 : decode cX11_at 0 = .ok (.aload_n 0, 1) := by decide +kernel
theorem dX11_at_1 : decode cX11_at 1 = .ok (.getfield 7, 3) := by decide +kernel
theorem dX11_at_4 : decode cX11_at 4 = .ok (.iload_n 1, 1) := by decide +kernel
theorem dX11_at_5 : decode cX11_at 5 = .ok (.laload, 1) := by decide +kernel
theorem dX11_at_6 : decode cX11_at 6 = .ok (.l2i, 1) := by decide +kernel
theorem dX11_at_7 : decode cX11_at 7 = .ok (.ireturn, 1) := by decide +kernel
set_option maxRecDepth 20000 in
theorem ggX11_isGear_X11_at : GoodIn wsX11_isGear wsX11_at := goodIn_ca (goodIn_r _ [5, 6, 10, 11, 12, 13, 14, 15, 16, 17, 18, 19, 20, 21, 22, 23, 24, 25, 26, 27] (by decide +kernel) (by decide +kernel)) (goodIn_sub (fun _ h => List.mem_cons_of_mem _ (List.mem_append_right _ h)) (by decide +kernel))
set_option maxRecDepth 20000 in
theorem gX11_isGear_X11_at : GoodIn wsX11_isGear (wsV RX11 61 RX11 yX11_at wsX11_at) := goodIn_app (goodIn_of _ (by decide +kernel)) ggX11_isGear_X11_at
set_option maxRecDepth 20000 in
theorem ggX11_isGear_X11_in : GoodIn wsX11_isGear wsX11_in := goodIn_r _ [9] (by decide +kernel) (by decide +kernel)
set_option maxRecDepth 20000 in
theorem gX11_isGear_X11_in : GoodIn wsX11_isGear (va_wsS RX11 65 yX11_in wsX11_in) := goodIn_app (goodIn_of _ (by decide +kernel)) ggX11_isGear_X11_in
theorem dX11_isGear_0 : decode cX11_isGear 0 = .ok (.iload_n 1, 1) := by decide +kernel
theorem dX11_isGear_1 : decode cX11_isGear 1 = .ok (.iconst 0, 1) := by decide +kernel
theorem dX11_isGear_2 : decode cX11_isGear 2 = .ok (.aload_n 0, 1) := by decide +kernel
theorem dX11_isGear_3 : decode cX11_isGear 3 = .ok (.iconst 0, 1) := by decide +kernel
theorem dX11_isGear_4 : decode cX11_isGear 4 = .ok (.invokevirtual 61, 3) := by decide +kernel
theorem dX11_isGear_7 : decode cX11_isGear 7 = .ok (.iconst 1, 1) := by decide +kernel
theorem dX11_isGear_8 : decode cX11_isGear 8 = .ok (.isub, 1) := by decide +kernel
theorem dX11_isGear_9 : decode cX11_isGear 9 = .ok (.invokestatic 65, 3) := by decide +kernel
theorem dX11_isGear_12 : decode cX11_isGear 12 = .ok (.ireturn, 1) := by decide +kernel
set_option maxRecDepth 20000 in
theorem ggX11_areGears_X11_isGear : GoodIn wsX11_areGears wsX11_isGear := goodIn_ca (goodIn_r _ [5, 6, 7, 8, 4, 9, 10, 11, 12, 13, 14, 15, 16, 17, 18, 19, 20, 21, 22, 23, 24, 25, 26, 27, 28, 29, 30, 31] (by decide +kernel) (by decide +kernel)) (goodIn_sub (fun _ h => List.mem_cons_of_mem _ (List.mem_append_right _ h)) (by decide +kernel))
set_option maxRecDepth 20000 in
theorem gX11_areGears_X11_isGear : GoodIn wsX11_areGears (wsV RX11 69 RX11 yX11_isGear wsX11_isGear) := goodIn_app (goodIn_of _ (by decide +kernel)) ggX11_areGears_X11_isGear
theorem dX11_areGears_0 : decode cX11_areGears 0 = .ok (.aload_n 0, 1) := by decide +kernel
theorem dX11_areGears_1 : decode cX11_areGears 1 = .ok (.iload_n 1, 1) := by decide +kernel
theorem dX11_areGears_2 : decode cX11_areGears 2 = .ok (.invokevirtual 69, 3) := by decide +kernel
theorem dX11_areGears_5 : decode cX11_areGears 5 = .ok (.ifCond .eq 15, 3) := by decide +kernel
theorem dX11_areGears_8 : decode cX11_areGears 8 = .ok (.aload_n 0, 1) := by decide +kernel
theorem dX11_areGears_9 : decode cX11_areGears 9 = .ok (.iload_n 2, 1) := by decide +kernel
theorem dX11_areGears_10 : decode cX11_areGears 10 = .ok (.invokevirtual 69, 3) := by decide +kernel
theorem dX11_areGears_13 : decode cX11_areGears 13 = .ok (.ifCond .eq 7, 3) := by decide +kernel
theorem dX11_areGears_16 : decode cX11_areGears 16 = .ok (.iconst 1, 1) := by decide +kernel
theorem dX11_areGears_17 : decode cX11_areGears 17 = .ok (.goto 4, 3) := by decide +kernel
theorem dX11_areGears_20 : decode cX11_areGears 20 = .ok (.iconst 0, 1) := by decide +kernel
theorem dX11_areGears_21 : decode cX11_areGears 21 = .ok (.ireturn, 1) := by decide +kernel
set_option maxRecDepth 20000 in
theorem ggX11_isPlanet_X11_at : GoodIn wsX11_isPlanet wsX11_at := goodIn_ca (goodIn_r _ [5, 6, 10, 11, 12, 13, 14, 15, 16, 17, 18, 19, 20, 21, 22, 23, 24, 25, 26, 27] (by decide +kernel) (by decide +kernel)) (goodIn_sub (fun _ h => List.mem_cons_of_mem _ (List.mem_append_right _ h)) (by decide +kernel))
set_option maxRecDepth 20000 in
theorem gX11_isPlanet_X11_at : GoodIn wsX11_isPlanet (wsV RX11 61 RX11 yX11_at wsX11_at) := goodIn_app (goodIn_of _ (by decide +kernel)) ggX11_isPlanet_X11_at
set_option maxRecDepth 20000 in
theorem ggX11_isPlanet_X11_in : GoodIn wsX11_isPlanet wsX11_in := goodIn_r _ [9] (by decide +kernel) (by decide +kernel)
set_option maxRecDepth 20000 in
theorem gX11_isPlanet_X11_in : GoodIn wsX11_isPlanet (va_wsS RX11 65 yX11_in wsX11_in) := goodIn_app (goodIn_of _ (by decide +kernel)) ggX11_isPlanet_X11_in
theorem dX11_isPlanet_0 : decode cX11_isPlanet 0 = .ok (.iload_n 1, 1) := by decide +kernel
theorem dX11_isPlanet_1 : decode cX11_isPlanet 1 = .ok (.iconst 0, 1) := by decide +kernel
theorem dX11_isPlanet_2 : decode cX11_isPlanet 2 = .ok (.aload_n 0, 1) := by decide +kernel
theorem dX11_isPlanet_3 : decode cX11_isPlanet 3 = .ok (.iconst 1, 1) := by decide +kernel
theorem dX11_isPlanet_4 : decode cX11_isPlanet 4 = .ok (.invokevirtual 61, 3) := by decide +kernel
theorem dX11_isPlanet_7 : decode cX11_isPlanet 7 = .ok (.iconst 1, 1) := by decide +kernel
theorem dX11_isPlanet_8 : decode cX11_isPlanet 8 = .ok (.isub, 1) := by decide +kernel
theorem dX11_isPlanet_9 : decode cX11_isPlanet 9 = .ok (.invokestatic 65, 3) := by decide +kernel
theorem dX11_isPlanet_12 : decode cX11_isPlanet 12 = .ok (.ireturn, 1) := by decide +kernel
set_option maxRecDepth 20000 in
theorem ggX11_hasSpring_X11_at : GoodIn wsX11_hasSpring wsX11_at := goodIn_ca (goodIn_r _ [5, 6, 7, 8, 9, 10, 11, 12, 13, 14, 15, 16, 17, 18, 19, 20, 21, 22, 23, 24] (by decide +kernel) (by decide +kernel)) (goodIn_sub (fun _ h => List.mem_cons_of_mem _ (List.mem_append_right _ h)) (by decide +kernel))
set_option maxRecDepth 20000 in
theorem gX11_hasSpring_X11_at : GoodIn wsX11_hasSpring (wsV RX11 61 RX11 yX11_at wsX11_at) := goodIn_app (goodIn_of _ (by decide +kernel)) ggX11_hasSpring_X11_at
theorem dX11_hasSpring_0 : decode cX11_hasSpring 0 = .ok (.aload_n 0, 1) := by decide +kernel
theorem dX11_hasSpring_1 : decode cX11_hasSpring 1 = .ok (.bipush 26, 2) := by decide +kernel
theorem dX11_hasSpring_3 : decode cX11_hasSpring 3 = .ok (.iload_n 1, 1) := by decide +kernel
theorem dX11_hasSpring_4 : decode cX11_hasSpring 4 = .ok (.iadd, 1) := by decide +kernel
theorem dX11_hasSpring_5 : decode cX11_hasSpring 5 = .ok (.invokevirtual 61, 3) := by decide +kernel
theorem dX11_hasSpring_8 : decode cX11_hasSpring 8 = .ok (.ifCond .le 7, 3) := by decide +kernel
theorem dX11_hasSpring_11 : decode cX11_hasSpring 11 = .ok (.iconst 1, 1) := by decide +kernel
theorem dX11_hasSpring_12 : decode cX11_hasSpring 12 = .ok (.goto 4, 3) := by decide +kernel
theorem dX11_hasSpring_15 : decode cX11_hasSpring 15 = .ok (.iconst 0, 1) := by decide +kernel
theorem dX11_hasSpring_16 : decode cX11_hasSpring 16 = .ok (.ireturn, 1) := by decide +kernel
set_option maxRecDepth 20000 in
theorem ggX11_jointOf_X11_at : GoodIn wsX11_jointOf wsX11_at := goodIn_ca (goodIn_r _ [5, 6, 7, 8, 9, 10, 11, 12, 13, 14, 15, 16, 17, 18, 19, 20, 21, 22, 23, 24] (by decide +kernel) (by decide +kernel)) (goodIn_sub (fun _ h => List.mem_cons_of_mem _ (List.mem_append_right _ h)) (by decide +kernel))
set_option maxRecDepth 20000 in
theorem gX11_jointOf_X11_at : GoodIn wsX11_jointOf (wsV RX11 61 RX11 yX11_at wsX11_at) := goodIn_app (goodIn_of _ (by decide +kernel)) ggX11_jointOf_X11_at
theorem dX11_jointOf_0 : decode cX11_jointOf 0 = .ok (.aload_n 0, 1) := by decide +kernel
theorem dX11_jointOf_1 : decode cX11_jointOf 1 = .ok (.bipush 92, 2) := by decide +kernel
theorem dX11_jointOf_3 : decode cX11_jointOf 3 = .ok (.bipush 10, 2) := by decide +kernel
theorem dX11_jointOf_5 : decode cX11_jointOf 5 = .ok (.iload_n 1, 1) := by decide +kernel
theorem dX11_jointOf_6 : decode cX11_jointOf 6 = .ok (.imul, 1) := by decide +kernel
theorem dX11_jointOf_7 : decode cX11_jointOf 7 = .ok (.iadd, 1) := by decide +kernel
theorem dX11_jointOf_8 : decode cX11_jointOf 8 = .ok (.iload_n 2, 1) := by decide +kernel
theorem dX11_jointOf_9 : decode cX11_jointOf 9 = .ok (.iadd, 1) := by decide +kernel
theorem dX11_jointOf_10 : decode cX11_jointOf 10 = .ok (.invokevirtual 61, 3) := by decide +kernel
theorem dX11_jointOf_13 : decode cX11_jointOf 13 = .ok (.ireturn, 1) := by decide +kernel
set_option maxRecDepth 20000 in
theorem ggX11_passes_X11_jointOf : GoodIn wsX11_passes wsX11_jointOf := goodIn_ca (goodIn_r _ [8, 9, 10, 11, 7, 12, 3, 13, 14, 15, 16, 17, 18, 19, 20, 21, 22, 23, 24, 25, 26, 27, 28, 29, 30] (by decide +kernel) (by decide +kernel)) (goodIn_sub (fun _ h => List.mem_cons_of_mem _ (List.mem_append_left _ (List.mem_append_right _ h))) (by decide +kernel))
set_option maxRecDepth 20000 in
theorem gX11_passes_X11_jointOf : GoodIn wsX11_passes (wsV RX11 73 RX11 yX11_jointOf wsX11_jointOf) := goodIn_app (goodIn_of _ (by decide +kernel)) ggX11_passes_X11_jointOf
theorem dX11_passes_0 : decode cX11_passes 0 = .ok (.aload_n 0, 1) := by decide +kernel
theorem dX11_passes_1 : decode cX11_passes 1 = .ok (.getfield 39, 3) := by decide +kernel
theorem dX11_passes_4 : decode cX11_passes 4 = .ok (.iload_n 1, 1) := by decide +kernel
theorem dX11_passes_5 : decode cX11_passes 5 = .ok (.baload, 1) := by decide +kernel
theorem dX11_passes_6 : decode cX11_passes 6 = .ok (.ifCond .eq 21, 3) := by decide +kernel
theorem dX11_passes_9 : decode cX11_passes 9 = .ok (.aload_n 0, 1) := by decide +kernel
theorem dX11_passes_10 : decode cX11_passes 10 = .ok (.getfield 39, 3) := by decide +kernel
theorem dX11_passes_13 : decode cX11_passes 13 = .ok (.iload_n 2, 1) := by decide +kernel
theorem dX11_passes_14 : decode cX11_passes 14 = .ok (.baload, 1) := by decide +kernel
theorem dX11_passes_15 : decode cX11_passes 15 = .ok (.ifCond .ne 12, 3) := by decide +kernel
theorem dX11_passes_18 : decode cX11_passes 18 = .ok (.aload_n 0, 1) := by decide +kernel
theorem dX11_passes_19 : decode cX11_passes 19 = .ok (.iload_n 1, 1) := by decide +kernel
theorem dX11_passes_20 : decode cX11_passes 20 = .ok (.iload_n 2, 1) := by decide +kernel
theorem dX11_passes_21 : decode cX11_passes 21 = .ok (.invokevirtual 73, 3) := by decide +kernel
theorem dX11_passes_24 : decode cX11_passes 24 = .ok (.ifCond .ne 5, 3) := by decide +kernel
theorem dX11_passes_27 : decode cX11_passes 27 = .ok (.iconst 0, 1) := by decide +kernel
theorem dX11_passes_28 : decode cX11_passes 28 = .ok (.ireturn, 1) := by decide +kernel
theorem dX11_passes_29 : decode cX11_passes 29 = .ok (.aload_n 0, 1) := by decide +kernel
theorem dX11_passes_30 : decode cX11_passes 30 = .ok (.getfield 36, 3) := by decide +kernel
theorem dX11_passes_33 : decode cX11_passes 33 = .ok (.iload_n 2, 1) := by decide +kernel
theorem dX11_passes_34 : decode cX11_passes 34 = .ok (.aload_n 0, 1) := by decide +kernel
theorem dX11_passes_35 : decode cX11_passes 35 = .ok (.iload_n 1, 1) := by decide +kernel
theorem dX11_passes_36 : decode cX11_passes 36 = .ok (.iload_n 2, 1) := by decide +kernel
theorem dX11_passes_37 : decode cX11_passes 37 = .ok (.invokevirtual 73, 3) := by decide +kernel
theorem dX11_passes_40 : decode cX11_passes 40 = .ok (.iconst 2, 1) := by decide +kernel
theorem dX11_passes_41 : decode cX11_passes 41 = .ok (.if_icmp .ne 12, 3) := by decide +kernel
theorem dX11_passes_44 : decode cX11_passes 44 = .ok (.aload_n 0, 1) := by decide +kernel
theorem dX11_passes_45 : decode cX11_passes 45 = .ok (.getfield 36, 3) := by decide +kernel
theorem dX11_passes_48 : decode cX11_passes 48 = .ok (.iload_n 1, 1) := by decide +kernel
theorem dX11_passes_49 : decode cX11_passes 49 = .ok (.laload, 1) := by decide +kernel
theorem dX11_passes_50 : decode cX11_passes 50 = .ok (.goto 30, 3) := by decide +kernel
theorem dX11_passes_53 : decode cX11_passes 53 = .ok (.aload_n 0, 1) := by decide +kernel
theorem dX11_passes_54 : decode cX11_passes 54 = .ok (.getfield 36, 3) := by decide +kernel
theorem dX11_passes_57 : decode cX11_passes 57 = .ok (.iload_n 1, 1) := by decide +kernel
theorem dX11_passes_58 : decode cX11_passes 58 = .ok (.laload, 1) := by decide +kernel
theorem dX11_passes_59 : decode cX11_passes 59 = .ok (.lneg, 1) := by decide +kernel
theorem dX11_passes_60 : decode cX11_passes 60 = .ok (.aload_n 0, 1) := by decide +kernel
theorem dX11_passes_61 : decode cX11_passes 61 = .ok (.getfield 7, 3) := by decide +kernel
theorem dX11_passes_64 : decode cX11_passes 64 = .ok (.bipush 6, 2) := by decide +kernel
theorem dX11_passes_66 : decode cX11_passes 66 = .ok (.iload_n 1, 1) := by decide +kernel
theorem dX11_passes_67 : decode cX11_passes 67 = .ok (.iadd, 1) := by decide +kernel
theorem dX11_passes_68 : decode cX11_passes 68 = .ok (.laload, 1) := by decide +kernel
theorem dX11_passes_69 : decode cX11_passes 69 = .ok (.lmul, 1) := by decide +kernel
theorem dX11_passes_70 : decode cX11_passes 70 = .ok (.aload_n 0, 1) := by decide +kernel
theorem dX11_passes_71 : decode cX11_passes 71 = .ok (.getfield 7, 3) := by decide +kernel
theorem dX11_passes_74 : decode cX11_passes 74 = .ok (.bipush 6, 2) := by decide +kernel
theorem dX11_passes_76 : decode cX11_passes 76 = .ok (.iload_n 2, 1) := by decide +kernel
theorem dX11_passes_77 : decode cX11_passes 77 = .ok (.iadd, 1) := by decide +kernel
theorem dX11_passes_78 : decode cX11_passes 78 = .ok (.laload, 1) := by decide +kernel
theorem dX11_passes_79 : decode cX11_passes 79 = .ok (.ldiv, 1) := by decide +kernel
theorem dX11_passes_80 : decode cX11_passes 80 = .ok (.lastore, 1) := by decide +kernel
theorem dX11_passes_81 : decode cX11_passes 81 = .ok (.aload_n 0, 1) := by decide +kernel
theorem dX11_passes_82 : decode cX11_passes 82 = .ok (.getfield 39, 3) := by decide +kernel
theorem dX11_passes_85 : decode cX11_passes 85 = .ok (.iload_n 2, 1) := by decide +kernel
theorem dX11_passes_86 : decode cX11_passes 86 = .ok (.iconst 1, 1) := by decide +kernel
theorem dX11_passes_87 : decode cX11_passes 87 = .ok (.bastore, 1) := by decide +kernel
theorem dX11_passes_88 : decode cX11_passes 88 = .ok (.iconst 1, 1) := by decide +kernel
theorem dX11_passes_89 : decode cX11_passes 89 = .ok (.ireturn, 1) := by decide +kernel
set_option maxRecDepth 20000 in
theorem ggX11_turns_X11_passes : GoodIn wsX11_turns wsX11_passes := goodIn_ca (goodIn_ca (goodIn_r _ [8, 1, 2, 9, 10, 11, 12, 7, 13, 14, 15, 16, 17, 18, 19, 20, 21, 22, 23, 24, 25, 26, 27, 28, 29, 30, 31, 32, 33, 34, 35] (by decide +kernel) (by decide +kernel)) (goodIn_sub (fun _ h => List.mem_cons_of_mem _ (List.mem_append_left _ (List.mem_append_right _ h))) (by decide +kernel))) (goodIn_sub (fun _ h => List.mem_cons_of_mem _ (List.mem_append_right _ h)) (by decide +kernel))
set_option maxRecDepth 20000 in
theorem gX11_turns_X11_passes : GoodIn wsX11_turns (wsV RX11 77 RX11 yX11_passes wsX11_passes) := goodIn_app (goodIn_of _ (by decide +kernel)) ggX11_turns_X11_passes
theorem dX11_turns_0 : decode cX11_turns 0 = .ok (.iconst 0, 1) := by decide +kernel
theorem dX11_turns_1 : decode cX11_turns 1 = .ok (.istore_n 2, 1) := by decide +kernel
theorem dX11_turns_2 : decode cX11_turns 2 = .ok (.iload_n 2, 1) := by decide +kernel
theorem dX11_turns_3 : decode cX11_turns 3 = .ok (.bipush 10, 2) := by decide +kernel
theorem dX11_turns_5 : decode cX11_turns 5 = .ok (.if_icmp .ge 43, 3) := by decide +kernel
theorem dX11_turns_8 : decode cX11_turns 8 = .ok (.aload_n 0, 1) := by decide +kernel
theorem dX11_turns_9 : decode cX11_turns 9 = .ok (.getfield 39, 3) := by decide +kernel
theorem dX11_turns_12 : decode cX11_turns 12 = .ok (.iload_n 2, 1) := by decide +kernel
theorem dX11_turns_13 : decode cX11_turns 13 = .ok (.iload_n 2, 1) := by decide +kernel
theorem dX11_turns_14 : decode cX11_turns 14 = .ok (.iload_n 1, 1) := by decide +kernel
theorem dX11_turns_15 : decode cX11_turns 15 = .ok (.if_icmp .ne 7, 3) := by decide +kernel
theorem dX11_turns_18 : decode cX11_turns 18 = .ok (.iconst 1, 1) := by decide +kernel
theorem dX11_turns_19 : decode cX11_turns 19 = .ok (.goto 4, 3) := by decide +kernel
theorem dX11_turns_22 : decode cX11_turns 22 = .ok (.iconst 0, 1) := by decide +kernel
theorem dX11_turns_23 : decode cX11_turns 23 = .ok (.bastore, 1) := by decide +kernel
theorem dX11_turns_24 : decode cX11_turns 24 = .ok (.aload_n 0, 1) := by decide +kernel
theorem dX11_turns_25 : decode cX11_turns 25 = .ok (.getfield 36, 3) := by decide +kernel
theorem dX11_turns_28 : decode cX11_turns 28 = .ok (.iload_n 2, 1) := by decide +kernel
theorem dX11_turns_29 : decode cX11_turns 29 = .ok (.iload_n 2, 1) := by decide +kernel
theorem dX11_turns_30 : decode cX11_turns 30 = .ok (.iload_n 1, 1) := by decide +kernel
theorem dX11_turns_31 : decode cX11_turns 31 = .ok (.if_icmp .ne 9, 3) := by decide +kernel
theorem dX11_turns_34 : decode cX11_turns 34 = .ok (.ldc2_w 52, 3) := by decide +kernel
theorem dX11_turns_37 : decode cX11_turns 37 = .ok (.goto 4, 3) := by decide +kernel
theorem dX11_turns_40 : decode cX11_turns 40 = .ok (.lconst 0, 1) := by decide +kernel
theorem dX11_turns_41 : decode cX11_turns 41 = .ok (.lastore, 1) := by decide +kernel
theorem dX11_turns_42 : decode cX11_turns 42 = .ok (.iinc 2 1, 3) := by decide +kernel
theorem dX11_turns_45 : decode cX11_turns 45 = .ok (.goto (-43), 3) := by decide +kernel
theorem dX11_turns_48 : decode cX11_turns 48 = .ok (.iconst 1, 1) := by decide +kernel
theorem dX11_turns_49 : decode cX11_turns 49 = .ok (.istore_n 2, 1) := by decide +kernel
theorem dX11_turns_50 : decode cX11_turns 50 = .ok (.iload_n 2, 1) := by decide +kernel
theorem dX11_turns_51 : decode cX11_turns 51 = .ok (.ifCond .eq 47, 3) := by decide +kernel
theorem dX11_turns_54 : decode cX11_turns 54 = .ok (.iconst 0, 1) := by decide +kernel
theorem dX11_turns_55 : decode cX11_turns 55 = .ok (.istore_n 2, 1) := by decide +kernel
theorem dX11_turns_56 : decode cX11_turns 56 = .ok (.iconst 0, 1) := by decide +kernel
theorem dX11_turns_57 : decode cX11_turns 57 = .ok (.istore_n 3, 1) := by decide +kernel
theorem dX11_turns_58 : decode cX11_turns 58 = .ok (.iload_n 3, 1) := by decide +kernel
theorem dX11_turns_59 : decode cX11_turns 59 = .ok (.bipush 100, 2) := by decide +kernel
theorem dX11_turns_61 : decode cX11_turns 61 = .ok (.if_icmp .ge 34, 3) := by decide +kernel
theorem dX11_turns_64 : decode cX11_turns 64 = .ok (.aload_n 0, 1) := by decide +kernel
theorem dX11_turns_65 : decode cX11_turns 65 = .ok (.iload_n 3, 1) := by decide +kernel
theorem dX11_turns_66 : decode cX11_turns 66 = .ok (.bipush 10, 2) := by decide +kernel
theorem dX11_turns_68 : decode cX11_turns 68 = .ok (.idiv, 1) := by decide +kernel
theorem dX11_turns_69 : decode cX11_turns 69 = .ok (.iload_n 3, 1) := by decide +kernel
theorem dX11_turns_70 : decode cX11_turns 70 = .ok (.bipush 10, 2) := by decide +kernel
theorem dX11_turns_72 : decode cX11_turns 72 = .ok (.irem, 1) := by decide +kernel
theorem dX11_turns_73 : decode cX11_turns 73 = .ok (.invokevirtual 77, 3) := by decide +kernel
theorem dX11_turns_76 : decode cX11_turns 76 = .ok (.ifCond .ne 7, 3) := by decide +kernel
theorem dX11_turns_79 : decode cX11_turns 79 = .ok (.iload_n 2, 1) := by decide +kernel
theorem dX11_turns_80 : decode cX11_turns 80 = .ok (.ifCond .eq 7, 3) := by decide +kernel
theorem dX11_turns_83 : decode cX11_turns 83 = .ok (.iconst 1, 1) := by decide +kernel
theorem dX11_turns_84 : decode cX11_turns 84 = .ok (.goto 4, 3) := by decide +kernel
theorem dX11_turns_87 : decode cX11_turns 87 = .ok (.iconst 0, 1) := by decide +kernel
theorem dX11_turns_88 : decode cX11_turns 88 = .ok (.istore_n 2, 1) := by decide +kernel
theorem dX11_turns_89 : decode cX11_turns 89 = .ok (.iinc 3 1, 3) := by decide +kernel
theorem dX11_turns_92 : decode cX11_turns 92 = .ok (.goto (-34), 3) := by decide +kernel
theorem dX11_turns_95 : decode cX11_turns 95 = .ok (.goto (-45), 3) := by decide +kernel
theorem dX11_turns_98 : decode cX11_turns 98 = .ok (.return_, 1) := by decide +kernel
theorem dX11_members_0 : decode cX11_members 0 = .ok (.iconst 0, 1) := by decide +kernel
theorem dX11_members_1 : decode cX11_members 1 = .ok (.istore_n 1, 1) := by decide +kernel
theorem dX11_members_2 : decode cX11_members 2 = .ok (.iconst 0, 1) := by decide +kernel
theorem dX11_members_3 : decode cX11_members 3 = .ok (.istore_n 2, 1) := by decide +kernel
theorem dX11_members_4 : decode cX11_members 4 = .ok (.iload_n 2, 1) := by decide +kernel
theorem dX11_members_5 : decode cX11_members 5 = .ok (.bipush 10, 2) := by decide +kernel
theorem dX11_members_7 : decode cX11_members 7 = .ok (.if_icmp .ge 26, 3) := by decide +kernel
theorem dX11_members_10 : decode cX11_members 10 = .ok (.iload_n 1, 1) := by decide +kernel
theorem dX11_members_11 : decode cX11_members 11 = .ok (.aload_n 0, 1) := by decide +kernel
theorem dX11_members_12 : decode cX11_members 12 = .ok (.getfield 39, 3) := by decide +kernel
theorem dX11_members_15 : decode cX11_members 15 = .ok (.iload_n 2, 1) := by decide +kernel
theorem dX11_members_16 : decode cX11_members 16 = .ok (.baload, 1) := by decide +kernel
theorem dX11_members_17 : decode cX11_members 17 = .ok (.ifCond .eq 7, 3) := by decide +kernel
theorem dX11_members_20 : decode cX11_members 20 = .ok (.iconst 1, 1) := by decide +kernel
theorem dX11_members_21 : decode cX11_members 21 = .ok (.goto 4, 3) := by decide +kernel
theorem dX11_members_24 : decode cX11_members 24 = .ok (.iconst 0, 1) := by decide +kernel
theorem dX11_members_25 : decode cX11_members 25 = .ok (.iadd, 1) := by decide +kernel
theorem dX11_members_26 : decode cX11_members 26 = .ok (.istore_n 1, 1) := by decide +kernel
theorem dX11_members_27 : decode cX11_members 27 = .ok (.iinc 2 1, 3) := by decide +kernel
theorem dX11_members_30 : decode cX11_members 30 = .ok (.goto (-26), 3) := by decide +kernel
theorem dX11_members_33 : decode cX11_members 33 = .ok (.iload_n 1, 1) := by decide +kernel
theorem dX11_members_34 : decode cX11_members 34 = .ok (.ireturn, 1) := by decide +kernel
theorem dX11_joints_0 : decode cX11_joints 0 = .ok (.iconst 0, 1) := by decide +kernel
theorem dX11_joints_1 : decode cX11_joints 1 = .ok (.istore_n 1, 1) := by decide +kernel
theorem dX11_joints_2 : decode cX11_joints 2 = .ok (.iconst 0, 1) := by decide +kernel
theorem dX11_joints_3 : decode cX11_joints 3 = .ok (.istore_n 2, 1) := by decide +kernel
theorem dX11_joints_4 : decode cX11_joints 4 = .ok (.iload_n 2, 1) := by decide +kernel
theorem dX11_joints_5 : decode cX11_joints 5 = .ok (.bipush 100, 2) := by decide +kernel
theorem dX11_joints_7 : decode cX11_joints 7 = .ok (.if_icmp .ge 31, 3) := by decide +kernel
theorem dX11_joints_10 : decode cX11_joints 10 = .ok (.iload_n 1, 1) := by decide +kernel
theorem dX11_joints_11 : decode cX11_joints 11 = .ok (.aload_n 0, 1) := by decide +kernel
theorem dX11_joints_12 : decode cX11_joints 12 = .ok (.getfield 7, 3) := by decide +kernel
theorem dX11_joints_15 : decode cX11_joints 15 = .ok (.bipush 92, 2) := by decide +kernel
theorem dX11_joints_17 : decode cX11_joints 17 = .ok (.iload_n 2, 1) := by decide +kernel
theorem dX11_joints_18 : decode cX11_joints 18 = .ok (.iadd, 1) := by decide +kernel
theorem dX11_joints_19 : decode cX11_joints 19 = .ok (.laload, 1) := by decide +kernel
theorem dX11_joints_20 : decode cX11_joints 20 = .ok (.lconst 0, 1) := by decide +kernel
theorem dX11_joints_21 : decode cX11_joints 21 = .ok (.lcmp, 1) := by decide +kernel
theorem dX11_joints_22 : decode cX11_joints 22 = .ok (.ifCond .eq 7, 3) := by decide +kernel
theorem dX11_joints_25 : decode cX11_joints 25 = .ok (.iconst 1, 1) := by decide +kernel
theorem dX11_joints_26 : decode cX11_joints 26 = .ok (.goto 4, 3) := by decide +kernel
theorem dX11_joints_29 : decode cX11_joints 29 = .ok (.iconst 0, 1) := by decide +kernel
theorem dX11_joints_30 : decode cX11_joints 30 = .ok (.iadd, 1) := by decide +kernel
theorem dX11_joints_31 : decode cX11_joints 31 = .ok (.istore_n 1, 1) := by decide +kernel
theorem dX11_joints_32 : decode cX11_joints 32 = .ok (.iinc 2 1, 3) := by decide +kernel
theorem dX11_joints_35 : decode cX11_joints 35 = .ok (.goto (-31), 3) := by decide +kernel
theorem dX11_joints_38 : decode cX11_joints 38 = .ok (.iload_n 1, 1) := by decide +kernel
theorem dX11_joints_39 : decode cX11_joints 39 = .ok (.iconst 2, 1) := by decide +kernel
theorem dX11_joints_40 : decode cX11_joints 40 = .ok (.idiv, 1) := by decide +kernel
theorem dX11_joints_41 : decode cX11_joints 41 = .ok (.ireturn, 1) := by decide +kernel
set_option maxRecDepth 20000 in
theorem ggX11_springIn_X11_hasSpring : GoodIn wsX11_springIn wsX11_hasSpring := goodIn_ca (goodIn_r _ [6, 7, 8, 9, 5, 10, 11, 12, 13, 14, 15, 16, 17, 18, 19, 20, 21, 22, 23, 24, 25, 26, 27, 28, 29] (by decide +kernel) (by decide +kernel)) (goodIn_sub (fun _ h => List.mem_cons_of_mem _ (List.mem_append_right _ h)) (by decide +kernel))
set_option maxRecDepth 20000 in
theorem gX11_springIn_X11_hasSpring : GoodIn wsX11_springIn (wsV RX11 81 RX11 yX11_hasSpring wsX11_hasSpring) := goodIn_app (goodIn_of _ (by decide +kernel)) ggX11_springIn_X11_hasSpring
theorem dX11_springIn_0 : decode cX11_springIn 0 = .ok (.iconst 0, 1) := by decide +kernel
theorem dX11_springIn_1 : decode cX11_springIn 1 = .ok (.istore_n 1, 1) := by decide +kernel
theorem dX11_springIn_2 : decode cX11_springIn 2 = .ok (.iload_n 1, 1) := by decide +kernel
theorem dX11_springIn_3 : decode cX11_springIn 3 = .ok (.bipush 10, 2) := by decide +kernel
theorem dX11_springIn_5 : decode cX11_springIn 5 = .ok (.if_icmp .ge 28, 3) := by decide +kernel
theorem dX11_springIn_8 : decode cX11_springIn 8 = .ok (.aload_n 0, 1) := by decide +kernel
theorem dX11_springIn_9 : decode cX11_springIn 9 = .ok (.getfield 39, 3) := by decide +kernel
theorem dX11_springIn_12 : decode cX11_springIn 12 = .ok (.iload_n 1, 1) := by decide +kernel
theorem dX11_springIn_13 : decode cX11_springIn 13 = .ok (.baload, 1) := by decide +kernel
theorem dX11_springIn_14 : decode cX11_springIn 14 = .ok (.ifCond .eq 13, 3) := by decide +kernel
theorem dX11_springIn_17 : decode cX11_springIn 17 = .ok (.aload_n 0, 1) := by decide +kernel
theorem dX11_springIn_18 : decode cX11_springIn 18 = .ok (.iload_n 1, 1) := by decide +kernel
theorem dX11_springIn_19 : decode cX11_springIn 19 = .ok (.invokevirtual 81, 3) := by decide +kernel
theorem dX11_springIn_22 : decode cX11_springIn 22 = .ok (.ifCond .eq 5, 3) := by decide +kernel
theorem dX11_springIn_25 : decode cX11_springIn 25 = .ok (.iload_n 1, 1) := by decide +kernel
theorem dX11_springIn_26 : decode cX11_springIn 26 = .ok (.ireturn, 1) := by decide +kernel
theorem dX11_springIn_27 : decode cX11_springIn 27 = .ok (.iinc 1 1, 3) := by decide +kernel
theorem dX11_springIn_30 : decode cX11_springIn 30 = .ok (.goto (-28), 3) := by decide +kernel
theorem dX11_springIn_33 : decode cX11_springIn 33 = .ok (.iconst (-1), 1) := by decide +kernel
theorem dX11_springIn_34 : decode cX11_springIn 34 = .ok (.ireturn, 1) := by decide +kernel
set_option maxRecDepth 20000 in
theorem ggX11_rubs_X11_turns : GoodIn wsX11_rubs wsX11_turns := goodIn_ca (goodIn_ca (goodIn_r _ [7, 1, 8, 9, 10, 11, 12, 6, 13, 2, 14, 15, 16, 17, 18, 19, 20, 21, 26, 27, 28, 29, 30, 31, 32, 33, 34, 35, 36, 37, 38, 39, 40, 41, 42, 43] (by decide +kernel) (by decide +kernel)) (goodIn_sub (fun _ h => List.mem_cons_of_mem _ (List.mem_append_left _ (List.mem_append_right _ h))) (by decide +kernel))) (goodIn_sub (fun _ h => List.mem_cons_of_mem _ (List.mem_append_right _ h)) (by decide +kernel))
set_option maxRecDepth 20000 in
theorem gX11_rubs_X11_turns : GoodIn wsX11_rubs (wsV RX11 84 RX11 yX11_turns wsX11_turns) := goodIn_app (goodIn_of _ (by decide +kernel)) ggX11_rubs_X11_turns
set_option maxRecDepth 20000 in
theorem ggX11_rubs_X11_members : GoodIn wsX11_rubs wsX11_members := goodIn_ca (goodIn_r _ [25, 1, 26, 27, 28, 29, 30, 31, 32, 33, 34, 35, 36, 37, 38, 39, 40, 41, 42, 43] (by decide +kernel) (by decide +kernel)) (goodIn_sub (fun _ h => List.mem_cons_of_mem _ (List.mem_append_left _ (List.mem_append_right _ h))) (by decide +kernel))
set_option maxRecDepth 20000 in
theorem gX11_rubs_X11_members : GoodIn wsX11_rubs (wsV RX11 88 RX11 yX11_members wsX11_members) := goodIn_app (goodIn_of _ (by decide +kernel)) ggX11_rubs_X11_members
theorem dX11_rubs_0 : decode cX11_rubs 0 = .ok (.aload_n 0, 1) := by decide +kernel
theorem dX11_rubs_1 : decode cX11_rubs 1 = .ok (.iload_n 1, 1) := by decide +kernel
theorem dX11_rubs_2 : decode cX11_rubs 2 = .ok (.invokevirtual 84, 3) := by decide +kernel
theorem dX11_rubs_5 : decode cX11_rubs 5 = .ok (.aload_n 0, 1) := by decide +kernel
theorem dX11_rubs_6 : decode cX11_rubs 6 = .ok (.invokevirtual 88, 3) := by decide +kernel
theorem dX11_rubs_9 : decode cX11_rubs 9 = .ok (.istore_n 2, 1) := by decide +kernel
theorem dX11_rubs_10 : decode cX11_rubs 10 = .ok (.iconst 0, 1) := by decide +kernel
theorem dX11_rubs_11 : decode cX11_rubs 11 = .ok (.istore_n 3, 1) := by decide +kernel
theorem dX11_rubs_12 : decode cX11_rubs 12 = .ok (.iload_n 3, 1) := by decide +kernel
theorem dX11_rubs_13 : decode cX11_rubs 13 = .ok (.bipush 10, 2) := by decide +kernel
theorem dX11_rubs_15 : decode cX11_rubs 15 = .ok (.if_icmp .ge 40, 3) := by decide +kernel
theorem dX11_rubs_18 : decode cX11_rubs 18 = .ok (.iload_n 2, 1) := by decide +kernel
theorem dX11_rubs_19 : decode cX11_rubs 19 = .ok (.aload_n 0, 1) := by decide +kernel
theorem dX11_rubs_20 : decode cX11_rubs 20 = .ok (.getfield 39, 3) := by decide +kernel
theorem dX11_rubs_23 : decode cX11_rubs 23 = .ok (.iload_n 3, 1) := by decide +kernel
theorem dX11_rubs_24 : decode cX11_rubs 24 = .ok (.baload, 1) := by decide +kernel
theorem dX11_rubs_25 : decode cX11_rubs 25 = .ok (.ifCond .eq 21, 3) := by decide +kernel
theorem dX11_rubs_28 : decode cX11_rubs 28 = .ok (.aload_n 0, 1) := by decide +kernel
theorem dX11_rubs_29 : decode cX11_rubs 29 = .ok (.getfield 7, 3) := by decide +kernel
theorem dX11_rubs_32 : decode cX11_rubs 32 = .ok (.bipush 66, 2) := by decide +kernel
theorem dX11_rubs_34 : decode cX11_rubs 34 = .ok (.iload_n 3, 1) := by decide +kernel
theorem dX11_rubs_35 : decode cX11_rubs 35 = .ok (.iadd, 1) := by decide +kernel
theorem dX11_rubs_36 : decode cX11_rubs 36 = .ok (.laload, 1) := by decide +kernel
theorem dX11_rubs_37 : decode cX11_rubs 37 = .ok (.lconst 0, 1) := by decide +kernel
theorem dX11_rubs_38 : decode cX11_rubs 38 = .ok (.lcmp, 1) := by decide +kernel
theorem dX11_rubs_39 : decode cX11_rubs 39 = .ok (.ifCond .ne 7, 3) := by decide +kernel
theorem dX11_rubs_42 : decode cX11_rubs 42 = .ok (.iconst 1, 1) := by decide +kernel
theorem dX11_rubs_43 : decode cX11_rubs 43 = .ok (.goto 4, 3) := by decide +kernel
theorem dX11_rubs_46 : decode cX11_rubs 46 = .ok (.iconst 0, 1) := by decide +kernel
theorem dX11_rubs_47 : decode cX11_rubs 47 = .ok (.iadd, 1) := by decide +kernel
theorem dX11_rubs_48 : decode cX11_rubs 48 = .ok (.istore_n 2, 1) := by decide +kernel
theorem dX11_rubs_49 : decode cX11_rubs 49 = .ok (.iinc 3 1, 3) := by decide +kernel
theorem dX11_rubs_52 : decode cX11_rubs 52 = .ok (.goto (-40), 3) := by decide +kernel
theorem dX11_rubs_55 : decode cX11_rubs 55 = .ok (.iload_n 2, 1) := by decide +kernel
theorem dX11_rubs_56 : decode cX11_rubs 56 = .ok (.ireturn, 1) := by decide +kernel
theorem dX11_mayHave_0 : decode cX11_mayHave 0 = .ok (.iload_n 0, 1) := by decide +kernel
theorem dX11_mayHave_1 : decode cX11_mayHave 1 = .ok (.bipush 6, 2) := by decide +kernel
theorem dX11_mayHave_3 : decode cX11_mayHave 3 = .ok (.if_icmp .eq 57, 3) := by decide +kernel
theorem dX11_mayHave_6 : decode cX11_mayHave 6 = .ok (.iload_n 0, 1) := by decide +kernel
theorem dX11_mayHave_7 : decode cX11_mayHave 7 = .ok (.bipush 8, 2) := by decide +kernel
theorem dX11_mayHave_9 : decode cX11_mayHave 9 = .ok (.if_icmp .eq 51, 3) := by decide +kernel
theorem dX11_mayHave_12 : decode cX11_mayHave 12 = .ok (.iload_n 0, 1) := by decide +kernel
theorem dX11_mayHave_13 : decode cX11_mayHave 13 = .ok (.bipush 10, 2) := by decide +kernel
theorem dX11_mayHave_15 : decode cX11_mayHave 15 = .ok (.if_icmp .eq 45, 3) := by decide +kernel
theorem dX11_mayHave_18 : decode cX11_mayHave 18 = .ok (.iload_n 0, 1) := by decide +kernel
theorem dX11_mayHave_19 : decode cX11_mayHave 19 = .ok (.bipush 12, 2) := by decide +kernel
theorem dX11_mayHave_21 : decode cX11_mayHave 21 = .ok (.if_icmp .eq 39, 3) := by decide +kernel
theorem dX11_mayHave_24 : decode cX11_mayHave 24 = .ok (.iload_n 0, 1) := by decide +kernel
theorem dX11_mayHave_25 : decode cX11_mayHave 25 = .ok (.bipush 15, 2) := by decide +kernel
theorem dX11_mayHave_27 : decode cX11_mayHave 27 = .ok (.if_icmp .eq 33, 3) := by decide +kernel
theorem dX11_mayHave_30 : decode cX11_mayHave 30 = .ok (.iload_n 0, 1) := by decide +kernel
theorem dX11_mayHave_31 : decode cX11_mayHave 31 = .ok (.bipush 20, 2) := by decide +kernel
theorem dX11_mayHave_33 : decode cX11_mayHave 33 = .ok (.if_icmp .eq 27, 3) := by decide +kernel
theorem dX11_mayHave_36 : decode cX11_mayHave 36 = .ok (.iload_n 0, 1) := by decide +kernel
theorem dX11_mayHave_37 : decode cX11_mayHave 37 = .ok (.bipush 24, 2) := by decide +kernel
theorem dX11_mayHave_39 : decode cX11_mayHave 39 = .ok (.if_icmp .eq 21, 3) := by decide +kernel
theorem dX11_mayHave_42 : decode cX11_mayHave 42 = .ok (.iload_n 0, 1) := by decide +kernel
theorem dX11_mayHave_43 : decode cX11_mayHave 43 = .ok (.bipush 30, 2) := by decide +kernel
theorem dX11_mayHave_45 : decode cX11_mayHave 45 = .ok (.if_icmp .eq 15, 3) := by decide +kernel
theorem dX11_mayHave_48 : decode cX11_mayHave 48 = .ok (.iload_n 0, 1) := by decide +kernel
theorem dX11_mayHave_49 : decode cX11_mayHave 49 = .ok (.bipush 40, 2) := by decide +kernel
theorem dX11_mayHave_51 : decode cX11_mayHave 51 = .ok (.if_icmp .eq 9, 3) := by decide +kernel
theorem dX11_mayHave_54 : decode cX11_mayHave 54 = .ok (.iload_n 0, 1) := by decide +kernel
theorem dX11_mayHave_55 : decode cX11_mayHave 55 = .ok (.bipush 60, 2) := by decide +kernel
theorem dX11_mayHave_57 : decode cX11_mayHave 57 = .ok (.if_icmp .ne 7, 3) := by decide +kernel
theorem dX11_mayHave_60 : decode cX11_mayHave 60 = .ok (.iconst 1, 1) := by decide +kernel
theorem dX11_mayHave_61 : decode cX11_mayHave 61 = .ok (.goto 4, 3) := by decide +kernel
theorem dX11_mayHave_64 : decode cX11_mayHave 64 = .ok (.iconst 0, 1) := by decide +kernel
theorem dX11_mayHave_65 : decode cX11_mayHave 65 = .ok (.ireturn, 1) := by decide +kernel
set_option maxRecDepth 20000 in
theorem ggX11_addsGear_X11_mayHave : GoodIn wsX11_addsGear wsX11_mayHave := goodIn_r _ [5] (by decide +kernel) (by decide +kernel)
set_option maxRecDepth 20000 in
theorem gX11_addsGear_X11_mayHave : GoodIn wsX11_addsGear (va_wsS RX11 92 yX11_mayHave wsX11_mayHave) := goodIn_app (goodIn_of _ (by decide +kernel)) ggX11_addsGear_X11_mayHave
set_option maxRecDepth 20000 in
theorem ggX11_addsGear_X11_fails : GoodIn wsX11_addsGear wsX11_fails := goodIn_r _ [9, 10, 19, 20, 21, 22, 23, 24, 25, 26, 27, 28, 29, 30, 31, 32, 33, 34, 35, 36] (by decide +kernel) (by decide +kernel)
set_option maxRecDepth 20000 in
theorem gX11_addsGear_X11_fails : GoodIn wsX11_addsGear (wsV RX11 95 RX11 yX11_fails wsX11_fails) := goodIn_app (goodIn_of _ (by decide +kernel)) ggX11_addsGear_X11_fails
set_option maxRecDepth 20000 in
theorem ggX11_addsGear_X11_at : GoodIn wsX11_addsGear wsX11_at := goodIn_ca (goodIn_r _ [14, 1, 19, 20, 21, 22, 23, 24, 25, 26, 27, 28, 29, 30, 31, 32, 33, 34, 35, 36] (by decide +kernel) (by decide +kernel)) (goodIn_sub (fun _ h => List.mem_cons_of_mem _ (List.mem_append_right _ h)) (by decide +kernel))
set_option maxRecDepth 20000 in
theorem gX11_addsGear_X11_at : GoodIn wsX11_addsGear (wsV RX11 61 RX11 yX11_at wsX11_at) := goodIn_app (goodIn_of _ (by decide +kernel)) ggX11_addsGear_X11_at
set_option maxRecDepth 20000 in
theorem ggX11_addsGear_X11_done : GoodIn wsX11_addsGear wsX11_done := goodIn_r _ [18, 10, 19, 20, 21, 22, 23, 24, 25, 26, 27, 28, 29, 30, 31, 32, 33, 34, 35, 36] (by decide +kernel) (by decide +kernel)
set_option maxRecDepth 20000 in
theorem gX11_addsGear_X11_done : GoodIn wsX11_addsGear (wsV RX11 98 RX11 yX11_done wsX11_done) := goodIn_app (goodIn_of _ (by decide +kernel)) ggX11_addsGear_X11_done
theorem dX11_addsGear_0 : decode cX11_addsGear 0 = .ok (.iload_n 1, 1) := by decide +kernel
theorem dX11_addsGear_1 : decode cX11_addsGear 1 = .ok (.invokestatic 92, 3) := by decide +kernel
theorem dX11_addsGear_4 : decode cX11_addsGear 4 = .ok (.ifCond .ne 9, 3) := by decide +kernel
theorem dX11_addsGear_7 : decode cX11_addsGear 7 = .ok (.aload_n 0, 1) := by decide +kernel
theorem dX11_addsGear_8 : decode cX11_addsGear 8 = .ok (.iconst 1, 1) := by decide +kernel
theorem dX11_addsGear_9 : decode cX11_addsGear 9 = .ok (.invokevirtual 95, 3) := by decide +kernel
theorem dX11_addsGear_12 : decode cX11_addsGear 12 = .ok (.ireturn, 1) := by decide +kernel
theorem dX11_addsGear_13 : decode cX11_addsGear 13 = .ok (.aload_n 0, 1) := by decide +kernel
theorem dX11_addsGear_14 : decode cX11_addsGear 14 = .ok (.iconst 0, 1) := by decide +kernel
theorem dX11_addsGear_15 : decode cX11_addsGear 15 = .ok (.invokevirtual 61, 3) := by decide +kernel
theorem dX11_addsGear_18 : decode cX11_addsGear 18 = .ok (.istore_n 2, 1) := by decide +kernel
theorem dX11_addsGear_19 : decode cX11_addsGear 19 = .ok (.iload_n 2, 1) := by decide +kernel
theorem dX11_addsGear_20 : decode cX11_addsGear 20 = .ok (.bipush 10, 2) := by decide +kernel
theorem dX11_addsGear_22 : decode cX11_addsGear 22 = .ok (.if_icmp .ne 9, 3) := by decide +kernel
theorem dX11_addsGear_25 : decode cX11_addsGear 25 = .ok (.aload_n 0, 1) := by decide +kernel
theorem dX11_addsGear_26 : decode cX11_addsGear 26 = .ok (.iconst 2, 1) := by decide +kernel
theorem dX11_addsGear_27 : decode cX11_addsGear 27 = .ok (.invokevirtual 95, 3) := by decide +kernel
theorem dX11_addsGear_30 : decode cX11_addsGear 30 = .ok (.ireturn, 1) := by decide +kernel
theorem dX11_addsGear_31 : decode cX11_addsGear 31 = .ok (.aload_n 0, 1) := by decide +kernel
theorem dX11_addsGear_32 : decode cX11_addsGear 32 = .ok (.getfield 7, 3) := by decide +kernel
theorem dX11_addsGear_35 : decode cX11_addsGear 35 = .ok (.bipush 6, 2) := by decide +kernel
theorem dX11_addsGear_37 : decode cX11_addsGear 37 = .ok (.iload_n 2, 1) := by decide +kernel
theorem dX11_addsGear_38 : decode cX11_addsGear 38 = .ok (.iadd, 1) := by decide +kernel
theorem dX11_addsGear_39 : decode cX11_addsGear 39 = .ok (.iload_n 1, 1) := by decide +kernel
theorem dX11_addsGear_40 : decode cX11_addsGear 40 = .ok (.i2l, 1) := by decide +kernel
theorem dX11_addsGear_41 : decode cX11_addsGear 41 = .ok (.lastore, 1) := by decide +kernel
theorem dX11_addsGear_42 : decode cX11_addsGear 42 = .ok (.aload_n 0, 1) := by decide +kernel
theorem dX11_addsGear_43 : decode cX11_addsGear 43 = .ok (.getfield 7, 3) := by decide +kernel
theorem dX11_addsGear_46 : decode cX11_addsGear 46 = .ok (.iconst 0, 1) := by decide +kernel
theorem dX11_addsGear_47 : decode cX11_addsGear 47 = .ok (.dup2, 1) := by decide +kernel
theorem dX11_addsGear_48 : decode cX11_addsGear 48 = .ok (.laload, 1) := by decide +kernel
theorem dX11_addsGear_49 : decode cX11_addsGear 49 = .ok (.lconst 1, 1) := by decide +kernel
theorem dX11_addsGear_50 : decode cX11_addsGear 50 = .ok (.ladd, 1) := by decide +kernel
theorem dX11_addsGear_51 : decode cX11_addsGear 51 = .ok (.lastore, 1) := by decide +kernel
theorem dX11_addsGear_52 : decode cX11_addsGear 52 = .ok (.aload_n 0, 1) := by decide +kernel
theorem dX11_addsGear_53 : decode cX11_addsGear 53 = .ok (.iload_n 2, 1) := by decide +kernel
theorem dX11_addsGear_54 : decode cX11_addsGear 54 = .ok (.invokevirtual 98, 3) := by decide +kernel
theorem dX11_addsGear_57 : decode cX11_addsGear 57 = .ok (.ireturn, 1) := by decide +kernel
set_option maxRecDepth 20000 in
theorem ggX11_addGear_X11_begin : GoodIn wsX11_addGear wsX11_begin := goodIn_ca (goodIn_r _ [5, 6, 7, 8, 9, 4, 10, 37, 38, 39, 40, 41, 42, 43, 44, 45, 46, 47, 48, 49, 50, 51, 52, 53, 54] (by decide +kernel) (by decide +kernel)) (goodIn_sub (fun _ h => List.mem_cons_of_mem _ (List.mem_append_right _ h)) (by decide +kernel))
set_option maxRecDepth 20000 in
theorem gX11_addGear_X11_begin : GoodIn wsX11_addGear (wsV RX11 101 RX11 yX11_begin wsX11_begin) := goodIn_app (goodIn_of _ (by decide +kernel)) ggX11_addGear_X11_begin
set_option maxRecDepth 20000 in
theorem ggX11_addGear_X11_addsGear : GoodIn wsX11_addGear wsX11_addsGear := goodIn_ca (goodIn_r _ [14, 6, 15, 16, 4, 17, 18, 19, 20, 21, 22, 23, 24, 25, 26, 27, 28, 29, 30, 37, 38, 39, 40, 41, 42, 43, 44, 45, 46, 47, 48, 49, 50, 51, 52, 53, 54] (by decide +kernel) (by decide +kernel)) (goodIn_sub (fun _ h => List.mem_cons_of_mem _ (List.mem_append_right _ h)) (by decide +kernel))
set_option maxRecDepth 20000 in
theorem gX11_addGear_X11_addsGear : GoodIn wsX11_addGear (wsV RX11 104 RX11 yX11_addsGear wsX11_addsGear) := goodIn_app (goodIn_of _ (by decide +kernel)) ggX11_addGear_X11_addsGear
set_option maxRecDepth 20000 in
theorem ggX11_addGear_X11_kept : GoodIn wsX11_addGear wsX11_kept := goodIn_ca (goodIn_r _ [34, 22, 7, 6, 35, 36, 8, 9, 4, 10, 37, 38, 39, 40, 41, 42, 43, 44, 45, 46, 47, 48, 49, 50, 51, 52, 53, 54] (by decide +kernel) (by decide +kernel)) (goodIn_sub (fun _ h => List.mem_cons_of_mem _ (List.mem_append_right _ h)) (by decide +kernel))
set_option maxRecDepth 20000 in
theorem gX11_addGear_X11_kept : GoodIn wsX11_addGear (wsV RX11 107 RX11 yX11_kept wsX11_kept) := goodIn_app (goodIn_of _ (by decide +kernel)) ggX11_addGear_X11_kept
theorem dX11_addGear_0 : decode cX11_addGear 0 = .ok (.aload_n 0, 1) := by decide +kernel
theorem dX11_addGear_1 : decode cX11_addGear 1 = .ok (.invokevirtual 101, 3) := by decide +kernel
theorem dX11_addGear_4 : decode cX11_addGear 4 = .ok (.aload_n 0, 1) := by decide +kernel
theorem dX11_addGear_5 : decode cX11_addGear 5 = .ok (.aload_n 0, 1) := by decide +kernel
theorem dX11_addGear_6 : decode cX11_addGear 6 = .ok (.iload_n 1, 1) := by decide +kernel
theorem dX11_addGear_7 : decode cX11_addGear 7 = .ok (.invokevirtual 104, 3) := by decide +kernel
theorem dX11_addGear_10 : decode cX11_addGear 10 = .ok (.invokevirtual 107, 3) := by decide +kernel
theorem dX11_addGear_13 : decode cX11_addGear 13 = .ok (.ireturn, 1) := by decide +kernel
set_option maxRecDepth 20000 in
theorem ggX11_haveSprings_X11_turns : GoodIn wsX11_haveSprings wsX11_turns := goodIn_ca (goodIn_ca (goodIn_r _ [6, 1, 7, 8, 9, 10, 11, 5, 12, 13, 14, 15, 16, 17, 18, 19, 20, 21, 30, 31, 32, 33, 34, 35, 36, 37, 38, 39, 40, 41, 42, 43, 44, 45, 46, 47] (by decide +kernel) (by decide +kernel)) (goodIn_sub (fun _ h => List.mem_cons_of_mem _ (List.mem_append_left _ (List.mem_append_right _ h))) (by decide +kernel))) (goodIn_sub (fun _ h => List.mem_cons_of_mem _ (List.mem_append_right _ h)) (by decide +kernel))
set_option maxRecDepth 20000 in
theorem gX11_haveSprings_X11_turns : GoodIn wsX11_haveSprings (wsV RX11 84 RX11 yX11_turns wsX11_turns) := goodIn_app (goodIn_of _ (by decide +kernel)) ggX11_haveSprings_X11_turns
set_option maxRecDepth 20000 in
theorem ggX11_haveSprings_X11_springIn : GoodIn wsX11_haveSprings wsX11_springIn := goodIn_ca (goodIn_r _ [25, 1, 26, 27, 28, 5, 29, 18, 19, 20, 21, 13, 30, 31, 32, 33, 34, 35, 36, 37, 38, 39, 40, 41, 42, 43, 44, 45, 46, 47] (by decide +kernel) (by decide +kernel)) (goodIn_sub (fun _ h => List.mem_cons_of_mem _ (List.mem_append_left _ (List.mem_append_right _ h))) (by decide +kernel))
set_option maxRecDepth 20000 in
theorem gX11_haveSprings_X11_springIn : GoodIn wsX11_haveSprings (wsV RX11 110 RX11 yX11_springIn wsX11_springIn) := goodIn_app (goodIn_of _ (by decide +kernel)) ggX11_haveSprings_X11_springIn
theorem dX11_haveSprings_0 : decode cX11_haveSprings 0 = .ok (.aload_n 0, 1) := by decide +kernel
theorem dX11_haveSprings_1 : decode cX11_haveSprings 1 = .ok (.iload_n 2, 1) := by decide +kernel
theorem dX11_haveSprings_2 : decode cX11_haveSprings 2 = .ok (.invokevirtual 84, 3) := by decide +kernel
theorem dX11_haveSprings_5 : decode cX11_haveSprings 5 = .ok (.aload_n 0, 1) := by decide +kernel
theorem dX11_haveSprings_6 : decode cX11_haveSprings 6 = .ok (.invokevirtual 110, 3) := by decide +kernel
theorem dX11_haveSprings_9 : decode cX11_haveSprings 9 = .ok (.iconst (-1), 1) := by decide +kernel
theorem dX11_haveSprings_10 : decode cX11_haveSprings 10 = .ok (.if_icmp .eq 7, 3) := by decide +kernel
theorem dX11_haveSprings_13 : decode cX11_haveSprings 13 = .ok (.iconst 1, 1) := by decide +kernel
theorem dX11_haveSprings_14 : decode cX11_haveSprings 14 = .ok (.goto 4, 3) := by decide +kernel
theorem dX11_haveSprings_17 : decode cX11_haveSprings 17 = .ok (.iconst 0, 1) := by decide +kernel
theorem dX11_haveSprings_18 : decode cX11_haveSprings 18 = .ok (.istore_n 3, 1) := by decide +kernel
theorem dX11_haveSprings_19 : decode cX11_haveSprings 19 = .ok (.aload_n 0, 1) := by decide +kernel
theorem dX11_haveSprings_20 : decode cX11_haveSprings 20 = .ok (.iload_n 1, 1) := by decide +kernel
theorem dX11_haveSprings_21 : decode cX11_haveSprings 21 = .ok (.invokevirtual 84, 3) := by decide +kernel
theorem dX11_haveSprings_24 : decode cX11_haveSprings 24 = .ok (.aload_n 0, 1) := by decide +kernel
theorem dX11_haveSprings_25 : decode cX11_haveSprings 25 = .ok (.getfield 39, 3) := by decide +kernel
theorem dX11_haveSprings_28 : decode cX11_haveSprings 28 = .ok (.iload_n 2, 1) := by decide +kernel
theorem dX11_haveSprings_29 : decode cX11_haveSprings 29 = .ok (.baload, 1) := by decide +kernel
theorem dX11_haveSprings_30 : decode cX11_haveSprings 30 = .ok (.ifCond .ne 19, 3) := by decide +kernel
theorem dX11_haveSprings_33 : decode cX11_haveSprings 33 = .ok (.iload_n 3, 1) := by decide +kernel
theorem dX11_haveSprings_34 : decode cX11_haveSprings 34 = .ok (.ifCond .eq 15, 3) := by decide +kernel
theorem dX11_haveSprings_37 : decode cX11_haveSprings 37 = .ok (.aload_n 0, 1) := by decide +kernel
theorem dX11_haveSprings_38 : decode cX11_haveSprings 38 = .ok (.invokevirtual 110, 3) := by decide +kernel
theorem dX11_haveSprings_41 : decode cX11_haveSprings 41 = .ok (.iconst (-1), 1) := by decide +kernel
theorem dX11_haveSprings_42 : decode cX11_haveSprings 42 = .ok (.if_icmp .eq 7, 3) := by decide +kernel
theorem dX11_haveSprings_45 : decode cX11_haveSprings 45 = .ok (.iconst 1, 1) := by decide +kernel
theorem dX11_haveSprings_46 : decode cX11_haveSprings 46 = .ok (.goto 4, 3) := by decide +kernel
theorem dX11_haveSprings_49 : decode cX11_haveSprings 49 = .ok (.iconst 0, 1) := by decide +kernel
theorem dX11_haveSprings_50 : decode cX11_haveSprings 50 = .ok (.ireturn, 1) := by decide +kernel
set_option maxRecDepth 20000 in
theorem ggX11_joins_X11_areGears : GoodIn wsX11_joins wsX11_areGears := goodIn_ca (goodIn_r _ [10, 11, 12, 13, 9, 14, 15, 16, 17, 18, 3, 19, 20, 21, 63, 64, 65, 66, 67, 68, 69, 70, 71, 72, 73, 74, 75, 76, 77, 78, 79, 80] (by decide +kernel) (by decide +kernel)) (goodIn_sub (fun _ h => List.mem_cons_of_mem _ (List.mem_append_left _ (List.mem_append_right _ h))) (by decide +kernel))
set_option maxRecDepth 20000 in
theorem gX11_joins_X11_areGears : GoodIn wsX11_joins (wsV RX11 113 RX11 yX11_areGears wsX11_areGears) := goodIn_app (goodIn_of _ (by decide +kernel)) ggX11_joins_X11_areGears
set_option maxRecDepth 20000 in
theorem ggX11_joins_X11_fails : GoodIn wsX11_joins wsX11_fails := goodIn_r _ [25, 26, 63, 64, 65, 66, 67, 68, 69, 70, 71, 72, 73, 74, 75, 76, 77, 78, 79, 80] (by decide +kernel) (by decide +kernel)
set_option maxRecDepth 20000 in
theorem gX11_joins_X11_fails : GoodIn wsX11_joins (wsV RX11 95 RX11 yX11_fails wsX11_fails) := goodIn_app (goodIn_of _ (by decide +kernel)) ggX11_joins_X11_fails
set_option maxRecDepth 20000 in
theorem ggX11_joins_X11_jointOf : GoodIn wsX11_joins wsX11_jointOf := goodIn_ca (goodIn_r _ [30, 15, 16, 17, 9, 18, 3, 63, 64, 65, 66, 67, 68, 69, 70, 71, 72, 73, 74, 75, 76, 77, 78, 79, 80] (by decide +kernel) (by decide +kernel)) (goodIn_sub (fun _ h => List.mem_cons_of_mem _ (List.mem_append_left _ (List.mem_append_right _ h))) (by decide +kernel))
set_option maxRecDepth 20000 in
theorem gX11_joins_X11_jointOf : GoodIn wsX11_joins (wsV RX11 73 RX11 yX11_jointOf wsX11_jointOf) := goodIn_app (goodIn_of _ (by decide +kernel)) ggX11_joins_X11_jointOf
set_option maxRecDepth 20000 in
theorem ggX11_joins_X11_joints : GoodIn wsX11_joins wsX11_joints := goodIn_ca (goodIn_r _ [34, 3, 63, 64, 65, 66, 67, 68, 69, 70, 71, 72, 73, 74, 75, 76, 77, 78, 79, 80] (by decide +kernel) (by decide +kernel)) (goodIn_sub (fun _ h => List.mem_cons_of_mem _ (List.mem_append_left _ (List.mem_append_right _ h))) (by decide +kernel))
set_option maxRecDepth 20000 in
theorem gX11_joins_X11_joints : GoodIn wsX11_joins (wsV RX11 116 RX11 yX11_joints wsX11_joints) := goodIn_app (goodIn_of _ (by decide +kernel)) ggX11_joins_X11_joints
set_option maxRecDepth 20000 in
theorem ggX11_joins_X11_haveSprings : GoodIn wsX11_joins wsX11_haveSprings := goodIn_ca (goodIn_ca (goodIn_r _ [38, 4, 39, 40, 41, 9, 42, 5, 1, 43, 44, 45, 46, 3, 27, 28, 29, 30, 15, 16, 17, 18, 47, 48, 49, 50, 51, 52, 53, 54, 63, 64, 65, 66, 67, 68, 69, 70, 71, 72, 73, 74, 75, 76, 77, 78, 79, 80] (by decide +kernel) (by decide +kernel)) (goodIn_sub (fun _ h => List.mem_cons_of_mem _ (List.mem_append_left _ (List.mem_append_right _ h))) (by decide +kernel))) (goodIn_sub (fun _ h => List.mem_cons_of_mem _ (List.mem_append_right _ h)) (by decide +kernel))
set_option maxRecDepth 20000 in
theorem gX11_joins_X11_haveSprings : GoodIn wsX11_joins (wsV RX11 119 RX11 yX11_haveSprings wsX11_haveSprings) := goodIn_app (goodIn_of _ (by decide +kernel)) ggX11_joins_X11_haveSprings
set_option maxRecDepth 20000 in
theorem ggX11_joins_X11_turns : GoodIn wsX11_joins wsX11_turns := goodIn_ca (goodIn_ca (goodIn_r _ [42, 4, 5, 1, 43, 44, 45, 9, 46, 3, 27, 28, 29, 30, 15, 16, 17, 18, 63, 64, 65, 66, 67, 68, 69, 70, 71, 72, 73, 74, 75, 76, 77, 78, 79, 80] (by decide +kernel) (by decide +kernel)) (goodIn_sub (fun _ h => List.mem_cons_of_mem _ (List.mem_append_left _ (List.mem_append_right _ h))) (by decide +kernel))) (goodIn_sub (fun _ h => List.mem_cons_of_mem _ (List.mem_append_right _ h)) (by decide +kernel))
set_option maxRecDepth 20000 in
theorem gX11_joins_X11_turns : GoodIn wsX11_joins (wsV RX11 84 RX11 yX11_turns wsX11_turns) := goodIn_app (goodIn_of _ (by decide +kernel)) ggX11_joins_X11_turns
set_option maxRecDepth 20000 in
theorem ggX11_joins_X11_members : GoodIn wsX11_joins wsX11_members := goodIn_ca (goodIn_r _ [58, 4, 63, 64, 65, 66, 67, 68, 69, 70, 71, 72, 73, 74, 75, 76, 77, 78, 79, 80] (by decide +kernel) (by decide +kernel)) (goodIn_sub (fun _ h => List.mem_cons_of_mem _ (List.mem_append_left _ (List.mem_append_right _ h))) (by decide +kernel))
set_option maxRecDepth 20000 in
theorem gX11_joins_X11_members : GoodIn wsX11_joins (wsV RX11 88 RX11 yX11_members wsX11_members) := goodIn_app (goodIn_of _ (by decide +kernel)) ggX11_joins_X11_members
set_option maxRecDepth 20000 in
theorem ggX11_joins_X11_done : GoodIn wsX11_joins wsX11_done := goodIn_r _ [62, 26, 63, 64, 65, 66, 67, 68, 69, 70, 71, 72, 73, 74, 75, 76, 77, 78, 79, 80] (by decide +kernel) (by decide +kernel)
set_option maxRecDepth 20000 in
theorem gX11_joins_X11_done : GoodIn wsX11_joins (wsV RX11 98 RX11 yX11_done wsX11_done) := goodIn_app (goodIn_of _ (by decide +kernel)) ggX11_joins_X11_done
theorem dX11_joins_0 : decode cX11_joins 0 = .ok (.aload_n 0, 1) := by decide +kernel
theorem dX11_joins_1 : decode cX11_joins 1 = .ok (.iload_n 1, 1) := by decide +kernel
theorem dX11_joins_2 : decode cX11_joins 2 = .ok (.iload_n 2, 1) := by decide +kernel
theorem dX11_joins_3 : decode cX11_joins 3 = .ok (.invokevirtual 113, 3) := by decide +kernel
theorem dX11_joins_6 : decode cX11_joins 6 = .ok (.ifCond .ne 9, 3) := by decide +kernel
theorem dX11_joins_9 : decode cX11_joins 9 = .ok (.aload_n 0, 1) := by decide +kernel
theorem dX11_joins_10 : decode cX11_joins 10 = .ok (.iconst 1, 1) := by decide +kernel
theorem dX11_joins_11 : decode cX11_joins 11 = .ok (.invokevirtual 95, 3) := by decide +kernel
theorem dX11_joins_14 : decode cX11_joins 14 = .ok (.ireturn, 1) := by decide +kernel
theorem dX11_joins_15 : decode cX11_joins 15 = .ok (.iload_n 1, 1) := by decide +kernel
theorem dX11_joins_16 : decode cX11_joins 16 = .ok (.iload_n 2, 1) := by decide +kernel
theorem dX11_joins_17 : decode cX11_joins 17 = .ok (.if_icmp .ne 9, 3) := by decide +kernel
theorem dX11_joins_20 : decode cX11_joins 20 = .ok (.aload_n 0, 1) := by decide +kernel
theorem dX11_joins_21 : decode cX11_joins 21 = .ok (.iconst 2, 1) := by decide +kernel
theorem dX11_joins_22 : decode cX11_joins 22 = .ok (.invokevirtual 95, 3) := by decide +kernel
theorem dX11_joins_25 : decode cX11_joins 25 = .ok (.ireturn, 1) := by decide +kernel
theorem dX11_joins_26 : decode cX11_joins 26 = .ok (.aload_n 0, 1) := by decide +kernel
theorem dX11_joins_27 : decode cX11_joins 27 = .ok (.iload_n 1, 1) := by decide +kernel
theorem dX11_joins_28 : decode cX11_joins 28 = .ok (.iload_n 2, 1) := by decide +kernel
theorem dX11_joins_29 : decode cX11_joins 29 = .ok (.invokevirtual 73, 3) := by decide +kernel
theorem dX11_joins_32 : decode cX11_joins 32 = .ok (.ifCond .ne 21, 3) := by decide +kernel
theorem dX11_joins_35 : decode cX11_joins 35 = .ok (.aload_n 0, 1) := by decide +kernel
theorem dX11_joins_36 : decode cX11_joins 36 = .ok (.invokevirtual 116, 3) := by decide +kernel
theorem dX11_joins_39 : decode cX11_joins 39 = .ok (.bipush 15, 2) := by decide +kernel
theorem dX11_joins_41 : decode cX11_joins 41 = .ok (.if_icmp .eq 12, 3) := by decide +kernel
theorem dX11_joins_44 : decode cX11_joins 44 = .ok (.aload_n 0, 1) := by decide +kernel
theorem dX11_joins_45 : decode cX11_joins 45 = .ok (.iload_n 1, 1) := by decide +kernel
theorem dX11_joins_46 : decode cX11_joins 46 = .ok (.iload_n 2, 1) := by decide +kernel
theorem dX11_joins_47 : decode cX11_joins 47 = .ok (.invokevirtual 119, 3) := by decide +kernel
theorem dX11_joins_50 : decode cX11_joins 50 = .ok (.ifCond .eq 9, 3) := by decide +kernel
theorem dX11_joins_53 : decode cX11_joins 53 = .ok (.aload_n 0, 1) := by decide +kernel
theorem dX11_joins_54 : decode cX11_joins 54 = .ok (.iconst 3, 1) := by decide +kernel
theorem dX11_joins_55 : decode cX11_joins 55 = .ok (.invokevirtual 95, 3) := by decide +kernel
theorem dX11_joins_58 : decode cX11_joins 58 = .ok (.ireturn, 1) := by decide +kernel
theorem dX11_joins_59 : decode cX11_joins 59 = .ok (.iload_n 3, 1) := by decide +kernel
theorem dX11_joins_60 : decode cX11_joins 60 = .ok (.iconst 2, 1) := by decide +kernel
theorem dX11_joins_61 : decode cX11_joins 61 = .ok (.if_icmp .ne 9, 3) := by decide +kernel
theorem dX11_joins_64 : decode cX11_joins 64 = .ok (.ldc2_w 52, 3) := by decide +kernel
theorem dX11_joins_67 : decode cX11_joins 67 = .ok (.goto 26, 3) := by decide +kernel
theorem dX11_joins_70 : decode cX11_joins 70 = .ok (.ldc2_w 122, 3) := by decide +kernel
theorem dX11_joins_73 : decode cX11_joins 73 = .ok (.aload_n 0, 1) := by decide +kernel
theorem dX11_joins_74 : decode cX11_joins 74 = .ok (.getfield 7, 3) := by decide +kernel
theorem dX11_joins_77 : decode cX11_joins 77 = .ok (.bipush 6, 2) := by decide +kernel
theorem dX11_joins_79 : decode cX11_joins 79 = .ok (.iload_n 1, 1) := by decide +kernel
theorem dX11_joins_80 : decode cX11_joins 80 = .ok (.iadd, 1) := by decide +kernel
theorem dX11_joins_81 : decode cX11_joins 81 = .ok (.laload, 1) := by decide +kernel
theorem dX11_joins_82 : decode cX11_joins 82 = .ok (.lmul, 1) := by decide +kernel
theorem dX11_joins_83 : decode cX11_joins 83 = .ok (.aload_n 0, 1) := by decide +kernel
theorem dX11_joins_84 : decode cX11_joins 84 = .ok (.getfield 7, 3) := by decide +kernel
theorem dX11_joins_87 : decode cX11_joins 87 = .ok (.bipush 6, 2) := by decide +kernel
theorem dX11_joins_89 : decode cX11_joins 89 = .ok (.iload_n 2, 1) := by decide +kernel
theorem dX11_joins_90 : decode cX11_joins 90 = .ok (.iadd, 1) := by decide +kernel
theorem dX11_joins_91 : decode cX11_joins 91 = .ok (.laload, 1) := by decide +kernel
theorem dX11_joins_92 : decode cX11_joins 92 = .ok (.ldiv, 1) := by decide +kernel
theorem dX11_joins_93 : decode cX11_joins 93 = .ok (.lstore 4, 2) := by decide +kernel
theorem dX11_joins_95 : decode cX11_joins 95 = .ok (.aload_n 0, 1) := by decide +kernel
theorem dX11_joins_96 : decode cX11_joins 96 = .ok (.iload_n 1, 1) := by decide +kernel
theorem dX11_joins_97 : decode cX11_joins 97 = .ok (.invokevirtual 84, 3) := by decide +kernel
theorem dX11_joins_100 : decode cX11_joins 100 = .ok (.aload_n 0, 1) := by decide +kernel
theorem dX11_joins_101 : decode cX11_joins 101 = .ok (.getfield 39, 3) := by decide +kernel
theorem dX11_joins_104 : decode cX11_joins 104 = .ok (.iload_n 2, 1) := by decide +kernel
theorem dX11_joins_105 : decode cX11_joins 105 = .ok (.baload, 1) := by decide +kernel
theorem dX11_joins_106 : decode cX11_joins 106 = .ok (.ifCond .eq 21, 3) := by decide +kernel
theorem dX11_joins_109 : decode cX11_joins 109 = .ok (.aload_n 0, 1) := by decide +kernel
theorem dX11_joins_110 : decode cX11_joins 110 = .ok (.getfield 36, 3) := by decide +kernel
theorem dX11_joins_113 : decode cX11_joins 113 = .ok (.iload_n 2, 1) := by decide +kernel
theorem dX11_joins_114 : decode cX11_joins 114 = .ok (.laload, 1) := by decide +kernel
theorem dX11_joins_115 : decode cX11_joins 115 = .ok (.lload 4, 2) := by decide +kernel
theorem dX11_joins_117 : decode cX11_joins 117 = .ok (.lcmp, 1) := by decide +kernel
theorem dX11_joins_118 : decode cX11_joins 118 = .ok (.ifCond .eq 9, 3) := by decide +kernel
theorem dX11_joins_121 : decode cX11_joins 121 = .ok (.aload_n 0, 1) := by decide +kernel
theorem dX11_joins_122 : decode cX11_joins 122 = .ok (.iconst 4, 1) := by decide +kernel
theorem dX11_joins_123 : decode cX11_joins 123 = .ok (.invokevirtual 95, 3) := by decide +kernel
theorem dX11_joins_126 : decode cX11_joins 126 = .ok (.ireturn, 1) := by decide +kernel
theorem dX11_joins_127 : decode cX11_joins 127 = .ok (.aload_n 0, 1) := by decide +kernel
theorem dX11_joins_128 : decode cX11_joins 128 = .ok (.getfield 7, 3) := by decide +kernel
theorem dX11_joins_131 : decode cX11_joins 131 = .ok (.bipush 92, 2) := by decide +kernel
theorem dX11_joins_133 : decode cX11_joins 133 = .ok (.bipush 10, 2) := by decide +kernel
theorem dX11_joins_135 : decode cX11_joins 135 = .ok (.iload_n 1, 1) := by decide +kernel
theorem dX11_joins_136 : decode cX11_joins 136 = .ok (.imul, 1) := by decide +kernel
theorem dX11_joins_137 : decode cX11_joins 137 = .ok (.iadd, 1) := by decide +kernel
theorem dX11_joins_138 : decode cX11_joins 138 = .ok (.iload_n 2, 1) := by decide +kernel
theorem dX11_joins_139 : decode cX11_joins 139 = .ok (.iadd, 1) := by decide +kernel
theorem dX11_joins_140 : decode cX11_joins 140 = .ok (.iload_n 3, 1) := by decide +kernel
theorem dX11_joins_141 : decode cX11_joins 141 = .ok (.i2l, 1) := by decide +kernel
theorem dX11_joins_142 : decode cX11_joins 142 = .ok (.lastore, 1) := by decide +kernel
theorem dX11_joins_143 : decode cX11_joins 143 = .ok (.aload_n 0, 1) := by decide +kernel
theorem dX11_joins_144 : decode cX11_joins 144 = .ok (.getfield 7, 3) := by decide +kernel
theorem dX11_joins_147 : decode cX11_joins 147 = .ok (.bipush 92, 2) := by decide +kernel
theorem dX11_joins_149 : decode cX11_joins 149 = .ok (.bipush 10, 2) := by decide +kernel
theorem dX11_joins_151 : decode cX11_joins 151 = .ok (.iload_n 2, 1) := by decide +kernel
theorem dX11_joins_152 : decode cX11_joins 152 = .ok (.imul, 1) := by decide +kernel
theorem dX11_joins_153 : decode cX11_joins 153 = .ok (.iadd, 1) := by decide +kernel
theorem dX11_joins_154 : decode cX11_joins 154 = .ok (.iload_n 1, 1) := by decide +kernel
theorem dX11_joins_155 : decode cX11_joins 155 = .ok (.iadd, 1) := by decide +kernel
theorem dX11_joins_156 : decode cX11_joins 156 = .ok (.iload_n 3, 1) := by decide +kernel
theorem dX11_joins_157 : decode cX11_joins 157 = .ok (.i2l, 1) := by decide +kernel
theorem dX11_joins_158 : decode cX11_joins 158 = .ok (.lastore, 1) := by decide +kernel
theorem dX11_joins_159 : decode cX11_joins 159 = .ok (.aload_n 0, 1) := by decide +kernel
theorem dX11_joins_160 : decode cX11_joins 160 = .ok (.iload_n 1, 1) := by decide +kernel
theorem dX11_joins_161 : decode cX11_joins 161 = .ok (.invokevirtual 84, 3) := by decide +kernel
theorem dX11_joins_164 : decode cX11_joins 164 = .ok (.aload_n 0, 1) := by decide +kernel
theorem dX11_joins_165 : decode cX11_joins 165 = .ok (.aload_n 0, 1) := by decide +kernel
theorem dX11_joins_166 : decode cX11_joins 166 = .ok (.invokevirtual 88, 3) := by decide +kernel
theorem dX11_joins_169 : decode cX11_joins 169 = .ok (.invokevirtual 98, 3) := by decide +kernel
theorem dX11_joins_172 : decode cX11_joins 172 = .ok (.ireturn, 1) := by decide +kernel
set_option maxRecDepth 20000 in
theorem ggX11_mesh_X11_begin : GoodIn wsX11_mesh wsX11_begin := goodIn_ca (goodIn_r _ [5, 6, 7, 8, 9, 4, 10, 81, 82, 83, 84, 85, 86, 87, 88, 89, 90, 91, 92, 93, 94, 95, 96, 97, 98] (by decide +kernel) (by decide +kernel)) (goodIn_sub (fun _ h => List.mem_cons_of_mem _ (List.mem_append_left _ (List.mem_append_right _ h))) (by decide +kernel))
set_option maxRecDepth 20000 in
theorem gX11_mesh_X11_begin : GoodIn wsX11_mesh (wsV RX11 101 RX11 yX11_begin wsX11_begin) := goodIn_app (goodIn_of _ (by decide +kernel)) ggX11_mesh_X11_begin
set_option maxRecDepth 20000 in
theorem ggX11_mesh_X11_joins : GoodIn wsX11_mesh wsX11_joins := goodIn_ca (goodIn_ca (goodIn_r _ [14, 15, 16, 6, 17, 18, 19, 20, 21, 4, 22, 23, 24, 25, 26, 27, 28, 29, 30, 31, 32, 33, 34, 35, 36, 37, 38, 39, 40, 41, 42, 43, 44, 45, 46, 47, 48, 49, 50, 51, 52, 53, 54, 55, 56, 57, 58, 59, 60, 61, 62, 63, 64, 65, 66, 67, 68, 69, 70, 71, 72, 73, 74, 81, 82, 83, 84, 85, 86, 87, 88, 89, 90, 91, 92, 93, 94, 95, 96, 97, 98] (by decide +kernel) (by decide +kernel)) (goodIn_sub (fun _ h => List.mem_cons_of_mem _ (List.mem_append_left _ (List.mem_append_right _ h))) (by decide +kernel))) (goodIn_sub (fun _ h => List.mem_cons_of_mem _ (List.mem_append_right _ h)) (by decide +kernel))
set_option maxRecDepth 20000 in
theorem gX11_mesh_X11_joins : GoodIn wsX11_mesh (wsV RX11 124 RX11 yX11_joins wsX11_joins) := goodIn_app (goodIn_of _ (by decide +kernel)) ggX11_mesh_X11_joins
set_option maxRecDepth 20000 in
theorem ggX11_mesh_X11_kept : GoodIn wsX11_mesh wsX11_kept := goodIn_ca (goodIn_r _ [78, 38, 7, 6, 79, 80, 8, 9, 4, 10, 81, 82, 83, 84, 85, 86, 87, 88, 89, 90, 91, 92, 93, 94, 95, 96, 97, 98] (by decide +kernel) (by decide +kernel)) (goodIn_sub (fun _ h => List.mem_cons_of_mem _ (List.mem_append_left _ (List.mem_append_right _ h))) (by decide +kernel))
set_option maxRecDepth 20000 in
theorem gX11_mesh_X11_kept : GoodIn wsX11_mesh (wsV RX11 107 RX11 yX11_kept wsX11_kept) := goodIn_app (goodIn_of _ (by decide +kernel)) ggX11_mesh_X11_kept
theorem dX11_mesh_0 : decode cX11_mesh 0 = .ok (.aload_n 0, 1) := by decide +kernel
theorem dX11_mesh_1 : decode cX11_mesh 1 = .ok (.invokevirtual 101, 3) := by decide +kernel
theorem dX11_mesh_4 : decode cX11_mesh 4 = .ok (.aload_n 0, 1) := by decide +kernel
theorem dX11_mesh_5 : decode cX11_mesh 5 = .ok (.aload_n 0, 1) := by decide +kernel
theorem dX11_mesh_6 : decode cX11_mesh 6 = .ok (.iload_n 1, 1) := by decide +kernel
theorem dX11_mesh_7 : decode cX11_mesh 7 = .ok (.iload_n 2, 1) := by decide +kernel
theorem dX11_mesh_8 : decode cX11_mesh 8 = .ok (.iconst 1, 1) := by decide +kernel
theorem dX11_mesh_9 : decode cX11_mesh 9 = .ok (.invokevirtual 124, 3) := by decide +kernel
theorem dX11_mesh_12 : decode cX11_mesh 12 = .ok (.invokevirtual 107, 3) := by decide +kernel
theorem dX11_mesh_15 : decode cX11_mesh 15 = .ok (.ireturn, 1) := by decide +kernel
set_option maxRecDepth 20000 in
theorem ggX11_shareAxle_X11_begin : GoodIn wsX11_shareAxle wsX11_begin := goodIn_ca (goodIn_r _ [5, 6, 7, 8, 9, 4, 10, 81, 82, 83, 84, 85, 86, 87, 88, 89, 90, 91, 92, 93, 94, 95, 96, 97, 98] (by decide +kernel) (by decide +kernel)) (goodIn_sub (fun _ h => List.mem_cons_of_mem _ (List.mem_append_left _ (List.mem_append_right _ h))) (by decide +kernel))
set_option maxRecDepth 20000 in
theorem gX11_shareAxle_X11_begin : GoodIn wsX11_shareAxle (wsV RX11 101 RX11 yX11_begin wsX11_begin) := goodIn_app (goodIn_of _ (by decide +kernel)) ggX11_shareAxle_X11_begin
set_option maxRecDepth 20000 in
theorem ggX11_shareAxle_X11_joins : GoodIn wsX11_shareAxle wsX11_joins := goodIn_ca (goodIn_ca (goodIn_r _ [14, 15, 16, 6, 17, 18, 19, 20, 21, 4, 22, 23, 24, 25, 26, 27, 28, 29, 30, 31, 32, 33, 34, 35, 36, 37, 38, 39, 40, 41, 42, 43, 44, 45, 46, 47, 48, 49, 50, 51, 52, 53, 54, 55, 56, 57, 58, 59, 60, 61, 62, 63, 64, 65, 66, 67, 68, 69, 70, 71, 72, 73, 74, 81, 82, 83, 84, 85, 86, 87, 88, 89, 90, 91, 92, 93, 94, 95, 96, 97, 98] (by decide +kernel) (by decide +kernel)) (goodIn_sub (fun _ h => List.mem_cons_of_mem _ (List.mem_append_left _ (List.mem_append_right _ h))) (by decide +kernel))) (goodIn_sub (fun _ h => List.mem_cons_of_mem _ (List.mem_append_right _ h)) (by decide +kernel))
set_option maxRecDepth 20000 in
theorem gX11_shareAxle_X11_joins : GoodIn wsX11_shareAxle (wsV RX11 124 RX11 yX11_joins wsX11_joins) := goodIn_app (goodIn_of _ (by decide +kernel)) ggX11_shareAxle_X11_joins
set_option maxRecDepth 20000 in
theorem ggX11_shareAxle_X11_kept : GoodIn wsX11_shareAxle wsX11_kept := goodIn_ca (goodIn_r _ [78, 38, 7, 6, 79, 80, 8, 9, 4, 10, 81, 82, 83, 84, 85, 86, 87, 88, 89, 90, 91, 92, 93, 94, 95, 96, 97, 98] (by decide +kernel) (by decide +kernel)) (goodIn_sub (fun _ h => List.mem_cons_of_mem _ (List.mem_append_left _ (List.mem_append_right _ h))) (by decide +kernel))
set_option maxRecDepth 20000 in
theorem gX11_shareAxle_X11_kept : GoodIn wsX11_shareAxle (wsV RX11 107 RX11 yX11_kept wsX11_kept) := goodIn_app (goodIn_of _ (by decide +kernel)) ggX11_shareAxle_X11_kept
theorem dX11_shareAxle_0 : decode cX11_shareAxle 0 = .ok (.aload_n 0, 1) := by decide +kernel
theorem dX11_shareAxle_1 : decode cX11_shareAxle 1 = .ok (.invokevirtual 101, 3) := by decide +kernel
theorem dX11_shareAxle_4 : decode cX11_shareAxle 4 = .ok (.aload_n 0, 1) := by decide +kernel
theorem dX11_shareAxle_5 : decode cX11_shareAxle 5 = .ok (.aload_n 0, 1) := by decide +kernel
theorem dX11_shareAxle_6 : decode cX11_shareAxle 6 = .ok (.iload_n 1, 1) := by decide +kernel
theorem dX11_shareAxle_7 : decode cX11_shareAxle 7 = .ok (.iload_n 2, 1) := by decide +kernel
theorem dX11_shareAxle_8 : decode cX11_shareAxle 8 = .ok (.iconst 2, 1) := by decide +kernel
theorem dX11_shareAxle_9 : decode cX11_shareAxle 9 = .ok (.invokevirtual 124, 3) := by decide +kernel
theorem dX11_shareAxle_12 : decode cX11_shareAxle 12 = .ok (.invokevirtual 107, 3) := by decide +kernel
theorem dX11_shareAxle_15 : decode cX11_shareAxle 15 = .ok (.ireturn, 1) := by decide +kernel
set_option maxRecDepth 20000 in
theorem ggX11_parts_X11_areGears : GoodIn wsX11_parts wsX11_areGears := goodIn_ca (goodIn_r _ [6, 7, 8, 9, 5, 10, 11, 12, 13, 14, 1, 15, 16, 17, 35, 36, 37, 38, 39, 40, 41, 42, 43, 44, 45, 46, 47, 48, 49, 50, 51, 52] (by decide +kernel) (by decide +kernel)) (goodIn_sub (fun _ h => List.mem_cons_of_mem _ (List.mem_append_right _ h)) (by decide +kernel))
set_option maxRecDepth 20000 in
theorem gX11_parts_X11_areGears : GoodIn wsX11_parts (wsV RX11 113 RX11 yX11_areGears wsX11_areGears) := goodIn_app (goodIn_of _ (by decide +kernel)) ggX11_parts_X11_areGears
set_option maxRecDepth 20000 in
theorem ggX11_parts_X11_fails : GoodIn wsX11_parts wsX11_fails := goodIn_r _ [21, 22, 35, 36, 37, 38, 39, 40, 41, 42, 43, 44, 45, 46, 47, 48, 49, 50, 51, 52] (by decide +kernel) (by decide +kernel)
set_option maxRecDepth 20000 in
theorem gX11_parts_X11_fails : GoodIn wsX11_parts (wsV RX11 95 RX11 yX11_fails wsX11_fails) := goodIn_app (goodIn_of _ (by decide +kernel)) ggX11_parts_X11_fails
set_option maxRecDepth 20000 in
theorem ggX11_parts_X11_jointOf : GoodIn wsX11_parts wsX11_jointOf := goodIn_ca (goodIn_r _ [26, 11, 12, 13, 5, 14, 1, 35, 36, 37, 38, 39, 40, 41, 42, 43, 44, 45, 46, 47, 48, 49, 50, 51, 52] (by decide +kernel) (by decide +kernel)) (goodIn_sub (fun _ h => List.mem_cons_of_mem _ (List.mem_append_right _ h)) (by decide +kernel))
set_option maxRecDepth 20000 in
theorem gX11_parts_X11_jointOf : GoodIn wsX11_parts (wsV RX11 73 RX11 yX11_jointOf wsX11_jointOf) := goodIn_app (goodIn_of _ (by decide +kernel)) ggX11_parts_X11_jointOf
set_option maxRecDepth 20000 in
theorem ggX11_parts_X11_joints : GoodIn wsX11_parts wsX11_joints := goodIn_ca (goodIn_r _ [30, 1, 35, 36, 37, 38, 39, 40, 41, 42, 43, 44, 45, 46, 47, 48, 49, 50, 51, 52] (by decide +kernel) (by decide +kernel)) (goodIn_sub (fun _ h => List.mem_cons_of_mem _ (List.mem_append_right _ h)) (by decide +kernel))
set_option maxRecDepth 20000 in
theorem gX11_parts_X11_joints : GoodIn wsX11_parts (wsV RX11 116 RX11 yX11_joints wsX11_joints) := goodIn_app (goodIn_of _ (by decide +kernel)) ggX11_parts_X11_joints
set_option maxRecDepth 20000 in
theorem ggX11_parts_X11_done : GoodIn wsX11_parts wsX11_done := goodIn_r _ [34, 22, 35, 36, 37, 38, 39, 40, 41, 42, 43, 44, 45, 46, 47, 48, 49, 50, 51, 52] (by decide +kernel) (by decide +kernel)
set_option maxRecDepth 20000 in
theorem gX11_parts_X11_done : GoodIn wsX11_parts (wsV RX11 98 RX11 yX11_done wsX11_done) := goodIn_app (goodIn_of _ (by decide +kernel)) ggX11_parts_X11_done
theorem dX11_parts_0 : decode cX11_parts 0 = .ok (.aload_n 0, 1) := by decide +kernel
theorem dX11_parts_1 : decode cX11_parts 1 = .ok (.iload_n 1, 1) := by decide +kernel
theorem dX11_parts_2 : decode cX11_parts 2 = .ok (.iload_n 2, 1) := by decide +kernel
theorem dX11_parts_3 : decode cX11_parts 3 = .ok (.invokevirtual 113, 3) := by decide +kernel
theorem dX11_parts_6 : decode cX11_parts 6 = .ok (.ifCond .ne 9, 3) := by decide +kernel
theorem dX11_parts_9 : decode cX11_parts 9 = .ok (.aload_n 0, 1) := by decide +kernel
theorem dX11_parts_10 : decode cX11_parts 10 = .ok (.iconst 1, 1) := by decide +kernel
theorem dX11_parts_11 : decode cX11_parts 11 = .ok (.invokevirtual 95, 3) := by decide +kernel
theorem dX11_parts_14 : decode cX11_parts 14 = .ok (.ireturn, 1) := by decide +kernel
theorem dX11_parts_15 : decode cX11_parts 15 = .ok (.aload_n 0, 1) := by decide +kernel
theorem dX11_parts_16 : decode cX11_parts 16 = .ok (.iload_n 1, 1) := by decide +kernel
theorem dX11_parts_17 : decode cX11_parts 17 = .ok (.iload_n 2, 1) := by decide +kernel
theorem dX11_parts_18 : decode cX11_parts 18 = .ok (.invokevirtual 73, 3) := by decide +kernel
theorem dX11_parts_21 : decode cX11_parts 21 = .ok (.ifCond .ne 9, 3) := by decide +kernel
theorem dX11_parts_24 : decode cX11_parts 24 = .ok (.aload_n 0, 1) := by decide +kernel
theorem dX11_parts_25 : decode cX11_parts 25 = .ok (.iconst 2, 1) := by decide +kernel
theorem dX11_parts_26 : decode cX11_parts 26 = .ok (.invokevirtual 95, 3) := by decide +kernel
theorem dX11_parts_29 : decode cX11_parts 29 = .ok (.ireturn, 1) := by decide +kernel
theorem dX11_parts_30 : decode cX11_parts 30 = .ok (.aload_n 0, 1) := by decide +kernel
theorem dX11_parts_31 : decode cX11_parts 31 = .ok (.getfield 7, 3) := by decide +kernel
theorem dX11_parts_34 : decode cX11_parts 34 = .ok (.bipush 92, 2) := by decide +kernel
theorem dX11_parts_36 : decode cX11_parts 36 = .ok (.bipush 10, 2) := by decide +kernel
theorem dX11_parts_38 : decode cX11_parts 38 = .ok (.iload_n 1, 1) := by decide +kernel
theorem dX11_parts_39 : decode cX11_parts 39 = .ok (.imul, 1) := by decide +kernel
theorem dX11_parts_40 : decode cX11_parts 40 = .ok (.iadd, 1) := by decide +kernel
theorem dX11_parts_41 : decode cX11_parts 41 = .ok (.iload_n 2, 1) := by decide +kernel
theorem dX11_parts_42 : decode cX11_parts 42 = .ok (.iadd, 1) := by decide +kernel
theorem dX11_parts_43 : decode cX11_parts 43 = .ok (.lconst 0, 1) := by decide +kernel
theorem dX11_parts_44 : decode cX11_parts 44 = .ok (.lastore, 1) := by decide +kernel
theorem dX11_parts_45 : decode cX11_parts 45 = .ok (.aload_n 0, 1) := by decide +kernel
theorem dX11_parts_46 : decode cX11_parts 46 = .ok (.getfield 7, 3) := by decide +kernel
theorem dX11_parts_49 : decode cX11_parts 49 = .ok (.bipush 92, 2) := by decide +kernel
theorem dX11_parts_51 : decode cX11_parts 51 = .ok (.bipush 10, 2) := by decide +kernel
theorem dX11_parts_53 : decode cX11_parts 53 = .ok (.iload_n 2, 1) := by decide +kernel
theorem dX11_parts_54 : decode cX11_parts 54 = .ok (.imul, 1) := by decide +kernel
theorem dX11_parts_55 : decode cX11_parts 55 = .ok (.iadd, 1) := by decide +kernel
theorem dX11_parts_56 : decode cX11_parts 56 = .ok (.iload_n 1, 1) := by decide +kernel
theorem dX11_parts_57 : decode cX11_parts 57 = .ok (.iadd, 1) := by decide +kernel
theorem dX11_parts_58 : decode cX11_parts 58 = .ok (.lconst 0, 1) := by decide +kernel
theorem dX11_parts_59 : decode cX11_parts 59 = .ok (.lastore, 1) := by decide +kernel
theorem dX11_parts_60 : decode cX11_parts 60 = .ok (.aload_n 0, 1) := by decide +kernel
theorem dX11_parts_61 : decode cX11_parts 61 = .ok (.aload_n 0, 1) := by decide +kernel
theorem dX11_parts_62 : decode cX11_parts 62 = .ok (.invokevirtual 116, 3) := by decide +kernel
theorem dX11_parts_65 : decode cX11_parts 65 = .ok (.invokevirtual 98, 3) := by decide +kernel
theorem dX11_parts_68 : decode cX11_parts 68 = .ok (.ireturn, 1) := by decide +kernel
set_option maxRecDepth 20000 in
theorem ggX11_separate_X11_begin : GoodIn wsX11_separate wsX11_begin := goodIn_ca (goodIn_r _ [5, 6, 7, 8, 9, 4, 10, 53, 54, 55, 56, 57, 58, 59, 60, 61, 62, 63, 64, 65, 66, 67, 68, 69, 70] (by decide +kernel) (by decide +kernel)) (goodIn_sub (fun _ h => List.mem_cons_of_mem _ (List.mem_append_right _ h)) (by decide +kernel))
set_option maxRecDepth 20000 in
theorem gX11_separate_X11_begin : GoodIn wsX11_separate (wsV RX11 101 RX11 yX11_begin wsX11_begin) := goodIn_app (goodIn_of _ (by decide +kernel)) ggX11_separate_X11_begin
set_option maxRecDepth 20000 in
theorem ggX11_separate_X11_parts : GoodIn wsX11_separate wsX11_parts := goodIn_ca (goodIn_r _ [14, 6, 15, 16, 17, 4, 18, 19, 20, 21, 22, 23, 24, 25, 26, 27, 28, 29, 30, 31, 32, 33, 34, 35, 36, 37, 38, 39, 40, 41, 42, 43, 44, 45, 46, 53, 54, 55, 56, 57, 58, 59, 60, 61, 62, 63, 64, 65, 66, 67, 68, 69, 70] (by decide +kernel) (by decide +kernel)) (goodIn_sub (fun _ h => List.mem_cons_of_mem _ (List.mem_append_right _ h)) (by decide +kernel))
set_option maxRecDepth 20000 in
theorem gX11_separate_X11_parts : GoodIn wsX11_separate (wsV RX11 128 RX11 yX11_parts wsX11_parts) := goodIn_app (goodIn_of _ (by decide +kernel)) ggX11_separate_X11_parts
set_option maxRecDepth 20000 in
theorem ggX11_separate_X11_kept : GoodIn wsX11_separate wsX11_kept := goodIn_ca (goodIn_r _ [50, 34, 7, 6, 51, 52, 8, 9, 4, 10, 53, 54, 55, 56, 57, 58, 59, 60, 61, 62, 63, 64, 65, 66, 67, 68, 69, 70] (by decide +kernel) (by decide +kernel)) (goodIn_sub (fun _ h => List.mem_cons_of_mem _ (List.mem_append_right _ h)) (by decide +kernel))
set_option maxRecDepth 20000 in
theorem gX11_separate_X11_kept : GoodIn wsX11_separate (wsV RX11 107 RX11 yX11_kept wsX11_kept) := goodIn_app (goodIn_of _ (by decide +kernel)) ggX11_separate_X11_kept
theorem dX11_separate_0 : decode cX11_separate 0 = .ok (.aload_n 0, 1) := by decide +kernel
theorem dX11_separate_1 : decode cX11_separate 1 = .ok (.invokevirtual 101, 3) := by decide +kernel
theorem dX11_separate_4 : decode cX11_separate 4 = .ok (.aload_n 0, 1) := by decide +kernel
theorem dX11_separate_5 : decode cX11_separate 5 = .ok (.aload_n 0, 1) := by decide +kernel
theorem dX11_separate_6 : decode cX11_separate 6 = .ok (.iload_n 1, 1) := by decide +kernel
theorem dX11_separate_7 : decode cX11_separate 7 = .ok (.iload_n 2, 1) := by decide +kernel
theorem dX11_separate_8 : decode cX11_separate 8 = .ok (.invokevirtual 128, 3) := by decide +kernel
theorem dX11_separate_11 : decode cX11_separate 11 = .ok (.invokevirtual 107, 3) := by decide +kernel
theorem dX11_separate_14 : decode cX11_separate 14 = .ok (.ireturn, 1) := by decide +kernel
set_option maxRecDepth 20000 in
theorem ggX11_sets_X11_isGear : GoodIn wsX11_sets wsX11_isGear := goodIn_ca (goodIn_r _ [6, 7, 8, 9, 5, 10, 1, 11, 12, 13, 46, 47, 48, 49, 50, 51, 52, 53, 54, 55, 56, 57, 58, 59, 60, 61, 62, 63] (by decide +kernel) (by decide +kernel)) (goodIn_sub (fun _ h => List.mem_cons_of_mem _ (List.mem_append_left _ (List.mem_append_right _ h))) (by decide +kernel))
set_option maxRecDepth 20000 in
theorem gX11_sets_X11_isGear : GoodIn wsX11_sets (wsV RX11 69 RX11 yX11_isGear wsX11_isGear) := goodIn_app (goodIn_of _ (by decide +kernel)) ggX11_sets_X11_isGear
set_option maxRecDepth 20000 in
theorem ggX11_sets_X11_fails : GoodIn wsX11_sets wsX11_fails := goodIn_r _ [17, 18, 46, 47, 48, 49, 50, 51, 52, 53, 54, 55, 56, 57, 58, 59, 60, 61, 62, 63] (by decide +kernel) (by decide +kernel)
set_option maxRecDepth 20000 in
theorem gX11_sets_X11_fails : GoodIn wsX11_sets (wsV RX11 95 RX11 yX11_fails wsX11_fails) := goodIn_app (goodIn_of _ (by decide +kernel)) ggX11_sets_X11_fails
set_option maxRecDepth 20000 in
theorem ggX11_sets_X11_in : GoodIn wsX11_sets wsX11_in := goodIn_r _ [13] (by decide +kernel) (by decide +kernel)
set_option maxRecDepth 20000 in
theorem gX11_sets_X11_in : GoodIn wsX11_sets (va_wsS RX11 65 yX11_in wsX11_in) := goodIn_app (goodIn_of _ (by decide +kernel)) ggX11_sets_X11_in
set_option maxRecDepth 20000 in
theorem ggX11_sets_X11_turns : GoodIn wsX11_sets wsX11_turns := goodIn_ca (goodIn_ca (goodIn_r _ [22, 23, 24, 25, 26, 27, 28, 5, 29, 1, 30, 31, 32, 33, 7, 8, 9, 10, 46, 47, 48, 49, 50, 51, 52, 53, 54, 55, 56, 57, 58, 59, 60, 61, 62, 63] (by decide +kernel) (by decide +kernel)) (goodIn_sub (fun _ h => List.mem_cons_of_mem _ (List.mem_append_left _ (List.mem_append_right _ h))) (by decide +kernel))) (goodIn_sub (fun _ h => List.mem_cons_of_mem _ (List.mem_append_right _ h)) (by decide +kernel))
set_option maxRecDepth 20000 in
theorem gX11_sets_X11_turns : GoodIn wsX11_sets (wsV RX11 84 RX11 yX11_turns wsX11_turns) := goodIn_app (goodIn_of _ (by decide +kernel)) ggX11_sets_X11_turns
set_option maxRecDepth 20000 in
theorem ggX11_sets_X11_springIn : GoodIn wsX11_sets wsX11_springIn := goodIn_ca (goodIn_r _ [37, 23, 38, 39, 40, 5, 41, 7, 8, 9, 10, 1, 46, 47, 48, 49, 50, 51, 52, 53, 54, 55, 56, 57, 58, 59, 60, 61, 62, 63] (by decide +kernel) (by decide +kernel)) (goodIn_sub (fun _ h => List.mem_cons_of_mem _ (List.mem_append_left _ (List.mem_append_right _ h))) (by decide +kernel))
set_option maxRecDepth 20000 in
theorem gX11_sets_X11_springIn : GoodIn wsX11_sets (wsV RX11 110 RX11 yX11_springIn wsX11_springIn) := goodIn_app (goodIn_of _ (by decide +kernel)) ggX11_sets_X11_springIn
set_option maxRecDepth 20000 in
theorem ggX11_sets_X11_hasSpring : GoodIn wsX11_sets wsX11_hasSpring := goodIn_ca (goodIn_r _ [41, 7, 8, 9, 5, 10, 1, 46, 47, 48, 49, 50, 51, 52, 53, 54, 55, 56, 57, 58, 59, 60, 61, 62, 63] (by decide +kernel) (by decide +kernel)) (goodIn_sub (fun _ h => List.mem_cons_of_mem _ (List.mem_append_left _ (List.mem_append_right _ h))) (by decide +kernel))
set_option maxRecDepth 20000 in
theorem gX11_sets_X11_hasSpring : GoodIn wsX11_sets (wsV RX11 81 RX11 yX11_hasSpring wsX11_hasSpring) := goodIn_app (goodIn_of _ (by decide +kernel)) ggX11_sets_X11_hasSpring
set_option maxRecDepth 20000 in
theorem ggX11_sets_X11_done : GoodIn wsX11_sets wsX11_done := goodIn_r _ [45, 18, 46, 47, 48, 49, 50, 51, 52, 53, 54, 55, 56, 57, 58, 59, 60, 61, 62, 63] (by decide +kernel) (by decide +kernel)
set_option maxRecDepth 20000 in
theorem gX11_sets_X11_done : GoodIn wsX11_sets (wsV RX11 98 RX11 yX11_done wsX11_done) := goodIn_app (goodIn_of _ (by decide +kernel)) ggX11_sets_X11_done
theorem dX11_sets_0 : decode cX11_sets 0 = .ok (.aload_n 0, 1) := by decide +kernel
theorem dX11_sets_1 : decode cX11_sets 1 = .ok (.iload_n 1, 1) := by decide +kernel
theorem dX11_sets_2 : decode cX11_sets 2 = .ok (.invokevirtual 69, 3) := by decide +kernel
theorem dX11_sets_5 : decode cX11_sets 5 = .ok (.ifCond .ne 9, 3) := by decide +kernel
theorem dX11_sets_8 : decode cX11_sets 8 = .ok (.aload_n 0, 1) := by decide +kernel
theorem dX11_sets_9 : decode cX11_sets 9 = .ok (.iconst 1, 1) := by decide +kernel
theorem dX11_sets_10 : decode cX11_sets 10 = .ok (.invokevirtual 95, 3) := by decide +kernel
theorem dX11_sets_13 : decode cX11_sets 13 = .ok (.ireturn, 1) := by decide +kernel
theorem dX11_sets_14 : decode cX11_sets 14 = .ok (.iload_n 2, 1) := by decide +kernel
theorem dX11_sets_15 : decode cX11_sets 15 = .ok (.bipush 10, 2) := by decide +kernel
theorem dX11_sets_17 : decode cX11_sets 17 = .ok (.sipush 200, 3) := by decide +kernel
theorem dX11_sets_20 : decode cX11_sets 20 = .ok (.invokestatic 65, 3) := by decide +kernel
theorem dX11_sets_23 : decode cX11_sets 23 = .ok (.ifCond .ne 9, 3) := by decide +kernel
theorem dX11_sets_26 : decode cX11_sets 26 = .ok (.aload_n 0, 1) := by decide +kernel
theorem dX11_sets_27 : decode cX11_sets 27 = .ok (.iconst 2, 1) := by decide +kernel
theorem dX11_sets_28 : decode cX11_sets 28 = .ok (.invokevirtual 95, 3) := by decide +kernel
theorem dX11_sets_31 : decode cX11_sets 31 = .ok (.ireturn, 1) := by decide +kernel
theorem dX11_sets_32 : decode cX11_sets 32 = .ok (.aload_n 0, 1) := by decide +kernel
theorem dX11_sets_33 : decode cX11_sets 33 = .ok (.iload_n 1, 1) := by decide +kernel
theorem dX11_sets_34 : decode cX11_sets 34 = .ok (.invokevirtual 84, 3) := by decide +kernel
theorem dX11_sets_37 : decode cX11_sets 37 = .ok (.aload_n 0, 1) := by decide +kernel
theorem dX11_sets_38 : decode cX11_sets 38 = .ok (.invokevirtual 110, 3) := by decide +kernel
theorem dX11_sets_41 : decode cX11_sets 41 = .ok (.iconst (-1), 1) := by decide +kernel
theorem dX11_sets_42 : decode cX11_sets 42 = .ok (.if_icmp .eq 9, 3) := by decide +kernel
theorem dX11_sets_45 : decode cX11_sets 45 = .ok (.aload_n 0, 1) := by decide +kernel
theorem dX11_sets_46 : decode cX11_sets 46 = .ok (.iconst 3, 1) := by decide +kernel
theorem dX11_sets_47 : decode cX11_sets 47 = .ok (.invokevirtual 95, 3) := by decide +kernel
theorem dX11_sets_50 : decode cX11_sets 50 = .ok (.ireturn, 1) := by decide +kernel
theorem dX11_sets_51 : decode cX11_sets 51 = .ok (.aload_n 0, 1) := by decide +kernel
theorem dX11_sets_52 : decode cX11_sets 52 = .ok (.getfield 7, 3) := by decide +kernel
theorem dX11_sets_55 : decode cX11_sets 55 = .ok (.bipush 26, 2) := by decide +kernel
theorem dX11_sets_57 : decode cX11_sets 57 = .ok (.iload_n 1, 1) := by decide +kernel
theorem dX11_sets_58 : decode cX11_sets 58 = .ok (.iadd, 1) := by decide +kernel
theorem dX11_sets_59 : decode cX11_sets 59 = .ok (.iload_n 2, 1) := by decide +kernel
theorem dX11_sets_60 : decode cX11_sets 60 = .ok (.i2l, 1) := by decide +kernel
theorem dX11_sets_61 : decode cX11_sets 61 = .ok (.lastore, 1) := by decide +kernel
theorem dX11_sets_62 : decode cX11_sets 62 = .ok (.iconst 0, 1) := by decide +kernel
theorem dX11_sets_63 : decode cX11_sets 63 = .ok (.istore_n 3, 1) := by decide +kernel
theorem dX11_sets_64 : decode cX11_sets 64 = .ok (.iconst 0, 1) := by decide +kernel
theorem dX11_sets_65 : decode cX11_sets 65 = .ok (.istore 4, 2) := by decide +kernel
theorem dX11_sets_67 : decode cX11_sets 67 = .ok (.iload 4, 2) := by decide +kernel
theorem dX11_sets_69 : decode cX11_sets 69 = .ok (.bipush 10, 2) := by decide +kernel
theorem dX11_sets_71 : decode cX11_sets 71 = .ok (.if_icmp .ge 26, 3) := by decide +kernel
theorem dX11_sets_74 : decode cX11_sets 74 = .ok (.iload_n 3, 1) := by decide +kernel
theorem dX11_sets_75 : decode cX11_sets 75 = .ok (.aload_n 0, 1) := by decide +kernel
theorem dX11_sets_76 : decode cX11_sets 76 = .ok (.iload 4, 2) := by decide +kernel
theorem dX11_sets_78 : decode cX11_sets 78 = .ok (.invokevirtual 81, 3) := by decide +kernel
theorem dX11_sets_81 : decode cX11_sets 81 = .ok (.ifCond .eq 7, 3) := by decide +kernel
theorem dX11_sets_84 : decode cX11_sets 84 = .ok (.iconst 1, 1) := by decide +kernel
theorem dX11_sets_85 : decode cX11_sets 85 = .ok (.goto 4, 3) := by decide +kernel
theorem dX11_sets_88 : decode cX11_sets 88 = .ok (.iconst 0, 1) := by decide +kernel
theorem dX11_sets_89 : decode cX11_sets 89 = .ok (.iadd, 1) := by decide +kernel
theorem dX11_sets_90 : decode cX11_sets 90 = .ok (.istore_n 3, 1) := by decide +kernel
theorem dX11_sets_91 : decode cX11_sets 91 = .ok (.iinc 4 1, 3) := by decide +kernel
theorem dX11_sets_94 : decode cX11_sets 94 = .ok (.goto (-27), 3) := by decide +kernel
theorem dX11_sets_97 : decode cX11_sets 97 = .ok (.aload_n 0, 1) := by decide +kernel
theorem dX11_sets_98 : decode cX11_sets 98 = .ok (.iload_n 3, 1) := by decide +kernel
theorem dX11_sets_99 : decode cX11_sets 99 = .ok (.invokevirtual 98, 3) := by decide +kernel
theorem dX11_sets_102 : decode cX11_sets 102 = .ok (.ireturn, 1) := by decide +kernel
set_option maxRecDepth 20000 in
theorem ggX11_setSpring_X11_begin : GoodIn wsX11_setSpring wsX11_begin := goodIn_ca (goodIn_r _ [5, 6, 7, 8, 9, 4, 10, 64, 65, 66, 67, 68, 69, 70, 71, 72, 73, 74, 75, 76, 77, 78, 79, 80, 81] (by decide +kernel) (by decide +kernel)) (goodIn_sub (fun _ h => List.mem_cons_of_mem _ (List.mem_append_left _ (List.mem_append_right _ h))) (by decide +kernel))
set_option maxRecDepth 20000 in
theorem gX11_setSpring_X11_begin : GoodIn wsX11_setSpring (wsV RX11 101 RX11 yX11_begin wsX11_begin) := goodIn_app (goodIn_of _ (by decide +kernel)) ggX11_setSpring_X11_begin
set_option maxRecDepth 20000 in
theorem ggX11_setSpring_X11_sets : GoodIn wsX11_setSpring wsX11_sets := goodIn_ca (goodIn_ca (goodIn_r _ [14, 6, 15, 16, 17, 4, 18, 19, 20, 21, 22, 23, 24, 25, 26, 27, 28, 29, 30, 31, 32, 33, 34, 35, 36, 37, 38, 39, 40, 41, 42, 43, 44, 45, 46, 47, 48, 49, 50, 51, 52, 53, 54, 55, 56, 57, 64, 65, 66, 67, 68, 69, 70, 71, 72, 73, 74, 75, 76, 77, 78, 79, 80, 81] (by decide +kernel) (by decide +kernel)) (goodIn_sub (fun _ h => List.mem_cons_of_mem _ (List.mem_append_left _ (List.mem_append_right _ h))) (by decide +kernel))) (goodIn_sub (fun _ h => List.mem_cons_of_mem _ (List.mem_append_right _ h)) (by decide +kernel))
set_option maxRecDepth 20000 in
theorem gX11_setSpring_X11_sets : GoodIn wsX11_setSpring (wsV RX11 131 RX11 yX11_sets wsX11_sets) := goodIn_app (goodIn_of _ (by decide +kernel)) ggX11_setSpring_X11_sets
set_option maxRecDepth 20000 in
theorem ggX11_setSpring_X11_kept : GoodIn wsX11_setSpring wsX11_kept := goodIn_ca (goodIn_r _ [61, 30, 7, 6, 62, 63, 8, 9, 4, 10, 64, 65, 66, 67, 68, 69, 70, 71, 72, 73, 74, 75, 76, 77, 78, 79, 80, 81] (by decide +kernel) (by decide +kernel)) (goodIn_sub (fun _ h => List.mem_cons_of_mem _ (List.mem_append_left _ (List.mem_append_right _ h))) (by decide +kernel))
set_option maxRecDepth 20000 in
theorem gX11_setSpring_X11_kept : GoodIn wsX11_setSpring (wsV RX11 107 RX11 yX11_kept wsX11_kept) := goodIn_app (goodIn_of _ (by decide +kernel)) ggX11_setSpring_X11_kept
theorem dX11_setSpring_0 : decode cX11_setSpring 0 = .ok (.aload_n 0, 1) := by decide +kernel
theorem dX11_setSpring_1 : decode cX11_setSpring 1 = .ok (.invokevirtual 101, 3) := by decide +kernel
theorem dX11_setSpring_4 : decode cX11_setSpring 4 = .ok (.aload_n 0, 1) := by decide +kernel
theorem dX11_setSpring_5 : decode cX11_setSpring 5 = .ok (.aload_n 0, 1) := by decide +kernel
theorem dX11_setSpring_6 : decode cX11_setSpring 6 = .ok (.iload_n 1, 1) := by decide +kernel
theorem dX11_setSpring_7 : decode cX11_setSpring 7 = .ok (.iload_n 2, 1) := by decide +kernel
theorem dX11_setSpring_8 : decode cX11_setSpring 8 = .ok (.invokevirtual 131, 3) := by decide +kernel
theorem dX11_setSpring_11 : decode cX11_setSpring 11 = .ok (.invokevirtual 107, 3) := by decide +kernel
theorem dX11_setSpring_14 : decode cX11_setSpring 14 = .ok (.ireturn, 1) := by decide +kernel
set_option maxRecDepth 20000 in
theorem ggX11_winds_X11_isGear : GoodIn wsX11_winds wsX11_isGear := goodIn_ca (goodIn_r _ [6, 7, 8, 9, 5, 10, 1, 11, 12, 13, 27, 28, 29, 30, 31, 32, 33, 34, 35, 36, 37, 38, 39, 40, 41, 42, 43, 44] (by decide +kernel) (by decide +kernel)) (goodIn_sub (fun _ h => List.mem_cons_of_mem _ (List.mem_append_right _ h)) (by decide +kernel))
set_option maxRecDepth 20000 in
theorem gX11_winds_X11_isGear : GoodIn wsX11_winds (wsV RX11 69 RX11 yX11_isGear wsX11_isGear) := goodIn_app (goodIn_of _ (by decide +kernel)) ggX11_winds_X11_isGear
set_option maxRecDepth 20000 in
theorem ggX11_winds_X11_fails : GoodIn wsX11_winds wsX11_fails := goodIn_r _ [17, 18, 27, 28, 29, 30, 31, 32, 33, 34, 35, 36, 37, 38, 39, 40, 41, 42, 43, 44] (by decide +kernel) (by decide +kernel)
set_option maxRecDepth 20000 in
theorem gX11_winds_X11_fails : GoodIn wsX11_winds (wsV RX11 95 RX11 yX11_fails wsX11_fails) := goodIn_app (goodIn_of _ (by decide +kernel)) ggX11_winds_X11_fails
set_option maxRecDepth 20000 in
theorem ggX11_winds_X11_in : GoodIn wsX11_winds wsX11_in := goodIn_r _ [13] (by decide +kernel) (by decide +kernel)
set_option maxRecDepth 20000 in
theorem gX11_winds_X11_in : GoodIn wsX11_winds (va_wsS RX11 65 yX11_in wsX11_in) := goodIn_app (goodIn_of _ (by decide +kernel)) ggX11_winds_X11_in
set_option maxRecDepth 20000 in
theorem ggX11_winds_X11_hasSpring : GoodIn wsX11_winds wsX11_hasSpring := goodIn_ca (goodIn_r _ [22, 7, 8, 9, 5, 10, 1, 27, 28, 29, 30, 31, 32, 33, 34, 35, 36, 37, 38, 39, 40, 41, 42, 43, 44] (by decide +kernel) (by decide +kernel)) (goodIn_sub (fun _ h => List.mem_cons_of_mem _ (List.mem_append_right _ h)) (by decide +kernel))
set_option maxRecDepth 20000 in
theorem gX11_winds_X11_hasSpring : GoodIn wsX11_winds (wsV RX11 81 RX11 yX11_hasSpring wsX11_hasSpring) := goodIn_app (goodIn_of _ (by decide +kernel)) ggX11_winds_X11_hasSpring
set_option maxRecDepth 20000 in
theorem ggX11_winds_X11_at : GoodIn wsX11_winds wsX11_at := goodIn_ca (goodIn_r _ [10, 1, 27, 28, 29, 30, 31, 32, 33, 34, 35, 36, 37, 38, 39, 40, 41, 42, 43, 44] (by decide +kernel) (by decide +kernel)) (goodIn_sub (fun _ h => List.mem_cons_of_mem _ (List.mem_append_right _ h)) (by decide +kernel))
set_option maxRecDepth 20000 in
theorem gX11_winds_X11_at : GoodIn wsX11_winds (wsV RX11 61 RX11 yX11_at wsX11_at) := goodIn_app (goodIn_of _ (by decide +kernel)) ggX11_winds_X11_at
set_option maxRecDepth 20000 in
theorem ggX11_winds_X11_done : GoodIn wsX11_winds wsX11_done := goodIn_r _ [26, 18, 27, 28, 29, 30, 31, 32, 33, 34, 35, 36, 37, 38, 39, 40, 41, 42, 43, 44] (by decide +kernel) (by decide +kernel)
set_option maxRecDepth 20000 in
theorem gX11_winds_X11_done : GoodIn wsX11_winds (wsV RX11 98 RX11 yX11_done wsX11_done) := goodIn_app (goodIn_of _ (by decide +kernel)) ggX11_winds_X11_done
theorem dX11_winds_0 : decode cX11_winds 0 = .ok (.aload_n 0, 1) := by decide +kernel
theorem dX11_winds_1 : decode cX11_winds 1 = .ok (.iload_n 1, 1) := by decide +kernel
theorem dX11_winds_2 : decode cX11_winds 2 = .ok (.invokevirtual 69, 3) := by decide +kernel
theorem dX11_winds_5 : decode cX11_winds 5 = .ok (.ifCond .ne 9, 3) := by decide +kernel
theorem dX11_winds_8 : decode cX11_winds 8 = .ok (.aload_n 0, 1) := by decide +kernel
theorem dX11_winds_9 : decode cX11_winds 9 = .ok (.iconst 1, 1) := by decide +kernel
theorem dX11_winds_10 : decode cX11_winds 10 = .ok (.invokevirtual 95, 3) := by decide +kernel
theorem dX11_winds_13 : decode cX11_winds 13 = .ok (.ireturn, 1) := by decide +kernel
theorem dX11_winds_14 : decode cX11_winds 14 = .ok (.iload_n 2, 1) := by decide +kernel
theorem dX11_winds_15 : decode cX11_winds 15 = .ok (.iconst 1, 1) := by decide +kernel
theorem dX11_winds_16 : decode cX11_winds 16 = .ok (.sipush 200, 3) := by decide +kernel
theorem dX11_winds_19 : decode cX11_winds 19 = .ok (.invokestatic 65, 3) := by decide +kernel
theorem dX11_winds_22 : decode cX11_winds 22 = .ok (.ifCond .ne 9, 3) := by decide +kernel
theorem dX11_winds_25 : decode cX11_winds 25 = .ok (.aload_n 0, 1) := by decide +kernel
theorem dX11_winds_26 : decode cX11_winds 26 = .ok (.iconst 2, 1) := by decide +kernel
theorem dX11_winds_27 : decode cX11_winds 27 = .ok (.invokevirtual 95, 3) := by decide +kernel
theorem dX11_winds_30 : decode cX11_winds 30 = .ok (.ireturn, 1) := by decide +kernel
theorem dX11_winds_31 : decode cX11_winds 31 = .ok (.aload_n 0, 1) := by decide +kernel
theorem dX11_winds_32 : decode cX11_winds 32 = .ok (.iload_n 1, 1) := by decide +kernel
theorem dX11_winds_33 : decode cX11_winds 33 = .ok (.invokevirtual 81, 3) := by decide +kernel
theorem dX11_winds_36 : decode cX11_winds 36 = .ok (.ifCond .ne 9, 3) := by decide +kernel
theorem dX11_winds_39 : decode cX11_winds 39 = .ok (.aload_n 0, 1) := by decide +kernel
theorem dX11_winds_40 : decode cX11_winds 40 = .ok (.iconst 3, 1) := by decide +kernel
theorem dX11_winds_41 : decode cX11_winds 41 = .ok (.invokevirtual 95, 3) := by decide +kernel
theorem dX11_winds_44 : decode cX11_winds 44 = .ok (.ireturn, 1) := by decide +kernel
theorem dX11_winds_45 : decode cX11_winds 45 = .ok (.aload_n 0, 1) := by decide +kernel
theorem dX11_winds_46 : decode cX11_winds 46 = .ok (.getfield 7, 3) := by decide +kernel
theorem dX11_winds_49 : decode cX11_winds 49 = .ok (.bipush 36, 2) := by decide +kernel
theorem dX11_winds_51 : decode cX11_winds 51 = .ok (.iload_n 1, 1) := by decide +kernel
theorem dX11_winds_52 : decode cX11_winds 52 = .ok (.iadd, 1) := by decide +kernel
theorem dX11_winds_53 : decode cX11_winds 53 = .ok (.laload, 1) := by decide +kernel
theorem dX11_winds_54 : decode cX11_winds 54 = .ok (.iload_n 2, 1) := by decide +kernel
theorem dX11_winds_55 : decode cX11_winds 55 = .ok (.i2l, 1) := by decide +kernel
theorem dX11_winds_56 : decode cX11_winds 56 = .ok (.ladd, 1) := by decide +kernel
theorem dX11_winds_57 : decode cX11_winds 57 = .ok (.aload_n 0, 1) := by decide +kernel
theorem dX11_winds_58 : decode cX11_winds 58 = .ok (.getfield 7, 3) := by decide +kernel
theorem dX11_winds_61 : decode cX11_winds 61 = .ok (.bipush 26, 2) := by decide +kernel
theorem dX11_winds_63 : decode cX11_winds 63 = .ok (.iload_n 1, 1) := by decide +kernel
theorem dX11_winds_64 : decode cX11_winds 64 = .ok (.iadd, 1) := by decide +kernel
theorem dX11_winds_65 : decode cX11_winds 65 = .ok (.laload, 1) := by decide +kernel
theorem dX11_winds_66 : decode cX11_winds 66 = .ok (.lcmp, 1) := by decide +kernel
theorem dX11_winds_67 : decode cX11_winds 67 = .ok (.ifCond .le 9, 3) := by decide +kernel
theorem dX11_winds_70 : decode cX11_winds 70 = .ok (.aload_n 0, 1) := by decide +kernel
theorem dX11_winds_71 : decode cX11_winds 71 = .ok (.iconst 4, 1) := by decide +kernel
theorem dX11_winds_72 : decode cX11_winds 72 = .ok (.invokevirtual 95, 3) := by decide +kernel
theorem dX11_winds_75 : decode cX11_winds 75 = .ok (.ireturn, 1) := by decide +kernel
theorem dX11_winds_76 : decode cX11_winds 76 = .ok (.aload_n 0, 1) := by decide +kernel
theorem dX11_winds_77 : decode cX11_winds 77 = .ok (.getfield 7, 3) := by decide +kernel
theorem dX11_winds_80 : decode cX11_winds 80 = .ok (.bipush 36, 2) := by decide +kernel
theorem dX11_winds_82 : decode cX11_winds 82 = .ok (.iload_n 1, 1) := by decide +kernel
theorem dX11_winds_83 : decode cX11_winds 83 = .ok (.iadd, 1) := by decide +kernel
theorem dX11_winds_84 : decode cX11_winds 84 = .ok (.dup2, 1) := by decide +kernel
theorem dX11_winds_85 : decode cX11_winds 85 = .ok (.laload, 1) := by decide +kernel
theorem dX11_winds_86 : decode cX11_winds 86 = .ok (.iload_n 2, 1) := by decide +kernel
theorem dX11_winds_87 : decode cX11_winds 87 = .ok (.i2l, 1) := by decide +kernel
theorem dX11_winds_88 : decode cX11_winds 88 = .ok (.ladd, 1) := by decide +kernel
theorem dX11_winds_89 : decode cX11_winds 89 = .ok (.lastore, 1) := by decide +kernel
theorem dX11_winds_90 : decode cX11_winds 90 = .ok (.aload_n 0, 1) := by decide +kernel
theorem dX11_winds_91 : decode cX11_winds 91 = .ok (.getfield 7, 3) := by decide +kernel
theorem dX11_winds_94 : decode cX11_winds 94 = .ok (.iconst 3, 1) := by decide +kernel
theorem dX11_winds_95 : decode cX11_winds 95 = .ok (.dup2, 1) := by decide +kernel
theorem dX11_winds_96 : decode cX11_winds 96 = .ok (.laload, 1) := by decide +kernel
theorem dX11_winds_97 : decode cX11_winds 97 = .ok (.iload_n 2, 1) := by decide +kernel
theorem dX11_winds_98 : decode cX11_winds 98 = .ok (.i2l, 1) := by decide +kernel
theorem dX11_winds_99 : decode cX11_winds 99 = .ok (.ladd, 1) := by decide +kernel
theorem dX11_winds_100 : decode cX11_winds 100 = .ok (.lastore, 1) := by decide +kernel
theorem dX11_winds_101 : decode cX11_winds 101 = .ok (.aload_n 0, 1) := by decide +kernel
theorem dX11_winds_102 : decode cX11_winds 102 = .ok (.aload_n 0, 1) := by decide +kernel
theorem dX11_winds_103 : decode cX11_winds 103 = .ok (.bipush 36, 2) := by decide +kernel
theorem dX11_winds_105 : decode cX11_winds 105 = .ok (.iload_n 1, 1) := by decide +kernel
theorem dX11_winds_106 : decode cX11_winds 106 = .ok (.iadd, 1) := by decide +kernel
theorem dX11_winds_107 : decode cX11_winds 107 = .ok (.invokevirtual 61, 3) := by decide +kernel
theorem dX11_winds_110 : decode cX11_winds 110 = .ok (.invokevirtual 98, 3) := by decide +kernel
theorem dX11_winds_113 : decode cX11_winds 113 = .ok (.ireturn, 1) := by decide +kernel
set_option maxRecDepth 20000 in
theorem ggX11_wind_X11_begin : GoodIn wsX11_wind wsX11_begin := goodIn_ca (goodIn_r _ [5, 6, 7, 8, 9, 4, 10, 45, 46, 47, 48, 49, 50, 51, 52, 53, 54, 55, 56, 57, 58, 59, 60, 61, 62] (by decide +kernel) (by decide +kernel)) (goodIn_sub (fun _ h => List.mem_cons_of_mem _ (List.mem_append_right _ h)) (by decide +kernel))
set_option maxRecDepth 20000 in
theorem gX11_wind_X11_begin : GoodIn wsX11_wind (wsV RX11 101 RX11 yX11_begin wsX11_begin) := goodIn_app (goodIn_of _ (by decide +kernel)) ggX11_wind_X11_begin
set_option maxRecDepth 20000 in
theorem ggX11_wind_X11_winds : GoodIn wsX11_wind wsX11_winds := goodIn_ca (goodIn_r _ [14, 6, 15, 16, 17, 4, 18, 19, 20, 21, 22, 23, 24, 25, 26, 27, 28, 29, 30, 31, 32, 33, 34, 35, 36, 37, 38, 45, 46, 47, 48, 49, 50, 51, 52, 53, 54, 55, 56, 57, 58, 59, 60, 61, 62] (by decide +kernel) (by decide +kernel)) (goodIn_sub (fun _ h => List.mem_cons_of_mem _ (List.mem_append_right _ h)) (by decide +kernel))
set_option maxRecDepth 20000 in
theorem gX11_wind_X11_winds : GoodIn wsX11_wind (wsV RX11 134 RX11 yX11_winds wsX11_winds) := goodIn_app (goodIn_of _ (by decide +kernel)) ggX11_wind_X11_winds
set_option maxRecDepth 20000 in
theorem ggX11_wind_X11_kept : GoodIn wsX11_wind wsX11_kept := goodIn_ca (goodIn_r _ [42, 30, 7, 6, 43, 44, 8, 9, 4, 10, 45, 46, 47, 48, 49, 50, 51, 52, 53, 54, 55, 56, 57, 58, 59, 60, 61, 62] (by decide +kernel) (by decide +kernel)) (goodIn_sub (fun _ h => List.mem_cons_of_mem _ (List.mem_append_right _ h)) (by decide +kernel))
set_option maxRecDepth 20000 in
theorem gX11_wind_X11_kept : GoodIn wsX11_wind (wsV RX11 107 RX11 yX11_kept wsX11_kept) := goodIn_app (goodIn_of _ (by decide +kernel)) ggX11_wind_X11_kept
theorem dX11_wind_0 : decode cX11_wind 0 = .ok (.aload_n 0, 1) := by decide +kernel
theorem dX11_wind_1 : decode cX11_wind 1 = .ok (.invokevirtual 101, 3) := by decide +kernel
theorem dX11_wind_4 : decode cX11_wind 4 = .ok (.aload_n 0, 1) := by decide +kernel
theorem dX11_wind_5 : decode cX11_wind 5 = .ok (.aload_n 0, 1) := by decide +kernel
theorem dX11_wind_6 : decode cX11_wind 6 = .ok (.iload_n 1, 1) := by decide +kernel
theorem dX11_wind_7 : decode cX11_wind 7 = .ok (.iload_n 2, 1) := by decide +kernel
theorem dX11_wind_8 : decode cX11_wind 8 = .ok (.invokevirtual 134, 3) := by decide +kernel
theorem dX11_wind_11 : decode cX11_wind 11 = .ok (.invokevirtual 107, 3) := by decide +kernel
theorem dX11_wind_14 : decode cX11_wind 14 = .ok (.ireturn, 1) := by decide +kernel
set_option maxRecDepth 20000 in
theorem ggX11_reverses_X11_isGear : GoodIn wsX11_reverses wsX11_isGear := goodIn_ca (goodIn_r _ [6, 7, 8, 9, 5, 10, 1, 11, 12, 13, 27, 28, 29, 30, 31, 32, 33, 34, 35, 36, 37, 38, 39, 40, 41, 42, 43, 44] (by decide +kernel) (by decide +kernel)) (goodIn_sub (fun _ h => List.mem_cons_of_mem _ (List.mem_append_right _ h)) (by decide +kernel))
set_option maxRecDepth 20000 in
theorem gX11_reverses_X11_isGear : GoodIn wsX11_reverses (wsV RX11 69 RX11 yX11_isGear wsX11_isGear) := goodIn_app (goodIn_of _ (by decide +kernel)) ggX11_reverses_X11_isGear
set_option maxRecDepth 20000 in
theorem ggX11_reverses_X11_fails : GoodIn wsX11_reverses wsX11_fails := goodIn_r _ [17, 18, 27, 28, 29, 30, 31, 32, 33, 34, 35, 36, 37, 38, 39, 40, 41, 42, 43, 44] (by decide +kernel) (by decide +kernel)
set_option maxRecDepth 20000 in
theorem gX11_reverses_X11_fails : GoodIn wsX11_reverses (wsV RX11 95 RX11 yX11_fails wsX11_fails) := goodIn_app (goodIn_of _ (by decide +kernel)) ggX11_reverses_X11_fails
set_option maxRecDepth 20000 in
theorem ggX11_reverses_X11_hasSpring : GoodIn wsX11_reverses wsX11_hasSpring := goodIn_ca (goodIn_r _ [22, 7, 8, 9, 5, 10, 1, 27, 28, 29, 30, 31, 32, 33, 34, 35, 36, 37, 38, 39, 40, 41, 42, 43, 44] (by decide +kernel) (by decide +kernel)) (goodIn_sub (fun _ h => List.mem_cons_of_mem _ (List.mem_append_right _ h)) (by decide +kernel))
set_option maxRecDepth 20000 in
theorem gX11_reverses_X11_hasSpring : GoodIn wsX11_reverses (wsV RX11 81 RX11 yX11_hasSpring wsX11_hasSpring) := goodIn_app (goodIn_of _ (by decide +kernel)) ggX11_reverses_X11_hasSpring
set_option maxRecDepth 20000 in
theorem ggX11_reverses_X11_at : GoodIn wsX11_reverses wsX11_at := goodIn_ca (goodIn_r _ [10, 1, 27, 28, 29, 30, 31, 32, 33, 34, 35, 36, 37, 38, 39, 40, 41, 42, 43, 44] (by decide +kernel) (by decide +kernel)) (goodIn_sub (fun _ h => List.mem_cons_of_mem _ (List.mem_append_right _ h)) (by decide +kernel))
set_option maxRecDepth 20000 in
theorem gX11_reverses_X11_at : GoodIn wsX11_reverses (wsV RX11 61 RX11 yX11_at wsX11_at) := goodIn_app (goodIn_of _ (by decide +kernel)) ggX11_reverses_X11_at
set_option maxRecDepth 20000 in
theorem ggX11_reverses_X11_done : GoodIn wsX11_reverses wsX11_done := goodIn_r _ [26, 18, 27, 28, 29, 30, 31, 32, 33, 34, 35, 36, 37, 38, 39, 40, 41, 42, 43, 44] (by decide +kernel) (by decide +kernel)
set_option maxRecDepth 20000 in
theorem gX11_reverses_X11_done : GoodIn wsX11_reverses (wsV RX11 98 RX11 yX11_done wsX11_done) := goodIn_app (goodIn_of _ (by decide +kernel)) ggX11_reverses_X11_done
theorem dX11_reverses_0 : decode cX11_reverses 0 = .ok (.aload_n 0, 1) := by decide +kernel
theorem dX11_reverses_1 : decode cX11_reverses 1 = .ok (.iload_n 1, 1) := by decide +kernel
theorem dX11_reverses_2 : decode cX11_reverses 2 = .ok (.invokevirtual 69, 3) := by decide +kernel
theorem dX11_reverses_5 : decode cX11_reverses 5 = .ok (.ifCond .ne 9, 3) := by decide +kernel
theorem dX11_reverses_8 : decode cX11_reverses 8 = .ok (.aload_n 0, 1) := by decide +kernel
theorem dX11_reverses_9 : decode cX11_reverses 9 = .ok (.iconst 1, 1) := by decide +kernel
theorem dX11_reverses_10 : decode cX11_reverses 10 = .ok (.invokevirtual 95, 3) := by decide +kernel
theorem dX11_reverses_13 : decode cX11_reverses 13 = .ok (.ireturn, 1) := by decide +kernel
theorem dX11_reverses_14 : decode cX11_reverses 14 = .ok (.aload_n 0, 1) := by decide +kernel
theorem dX11_reverses_15 : decode cX11_reverses 15 = .ok (.iload_n 1, 1) := by decide +kernel
theorem dX11_reverses_16 : decode cX11_reverses 16 = .ok (.invokevirtual 81, 3) := by decide +kernel
theorem dX11_reverses_19 : decode cX11_reverses 19 = .ok (.ifCond .ne 9, 3) := by decide +kernel
theorem dX11_reverses_22 : decode cX11_reverses 22 = .ok (.aload_n 0, 1) := by decide +kernel
theorem dX11_reverses_23 : decode cX11_reverses 23 = .ok (.iconst 2, 1) := by decide +kernel
theorem dX11_reverses_24 : decode cX11_reverses 24 = .ok (.invokevirtual 95, 3) := by decide +kernel
theorem dX11_reverses_27 : decode cX11_reverses 27 = .ok (.ireturn, 1) := by decide +kernel
theorem dX11_reverses_28 : decode cX11_reverses 28 = .ok (.aload_n 0, 1) := by decide +kernel
theorem dX11_reverses_29 : decode cX11_reverses 29 = .ok (.getfield 7, 3) := by decide +kernel
theorem dX11_reverses_32 : decode cX11_reverses 32 = .ok (.bipush 46, 2) := by decide +kernel
theorem dX11_reverses_34 : decode cX11_reverses 34 = .ok (.iload_n 1, 1) := by decide +kernel
theorem dX11_reverses_35 : decode cX11_reverses 35 = .ok (.iadd, 1) := by decide +kernel
theorem dX11_reverses_36 : decode cX11_reverses 36 = .ok (.lconst 1, 1) := by decide +kernel
theorem dX11_reverses_37 : decode cX11_reverses 37 = .ok (.aload_n 0, 1) := by decide +kernel
theorem dX11_reverses_38 : decode cX11_reverses 38 = .ok (.getfield 7, 3) := by decide +kernel
theorem dX11_reverses_41 : decode cX11_reverses 41 = .ok (.bipush 46, 2) := by decide +kernel
theorem dX11_reverses_43 : decode cX11_reverses 43 = .ok (.iload_n 1, 1) := by decide +kernel
theorem dX11_reverses_44 : decode cX11_reverses 44 = .ok (.iadd, 1) := by decide +kernel
theorem dX11_reverses_45 : decode cX11_reverses 45 = .ok (.laload, 1) := by decide +kernel
theorem dX11_reverses_46 : decode cX11_reverses 46 = .ok (.lsub, 1) := by decide +kernel
theorem dX11_reverses_47 : decode cX11_reverses 47 = .ok (.lastore, 1) := by decide +kernel
theorem dX11_reverses_48 : decode cX11_reverses 48 = .ok (.aload_n 0, 1) := by decide +kernel
theorem dX11_reverses_49 : decode cX11_reverses 49 = .ok (.aload_n 0, 1) := by decide +kernel
theorem dX11_reverses_50 : decode cX11_reverses 50 = .ok (.bipush 46, 2) := by decide +kernel
theorem dX11_reverses_52 : decode cX11_reverses 52 = .ok (.iload_n 1, 1) := by decide +kernel
theorem dX11_reverses_53 : decode cX11_reverses 53 = .ok (.iadd, 1) := by decide +kernel
theorem dX11_reverses_54 : decode cX11_reverses 54 = .ok (.invokevirtual 61, 3) := by decide +kernel
theorem dX11_reverses_57 : decode cX11_reverses 57 = .ok (.invokevirtual 98, 3) := by decide +kernel
theorem dX11_reverses_60 : decode cX11_reverses 60 = .ok (.ireturn, 1) := by decide +kernel
set_option maxRecDepth 20000 in
theorem ggX11_reverse_X11_begin : GoodIn wsX11_reverse wsX11_begin := goodIn_ca (goodIn_r _ [5, 6, 7, 8, 9, 4, 10, 45, 46, 47, 48, 49, 50, 51, 52, 53, 54, 55, 56, 57, 58, 59, 60, 61, 62] (by decide +kernel) (by decide +kernel)) (goodIn_sub (fun _ h => List.mem_cons_of_mem _ (List.mem_append_right _ h)) (by decide +kernel))
set_option maxRecDepth 20000 in
theorem gX11_reverse_X11_begin : GoodIn wsX11_reverse (wsV RX11 101 RX11 yX11_begin wsX11_begin) := goodIn_app (goodIn_of _ (by decide +kernel)) ggX11_reverse_X11_begin
set_option maxRecDepth 20000 in
theorem ggX11_reverse_X11_reverses : GoodIn wsX11_reverse wsX11_reverses := goodIn_ca (goodIn_r _ [14, 6, 15, 16, 17, 4, 18, 19, 20, 21, 22, 23, 24, 25, 26, 27, 28, 29, 30, 31, 32, 33, 34, 35, 36, 37, 38, 45, 46, 47, 48, 49, 50, 51, 52, 53, 54, 55, 56, 57, 58, 59, 60, 61, 62] (by decide +kernel) (by decide +kernel)) (goodIn_sub (fun _ h => List.mem_cons_of_mem _ (List.mem_append_right _ h)) (by decide +kernel))
set_option maxRecDepth 20000 in
theorem gX11_reverse_X11_reverses : GoodIn wsX11_reverse (wsV RX11 137 RX11 yX11_reverses wsX11_reverses) := goodIn_app (goodIn_of _ (by decide +kernel)) ggX11_reverse_X11_reverses
set_option maxRecDepth 20000 in
theorem ggX11_reverse_X11_kept : GoodIn wsX11_reverse wsX11_kept := goodIn_ca (goodIn_r _ [42, 30, 7, 6, 43, 44, 8, 9, 4, 10, 45, 46, 47, 48, 49, 50, 51, 52, 53, 54, 55, 56, 57, 58, 59, 60, 61, 62] (by decide +kernel) (by decide +kernel)) (goodIn_sub (fun _ h => List.mem_cons_of_mem _ (List.mem_append_right _ h)) (by decide +kernel))
set_option maxRecDepth 20000 in
theorem gX11_reverse_X11_kept : GoodIn wsX11_reverse (wsV RX11 107 RX11 yX11_kept wsX11_kept) := goodIn_app (goodIn_of _ (by decide +kernel)) ggX11_reverse_X11_kept
theorem dX11_reverse_0 : decode cX11_reverse 0 = .ok (.aload_n 0, 1) := by decide +kernel
theorem dX11_reverse_1 : decode cX11_reverse 1 = .ok (.invokevirtual 101, 3) := by decide +kernel
theorem dX11_reverse_4 : decode cX11_reverse 4 = .ok (.aload_n 0, 1) := by decide +kernel
theorem dX11_reverse_5 : decode cX11_reverse 5 = .ok (.aload_n 0, 1) := by decide +kernel
theorem dX11_reverse_6 : decode cX11_reverse 6 = .ok (.iload_n 1, 1) := by decide +kernel
theorem dX11_reverse_7 : decode cX11_reverse 7 = .ok (.invokevirtual 137, 3) := by decide +kernel
theorem dX11_reverse_10 : decode cX11_reverse 10 = .ok (.invokevirtual 107, 3) := by decide +kernel
theorem dX11_reverse_13 : decode cX11_reverse 13 = .ok (.iconst 1, 1) := by decide +kernel
theorem dX11_reverse_14 : decode cX11_reverse 14 = .ok (.if_icmp .ne 7, 3) := by decide +kernel
theorem dX11_reverse_17 : decode cX11_reverse 17 = .ok (.iconst 1, 1) := by decide +kernel
theorem dX11_reverse_18 : decode cX11_reverse 18 = .ok (.goto 4, 3) := by decide +kernel
theorem dX11_reverse_21 : decode cX11_reverse 21 = .ok (.iconst 0, 1) := by decide +kernel
theorem dX11_reverse_22 : decode cX11_reverse 22 = .ok (.ireturn, 1) := by decide +kernel
theorem dX11_isHindered_0 : decode cX11_isHindered 0 = .ok (.iconst 0, 1) := by decide +kernel
theorem dX11_isHindered_1 : decode cX11_isHindered 1 = .ok (.istore_n 2, 1) := by decide +kernel
theorem dX11_isHindered_2 : decode cX11_isHindered 2 = .ok (.iconst 0, 1) := by decide +kernel
theorem dX11_isHindered_3 : decode cX11_isHindered 3 = .ok (.istore_n 3, 1) := by decide +kernel
theorem dX11_isHindered_4 : decode cX11_isHindered 4 = .ok (.iload_n 3, 1) := by decide +kernel
theorem dX11_isHindered_5 : decode cX11_isHindered 5 = .ok (.bipush 10, 2) := by decide +kernel
theorem dX11_isHindered_7 : decode cX11_isHindered 7 = .ok (.if_icmp .ge 92, 3) := by decide +kernel
theorem dX11_isHindered_10 : decode cX11_isHindered 10 = .ok (.aload_n 0, 1) := by decide +kernel
theorem dX11_isHindered_11 : decode cX11_isHindered 11 = .ok (.getfield 36, 3) := by decide +kernel
theorem dX11_isHindered_14 : decode cX11_isHindered 14 = .ok (.iload_n 3, 1) := by decide +kernel
theorem dX11_isHindered_15 : decode cX11_isHindered 15 = .ok (.laload, 1) := by decide +kernel
theorem dX11_isHindered_16 : decode cX11_isHindered 16 = .ok (.lconst 0, 1) := by decide +kernel
theorem dX11_isHindered_17 : decode cX11_isHindered 17 = .ok (.lcmp, 1) := by decide +kernel
theorem dX11_isHindered_18 : decode cX11_isHindered 18 = .ok (.ifCond .ge 7, 3) := by decide +kernel
theorem dX11_isHindered_21 : decode cX11_isHindered 21 = .ok (.iconst 1, 1) := by decide +kernel
theorem dX11_isHindered_22 : decode cX11_isHindered 22 = .ok (.goto 4, 3) := by decide +kernel
theorem dX11_isHindered_25 : decode cX11_isHindered 25 = .ok (.iconst 0, 1) := by decide +kernel
theorem dX11_isHindered_26 : decode cX11_isHindered 26 = .ok (.aload_n 0, 1) := by decide +kernel
theorem dX11_isHindered_27 : decode cX11_isHindered 27 = .ok (.getfield 7, 3) := by decide +kernel
theorem dX11_isHindered_30 : decode cX11_isHindered 30 = .ok (.bipush 46, 2) := by decide +kernel
theorem dX11_isHindered_32 : decode cX11_isHindered 32 = .ok (.iload_n 1, 1) := by decide +kernel
theorem dX11_isHindered_33 : decode cX11_isHindered 33 = .ok (.iadd, 1) := by decide +kernel
theorem dX11_isHindered_34 : decode cX11_isHindered 34 = .ok (.laload, 1) := by decide +kernel
theorem dX11_isHindered_35 : decode cX11_isHindered 35 = .ok (.lconst 1, 1) := by decide +kernel
theorem dX11_isHindered_36 : decode cX11_isHindered 36 = .ok (.lcmp, 1) := by decide +kernel
theorem dX11_isHindered_37 : decode cX11_isHindered 37 = .ok (.ifCond .ne 7, 3) := by decide +kernel
theorem dX11_isHindered_40 : decode cX11_isHindered 40 = .ok (.iconst 1, 1) := by decide +kernel
theorem dX11_isHindered_41 : decode cX11_isHindered 41 = .ok (.goto 4, 3) := by decide +kernel
theorem dX11_isHindered_44 : decode cX11_isHindered 44 = .ok (.iconst 0, 1) := by decide +kernel
theorem dX11_isHindered_45 : decode cX11_isHindered 45 = .ok (.if_icmp .eq 7, 3) := by decide +kernel
theorem dX11_isHindered_48 : decode cX11_isHindered 48 = .ok (.iconst 1, 1) := by decide +kernel
theorem dX11_isHindered_49 : decode cX11_isHindered 49 = .ok (.goto 4, 3) := by decide +kernel
theorem dX11_isHindered_52 : decode cX11_isHindered 52 = .ok (.iconst 0, 1) := by decide +kernel
theorem dX11_isHindered_53 : decode cX11_isHindered 53 = .ok (.istore 4, 2) := by decide +kernel
theorem dX11_isHindered_55 : decode cX11_isHindered 55 = .ok (.iload_n 2, 1) := by decide +kernel
theorem dX11_isHindered_56 : decode cX11_isHindered 56 = .ok (.ifCond .ne 31, 3) := by decide +kernel
theorem dX11_isHindered_59 : decode cX11_isHindered 59 = .ok (.aload_n 0, 1) := by decide +kernel
theorem dX11_isHindered_60 : decode cX11_isHindered 60 = .ok (.getfield 39, 3) := by decide +kernel
theorem dX11_isHindered_63 : decode cX11_isHindered 63 = .ok (.iload_n 3, 1) := by decide +kernel
theorem dX11_isHindered_64 : decode cX11_isHindered 64 = .ok (.baload, 1) := by decide +kernel
theorem dX11_isHindered_65 : decode cX11_isHindered 65 = .ok (.ifCond .eq 26, 3) := by decide +kernel
theorem dX11_isHindered_68 : decode cX11_isHindered 68 = .ok (.iload 4, 2) := by decide +kernel
theorem dX11_isHindered_70 : decode cX11_isHindered 70 = .ok (.ifCond .eq 21, 3) := by decide +kernel
theorem dX11_isHindered_73 : decode cX11_isHindered 73 = .ok (.aload_n 0, 1) := by decide +kernel
theorem dX11_isHindered_74 : decode cX11_isHindered 74 = .ok (.getfield 7, 3) := by decide +kernel
theorem dX11_isHindered_77 : decode cX11_isHindered 77 = .ok (.bipush 56, 2) := by decide +kernel
theorem dX11_isHindered_79 : decode cX11_isHindered 79 = .ok (.iload_n 3, 1) := by decide +kernel
theorem dX11_isHindered_80 : decode cX11_isHindered 80 = .ok (.iadd, 1) := by decide +kernel
theorem dX11_isHindered_81 : decode cX11_isHindered 81 = .ok (.laload, 1) := by decide +kernel
theorem dX11_isHindered_82 : decode cX11_isHindered 82 = .ok (.lconst 1, 1) := by decide +kernel
theorem dX11_isHindered_83 : decode cX11_isHindered 83 = .ok (.lcmp, 1) := by decide +kernel
theorem dX11_isHindered_84 : decode cX11_isHindered 84 = .ok (.ifCond .ne 7, 3) := by decide +kernel
theorem dX11_isHindered_87 : decode cX11_isHindered 87 = .ok (.iconst 1, 1) := by decide +kernel
theorem dX11_isHindered_88 : decode cX11_isHindered 88 = .ok (.goto 4, 3) := by decide +kernel
theorem dX11_isHindered_91 : decode cX11_isHindered 91 = .ok (.iconst 0, 1) := by decide +kernel
theorem dX11_isHindered_92 : decode cX11_isHindered 92 = .ok (.istore_n 2, 1) := by decide +kernel
theorem dX11_isHindered_93 : decode cX11_isHindered 93 = .ok (.iinc 3 1, 3) := by decide +kernel
theorem dX11_isHindered_96 : decode cX11_isHindered 96 = .ok (.goto (-92), 3) := by decide +kernel
theorem dX11_isHindered_99 : decode cX11_isHindered 99 = .ok (.iload_n 2, 1) := by decide +kernel
theorem dX11_isHindered_100 : decode cX11_isHindered 100 = .ok (.ireturn, 1) := by decide +kernel
set_option maxRecDepth 20000 in
theorem ggX11_turnsBy_X11_rest : GoodIn wsX11_turnsBy wsX11_rest := goodIn_r _ [7, 8] (by decide +kernel) (by decide +kernel)
set_option maxRecDepth 20000 in
theorem gX11_turnsBy_X11_rest : GoodIn wsX11_turnsBy (va_wsS RX11 140 yX11_rest wsX11_rest) := goodIn_app (goodIn_of _ (by decide +kernel)) ggX11_turnsBy_X11_rest
set_option maxRecDepth 20000 in
theorem ggX11_turnsBy_X11_size : GoodIn wsX11_turnsBy wsX11_size := goodIn_r _ [11] (by decide +kernel) (by decide +kernel)
set_option maxRecDepth 20000 in
theorem gX11_turnsBy_X11_size : GoodIn wsX11_turnsBy (va_wsS RX11 144 yX11_size wsX11_size) := goodIn_app (goodIn_of _ (by decide +kernel)) ggX11_turnsBy_X11_size
theorem dX11_turnsBy_0 : decode cX11_turnsBy 0 = .ok (.aload_n 0, 1) := by decide +kernel
theorem dX11_turnsBy_1 : decode cX11_turnsBy 1 = .ok (.getfield 7, 3) := by decide +kernel
theorem dX11_turnsBy_4 : decode cX11_turnsBy 4 = .ok (.bipush 46, 2) := by decide +kernel
theorem dX11_turnsBy_6 : decode cX11_turnsBy 6 = .ok (.iload_n 1, 1) := by decide +kernel
theorem dX11_turnsBy_7 : decode cX11_turnsBy 7 = .ok (.iadd, 1) := by decide +kernel
theorem dX11_turnsBy_8 : decode cX11_turnsBy 8 = .ok (.laload, 1) := by decide +kernel
theorem dX11_turnsBy_9 : decode cX11_turnsBy 9 = .ok (.lconst 1, 1) := by decide +kernel
theorem dX11_turnsBy_10 : decode cX11_turnsBy 10 = .ok (.lcmp, 1) := by decide +kernel
theorem dX11_turnsBy_11 : decode cX11_turnsBy 11 = .ok (.ifCond .ne 8, 3) := by decide +kernel
theorem dX11_turnsBy_14 : decode cX11_turnsBy 14 = .ok (.lload_n 2, 1) := by decide +kernel
theorem dX11_turnsBy_15 : decode cX11_turnsBy 15 = .ok (.lneg, 1) := by decide +kernel
theorem dX11_turnsBy_16 : decode cX11_turnsBy 16 = .ok (.goto 4, 3) := by decide +kernel
theorem dX11_turnsBy_19 : decode cX11_turnsBy 19 = .ok (.lload_n 2, 1) := by decide +kernel
theorem dX11_turnsBy_20 : decode cX11_turnsBy 20 = .ok (.lstore 4, 2) := by decide +kernel
theorem dX11_turnsBy_22 : decode cX11_turnsBy 22 = .ok (.iconst 0, 1) := by decide +kernel
theorem dX11_turnsBy_23 : decode cX11_turnsBy 23 = .ok (.istore 6, 2) := by decide +kernel
theorem dX11_turnsBy_25 : decode cX11_turnsBy 25 = .ok (.iload 6, 2) := by decide +kernel
theorem dX11_turnsBy_27 : decode cX11_turnsBy 27 = .ok (.bipush 10, 2) := by decide +kernel
theorem dX11_turnsBy_29 : decode cX11_turnsBy 29 = .ok (.if_icmp .ge 97, 3) := by decide +kernel
theorem dX11_turnsBy_32 : decode cX11_turnsBy 32 = .ok (.aload_n 0, 1) := by decide +kernel
theorem dX11_turnsBy_33 : decode cX11_turnsBy 33 = .ok (.getfield 39, 3) := by decide +kernel
theorem dX11_turnsBy_36 : decode cX11_turnsBy 36 = .ok (.iload 6, 2) := by decide +kernel
theorem dX11_turnsBy_38 : decode cX11_turnsBy 38 = .ok (.baload, 1) := by decide +kernel
theorem dX11_turnsBy_39 : decode cX11_turnsBy 39 = .ok (.ifCond .eq 81, 3) := by decide +kernel
theorem dX11_turnsBy_42 : decode cX11_turnsBy 42 = .ok (.aload_n 0, 1) := by decide +kernel
theorem dX11_turnsBy_43 : decode cX11_turnsBy 43 = .ok (.getfield 7, 3) := by decide +kernel
theorem dX11_turnsBy_46 : decode cX11_turnsBy 46 = .ok (.bipush 16, 2) := by decide +kernel
theorem dX11_turnsBy_48 : decode cX11_turnsBy 48 = .ok (.iload 6, 2) := by decide +kernel
theorem dX11_turnsBy_50 : decode cX11_turnsBy 50 = .ok (.iadd, 1) := by decide +kernel
theorem dX11_turnsBy_51 : decode cX11_turnsBy 51 = .ok (.aload_n 0, 1) := by decide +kernel
theorem dX11_turnsBy_52 : decode cX11_turnsBy 52 = .ok (.getfield 7, 3) := by decide +kernel
theorem dX11_turnsBy_55 : decode cX11_turnsBy 55 = .ok (.bipush 16, 2) := by decide +kernel
theorem dX11_turnsBy_57 : decode cX11_turnsBy 57 = .ok (.iload 6, 2) := by decide +kernel
theorem dX11_turnsBy_59 : decode cX11_turnsBy 59 = .ok (.iadd, 1) := by decide +kernel
theorem dX11_turnsBy_60 : decode cX11_turnsBy 60 = .ok (.laload, 1) := by decide +kernel
theorem dX11_turnsBy_61 : decode cX11_turnsBy 61 = .ok (.lload 4, 2) := by decide +kernel
theorem dX11_turnsBy_63 : decode cX11_turnsBy 63 = .ok (.aload_n 0, 1) := by decide +kernel
theorem dX11_turnsBy_64 : decode cX11_turnsBy 64 = .ok (.getfield 36, 3) := by decide +kernel
theorem dX11_turnsBy_67 : decode cX11_turnsBy 67 = .ok (.iload 6, 2) := by decide +kernel
theorem dX11_turnsBy_69 : decode cX11_turnsBy 69 = .ok (.laload, 1) := by decide +kernel
theorem dX11_turnsBy_70 : decode cX11_turnsBy 70 = .ok (.lmul, 1) := by decide +kernel
theorem dX11_turnsBy_71 : decode cX11_turnsBy 71 = .ok (.ladd, 1) := by decide +kernel
theorem dX11_turnsBy_72 : decode cX11_turnsBy 72 = .ok (.invokestatic 140, 3) := by decide +kernel
theorem dX11_turnsBy_75 : decode cX11_turnsBy 75 = .ok (.lastore, 1) := by decide +kernel
theorem dX11_turnsBy_76 : decode cX11_turnsBy 76 = .ok (.aload_n 0, 1) := by decide +kernel
theorem dX11_turnsBy_77 : decode cX11_turnsBy 77 = .ok (.getfield 7, 3) := by decide +kernel
theorem dX11_turnsBy_80 : decode cX11_turnsBy 80 = .ok (.bipush 76, 2) := by decide +kernel
theorem dX11_turnsBy_82 : decode cX11_turnsBy 82 = .ok (.iload 6, 2) := by decide +kernel
theorem dX11_turnsBy_84 : decode cX11_turnsBy 84 = .ok (.iadd, 1) := by decide +kernel
theorem dX11_turnsBy_85 : decode cX11_turnsBy 85 = .ok (.dup2, 1) := by decide +kernel
theorem dX11_turnsBy_86 : decode cX11_turnsBy 86 = .ok (.laload, 1) := by decide +kernel
theorem dX11_turnsBy_87 : decode cX11_turnsBy 87 = .ok (.aload_n 0, 1) := by decide +kernel
theorem dX11_turnsBy_88 : decode cX11_turnsBy 88 = .ok (.getfield 7, 3) := by decide +kernel
theorem dX11_turnsBy_91 : decode cX11_turnsBy 91 = .ok (.bipush 66, 2) := by decide +kernel
theorem dX11_turnsBy_93 : decode cX11_turnsBy 93 = .ok (.iload 6, 2) := by decide +kernel
theorem dX11_turnsBy_95 : decode cX11_turnsBy 95 = .ok (.iadd, 1) := by decide +kernel
theorem dX11_turnsBy_96 : decode cX11_turnsBy 96 = .ok (.laload, 1) := by decide +kernel
theorem dX11_turnsBy_97 : decode cX11_turnsBy 97 = .ok (.lconst 1, 1) := by decide +kernel
theorem dX11_turnsBy_98 : decode cX11_turnsBy 98 = .ok (.lcmp, 1) := by decide +kernel
theorem dX11_turnsBy_99 : decode cX11_turnsBy 99 = .ok (.ifCond .ne 18, 3) := by decide +kernel
theorem dX11_turnsBy_102 : decode cX11_turnsBy 102 = .ok (.aload_n 0, 1) := by decide +kernel
theorem dX11_turnsBy_103 : decode cX11_turnsBy 103 = .ok (.getfield 36, 3) := by decide +kernel
theorem dX11_turnsBy_106 : decode cX11_turnsBy 106 = .ok (.iload 6, 2) := by decide +kernel
theorem dX11_turnsBy_108 : decode cX11_turnsBy 108 = .ok (.laload, 1) := by decide +kernel
theorem dX11_turnsBy_109 : decode cX11_turnsBy 109 = .ok (.invokestatic 144, 3) := by decide +kernel
theorem dX11_turnsBy_112 : decode cX11_turnsBy 112 = .ok (.lload_n 2, 1) := by decide +kernel
theorem dX11_turnsBy_113 : decode cX11_turnsBy 113 = .ok (.lmul, 1) := by decide +kernel
theorem dX11_turnsBy_114 : decode cX11_turnsBy 114 = .ok (.goto 4, 3) := by decide +kernel
theorem dX11_turnsBy_117 : decode cX11_turnsBy 117 = .ok (.lconst 0, 1) := by decide +kernel
theorem dX11_turnsBy_118 : decode cX11_turnsBy 118 = .ok (.ladd, 1) := by decide +kernel
theorem dX11_turnsBy_119 : decode cX11_turnsBy 119 = .ok (.lastore, 1) := by decide +kernel
theorem dX11_turnsBy_120 : decode cX11_turnsBy 120 = .ok (.iinc 6 1, 3) := by decide +kernel
theorem dX11_turnsBy_123 : decode cX11_turnsBy 123 = .ok (.goto (-98), 3) := by decide +kernel
theorem dX11_turnsBy_126 : decode cX11_turnsBy 126 = .ok (.return_, 1) := by decide +kernel
theorem dX11_dries_0 : decode cX11_dries 0 = .ok (.iconst 0, 1) := by decide +kernel
theorem dX11_dries_1 : decode cX11_dries 1 = .ok (.istore_n 1, 1) := by decide +kernel
theorem dX11_dries_2 : decode cX11_dries 2 = .ok (.iload_n 1, 1) := by decide +kernel
theorem dX11_dries_3 : decode cX11_dries 3 = .ok (.bipush 10, 2) := by decide +kernel
theorem dX11_dries_5 : decode cX11_dries 5 = .ok (.if_icmp .ge 59, 3) := by decide +kernel
theorem dX11_dries_8 : decode cX11_dries 8 = .ok (.aload_n 0, 1) := by decide +kernel
theorem dX11_dries_9 : decode cX11_dries 9 = .ok (.getfield 7, 3) := by decide +kernel
theorem dX11_dries_12 : decode cX11_dries 12 = .ok (.bipush 66, 2) := by decide +kernel
theorem dX11_dries_14 : decode cX11_dries 14 = .ok (.iload_n 1, 1) := by decide +kernel
theorem dX11_dries_15 : decode cX11_dries 15 = .ok (.iadd, 1) := by decide +kernel
theorem dX11_dries_16 : decode cX11_dries 16 = .ok (.laload, 1) := by decide +kernel
theorem dX11_dries_17 : decode cX11_dries 17 = .ok (.lconst 1, 1) := by decide +kernel
theorem dX11_dries_18 : decode cX11_dries 18 = .ok (.lcmp, 1) := by decide +kernel
theorem dX11_dries_19 : decode cX11_dries 19 = .ok (.ifCond .ne 39, 3) := by decide +kernel
theorem dX11_dries_22 : decode cX11_dries 22 = .ok (.aload_n 0, 1) := by decide +kernel
theorem dX11_dries_23 : decode cX11_dries 23 = .ok (.getfield 7, 3) := by decide +kernel
theorem dX11_dries_26 : decode cX11_dries 26 = .ok (.bipush 76, 2) := by decide +kernel
theorem dX11_dries_28 : decode cX11_dries 28 = .ok (.iload_n 1, 1) := by decide +kernel
theorem dX11_dries_29 : decode cX11_dries 29 = .ok (.iadd, 1) := by decide +kernel
theorem dX11_dries_30 : decode cX11_dries 30 = .ok (.laload, 1) := by decide +kernel
theorem dX11_dries_31 : decode cX11_dries 31 = .ok (.ldc2_w 147, 3) := by decide +kernel
theorem dX11_dries_34 : decode cX11_dries 34 = .ok (.lcmp, 1) := by decide +kernel
theorem dX11_dries_35 : decode cX11_dries 35 = .ok (.ifCond .lt 23, 3) := by decide +kernel
theorem dX11_dries_38 : decode cX11_dries 38 = .ok (.aload_n 0, 1) := by decide +kernel
theorem dX11_dries_39 : decode cX11_dries 39 = .ok (.getfield 7, 3) := by decide +kernel
theorem dX11_dries_42 : decode cX11_dries 42 = .ok (.bipush 66, 2) := by decide +kernel
theorem dX11_dries_44 : decode cX11_dries 44 = .ok (.iload_n 1, 1) := by decide +kernel
theorem dX11_dries_45 : decode cX11_dries 45 = .ok (.iadd, 1) := by decide +kernel
theorem dX11_dries_46 : decode cX11_dries 46 = .ok (.lconst 0, 1) := by decide +kernel
theorem dX11_dries_47 : decode cX11_dries 47 = .ok (.lastore, 1) := by decide +kernel
theorem dX11_dries_48 : decode cX11_dries 48 = .ok (.aload_n 0, 1) := by decide +kernel
theorem dX11_dries_49 : decode cX11_dries 49 = .ok (.getfield 7, 3) := by decide +kernel
theorem dX11_dries_52 : decode cX11_dries 52 = .ok (.bipush 76, 2) := by decide +kernel
theorem dX11_dries_54 : decode cX11_dries 54 = .ok (.iload_n 1, 1) := by decide +kernel
theorem dX11_dries_55 : decode cX11_dries 55 = .ok (.iadd, 1) := by decide +kernel
theorem dX11_dries_56 : decode cX11_dries 56 = .ok (.lconst 0, 1) := by decide +kernel
theorem dX11_dries_57 : decode cX11_dries 57 = .ok (.lastore, 1) := by decide +kernel
theorem dX11_dries_58 : decode cX11_dries 58 = .ok (.iinc 1 1, 3) := by decide +kernel
theorem dX11_dries_61 : decode cX11_dries 61 = .ok (.goto (-59), 3) := by decide +kernel
theorem dX11_dries_64 : decode cX11_dries 64 = .ok (.return_, 1) := by decide +kernel
set_option maxRecDepth 20000 in
theorem ggX11_releases_X11_isGear : GoodIn wsX11_releases wsX11_isGear := goodIn_ca (goodIn_r _ [6, 7, 8, 9, 5, 10, 1, 11, 12, 13, 69, 70, 71, 72, 73, 74, 75, 76, 77, 78, 79, 80, 81, 82, 83, 84, 85, 86] (by decide +kernel) (by decide +kernel)) (goodIn_sub (fun _ h => List.mem_cons_of_mem _ (List.mem_append_right _ h)) (by decide +kernel))
set_option maxRecDepth 20000 in
theorem gX11_releases_X11_isGear : GoodIn wsX11_releases (wsV RX11 69 RX11 yX11_isGear wsX11_isGear) := goodIn_app (goodIn_of _ (by decide +kernel)) ggX11_releases_X11_isGear
set_option maxRecDepth 20000 in
theorem ggX11_releases_X11_fails : GoodIn wsX11_releases wsX11_fails := goodIn_r _ [17, 18, 69, 70, 71, 72, 73, 74, 75, 76, 77, 78, 79, 80, 81, 82, 83, 84, 85, 86] (by decide +kernel) (by decide +kernel)
set_option maxRecDepth 20000 in
theorem gX11_releases_X11_fails : GoodIn wsX11_releases (wsV RX11 95 RX11 yX11_fails wsX11_fails) := goodIn_app (goodIn_of _ (by decide +kernel)) ggX11_releases_X11_fails
set_option maxRecDepth 20000 in
theorem ggX11_releases_X11_in : GoodIn wsX11_releases wsX11_in := goodIn_r _ [13] (by decide +kernel) (by decide +kernel)
set_option maxRecDepth 20000 in
theorem gX11_releases_X11_in : GoodIn wsX11_releases (va_wsS RX11 65 yX11_in wsX11_in) := goodIn_app (goodIn_of _ (by decide +kernel)) ggX11_releases_X11_in
set_option maxRecDepth 20000 in
theorem ggX11_releases_X11_hasSpring : GoodIn wsX11_releases wsX11_hasSpring := goodIn_ca (goodIn_r _ [22, 7, 8, 9, 5, 10, 1, 69, 70, 71, 72, 73, 74, 75, 76, 77, 78, 79, 80, 81, 82, 83, 84, 85, 86] (by decide +kernel) (by decide +kernel)) (goodIn_sub (fun _ h => List.mem_cons_of_mem _ (List.mem_append_right _ h)) (by decide +kernel))
set_option maxRecDepth 20000 in
theorem gX11_releases_X11_hasSpring : GoodIn wsX11_releases (wsV RX11 81 RX11 yX11_hasSpring wsX11_hasSpring) := goodIn_app (goodIn_of _ (by decide +kernel)) ggX11_releases_X11_hasSpring
set_option maxRecDepth 20000 in
theorem ggX11_releases_X11_rubs : GoodIn wsX11_releases wsX11_rubs := goodIn_ca (goodIn_ca (goodIn_r _ [26, 27, 1, 28, 29, 30, 5, 31, 32, 33, 34, 35, 36, 37, 38, 39, 40, 41, 7, 8, 9, 10, 42, 43, 44, 45, 69, 70, 71, 72, 73, 74, 75, 76, 77, 78, 79, 80, 81, 82, 83, 84, 85, 86] (by decide +kernel) (by decide +kernel)) (goodIn_sub (fun _ h => List.mem_cons_of_mem _ (List.mem_append_right _ h)) (by decide +kernel))) (goodIn_sub (fun _ h => List.mem_cons_of_mem _ (List.mem_append_left _ (List.mem_append_right _ h))) (by decide +kernel))
set_option maxRecDepth 20000 in
theorem gX11_releases_X11_rubs : GoodIn wsX11_releases (wsV RX11 149 RX11 yX11_rubs wsX11_rubs) := goodIn_app (goodIn_of _ (by decide +kernel)) ggX11_releases_X11_rubs
set_option maxRecDepth 20000 in
theorem ggX11_releases_X11_isHindered : GoodIn wsX11_releases wsX11_isHindered := goodIn_ca (goodIn_r _ [49, 32, 1, 27, 69, 70, 71, 72, 73, 74, 75, 76, 77, 78, 79, 80, 81, 82, 83, 84, 85, 86] (by decide +kernel) (by decide +kernel)) (goodIn_sub (fun _ h => List.mem_cons_of_mem _ (List.mem_append_right _ h)) (by decide +kernel))
set_option maxRecDepth 20000 in
theorem gX11_releases_X11_isHindered : GoodIn wsX11_releases (wsV RX11 152 RX11 yX11_isHindered wsX11_isHindered) := goodIn_app (goodIn_of _ (by decide +kernel)) ggX11_releases_X11_isHindered
set_option maxRecDepth 20000 in
theorem ggX11_releases_X11_at : GoodIn wsX11_releases wsX11_at := goodIn_ca (goodIn_r _ [10, 1, 69, 70, 71, 72, 73, 74, 75, 76, 77, 78, 79, 80, 81, 82, 83, 84, 85, 86] (by decide +kernel) (by decide +kernel)) (goodIn_sub (fun _ h => List.mem_cons_of_mem _ (List.mem_append_right _ h)) (by decide +kernel))
set_option maxRecDepth 20000 in
theorem gX11_releases_X11_at : GoodIn wsX11_releases (wsV RX11 61 RX11 yX11_at wsX11_at) := goodIn_app (goodIn_of _ (by decide +kernel)) ggX11_releases_X11_at
set_option maxRecDepth 20000 in
theorem ggX11_releases_X11_turnsBy : GoodIn wsX11_releases wsX11_turnsBy := goodIn_ca (goodIn_r _ [53, 1, 27, 32, 54, 55, 5, 56, 33, 57, 58, 59, 69, 70, 71, 72, 73, 74, 75, 76, 77, 78, 79, 80, 81, 82, 83, 84, 85, 86] (by decide +kernel) (by decide +kernel)) (goodIn_sub (fun _ h => List.mem_cons_of_mem _ (List.mem_append_right _ h)) (by decide +kernel))
set_option maxRecDepth 20000 in
theorem gX11_releases_X11_turnsBy : GoodIn wsX11_releases (wsV RX11 155 RX11 yX11_turnsBy wsX11_turnsBy) := goodIn_app (goodIn_of _ (by decide +kernel)) ggX11_releases_X11_turnsBy
set_option maxRecDepth 20000 in
theorem ggX11_releases_X11_dries : GoodIn wsX11_releases wsX11_dries := goodIn_ca (goodIn_r _ [63, 1, 64, 69, 70, 71, 72, 73, 74, 75, 76, 77, 78, 79, 80, 81, 82, 83, 84, 85, 86] (by decide +kernel) (by decide +kernel)) (goodIn_sub (fun _ h => List.mem_cons_of_mem _ (List.mem_append_right _ h)) (by decide +kernel))
set_option maxRecDepth 20000 in
theorem gX11_releases_X11_dries : GoodIn wsX11_releases (wsV RX11 159 RX11 yX11_dries wsX11_dries) := goodIn_app (goodIn_of _ (by decide +kernel)) ggX11_releases_X11_dries
set_option maxRecDepth 20000 in
theorem ggX11_releases_X11_done : GoodIn wsX11_releases wsX11_done := goodIn_r _ [68, 18, 69, 70, 71, 72, 73, 74, 75, 76, 77, 78, 79, 80, 81, 82, 83, 84, 85, 86] (by decide +kernel) (by decide +kernel)
set_option maxRecDepth 20000 in
theorem gX11_releases_X11_done : GoodIn wsX11_releases (wsV RX11 98 RX11 yX11_done wsX11_done) := goodIn_app (goodIn_of _ (by decide +kernel)) ggX11_releases_X11_done
theorem dX11_releases_0 : decode cX11_releases 0 = .ok (.aload_n 0, 1) := by decide +kernel
theorem dX11_releases_1 : decode cX11_releases 1 = .ok (.iload_n 1, 1) := by decide +kernel
theorem dX11_releases_2 : decode cX11_releases 2 = .ok (.invokevirtual 69, 3) := by decide +kernel
theorem dX11_releases_5 : decode cX11_releases 5 = .ok (.ifCond .ne 9, 3) := by decide +kernel
theorem dX11_releases_8 : decode cX11_releases 8 = .ok (.aload_n 0, 1) := by decide +kernel
theorem dX11_releases_9 : decode cX11_releases 9 = .ok (.iconst 1, 1) := by decide +kernel
theorem dX11_releases_10 : decode cX11_releases 10 = .ok (.invokevirtual 95, 3) := by decide +kernel
theorem dX11_releases_13 : decode cX11_releases 13 = .ok (.ireturn, 1) := by decide +kernel
theorem dX11_releases_14 : decode cX11_releases 14 = .ok (.iload_n 2, 1) := by decide +kernel
theorem dX11_releases_15 : decode cX11_releases 15 = .ok (.iconst 1, 1) := by decide +kernel
theorem dX11_releases_16 : decode cX11_releases 16 = .ok (.bipush 50, 2) := by decide +kernel
theorem dX11_releases_18 : decode cX11_releases 18 = .ok (.invokestatic 65, 3) := by decide +kernel
theorem dX11_releases_21 : decode cX11_releases 21 = .ok (.ifCond .ne 9, 3) := by decide +kernel
theorem dX11_releases_24 : decode cX11_releases 24 = .ok (.aload_n 0, 1) := by decide +kernel
theorem dX11_releases_25 : decode cX11_releases 25 = .ok (.iconst 2, 1) := by decide +kernel
theorem dX11_releases_26 : decode cX11_releases 26 = .ok (.invokevirtual 95, 3) := by decide +kernel
theorem dX11_releases_29 : decode cX11_releases 29 = .ok (.ireturn, 1) := by decide +kernel
theorem dX11_releases_30 : decode cX11_releases 30 = .ok (.aload_n 0, 1) := by decide +kernel
theorem dX11_releases_31 : decode cX11_releases 31 = .ok (.iload_n 1, 1) := by decide +kernel
theorem dX11_releases_32 : decode cX11_releases 32 = .ok (.invokevirtual 81, 3) := by decide +kernel
theorem dX11_releases_35 : decode cX11_releases 35 = .ok (.ifCond .ne 9, 3) := by decide +kernel
theorem dX11_releases_38 : decode cX11_releases 38 = .ok (.aload_n 0, 1) := by decide +kernel
theorem dX11_releases_39 : decode cX11_releases 39 = .ok (.iconst 3, 1) := by decide +kernel
theorem dX11_releases_40 : decode cX11_releases 40 = .ok (.invokevirtual 95, 3) := by decide +kernel
theorem dX11_releases_43 : decode cX11_releases 43 = .ok (.ireturn, 1) := by decide +kernel
theorem dX11_releases_44 : decode cX11_releases 44 = .ok (.aload_n 0, 1) := by decide +kernel
theorem dX11_releases_45 : decode cX11_releases 45 = .ok (.iload_n 1, 1) := by decide +kernel
theorem dX11_releases_46 : decode cX11_releases 46 = .ok (.invokevirtual 149, 3) := by decide +kernel
theorem dX11_releases_49 : decode cX11_releases 49 = .ok (.istore_n 3, 1) := by decide +kernel
theorem dX11_releases_50 : decode cX11_releases 50 = .ok (.aload_n 0, 1) := by decide +kernel
theorem dX11_releases_51 : decode cX11_releases 51 = .ok (.iload_n 1, 1) := by decide +kernel
theorem dX11_releases_52 : decode cX11_releases 52 = .ok (.invokevirtual 152, 3) := by decide +kernel
theorem dX11_releases_55 : decode cX11_releases 55 = .ok (.ifCond .eq 9, 3) := by decide +kernel
theorem dX11_releases_58 : decode cX11_releases 58 = .ok (.aload_n 0, 1) := by decide +kernel
theorem dX11_releases_59 : decode cX11_releases 59 = .ok (.iconst 4, 1) := by decide +kernel
theorem dX11_releases_60 : decode cX11_releases 60 = .ok (.invokevirtual 95, 3) := by decide +kernel
theorem dX11_releases_63 : decode cX11_releases 63 = .ok (.ireturn, 1) := by decide +kernel
theorem dX11_releases_64 : decode cX11_releases 64 = .ok (.aload_n 0, 1) := by decide +kernel
theorem dX11_releases_65 : decode cX11_releases 65 = .ok (.bipush 36, 2) := by decide +kernel
theorem dX11_releases_67 : decode cX11_releases 67 = .ok (.iload_n 1, 1) := by decide +kernel
theorem dX11_releases_68 : decode cX11_releases 68 = .ok (.iadd, 1) := by decide +kernel
theorem dX11_releases_69 : decode cX11_releases 69 = .ok (.invokevirtual 61, 3) := by decide +kernel
theorem dX11_releases_72 : decode cX11_releases 72 = .ok (.iload_n 3, 1) := by decide +kernel
theorem dX11_releases_73 : decode cX11_releases 73 = .ok (.idiv, 1) := by decide +kernel
theorem dX11_releases_74 : decode cX11_releases 74 = .ok (.istore 4, 2) := by decide +kernel
theorem dX11_releases_76 : decode cX11_releases 76 = .ok (.iload_n 2, 1) := by decide +kernel
theorem dX11_releases_77 : decode cX11_releases 77 = .ok (.iload 4, 2) := by decide +kernel
theorem dX11_releases_79 : decode cX11_releases 79 = .ok (.if_icmp .ge 7, 3) := by decide +kernel
theorem dX11_releases_82 : decode cX11_releases 82 = .ok (.iload_n 2, 1) := by decide +kernel
theorem dX11_releases_83 : decode cX11_releases 83 = .ok (.goto 5, 3) := by decide +kernel
theorem dX11_releases_86 : decode cX11_releases 86 = .ok (.iload 4, 2) := by decide +kernel
theorem dX11_releases_88 : decode cX11_releases 88 = .ok (.istore 5, 2) := by decide +kernel
theorem dX11_releases_90 : decode cX11_releases 90 = .ok (.aload_n 0, 1) := by decide +kernel
theorem dX11_releases_91 : decode cX11_releases 91 = .ok (.iload_n 1, 1) := by decide +kernel
theorem dX11_releases_92 : decode cX11_releases 92 = .ok (.iload 5, 2) := by decide +kernel
theorem dX11_releases_94 : decode cX11_releases 94 = .ok (.i2l, 1) := by decide +kernel
theorem dX11_releases_95 : decode cX11_releases 95 = .ok (.invokevirtual 155, 3) := by decide +kernel
theorem dX11_releases_98 : decode cX11_releases 98 = .ok (.aload_n 0, 1) := by decide +kernel
theorem dX11_releases_99 : decode cX11_releases 99 = .ok (.getfield 7, 3) := by decide +kernel
theorem dX11_releases_102 : decode cX11_releases 102 = .ok (.bipush 36, 2) := by decide +kernel
theorem dX11_releases_104 : decode cX11_releases 104 = .ok (.iload_n 1, 1) := by decide +kernel
theorem dX11_releases_105 : decode cX11_releases 105 = .ok (.iadd, 1) := by decide +kernel
theorem dX11_releases_106 : decode cX11_releases 106 = .ok (.dup2, 1) := by decide +kernel
theorem dX11_releases_107 : decode cX11_releases 107 = .ok (.laload, 1) := by decide +kernel
theorem dX11_releases_108 : decode cX11_releases 108 = .ok (.iload_n 3, 1) := by decide +kernel
theorem dX11_releases_109 : decode cX11_releases 109 = .ok (.iload 5, 2) := by decide +kernel
theorem dX11_releases_111 : decode cX11_releases 111 = .ok (.imul, 1) := by decide +kernel
theorem dX11_releases_112 : decode cX11_releases 112 = .ok (.i2l, 1) := by decide +kernel
theorem dX11_releases_113 : decode cX11_releases 113 = .ok (.lsub, 1) := by decide +kernel
theorem dX11_releases_114 : decode cX11_releases 114 = .ok (.lastore, 1) := by decide +kernel
theorem dX11_releases_115 : decode cX11_releases 115 = .ok (.aload_n 0, 1) := by decide +kernel
theorem dX11_releases_116 : decode cX11_releases 116 = .ok (.getfield 7, 3) := by decide +kernel
theorem dX11_releases_119 : decode cX11_releases 119 = .ok (.iconst 4, 1) := by decide +kernel
theorem dX11_releases_120 : decode cX11_releases 120 = .ok (.dup2, 1) := by decide +kernel
theorem dX11_releases_121 : decode cX11_releases 121 = .ok (.laload, 1) := by decide +kernel
theorem dX11_releases_122 : decode cX11_releases 122 = .ok (.iload_n 3, 1) := by decide +kernel
theorem dX11_releases_123 : decode cX11_releases 123 = .ok (.iload 5, 2) := by decide +kernel
theorem dX11_releases_125 : decode cX11_releases 125 = .ok (.imul, 1) := by decide +kernel
theorem dX11_releases_126 : decode cX11_releases 126 = .ok (.i2l, 1) := by decide +kernel
theorem dX11_releases_127 : decode cX11_releases 127 = .ok (.ladd, 1) := by decide +kernel
theorem dX11_releases_128 : decode cX11_releases 128 = .ok (.lastore, 1) := by decide +kernel
theorem dX11_releases_129 : decode cX11_releases 129 = .ok (.aload_n 0, 1) := by decide +kernel
theorem dX11_releases_130 : decode cX11_releases 130 = .ok (.getfield 7, 3) := by decide +kernel
theorem dX11_releases_133 : decode cX11_releases 133 = .ok (.iconst 5, 1) := by decide +kernel
theorem dX11_releases_134 : decode cX11_releases 134 = .ok (.dup2, 1) := by decide +kernel
theorem dX11_releases_135 : decode cX11_releases 135 = .ok (.laload, 1) := by decide +kernel
theorem dX11_releases_136 : decode cX11_releases 136 = .ok (.iload 5, 2) := by decide +kernel
theorem dX11_releases_138 : decode cX11_releases 138 = .ok (.ifCond .le 7, 3) := by decide +kernel
theorem dX11_releases_141 : decode cX11_releases 141 = .ok (.lconst 1, 1) := by decide +kernel
theorem dX11_releases_142 : decode cX11_releases 142 = .ok (.goto 4, 3) := by decide +kernel
theorem dX11_releases_145 : decode cX11_releases 145 = .ok (.lconst 0, 1) := by decide +kernel
theorem dX11_releases_146 : decode cX11_releases 146 = .ok (.ladd, 1) := by decide +kernel
theorem dX11_releases_147 : decode cX11_releases 147 = .ok (.lastore, 1) := by decide +kernel
theorem dX11_releases_148 : decode cX11_releases 148 = .ok (.aload_n 0, 1) := by decide +kernel
theorem dX11_releases_149 : decode cX11_releases 149 = .ok (.invokevirtual 159, 3) := by decide +kernel
theorem dX11_releases_152 : decode cX11_releases 152 = .ok (.aload_n 0, 1) := by decide +kernel
theorem dX11_releases_153 : decode cX11_releases 153 = .ok (.iload 5, 2) := by decide +kernel
theorem dX11_releases_155 : decode cX11_releases 155 = .ok (.invokevirtual 98, 3) := by decide +kernel
theorem dX11_releases_158 : decode cX11_releases 158 = .ok (.ireturn, 1) := by decide +kernel
set_option maxRecDepth 20000 in
theorem ggX11_release_X11_begin : GoodIn wsX11_release wsX11_begin := goodIn_ca (goodIn_r _ [5, 6, 7, 8, 9, 4, 10, 87, 88, 89, 90, 91, 92, 93, 94, 95, 96, 97, 98, 99, 100, 101, 102, 103, 104] (by decide +kernel) (by decide +kernel)) (goodIn_sub (fun _ h => List.mem_cons_of_mem _ (List.mem_append_left _ (List.mem_append_right _ h))) (by decide +kernel))
set_option maxRecDepth 20000 in
theorem gX11_release_X11_begin : GoodIn wsX11_release (wsV RX11 101 RX11 yX11_begin wsX11_begin) := goodIn_app (goodIn_of _ (by decide +kernel)) ggX11_release_X11_begin
set_option maxRecDepth 20000 in
theorem ggX11_release_X11_releases : GoodIn wsX11_release wsX11_releases := goodIn_ca (goodIn_ca (goodIn_r _ [14, 6, 15, 16, 17, 4, 18, 19, 20, 21, 22, 23, 24, 25, 26, 27, 28, 29, 30, 31, 32, 33, 34, 35, 36, 37, 38, 39, 40, 41, 42, 43, 44, 45, 46, 47, 48, 49, 50, 51, 52, 53, 54, 55, 56, 57, 58, 59, 60, 61, 62, 63, 64, 65, 66, 67, 68, 69, 70, 71, 72, 73, 74, 75, 76, 77, 78, 79, 80, 87, 88, 89, 90, 91, 92, 93, 94, 95, 96, 97, 98, 99, 100, 101, 102, 103, 104] (by decide +kernel) (by decide +kernel)) (goodIn_sub (fun _ h => List.mem_cons_of_mem _ (List.mem_append_right _ h)) (by decide +kernel))) (goodIn_sub (fun _ h => List.mem_cons_of_mem _ (List.mem_append_left _ (List.mem_append_right _ h))) (by decide +kernel))
set_option maxRecDepth 20000 in
theorem gX11_release_X11_releases : GoodIn wsX11_release (wsV RX11 162 RX11 yX11_releases wsX11_releases) := goodIn_app (goodIn_of _ (by decide +kernel)) ggX11_release_X11_releases
set_option maxRecDepth 20000 in
theorem ggX11_release_X11_kept : GoodIn wsX11_release wsX11_kept := goodIn_ca (goodIn_r _ [84, 30, 7, 6, 85, 86, 8, 9, 4, 10, 87, 88, 89, 90, 91, 92, 93, 94, 95, 96, 97, 98, 99, 100, 101, 102, 103, 104] (by decide +kernel) (by decide +kernel)) (goodIn_sub (fun _ h => List.mem_cons_of_mem _ (List.mem_append_left _ (List.mem_append_right _ h))) (by decide +kernel))
set_option maxRecDepth 20000 in
theorem gX11_release_X11_kept : GoodIn wsX11_release (wsV RX11 107 RX11 yX11_kept wsX11_kept) := goodIn_app (goodIn_of _ (by decide +kernel)) ggX11_release_X11_kept
theorem dX11_release_0 : decode cX11_release 0 = .ok (.aload_n 0, 1) := by decide +kernel
theorem dX11_release_1 : decode cX11_release 1 = .ok (.invokevirtual 101, 3) := by decide +kernel
theorem dX11_release_4 : decode cX11_release 4 = .ok (.aload_n 0, 1) := by decide +kernel
theorem dX11_release_5 : decode cX11_release 5 = .ok (.aload_n 0, 1) := by decide +kernel
theorem dX11_release_6 : decode cX11_release 6 = .ok (.iload_n 1, 1) := by decide +kernel
theorem dX11_release_7 : decode cX11_release 7 = .ok (.iload_n 2, 1) := by decide +kernel
theorem dX11_release_8 : decode cX11_release 8 = .ok (.invokevirtual 162, 3) := by decide +kernel
theorem dX11_release_11 : decode cX11_release 11 = .ok (.invokevirtual 107, 3) := by decide +kernel
theorem dX11_release_14 : decode cX11_release 14 = .ok (.ireturn, 1) := by decide +kernel
set_option maxRecDepth 20000 in
theorem ggX11_ratchets_X11_isGear : GoodIn wsX11_ratchets wsX11_isGear := goodIn_ca (goodIn_r _ [6, 7, 8, 9, 5, 10, 1, 11, 12, 13, 23, 24, 25, 26, 27, 28, 29, 30, 31, 32, 33, 34, 35, 36, 37, 38, 39, 40] (by decide +kernel) (by decide +kernel)) (goodIn_sub (fun _ h => List.mem_cons_of_mem _ (List.mem_append_right _ h)) (by decide +kernel))
set_option maxRecDepth 20000 in
theorem gX11_ratchets_X11_isGear : GoodIn wsX11_ratchets (wsV RX11 69 RX11 yX11_isGear wsX11_isGear) := goodIn_app (goodIn_of _ (by decide +kernel)) ggX11_ratchets_X11_isGear
set_option maxRecDepth 20000 in
theorem ggX11_ratchets_X11_fails : GoodIn wsX11_ratchets wsX11_fails := goodIn_r _ [17, 18, 23, 24, 25, 26, 27, 28, 29, 30, 31, 32, 33, 34, 35, 36, 37, 38, 39, 40] (by decide +kernel) (by decide +kernel)
set_option maxRecDepth 20000 in
theorem gX11_ratchets_X11_fails : GoodIn wsX11_ratchets (wsV RX11 95 RX11 yX11_fails wsX11_fails) := goodIn_app (goodIn_of _ (by decide +kernel)) ggX11_ratchets_X11_fails
set_option maxRecDepth 20000 in
theorem ggX11_ratchets_X11_at : GoodIn wsX11_ratchets wsX11_at := goodIn_ca (goodIn_r _ [10, 1, 23, 24, 25, 26, 27, 28, 29, 30, 31, 32, 33, 34, 35, 36, 37, 38, 39, 40] (by decide +kernel) (by decide +kernel)) (goodIn_sub (fun _ h => List.mem_cons_of_mem _ (List.mem_append_right _ h)) (by decide +kernel))
set_option maxRecDepth 20000 in
theorem gX11_ratchets_X11_at : GoodIn wsX11_ratchets (wsV RX11 61 RX11 yX11_at wsX11_at) := goodIn_app (goodIn_of _ (by decide +kernel)) ggX11_ratchets_X11_at
set_option maxRecDepth 20000 in
theorem ggX11_ratchets_X11_done : GoodIn wsX11_ratchets wsX11_done := goodIn_r _ [22, 18, 23, 24, 25, 26, 27, 28, 29, 30, 31, 32, 33, 34, 35, 36, 37, 38, 39, 40] (by decide +kernel) (by decide +kernel)
set_option maxRecDepth 20000 in
theorem gX11_ratchets_X11_done : GoodIn wsX11_ratchets (wsV RX11 98 RX11 yX11_done wsX11_done) := goodIn_app (goodIn_of _ (by decide +kernel)) ggX11_ratchets_X11_done
theorem dX11_ratchets_0 : decode cX11_ratchets 0 = .ok (.aload_n 0, 1) := by decide +kernel
theorem dX11_ratchets_1 : decode cX11_ratchets 1 = .ok (.iload_n 1, 1) := by decide +kernel
theorem dX11_ratchets_2 : decode cX11_ratchets 2 = .ok (.invokevirtual 69, 3) := by decide +kernel
theorem dX11_ratchets_5 : decode cX11_ratchets 5 = .ok (.ifCond .ne 9, 3) := by decide +kernel
theorem dX11_ratchets_8 : decode cX11_ratchets 8 = .ok (.aload_n 0, 1) := by decide +kernel
theorem dX11_ratchets_9 : decode cX11_ratchets 9 = .ok (.iconst 1, 1) := by decide +kernel
theorem dX11_ratchets_10 : decode cX11_ratchets 10 = .ok (.invokevirtual 95, 3) := by decide +kernel
theorem dX11_ratchets_13 : decode cX11_ratchets 13 = .ok (.ireturn, 1) := by decide +kernel
theorem dX11_ratchets_14 : decode cX11_ratchets 14 = .ok (.aload_n 0, 1) := by decide +kernel
theorem dX11_ratchets_15 : decode cX11_ratchets 15 = .ok (.bipush 56, 2) := by decide +kernel
theorem dX11_ratchets_17 : decode cX11_ratchets 17 = .ok (.iload_n 1, 1) := by decide +kernel
theorem dX11_ratchets_18 : decode cX11_ratchets 18 = .ok (.iadd, 1) := by decide +kernel
theorem dX11_ratchets_19 : decode cX11_ratchets 19 = .ok (.invokevirtual 61, 3) := by decide +kernel
theorem dX11_ratchets_22 : decode cX11_ratchets 22 = .ok (.istore_n 3, 1) := by decide +kernel
theorem dX11_ratchets_23 : decode cX11_ratchets 23 = .ok (.aload_n 0, 1) := by decide +kernel
theorem dX11_ratchets_24 : decode cX11_ratchets 24 = .ok (.getfield 7, 3) := by decide +kernel
theorem dX11_ratchets_27 : decode cX11_ratchets 27 = .ok (.bipush 56, 2) := by decide +kernel
theorem dX11_ratchets_29 : decode cX11_ratchets 29 = .ok (.iload_n 1, 1) := by decide +kernel
theorem dX11_ratchets_30 : decode cX11_ratchets 30 = .ok (.iadd, 1) := by decide +kernel
theorem dX11_ratchets_31 : decode cX11_ratchets 31 = .ok (.iload_n 2, 1) := by decide +kernel
theorem dX11_ratchets_32 : decode cX11_ratchets 32 = .ok (.ifCond .eq 7, 3) := by decide +kernel
theorem dX11_ratchets_35 : decode cX11_ratchets 35 = .ok (.lconst 1, 1) := by decide +kernel
theorem dX11_ratchets_36 : decode cX11_ratchets 36 = .ok (.goto 4, 3) := by decide +kernel
theorem dX11_ratchets_39 : decode cX11_ratchets 39 = .ok (.lconst 0, 1) := by decide +kernel
theorem dX11_ratchets_40 : decode cX11_ratchets 40 = .ok (.lastore, 1) := by decide +kernel
theorem dX11_ratchets_41 : decode cX11_ratchets 41 = .ok (.aload_n 0, 1) := by decide +kernel
theorem dX11_ratchets_42 : decode cX11_ratchets 42 = .ok (.iload_n 3, 1) := by decide +kernel
theorem dX11_ratchets_43 : decode cX11_ratchets 43 = .ok (.invokevirtual 98, 3) := by decide +kernel
theorem dX11_ratchets_46 : decode cX11_ratchets 46 = .ok (.ireturn, 1) := by decide +kernel
set_option maxRecDepth 20000 in
theorem ggX11_setRatchet_X11_begin : GoodIn wsX11_setRatchet wsX11_begin := goodIn_ca (goodIn_r _ [5, 6, 7, 8, 9, 4, 10, 41, 42, 43, 44, 45, 46, 47, 48, 49, 50, 51, 52, 53, 54, 55, 56, 57, 58] (by decide +kernel) (by decide +kernel)) (goodIn_sub (fun _ h => List.mem_cons_of_mem _ (List.mem_append_right _ h)) (by decide +kernel))
set_option maxRecDepth 20000 in
theorem gX11_setRatchet_X11_begin : GoodIn wsX11_setRatchet (wsV RX11 101 RX11 yX11_begin wsX11_begin) := goodIn_app (goodIn_of _ (by decide +kernel)) ggX11_setRatchet_X11_begin
set_option maxRecDepth 20000 in
theorem ggX11_setRatchet_X11_ratchets : GoodIn wsX11_setRatchet wsX11_ratchets := goodIn_ca (goodIn_r _ [14, 6, 15, 16, 17, 4, 18, 19, 20, 21, 22, 23, 24, 25, 26, 27, 28, 29, 30, 31, 32, 33, 34, 41, 42, 43, 44, 45, 46, 47, 48, 49, 50, 51, 52, 53, 54, 55, 56, 57, 58] (by decide +kernel) (by decide +kernel)) (goodIn_sub (fun _ h => List.mem_cons_of_mem _ (List.mem_append_right _ h)) (by decide +kernel))
set_option maxRecDepth 20000 in
theorem gX11_setRatchet_X11_ratchets : GoodIn wsX11_setRatchet (wsV RX11 165 RX11 yX11_ratchets wsX11_ratchets) := goodIn_app (goodIn_of _ (by decide +kernel)) ggX11_setRatchet_X11_ratchets
set_option maxRecDepth 20000 in
theorem ggX11_setRatchet_X11_kept : GoodIn wsX11_setRatchet wsX11_kept := goodIn_ca (goodIn_r _ [38, 30, 7, 6, 39, 40, 8, 9, 4, 10, 41, 42, 43, 44, 45, 46, 47, 48, 49, 50, 51, 52, 53, 54, 55, 56, 57, 58] (by decide +kernel) (by decide +kernel)) (goodIn_sub (fun _ h => List.mem_cons_of_mem _ (List.mem_append_right _ h)) (by decide +kernel))
set_option maxRecDepth 20000 in
theorem gX11_setRatchet_X11_kept : GoodIn wsX11_setRatchet (wsV RX11 107 RX11 yX11_kept wsX11_kept) := goodIn_app (goodIn_of _ (by decide +kernel)) ggX11_setRatchet_X11_kept
theorem dX11_setRatchet_0 : decode cX11_setRatchet 0 = .ok (.aload_n 0, 1) := by decide +kernel
theorem dX11_setRatchet_1 : decode cX11_setRatchet 1 = .ok (.invokevirtual 101, 3) := by decide +kernel
theorem dX11_setRatchet_4 : decode cX11_setRatchet 4 = .ok (.aload_n 0, 1) := by decide +kernel
theorem dX11_setRatchet_5 : decode cX11_setRatchet 5 = .ok (.aload_n 0, 1) := by decide +kernel
theorem dX11_setRatchet_6 : decode cX11_setRatchet 6 = .ok (.iload_n 1, 1) := by decide +kernel
theorem dX11_setRatchet_7 : decode cX11_setRatchet 7 = .ok (.iload_n 2, 1) := by decide +kernel
theorem dX11_setRatchet_8 : decode cX11_setRatchet 8 = .ok (.invokevirtual 165, 3) := by decide +kernel
theorem dX11_setRatchet_11 : decode cX11_setRatchet 11 = .ok (.invokevirtual 107, 3) := by decide +kernel
theorem dX11_setRatchet_14 : decode cX11_setRatchet 14 = .ok (.iconst 1, 1) := by decide +kernel
theorem dX11_setRatchet_15 : decode cX11_setRatchet 15 = .ok (.if_icmp .ne 7, 3) := by decide +kernel
theorem dX11_setRatchet_18 : decode cX11_setRatchet 18 = .ok (.iconst 1, 1) := by decide +kernel
theorem dX11_setRatchet_19 : decode cX11_setRatchet 19 = .ok (.goto 4, 3) := by decide +kernel
theorem dX11_setRatchet_22 : decode cX11_setRatchet 22 = .ok (.iconst 0, 1) := by decide +kernel
theorem dX11_setRatchet_23 : decode cX11_setRatchet 23 = .ok (.ireturn, 1) := by decide +kernel
set_option maxRecDepth 20000 in
theorem ggX11_oils_X11_isGear : GoodIn wsX11_oils wsX11_isGear := goodIn_ca (goodIn_r _ [6, 7, 8, 9, 5, 10, 1, 11, 12, 13, 23, 24, 25, 26, 27, 28, 29, 30, 31, 32, 33, 34, 35, 36, 37, 38, 39, 40] (by decide +kernel) (by decide +kernel)) (goodIn_sub (fun _ h => List.mem_cons_of_mem _ (List.mem_append_right _ h)) (by decide +kernel))
set_option maxRecDepth 20000 in
theorem gX11_oils_X11_isGear : GoodIn wsX11_oils (wsV RX11 69 RX11 yX11_isGear wsX11_isGear) := goodIn_app (goodIn_of _ (by decide +kernel)) ggX11_oils_X11_isGear
set_option maxRecDepth 20000 in
theorem ggX11_oils_X11_fails : GoodIn wsX11_oils wsX11_fails := goodIn_r _ [17, 18, 23, 24, 25, 26, 27, 28, 29, 30, 31, 32, 33, 34, 35, 36, 37, 38, 39, 40] (by decide +kernel) (by decide +kernel)
set_option maxRecDepth 20000 in
theorem gX11_oils_X11_fails : GoodIn wsX11_oils (wsV RX11 95 RX11 yX11_fails wsX11_fails) := goodIn_app (goodIn_of _ (by decide +kernel)) ggX11_oils_X11_fails
set_option maxRecDepth 20000 in
theorem ggX11_oils_X11_at : GoodIn wsX11_oils wsX11_at := goodIn_ca (goodIn_r _ [10, 1, 23, 24, 25, 26, 27, 28, 29, 30, 31, 32, 33, 34, 35, 36, 37, 38, 39, 40] (by decide +kernel) (by decide +kernel)) (goodIn_sub (fun _ h => List.mem_cons_of_mem _ (List.mem_append_right _ h)) (by decide +kernel))
set_option maxRecDepth 20000 in
theorem gX11_oils_X11_at : GoodIn wsX11_oils (wsV RX11 61 RX11 yX11_at wsX11_at) := goodIn_app (goodIn_of _ (by decide +kernel)) ggX11_oils_X11_at
set_option maxRecDepth 20000 in
theorem ggX11_oils_X11_done : GoodIn wsX11_oils wsX11_done := goodIn_r _ [22, 18, 23, 24, 25, 26, 27, 28, 29, 30, 31, 32, 33, 34, 35, 36, 37, 38, 39, 40] (by decide +kernel) (by decide +kernel)
set_option maxRecDepth 20000 in
theorem gX11_oils_X11_done : GoodIn wsX11_oils (wsV RX11 98 RX11 yX11_done wsX11_done) := goodIn_app (goodIn_of _ (by decide +kernel)) ggX11_oils_X11_done
theorem dX11_oils_0 : decode cX11_oils 0 = .ok (.aload_n 0, 1) := by decide +kernel
theorem dX11_oils_1 : decode cX11_oils 1 = .ok (.iload_n 1, 1) := by decide +kernel
theorem dX11_oils_2 : decode cX11_oils 2 = .ok (.invokevirtual 69, 3) := by decide +kernel
theorem dX11_oils_5 : decode cX11_oils 5 = .ok (.ifCond .ne 9, 3) := by decide +kernel
theorem dX11_oils_8 : decode cX11_oils 8 = .ok (.aload_n 0, 1) := by decide +kernel
theorem dX11_oils_9 : decode cX11_oils 9 = .ok (.iconst 1, 1) := by decide +kernel
theorem dX11_oils_10 : decode cX11_oils 10 = .ok (.invokevirtual 95, 3) := by decide +kernel
theorem dX11_oils_13 : decode cX11_oils 13 = .ok (.ireturn, 1) := by decide +kernel
theorem dX11_oils_14 : decode cX11_oils 14 = .ok (.aload_n 0, 1) := by decide +kernel
theorem dX11_oils_15 : decode cX11_oils 15 = .ok (.getfield 7, 3) := by decide +kernel
theorem dX11_oils_18 : decode cX11_oils 18 = .ok (.bipush 66, 2) := by decide +kernel
theorem dX11_oils_20 : decode cX11_oils 20 = .ok (.iload_n 1, 1) := by decide +kernel
theorem dX11_oils_21 : decode cX11_oils 21 = .ok (.iadd, 1) := by decide +kernel
theorem dX11_oils_22 : decode cX11_oils 22 = .ok (.laload, 1) := by decide +kernel
theorem dX11_oils_23 : decode cX11_oils 23 = .ok (.lconst 1, 1) := by decide +kernel
theorem dX11_oils_24 : decode cX11_oils 24 = .ok (.lcmp, 1) := by decide +kernel
theorem dX11_oils_25 : decode cX11_oils 25 = .ok (.ifCond .ne 9, 3) := by decide +kernel
theorem dX11_oils_28 : decode cX11_oils 28 = .ok (.aload_n 0, 1) := by decide +kernel
theorem dX11_oils_29 : decode cX11_oils 29 = .ok (.iconst 2, 1) := by decide +kernel
theorem dX11_oils_30 : decode cX11_oils 30 = .ok (.invokevirtual 95, 3) := by decide +kernel
theorem dX11_oils_33 : decode cX11_oils 33 = .ok (.ireturn, 1) := by decide +kernel
theorem dX11_oils_34 : decode cX11_oils 34 = .ok (.aload_n 0, 1) := by decide +kernel
theorem dX11_oils_35 : decode cX11_oils 35 = .ok (.getfield 7, 3) := by decide +kernel
theorem dX11_oils_38 : decode cX11_oils 38 = .ok (.iconst 2, 1) := by decide +kernel
theorem dX11_oils_39 : decode cX11_oils 39 = .ok (.laload, 1) := by decide +kernel
theorem dX11_oils_40 : decode cX11_oils 40 = .ok (.lconst 0, 1) := by decide +kernel
theorem dX11_oils_41 : decode cX11_oils 41 = .ok (.lcmp, 1) := by decide +kernel
theorem dX11_oils_42 : decode cX11_oils 42 = .ok (.ifCond .ne 9, 3) := by decide +kernel
theorem dX11_oils_45 : decode cX11_oils 45 = .ok (.aload_n 0, 1) := by decide +kernel
theorem dX11_oils_46 : decode cX11_oils 46 = .ok (.iconst 3, 1) := by decide +kernel
theorem dX11_oils_47 : decode cX11_oils 47 = .ok (.invokevirtual 95, 3) := by decide +kernel
theorem dX11_oils_50 : decode cX11_oils 50 = .ok (.ireturn, 1) := by decide +kernel
theorem dX11_oils_51 : decode cX11_oils 51 = .ok (.aload_n 0, 1) := by decide +kernel
theorem dX11_oils_52 : decode cX11_oils 52 = .ok (.getfield 7, 3) := by decide +kernel
theorem dX11_oils_55 : decode cX11_oils 55 = .ok (.bipush 66, 2) := by decide +kernel
theorem dX11_oils_57 : decode cX11_oils 57 = .ok (.iload_n 1, 1) := by decide +kernel
theorem dX11_oils_58 : decode cX11_oils 58 = .ok (.iadd, 1) := by decide +kernel
theorem dX11_oils_59 : decode cX11_oils 59 = .ok (.lconst 1, 1) := by decide +kernel
theorem dX11_oils_60 : decode cX11_oils 60 = .ok (.lastore, 1) := by decide +kernel
theorem dX11_oils_61 : decode cX11_oils 61 = .ok (.aload_n 0, 1) := by decide +kernel
theorem dX11_oils_62 : decode cX11_oils 62 = .ok (.getfield 7, 3) := by decide +kernel
theorem dX11_oils_65 : decode cX11_oils 65 = .ok (.bipush 76, 2) := by decide +kernel
theorem dX11_oils_67 : decode cX11_oils 67 = .ok (.iload_n 1, 1) := by decide +kernel
theorem dX11_oils_68 : decode cX11_oils 68 = .ok (.iadd, 1) := by decide +kernel
theorem dX11_oils_69 : decode cX11_oils 69 = .ok (.lconst 0, 1) := by decide +kernel
theorem dX11_oils_70 : decode cX11_oils 70 = .ok (.lastore, 1) := by decide +kernel
theorem dX11_oils_71 : decode cX11_oils 71 = .ok (.aload_n 0, 1) := by decide +kernel
theorem dX11_oils_72 : decode cX11_oils 72 = .ok (.getfield 7, 3) := by decide +kernel
theorem dX11_oils_75 : decode cX11_oils 75 = .ok (.iconst 2, 1) := by decide +kernel
theorem dX11_oils_76 : decode cX11_oils 76 = .ok (.dup2, 1) := by decide +kernel
theorem dX11_oils_77 : decode cX11_oils 77 = .ok (.laload, 1) := by decide +kernel
theorem dX11_oils_78 : decode cX11_oils 78 = .ok (.lconst 1, 1) := by decide +kernel
theorem dX11_oils_79 : decode cX11_oils 79 = .ok (.lsub, 1) := by decide +kernel
theorem dX11_oils_80 : decode cX11_oils 80 = .ok (.lastore, 1) := by decide +kernel
theorem dX11_oils_81 : decode cX11_oils 81 = .ok (.aload_n 0, 1) := by decide +kernel
theorem dX11_oils_82 : decode cX11_oils 82 = .ok (.aload_n 0, 1) := by decide +kernel
theorem dX11_oils_83 : decode cX11_oils 83 = .ok (.iconst 2, 1) := by decide +kernel
theorem dX11_oils_84 : decode cX11_oils 84 = .ok (.invokevirtual 61, 3) := by decide +kernel
theorem dX11_oils_87 : decode cX11_oils 87 = .ok (.invokevirtual 98, 3) := by decide +kernel
theorem dX11_oils_90 : decode cX11_oils 90 = .ok (.ireturn, 1) := by decide +kernel
set_option maxRecDepth 20000 in
theorem ggX11_oil_X11_begin : GoodIn wsX11_oil wsX11_begin := goodIn_ca (goodIn_r _ [5, 6, 7, 8, 9, 4, 10, 41, 42, 43, 44, 45, 46, 47, 48, 49, 50, 51, 52, 53, 54, 55, 56, 57, 58] (by decide +kernel) (by decide +kernel)) (goodIn_sub (fun _ h => List.mem_cons_of_mem _ (List.mem_append_right _ h)) (by decide +kernel))
set_option maxRecDepth 20000 in
theorem gX11_oil_X11_begin : GoodIn wsX11_oil (wsV RX11 101 RX11 yX11_begin wsX11_begin) := goodIn_app (goodIn_of _ (by decide +kernel)) ggX11_oil_X11_begin
set_option maxRecDepth 20000 in
theorem ggX11_oil_X11_oils : GoodIn wsX11_oil wsX11_oils := goodIn_ca (goodIn_r _ [14, 6, 15, 16, 17, 4, 18, 19, 20, 21, 22, 23, 24, 25, 26, 27, 28, 29, 30, 31, 32, 33, 34, 41, 42, 43, 44, 45, 46, 47, 48, 49, 50, 51, 52, 53, 54, 55, 56, 57, 58] (by decide +kernel) (by decide +kernel)) (goodIn_sub (fun _ h => List.mem_cons_of_mem _ (List.mem_append_right _ h)) (by decide +kernel))
set_option maxRecDepth 20000 in
theorem gX11_oil_X11_oils : GoodIn wsX11_oil (wsV RX11 169 RX11 yX11_oils wsX11_oils) := goodIn_app (goodIn_of _ (by decide +kernel)) ggX11_oil_X11_oils
set_option maxRecDepth 20000 in
theorem ggX11_oil_X11_kept : GoodIn wsX11_oil wsX11_kept := goodIn_ca (goodIn_r _ [38, 30, 7, 6, 39, 40, 8, 9, 4, 10, 41, 42, 43, 44, 45, 46, 47, 48, 49, 50, 51, 52, 53, 54, 55, 56, 57, 58] (by decide +kernel) (by decide +kernel)) (goodIn_sub (fun _ h => List.mem_cons_of_mem _ (List.mem_append_right _ h)) (by decide +kernel))
set_option maxRecDepth 20000 in
theorem gX11_oil_X11_kept : GoodIn wsX11_oil (wsV RX11 107 RX11 yX11_kept wsX11_kept) := goodIn_app (goodIn_of _ (by decide +kernel)) ggX11_oil_X11_kept
theorem dX11_oil_0 : decode cX11_oil 0 = .ok (.aload_n 0, 1) := by decide +kernel
theorem dX11_oil_1 : decode cX11_oil 1 = .ok (.invokevirtual 101, 3) := by decide +kernel
theorem dX11_oil_4 : decode cX11_oil 4 = .ok (.aload_n 0, 1) := by decide +kernel
theorem dX11_oil_5 : decode cX11_oil 5 = .ok (.aload_n 0, 1) := by decide +kernel
theorem dX11_oil_6 : decode cX11_oil 6 = .ok (.iload_n 1, 1) := by decide +kernel
theorem dX11_oil_7 : decode cX11_oil 7 = .ok (.invokevirtual 169, 3) := by decide +kernel
theorem dX11_oil_10 : decode cX11_oil 10 = .ok (.invokevirtual 107, 3) := by decide +kernel
theorem dX11_oil_13 : decode cX11_oil 13 = .ok (.ireturn, 1) := by decide +kernel
set_option maxRecDepth 20000 in
theorem ggX11_buys_X11_in : GoodIn wsX11_buys wsX11_in := goodIn_r _ [6] (by decide +kernel) (by decide +kernel)
set_option maxRecDepth 20000 in
theorem gX11_buys_X11_in : GoodIn wsX11_buys (va_wsS RX11 65 yX11_in wsX11_in) := goodIn_app (goodIn_of _ (by decide +kernel)) ggX11_buys_X11_in
set_option maxRecDepth 20000 in
theorem ggX11_buys_X11_fails : GoodIn wsX11_buys wsX11_fails := goodIn_r _ [10, 11, 20, 21, 22, 23, 24, 25, 26, 27, 28, 29, 30, 31, 32, 33, 34, 35, 36, 37] (by decide +kernel) (by decide +kernel)
set_option maxRecDepth 20000 in
theorem gX11_buys_X11_fails : GoodIn wsX11_buys (wsV RX11 95 RX11 yX11_fails wsX11_fails) := goodIn_app (goodIn_of _ (by decide +kernel)) ggX11_buys_X11_fails
set_option maxRecDepth 20000 in
theorem ggX11_buys_X11_at : GoodIn wsX11_buys wsX11_at := goodIn_ca (goodIn_r _ [15, 1, 20, 21, 22, 23, 24, 25, 26, 27, 28, 29, 30, 31, 32, 33, 34, 35, 36, 37] (by decide +kernel) (by decide +kernel)) (goodIn_sub (fun _ h => List.mem_cons_of_mem _ (List.mem_append_right _ h)) (by decide +kernel))
set_option maxRecDepth 20000 in
theorem gX11_buys_X11_at : GoodIn wsX11_buys (wsV RX11 61 RX11 yX11_at wsX11_at) := goodIn_app (goodIn_of _ (by decide +kernel)) ggX11_buys_X11_at
set_option maxRecDepth 20000 in
theorem ggX11_buys_X11_done : GoodIn wsX11_buys wsX11_done := goodIn_r _ [19, 11, 20, 21, 22, 23, 24, 25, 26, 27, 28, 29, 30, 31, 32, 33, 34, 35, 36, 37] (by decide +kernel) (by decide +kernel)
set_option maxRecDepth 20000 in
theorem gX11_buys_X11_done : GoodIn wsX11_buys (wsV RX11 98 RX11 yX11_done wsX11_done) := goodIn_app (goodIn_of _ (by decide +kernel)) ggX11_buys_X11_done
theorem dX11_buys_0 : decode cX11_buys 0 = .ok (.iload_n 1, 1) := by decide +kernel
theorem dX11_buys_1 : decode cX11_buys 1 = .ok (.iconst 1, 1) := by decide +kernel
theorem dX11_buys_2 : decode cX11_buys 2 = .ok (.bipush 50, 2) := by decide +kernel
theorem dX11_buys_4 : decode cX11_buys 4 = .ok (.invokestatic 65, 3) := by decide +kernel
theorem dX11_buys_7 : decode cX11_buys 7 = .ok (.ifCond .ne 9, 3) := by decide +kernel
theorem dX11_buys_10 : decode cX11_buys 10 = .ok (.aload_n 0, 1) := by decide +kernel
theorem dX11_buys_11 : decode cX11_buys 11 = .ok (.iconst 1, 1) := by decide +kernel
theorem dX11_buys_12 : decode cX11_buys 12 = .ok (.invokevirtual 95, 3) := by decide +kernel
theorem dX11_buys_15 : decode cX11_buys 15 = .ok (.ireturn, 1) := by decide +kernel
theorem dX11_buys_16 : decode cX11_buys 16 = .ok (.aload_n 0, 1) := by decide +kernel
theorem dX11_buys_17 : decode cX11_buys 17 = .ok (.getfield 7, 3) := by decide +kernel
theorem dX11_buys_20 : decode cX11_buys 20 = .ok (.iconst 2, 1) := by decide +kernel
theorem dX11_buys_21 : decode cX11_buys 21 = .ok (.laload, 1) := by decide +kernel
theorem dX11_buys_22 : decode cX11_buys 22 = .ok (.iload_n 1, 1) := by decide +kernel
theorem dX11_buys_23 : decode cX11_buys 23 = .ok (.i2l, 1) := by decide +kernel
theorem dX11_buys_24 : decode cX11_buys 24 = .ok (.ladd, 1) := by decide +kernel
theorem dX11_buys_25 : decode cX11_buys 25 = .ok (.ldc2_w 172, 3) := by decide +kernel
theorem dX11_buys_28 : decode cX11_buys 28 = .ok (.lcmp, 1) := by decide +kernel
theorem dX11_buys_29 : decode cX11_buys 29 = .ok (.ifCond .le 9, 3) := by decide +kernel
theorem dX11_buys_32 : decode cX11_buys 32 = .ok (.aload_n 0, 1) := by decide +kernel
theorem dX11_buys_33 : decode cX11_buys 33 = .ok (.iconst 2, 1) := by decide +kernel
theorem dX11_buys_34 : decode cX11_buys 34 = .ok (.invokevirtual 95, 3) := by decide +kernel
theorem dX11_buys_37 : decode cX11_buys 37 = .ok (.ireturn, 1) := by decide +kernel
theorem dX11_buys_38 : decode cX11_buys 38 = .ok (.aload_n 0, 1) := by decide +kernel
theorem dX11_buys_39 : decode cX11_buys 39 = .ok (.getfield 7, 3) := by decide +kernel
theorem dX11_buys_42 : decode cX11_buys 42 = .ok (.iconst 2, 1) := by decide +kernel
theorem dX11_buys_43 : decode cX11_buys 43 = .ok (.dup2, 1) := by decide +kernel
theorem dX11_buys_44 : decode cX11_buys 44 = .ok (.laload, 1) := by decide +kernel
theorem dX11_buys_45 : decode cX11_buys 45 = .ok (.iload_n 1, 1) := by decide +kernel
theorem dX11_buys_46 : decode cX11_buys 46 = .ok (.i2l, 1) := by decide +kernel
theorem dX11_buys_47 : decode cX11_buys 47 = .ok (.ladd, 1) := by decide +kernel
theorem dX11_buys_48 : decode cX11_buys 48 = .ok (.lastore, 1) := by decide +kernel
theorem dX11_buys_49 : decode cX11_buys 49 = .ok (.aload_n 0, 1) := by decide +kernel
theorem dX11_buys_50 : decode cX11_buys 50 = .ok (.aload_n 0, 1) := by decide +kernel
theorem dX11_buys_51 : decode cX11_buys 51 = .ok (.iconst 2, 1) := by decide +kernel
theorem dX11_buys_52 : decode cX11_buys 52 = .ok (.invokevirtual 61, 3) := by decide +kernel
theorem dX11_buys_55 : decode cX11_buys 55 = .ok (.invokevirtual 98, 3) := by decide +kernel
theorem dX11_buys_58 : decode cX11_buys 58 = .ok (.ireturn, 1) := by decide +kernel
set_option maxRecDepth 20000 in
theorem ggX11_buyOil_X11_begin : GoodIn wsX11_buyOil wsX11_begin := goodIn_ca (goodIn_r _ [5, 6, 7, 8, 9, 4, 10, 38, 39, 40, 41, 42, 43, 44, 45, 46, 47, 48, 49, 50, 51, 52, 53, 54, 55] (by decide +kernel) (by decide +kernel)) (goodIn_sub (fun _ h => List.mem_cons_of_mem _ (List.mem_append_right _ h)) (by decide +kernel))
set_option maxRecDepth 20000 in
theorem gX11_buyOil_X11_begin : GoodIn wsX11_buyOil (wsV RX11 101 RX11 yX11_begin wsX11_begin) := goodIn_app (goodIn_of _ (by decide +kernel)) ggX11_buyOil_X11_begin
set_option maxRecDepth 20000 in
theorem ggX11_buyOil_X11_buys : GoodIn wsX11_buyOil wsX11_buys := goodIn_ca (goodIn_r _ [14, 6, 15, 16, 17, 4, 18, 19, 20, 21, 22, 23, 24, 25, 26, 27, 28, 29, 30, 31, 38, 39, 40, 41, 42, 43, 44, 45, 46, 47, 48, 49, 50, 51, 52, 53, 54, 55] (by decide +kernel) (by decide +kernel)) (goodIn_sub (fun _ h => List.mem_cons_of_mem _ (List.mem_append_right _ h)) (by decide +kernel))
set_option maxRecDepth 20000 in
theorem gX11_buyOil_X11_buys : GoodIn wsX11_buyOil (wsV RX11 174 RX11 yX11_buys wsX11_buys) := goodIn_app (goodIn_of _ (by decide +kernel)) ggX11_buyOil_X11_buys
set_option maxRecDepth 20000 in
theorem ggX11_buyOil_X11_kept : GoodIn wsX11_buyOil wsX11_kept := goodIn_ca (goodIn_r _ [35, 23, 7, 6, 36, 37, 8, 9, 4, 10, 38, 39, 40, 41, 42, 43, 44, 45, 46, 47, 48, 49, 50, 51, 52, 53, 54, 55] (by decide +kernel) (by decide +kernel)) (goodIn_sub (fun _ h => List.mem_cons_of_mem _ (List.mem_append_right _ h)) (by decide +kernel))
set_option maxRecDepth 20000 in
theorem gX11_buyOil_X11_kept : GoodIn wsX11_buyOil (wsV RX11 107 RX11 yX11_kept wsX11_kept) := goodIn_app (goodIn_of _ (by decide +kernel)) ggX11_buyOil_X11_kept
theorem dX11_buyOil_0 : decode cX11_buyOil 0 = .ok (.aload_n 0, 1) := by decide +kernel
theorem dX11_buyOil_1 : decode cX11_buyOil 1 = .ok (.invokevirtual 101, 3) := by decide +kernel
theorem dX11_buyOil_4 : decode cX11_buyOil 4 = .ok (.aload_n 0, 1) := by decide +kernel
theorem dX11_buyOil_5 : decode cX11_buyOil 5 = .ok (.aload_n 0, 1) := by decide +kernel
theorem dX11_buyOil_6 : decode cX11_buyOil 6 = .ok (.iload_n 1, 1) := by decide +kernel
theorem dX11_buyOil_7 : decode cX11_buyOil 7 = .ok (.invokevirtual 174, 3) := by decide +kernel
theorem dX11_buyOil_10 : decode cX11_buyOil 10 = .ok (.invokevirtual 107, 3) := by decide +kernel
theorem dX11_buyOil_13 : decode cX11_buyOil 13 = .ok (.ireturn, 1) := by decide +kernel
set_option maxRecDepth 20000 in
theorem ggX11_planetOn_X11_at : GoodIn wsX11_planetOn wsX11_at := goodIn_ca (goodIn_r _ [5, 6, 7, 8, 9, 10, 11, 12, 13, 14, 15, 16, 17, 18, 19, 20, 21, 22, 23, 24] (by decide +kernel) (by decide +kernel)) (goodIn_sub (fun _ h => List.mem_cons_of_mem _ (List.mem_append_right _ h)) (by decide +kernel))
set_option maxRecDepth 20000 in
theorem gX11_planetOn_X11_at : GoodIn wsX11_planetOn (wsV RX11 61 RX11 yX11_at wsX11_at) := goodIn_app (goodIn_of _ (by decide +kernel)) ggX11_planetOn_X11_at
theorem dX11_planetOn_0 : decode cX11_planetOn 0 = .ok (.iconst 0, 1) := by decide +kernel
theorem dX11_planetOn_1 : decode cX11_planetOn 1 = .ok (.istore_n 2, 1) := by decide +kernel
theorem dX11_planetOn_2 : decode cX11_planetOn 2 = .ok (.iload_n 2, 1) := by decide +kernel
theorem dX11_planetOn_3 : decode cX11_planetOn 3 = .ok (.aload_n 0, 1) := by decide +kernel
theorem dX11_planetOn_4 : decode cX11_planetOn 4 = .ok (.iconst 1, 1) := by decide +kernel
theorem dX11_planetOn_5 : decode cX11_planetOn 5 = .ok (.invokevirtual 61, 3) := by decide +kernel
theorem dX11_planetOn_8 : decode cX11_planetOn 8 = .ok (.if_icmp .ge 23, 3) := by decide +kernel
theorem dX11_planetOn_11 : decode cX11_planetOn 11 = .ok (.aload_n 0, 1) := by decide +kernel
theorem dX11_planetOn_12 : decode cX11_planetOn 12 = .ok (.bipush 86, 2) := by decide +kernel
theorem dX11_planetOn_14 : decode cX11_planetOn 14 = .ok (.iload_n 2, 1) := by decide +kernel
theorem dX11_planetOn_15 : decode cX11_planetOn 15 = .ok (.iadd, 1) := by decide +kernel
theorem dX11_planetOn_16 : decode cX11_planetOn 16 = .ok (.invokevirtual 61, 3) := by decide +kernel
theorem dX11_planetOn_19 : decode cX11_planetOn 19 = .ok (.iload_n 1, 1) := by decide +kernel
theorem dX11_planetOn_20 : decode cX11_planetOn 20 = .ok (.if_icmp .ne 5, 3) := by decide +kernel
theorem dX11_planetOn_23 : decode cX11_planetOn 23 = .ok (.iload_n 2, 1) := by decide +kernel
theorem dX11_planetOn_24 : decode cX11_planetOn 24 = .ok (.ireturn, 1) := by decide +kernel
theorem dX11_planetOn_25 : decode cX11_planetOn 25 = .ok (.iinc 2 1, 3) := by decide +kernel
theorem dX11_planetOn_28 : decode cX11_planetOn 28 = .ok (.goto (-26), 3) := by decide +kernel
theorem dX11_planetOn_31 : decode cX11_planetOn 31 = .ok (.iconst (-1), 1) := by decide +kernel
theorem dX11_planetOn_32 : decode cX11_planetOn 32 = .ok (.ireturn, 1) := by decide +kernel
set_option maxRecDepth 20000 in
theorem ggX11_addsPlanet_X11_isGear : GoodIn wsX11_addsPlanet wsX11_isGear := goodIn_ca (goodIn_r _ [6, 7, 8, 9, 5, 10, 1, 11, 12, 13, 27, 28, 29, 30, 31, 32, 33, 34, 35, 36, 37, 38, 39, 40, 41, 42, 43, 44] (by decide +kernel) (by decide +kernel)) (goodIn_sub (fun _ h => List.mem_cons_of_mem _ (List.mem_append_right _ h)) (by decide +kernel))
set_option maxRecDepth 20000 in
theorem gX11_addsPlanet_X11_isGear : GoodIn wsX11_addsPlanet (wsV RX11 69 RX11 yX11_isGear wsX11_isGear) := goodIn_app (goodIn_of _ (by decide +kernel)) ggX11_addsPlanet_X11_isGear
set_option maxRecDepth 20000 in
theorem ggX11_addsPlanet_X11_fails : GoodIn wsX11_addsPlanet wsX11_fails := goodIn_r _ [17, 18, 27, 28, 29, 30, 31, 32, 33, 34, 35, 36, 37, 38, 39, 40, 41, 42, 43, 44] (by decide +kernel) (by decide +kernel)
set_option maxRecDepth 20000 in
theorem gX11_addsPlanet_X11_fails : GoodIn wsX11_addsPlanet (wsV RX11 95 RX11 yX11_fails wsX11_fails) := goodIn_app (goodIn_of _ (by decide +kernel)) ggX11_addsPlanet_X11_fails
set_option maxRecDepth 20000 in
theorem ggX11_addsPlanet_X11_at : GoodIn wsX11_addsPlanet wsX11_at := goodIn_ca (goodIn_r _ [10, 1, 27, 28, 29, 30, 31, 32, 33, 34, 35, 36, 37, 38, 39, 40, 41, 42, 43, 44] (by decide +kernel) (by decide +kernel)) (goodIn_sub (fun _ h => List.mem_cons_of_mem _ (List.mem_append_right _ h)) (by decide +kernel))
set_option maxRecDepth 20000 in
theorem gX11_addsPlanet_X11_at : GoodIn wsX11_addsPlanet (wsV RX11 61 RX11 yX11_at wsX11_at) := goodIn_app (goodIn_of _ (by decide +kernel)) ggX11_addsPlanet_X11_at
set_option maxRecDepth 20000 in
theorem ggX11_addsPlanet_X11_planetOn : GoodIn wsX11_addsPlanet wsX11_planetOn := goodIn_ca (goodIn_r _ [22, 7, 8, 9, 5, 10, 1, 27, 28, 29, 30, 31, 32, 33, 34, 35, 36, 37, 38, 39, 40, 41, 42, 43, 44] (by decide +kernel) (by decide +kernel)) (goodIn_sub (fun _ h => List.mem_cons_of_mem _ (List.mem_append_right _ h)) (by decide +kernel))
set_option maxRecDepth 20000 in
theorem gX11_addsPlanet_X11_planetOn : GoodIn wsX11_addsPlanet (wsV RX11 177 RX11 yX11_planetOn wsX11_planetOn) := goodIn_app (goodIn_of _ (by decide +kernel)) ggX11_addsPlanet_X11_planetOn
set_option maxRecDepth 20000 in
theorem ggX11_addsPlanet_X11_done : GoodIn wsX11_addsPlanet wsX11_done := goodIn_r _ [26, 18, 27, 28, 29, 30, 31, 32, 33, 34, 35, 36, 37, 38, 39, 40, 41, 42, 43, 44] (by decide +kernel) (by decide +kernel)
set_option maxRecDepth 20000 in
theorem gX11_addsPlanet_X11_done : GoodIn wsX11_addsPlanet (wsV RX11 98 RX11 yX11_done wsX11_done) := goodIn_app (goodIn_of _ (by decide +kernel)) ggX11_addsPlanet_X11_done
theorem dX11_addsPlanet_0 : decode cX11_addsPlanet 0 = .ok (.aload_n 0, 1) := by decide +kernel
theorem dX11_addsPlanet_1 : decode cX11_addsPlanet 1 = .ok (.iload_n 1, 1) := by decide +kernel
theorem dX11_addsPlanet_2 : decode cX11_addsPlanet 2 = .ok (.invokevirtual 69, 3) := by decide +kernel
theorem dX11_addsPlanet_5 : decode cX11_addsPlanet 5 = .ok (.ifCond .ne 9, 3) := by decide +kernel
theorem dX11_addsPlanet_8 : decode cX11_addsPlanet 8 = .ok (.aload_n 0, 1) := by decide +kernel
theorem dX11_addsPlanet_9 : decode cX11_addsPlanet 9 = .ok (.iconst 1, 1) := by decide +kernel
theorem dX11_addsPlanet_10 : decode cX11_addsPlanet 10 = .ok (.invokevirtual 95, 3) := by decide +kernel
theorem dX11_addsPlanet_13 : decode cX11_addsPlanet 13 = .ok (.ireturn, 1) := by decide +kernel
theorem dX11_addsPlanet_14 : decode cX11_addsPlanet 14 = .ok (.aload_n 0, 1) := by decide +kernel
theorem dX11_addsPlanet_15 : decode cX11_addsPlanet 15 = .ok (.iconst 1, 1) := by decide +kernel
theorem dX11_addsPlanet_16 : decode cX11_addsPlanet 16 = .ok (.invokevirtual 61, 3) := by decide +kernel
theorem dX11_addsPlanet_19 : decode cX11_addsPlanet 19 = .ok (.istore_n 2, 1) := by decide +kernel
theorem dX11_addsPlanet_20 : decode cX11_addsPlanet 20 = .ok (.iload_n 2, 1) := by decide +kernel
theorem dX11_addsPlanet_21 : decode cX11_addsPlanet 21 = .ok (.bipush 6, 2) := by decide +kernel
theorem dX11_addsPlanet_23 : decode cX11_addsPlanet 23 = .ok (.if_icmp .eq 12, 3) := by decide +kernel
theorem dX11_addsPlanet_26 : decode cX11_addsPlanet 26 = .ok (.aload_n 0, 1) := by decide +kernel
theorem dX11_addsPlanet_27 : decode cX11_addsPlanet 27 = .ok (.iload_n 1, 1) := by decide +kernel
theorem dX11_addsPlanet_28 : decode cX11_addsPlanet 28 = .ok (.invokevirtual 177, 3) := by decide +kernel
theorem dX11_addsPlanet_31 : decode cX11_addsPlanet 31 = .ok (.iconst (-1), 1) := by decide +kernel
theorem dX11_addsPlanet_32 : decode cX11_addsPlanet 32 = .ok (.if_icmp .eq 9, 3) := by decide +kernel
theorem dX11_addsPlanet_35 : decode cX11_addsPlanet 35 = .ok (.aload_n 0, 1) := by decide +kernel
theorem dX11_addsPlanet_36 : decode cX11_addsPlanet 36 = .ok (.iconst 2, 1) := by decide +kernel
theorem dX11_addsPlanet_37 : decode cX11_addsPlanet 37 = .ok (.invokevirtual 95, 3) := by decide +kernel
theorem dX11_addsPlanet_40 : decode cX11_addsPlanet 40 = .ok (.ireturn, 1) := by decide +kernel
theorem dX11_addsPlanet_41 : decode cX11_addsPlanet 41 = .ok (.aload_n 0, 1) := by decide +kernel
theorem dX11_addsPlanet_42 : decode cX11_addsPlanet 42 = .ok (.getfield 7, 3) := by decide +kernel
theorem dX11_addsPlanet_45 : decode cX11_addsPlanet 45 = .ok (.bipush 86, 2) := by decide +kernel
theorem dX11_addsPlanet_47 : decode cX11_addsPlanet 47 = .ok (.iload_n 2, 1) := by decide +kernel
theorem dX11_addsPlanet_48 : decode cX11_addsPlanet 48 = .ok (.iadd, 1) := by decide +kernel
theorem dX11_addsPlanet_49 : decode cX11_addsPlanet 49 = .ok (.iload_n 1, 1) := by decide +kernel
theorem dX11_addsPlanet_50 : decode cX11_addsPlanet 50 = .ok (.i2l, 1) := by decide +kernel
theorem dX11_addsPlanet_51 : decode cX11_addsPlanet 51 = .ok (.lastore, 1) := by decide +kernel
theorem dX11_addsPlanet_52 : decode cX11_addsPlanet 52 = .ok (.aload_n 0, 1) := by decide +kernel
theorem dX11_addsPlanet_53 : decode cX11_addsPlanet 53 = .ok (.getfield 7, 3) := by decide +kernel
theorem dX11_addsPlanet_56 : decode cX11_addsPlanet 56 = .ok (.iconst 1, 1) := by decide +kernel
theorem dX11_addsPlanet_57 : decode cX11_addsPlanet 57 = .ok (.dup2, 1) := by decide +kernel
theorem dX11_addsPlanet_58 : decode cX11_addsPlanet 58 = .ok (.laload, 1) := by decide +kernel
theorem dX11_addsPlanet_59 : decode cX11_addsPlanet 59 = .ok (.lconst 1, 1) := by decide +kernel
theorem dX11_addsPlanet_60 : decode cX11_addsPlanet 60 = .ok (.ladd, 1) := by decide +kernel
theorem dX11_addsPlanet_61 : decode cX11_addsPlanet 61 = .ok (.lastore, 1) := by decide +kernel
theorem dX11_addsPlanet_62 : decode cX11_addsPlanet 62 = .ok (.aload_n 0, 1) := by decide +kernel
theorem dX11_addsPlanet_63 : decode cX11_addsPlanet 63 = .ok (.iload_n 2, 1) := by decide +kernel
theorem dX11_addsPlanet_64 : decode cX11_addsPlanet 64 = .ok (.invokevirtual 98, 3) := by decide +kernel
theorem dX11_addsPlanet_67 : decode cX11_addsPlanet 67 = .ok (.ireturn, 1) := by decide +kernel
set_option maxRecDepth 20000 in
theorem ggX11_addPlanet_X11_begin : GoodIn wsX11_addPlanet wsX11_begin := goodIn_ca (goodIn_r _ [5, 6, 7, 8, 9, 4, 10, 45, 46, 47, 48, 49, 50, 51, 52, 53, 54, 55, 56, 57, 58, 59, 60, 61, 62] (by decide +kernel) (by decide +kernel)) (goodIn_sub (fun _ h => List.mem_cons_of_mem _ (List.mem_append_right _ h)) (by decide +kernel))
set_option maxRecDepth 20000 in
theorem gX11_addPlanet_X11_begin : GoodIn wsX11_addPlanet (wsV RX11 101 RX11 yX11_begin wsX11_begin) := goodIn_app (goodIn_of _ (by decide +kernel)) ggX11_addPlanet_X11_begin
set_option maxRecDepth 20000 in
theorem ggX11_addPlanet_X11_addsPlanet : GoodIn wsX11_addPlanet wsX11_addsPlanet := goodIn_ca (goodIn_r _ [14, 6, 15, 16, 17, 4, 18, 19, 20, 21, 22, 23, 24, 25, 26, 27, 28, 29, 30, 31, 32, 33, 34, 35, 36, 37, 38, 45, 46, 47, 48, 49, 50, 51, 52, 53, 54, 55, 56, 57, 58, 59, 60, 61, 62] (by decide +kernel) (by decide +kernel)) (goodIn_sub (fun _ h => List.mem_cons_of_mem _ (List.mem_append_right _ h)) (by decide +kernel))
set_option maxRecDepth 20000 in
theorem gX11_addPlanet_X11_addsPlanet : GoodIn wsX11_addPlanet (wsV RX11 180 RX11 yX11_addsPlanet wsX11_addsPlanet) := goodIn_app (goodIn_of _ (by decide +kernel)) ggX11_addPlanet_X11_addsPlanet
set_option maxRecDepth 20000 in
theorem ggX11_addPlanet_X11_kept : GoodIn wsX11_addPlanet wsX11_kept := goodIn_ca (goodIn_r _ [42, 30, 7, 6, 43, 44, 8, 9, 4, 10, 45, 46, 47, 48, 49, 50, 51, 52, 53, 54, 55, 56, 57, 58, 59, 60, 61, 62] (by decide +kernel) (by decide +kernel)) (goodIn_sub (fun _ h => List.mem_cons_of_mem _ (List.mem_append_right _ h)) (by decide +kernel))
set_option maxRecDepth 20000 in
theorem gX11_addPlanet_X11_kept : GoodIn wsX11_addPlanet (wsV RX11 107 RX11 yX11_kept wsX11_kept) := goodIn_app (goodIn_of _ (by decide +kernel)) ggX11_addPlanet_X11_kept
theorem dX11_addPlanet_0 : decode cX11_addPlanet 0 = .ok (.aload_n 0, 1) := by decide +kernel
theorem dX11_addPlanet_1 : decode cX11_addPlanet 1 = .ok (.invokevirtual 101, 3) := by decide +kernel
theorem dX11_addPlanet_4 : decode cX11_addPlanet 4 = .ok (.aload_n 0, 1) := by decide +kernel
theorem dX11_addPlanet_5 : decode cX11_addPlanet 5 = .ok (.aload_n 0, 1) := by decide +kernel
theorem dX11_addPlanet_6 : decode cX11_addPlanet 6 = .ok (.iload_n 1, 1) := by decide +kernel
theorem dX11_addPlanet_7 : decode cX11_addPlanet 7 = .ok (.invokevirtual 180, 3) := by decide +kernel
theorem dX11_addPlanet_10 : decode cX11_addPlanet 10 = .ok (.invokevirtual 107, 3) := by decide +kernel
theorem dX11_addPlanet_13 : decode cX11_addPlanet 13 = .ok (.ireturn, 1) := by decide +kernel
set_option maxRecDepth 20000 in
theorem ggX11_gearCount_X11_at : GoodIn wsX11_gearCount wsX11_at := goodIn_ca (goodIn_r _ [5, 6, 12, 13, 14, 15, 16, 17, 18, 19, 20, 21, 22, 23, 24, 25, 26, 27, 28, 29] (by decide +kernel) (by decide +kernel)) (goodIn_sub (fun _ h => List.mem_cons_of_mem _ (List.mem_append_right _ h)) (by decide +kernel))
set_option maxRecDepth 20000 in
theorem gX11_gearCount_X11_at : GoodIn wsX11_gearCount (wsV RX11 61 RX11 yX11_at wsX11_at) := goodIn_app (goodIn_of _ (by decide +kernel)) ggX11_gearCount_X11_at
set_option maxRecDepth 20000 in
theorem ggX11_gearCount_X11_done : GoodIn wsX11_gearCount wsX11_done := goodIn_r _ [10, 11, 12, 13, 14, 15, 16, 17, 18, 19, 20, 21, 22, 23, 24, 25, 26, 27, 28, 29] (by decide +kernel) (by decide +kernel)
set_option maxRecDepth 20000 in
theorem gX11_gearCount_X11_done : GoodIn wsX11_gearCount (wsV RX11 98 RX11 yX11_done wsX11_done) := goodIn_app (goodIn_of _ (by decide +kernel)) ggX11_gearCount_X11_done
theorem dX11_gearCount_0 : decode cX11_gearCount 0 = .ok (.aload_n 0, 1) := by decide +kernel
theorem dX11_gearCount_1 : decode cX11_gearCount 1 = .ok (.aload_n 0, 1) := by decide +kernel
theorem dX11_gearCount_2 : decode cX11_gearCount 2 = .ok (.iconst 0, 1) := by decide +kernel
theorem dX11_gearCount_3 : decode cX11_gearCount 3 = .ok (.invokevirtual 61, 3) := by decide +kernel
theorem dX11_gearCount_6 : decode cX11_gearCount 6 = .ok (.invokevirtual 98, 3) := by decide +kernel
theorem dX11_gearCount_9 : decode cX11_gearCount 9 = .ok (.ireturn, 1) := by decide +kernel
set_option maxRecDepth 20000 in
theorem ggX11_teeth_X11_isGear : GoodIn wsX11_teeth wsX11_isGear := goodIn_ca (goodIn_r _ [5, 6, 7, 8, 4, 9, 10, 11, 12, 13, 23, 24, 25, 26, 27, 28, 29, 30, 31, 32, 33, 34, 35, 36, 37, 38, 39, 40] (by decide +kernel) (by decide +kernel)) (goodIn_sub (fun _ h => List.mem_cons_of_mem _ (List.mem_append_right _ h)) (by decide +kernel))
set_option maxRecDepth 20000 in
theorem gX11_teeth_X11_isGear : GoodIn wsX11_teeth (wsV RX11 69 RX11 yX11_isGear wsX11_isGear) := goodIn_app (goodIn_of _ (by decide +kernel)) ggX11_teeth_X11_isGear
set_option maxRecDepth 20000 in
theorem ggX11_teeth_X11_at : GoodIn wsX11_teeth wsX11_at := goodIn_ca (goodIn_r _ [9, 10, 23, 24, 25, 26, 27, 28, 29, 30, 31, 32, 33, 34, 35, 36, 37, 38, 39, 40] (by decide +kernel) (by decide +kernel)) (goodIn_sub (fun _ h => List.mem_cons_of_mem _ (List.mem_append_right _ h)) (by decide +kernel))
set_option maxRecDepth 20000 in
theorem gX11_teeth_X11_at : GoodIn wsX11_teeth (wsV RX11 61 RX11 yX11_at wsX11_at) := goodIn_app (goodIn_of _ (by decide +kernel)) ggX11_teeth_X11_at
set_option maxRecDepth 20000 in
theorem ggX11_teeth_X11_done : GoodIn wsX11_teeth wsX11_done := goodIn_r _ [17, 18, 23, 24, 25, 26, 27, 28, 29, 30, 31, 32, 33, 34, 35, 36, 37, 38, 39, 40] (by decide +kernel) (by decide +kernel)
set_option maxRecDepth 20000 in
theorem gX11_teeth_X11_done : GoodIn wsX11_teeth (wsV RX11 98 RX11 yX11_done wsX11_done) := goodIn_app (goodIn_of _ (by decide +kernel)) ggX11_teeth_X11_done
set_option maxRecDepth 20000 in
theorem ggX11_teeth_X11_fails : GoodIn wsX11_teeth wsX11_fails := goodIn_r _ [22, 18, 23, 24, 25, 26, 27, 28, 29, 30, 31, 32, 33, 34, 35, 36, 37, 38, 39, 40] (by decide +kernel) (by decide +kernel)
set_option maxRecDepth 20000 in
theorem gX11_teeth_X11_fails : GoodIn wsX11_teeth (wsV RX11 95 RX11 yX11_fails wsX11_fails) := goodIn_app (goodIn_of _ (by decide +kernel)) ggX11_teeth_X11_fails
theorem dX11_teeth_0 : decode cX11_teeth 0 = .ok (.aload_n 0, 1) := by decide +kernel
theorem dX11_teeth_1 : decode cX11_teeth 1 = .ok (.iload_n 1, 1) := by decide +kernel
theorem dX11_teeth_2 : decode cX11_teeth 2 = .ok (.invokevirtual 69, 3) := by decide +kernel
theorem dX11_teeth_5 : decode cX11_teeth 5 = .ok (.ifCond .eq 18, 3) := by decide +kernel
theorem dX11_teeth_8 : decode cX11_teeth 8 = .ok (.aload_n 0, 1) := by decide +kernel
theorem dX11_teeth_9 : decode cX11_teeth 9 = .ok (.aload_n 0, 1) := by decide +kernel
theorem dX11_teeth_10 : decode cX11_teeth 10 = .ok (.bipush 6, 2) := by decide +kernel
theorem dX11_teeth_12 : decode cX11_teeth 12 = .ok (.iload_n 1, 1) := by decide +kernel
theorem dX11_teeth_13 : decode cX11_teeth 13 = .ok (.iadd, 1) := by decide +kernel
theorem dX11_teeth_14 : decode cX11_teeth 14 = .ok (.invokevirtual 61, 3) := by decide +kernel
theorem dX11_teeth_17 : decode cX11_teeth 17 = .ok (.invokevirtual 98, 3) := by decide +kernel
theorem dX11_teeth_20 : decode cX11_teeth 20 = .ok (.goto 8, 3) := by decide +kernel
theorem dX11_teeth_23 : decode cX11_teeth 23 = .ok (.aload_n 0, 1) := by decide +kernel
theorem dX11_teeth_24 : decode cX11_teeth 24 = .ok (.iconst 1, 1) := by decide +kernel
theorem dX11_teeth_25 : decode cX11_teeth 25 = .ok (.invokevirtual 95, 3) := by decide +kernel
theorem dX11_teeth_28 : decode cX11_teeth 28 = .ok (.ireturn, 1) := by decide +kernel
set_option maxRecDepth 20000 in
theorem ggX11_joint_X11_areGears : GoodIn wsX11_joint wsX11_areGears := goodIn_ca (goodIn_r _ [6, 7, 8, 9, 5, 10, 11, 12, 13, 14, 15, 16, 17, 18, 23, 24, 25, 26, 27, 28, 29, 30, 31, 32, 33, 34, 35, 36, 37, 38, 39, 40] (by decide +kernel) (by decide +kernel)) (goodIn_sub (fun _ h => List.mem_cons_of_mem _ (List.mem_append_right _ h)) (by decide +kernel))
set_option maxRecDepth 20000 in
theorem gX11_joint_X11_areGears : GoodIn wsX11_joint (wsV RX11 113 RX11 yX11_areGears wsX11_areGears) := goodIn_app (goodIn_of _ (by decide +kernel)) ggX11_joint_X11_areGears
set_option maxRecDepth 20000 in
theorem ggX11_joint_X11_jointOf : GoodIn wsX11_joint wsX11_jointOf := goodIn_ca (goodIn_r _ [22, 11, 12, 13, 5, 14, 15, 23, 24, 25, 26, 27, 28, 29, 30, 31, 32, 33, 34, 35, 36, 37, 38, 39, 40] (by decide +kernel) (by decide +kernel)) (goodIn_sub (fun _ h => List.mem_cons_of_mem _ (List.mem_append_right _ h)) (by decide +kernel))
set_option maxRecDepth 20000 in
theorem gX11_joint_X11_jointOf : GoodIn wsX11_joint (wsV RX11 73 RX11 yX11_jointOf wsX11_jointOf) := goodIn_app (goodIn_of _ (by decide +kernel)) ggX11_joint_X11_jointOf
theorem dX11_joint_0 : decode cX11_joint 0 = .ok (.aload_n 0, 1) := by decide +kernel
theorem dX11_joint_1 : decode cX11_joint 1 = .ok (.aload_n 0, 1) := by decide +kernel
theorem dX11_joint_2 : decode cX11_joint 2 = .ok (.iload_n 1, 1) := by decide +kernel
theorem dX11_joint_3 : decode cX11_joint 3 = .ok (.iload_n 2, 1) := by decide +kernel
theorem dX11_joint_4 : decode cX11_joint 4 = .ok (.invokevirtual 113, 3) := by decide +kernel
theorem dX11_joint_7 : decode cX11_joint 7 = .ok (.ifCond .ne 7, 3) := by decide +kernel
theorem dX11_joint_10 : decode cX11_joint 10 = .ok (.iconst 1, 1) := by decide +kernel
theorem dX11_joint_11 : decode cX11_joint 11 = .ok (.goto 17, 3) := by decide +kernel
theorem dX11_joint_14 : decode cX11_joint 14 = .ok (.aload_n 0, 1) := by decide +kernel
theorem dX11_joint_15 : decode cX11_joint 15 = .ok (.iload_n 1, 1) := by decide +kernel
theorem dX11_joint_16 : decode cX11_joint 16 = .ok (.iload_n 2, 1) := by decide +kernel
theorem dX11_joint_17 : decode cX11_joint 17 = .ok (.invokevirtual 73, 3) := by decide +kernel
theorem dX11_joint_20 : decode cX11_joint 20 = .ok (.ifCond .ne 7, 3) := by decide +kernel
theorem dX11_joint_23 : decode cX11_joint 23 = .ok (.iconst 2, 1) := by decide +kernel
theorem dX11_joint_24 : decode cX11_joint 24 = .ok (.goto 4, 3) := by decide +kernel
theorem dX11_joint_27 : decode cX11_joint 27 = .ok (.iconst 0, 1) := by decide +kernel
theorem dX11_joint_28 : decode cX11_joint 28 = .ok (.putfield 49, 3) := by decide +kernel
theorem dX11_joint_31 : decode cX11_joint 31 = .ok (.aload_n 0, 1) := by decide +kernel
theorem dX11_joint_32 : decode cX11_joint 32 = .ok (.getfield 49, 3) := by decide +kernel
theorem dX11_joint_35 : decode cX11_joint 35 = .ok (.ifCond .le 7, 3) := by decide +kernel
theorem dX11_joint_38 : decode cX11_joint 38 = .ok (.iconst 0, 1) := by decide +kernel
theorem dX11_joint_39 : decode cX11_joint 39 = .ok (.goto 20, 3) := by decide +kernel
theorem dX11_joint_42 : decode cX11_joint 42 = .ok (.aload_n 0, 1) := by decide +kernel
theorem dX11_joint_43 : decode cX11_joint 43 = .ok (.iload_n 1, 1) := by decide +kernel
theorem dX11_joint_44 : decode cX11_joint 44 = .ok (.iload_n 2, 1) := by decide +kernel
theorem dX11_joint_45 : decode cX11_joint 45 = .ok (.invokevirtual 73, 3) := by decide +kernel
theorem dX11_joint_48 : decode cX11_joint 48 = .ok (.iconst 1, 1) := by decide +kernel
theorem dX11_joint_49 : decode cX11_joint 49 = .ok (.if_icmp .ne 8, 3) := by decide +kernel
theorem dX11_joint_52 : decode cX11_joint 52 = .ok (.bipush 109, 2) := by decide +kernel
theorem dX11_joint_54 : decode cX11_joint 54 = .ok (.goto 5, 3) := by decide +kernel
theorem dX11_joint_57 : decode cX11_joint 57 = .ok (.bipush 97, 2) := by decide +kernel
theorem dX11_joint_59 : decode cX11_joint 59 = .ok (.ireturn, 1) := by decide +kernel
set_option maxRecDepth 20000 in
theorem ggX11_jointCount_X11_joints : GoodIn wsX11_jointCount wsX11_joints := goodIn_ca (goodIn_r _ [5, 6, 12, 13, 14, 15, 16, 17, 18, 19, 20, 21, 22, 23, 24, 25, 26, 27, 28, 29] (by decide +kernel) (by decide +kernel)) (goodIn_sub (fun _ h => List.mem_cons_of_mem _ (List.mem_append_right _ h)) (by decide +kernel))
set_option maxRecDepth 20000 in
theorem gX11_jointCount_X11_joints : GoodIn wsX11_jointCount (wsV RX11 116 RX11 yX11_joints wsX11_joints) := goodIn_app (goodIn_of _ (by decide +kernel)) ggX11_jointCount_X11_joints
set_option maxRecDepth 20000 in
theorem ggX11_jointCount_X11_done : GoodIn wsX11_jointCount wsX11_done := goodIn_r _ [10, 11, 12, 13, 14, 15, 16, 17, 18, 19, 20, 21, 22, 23, 24, 25, 26, 27, 28, 29] (by decide +kernel) (by decide +kernel)
set_option maxRecDepth 20000 in
theorem gX11_jointCount_X11_done : GoodIn wsX11_jointCount (wsV RX11 98 RX11 yX11_done wsX11_done) := goodIn_app (goodIn_of _ (by decide +kernel)) ggX11_jointCount_X11_done
theorem dX11_jointCount_0 : decode cX11_jointCount 0 = .ok (.aload_n 0, 1) := by decide +kernel
theorem dX11_jointCount_1 : decode cX11_jointCount 1 = .ok (.aload_n 0, 1) := by decide +kernel
theorem dX11_jointCount_2 : decode cX11_jointCount 2 = .ok (.invokevirtual 116, 3) := by decide +kernel
theorem dX11_jointCount_5 : decode cX11_jointCount 5 = .ok (.invokevirtual 98, 3) := by decide +kernel
theorem dX11_jointCount_8 : decode cX11_jointCount 8 = .ok (.ireturn, 1) := by decide +kernel
set_option maxRecDepth 20000 in
theorem ggX11_trainSize_X11_isGear : GoodIn wsX11_trainSize wsX11_isGear := goodIn_ca (goodIn_r _ [5, 6, 7, 8, 4, 9, 10, 11, 12, 13, 42, 43, 44, 45, 46, 47, 48, 49, 50, 51, 52, 53, 54, 55, 56, 57, 58, 59] (by decide +kernel) (by decide +kernel)) (goodIn_sub (fun _ h => List.mem_cons_of_mem _ (List.mem_append_left _ (List.mem_append_right _ h))) (by decide +kernel))
set_option maxRecDepth 20000 in
theorem gX11_trainSize_X11_isGear : GoodIn wsX11_trainSize (wsV RX11 69 RX11 yX11_isGear wsX11_isGear) := goodIn_app (goodIn_of _ (by decide +kernel)) ggX11_trainSize_X11_isGear
set_option maxRecDepth 20000 in
theorem ggX11_trainSize_X11_fails : GoodIn wsX11_trainSize wsX11_fails := goodIn_r _ [17, 18, 42, 43, 44, 45, 46, 47, 48, 49, 50, 51, 52, 53, 54, 55, 56, 57, 58, 59] (by decide +kernel) (by decide +kernel)
set_option maxRecDepth 20000 in
theorem gX11_trainSize_X11_fails : GoodIn wsX11_trainSize (wsV RX11 95 RX11 yX11_fails wsX11_fails) := goodIn_app (goodIn_of _ (by decide +kernel)) ggX11_trainSize_X11_fails
set_option maxRecDepth 20000 in
theorem ggX11_trainSize_X11_turns : GoodIn wsX11_trainSize wsX11_turns := goodIn_ca (goodIn_ca (goodIn_r _ [22, 23, 24, 25, 26, 27, 28, 4, 29, 10, 30, 31, 32, 33, 6, 7, 8, 9, 42, 43, 44, 45, 46, 47, 48, 49, 50, 51, 52, 53, 54, 55, 56, 57, 58, 59] (by decide +kernel) (by decide +kernel)) (goodIn_sub (fun _ h => List.mem_cons_of_mem _ (List.mem_append_left _ (List.mem_append_right _ h))) (by decide +kernel))) (goodIn_sub (fun _ h => List.mem_cons_of_mem _ (List.mem_append_right _ h)) (by decide +kernel))
set_option maxRecDepth 20000 in
theorem gX11_trainSize_X11_turns : GoodIn wsX11_trainSize (wsV RX11 84 RX11 yX11_turns wsX11_turns) := goodIn_app (goodIn_of _ (by decide +kernel)) ggX11_trainSize_X11_turns
set_option maxRecDepth 20000 in
theorem ggX11_trainSize_X11_members : GoodIn wsX11_trainSize wsX11_members := goodIn_ca (goodIn_r _ [37, 23, 42, 43, 44, 45, 46, 47, 48, 49, 50, 51, 52, 53, 54, 55, 56, 57, 58, 59] (by decide +kernel) (by decide +kernel)) (goodIn_sub (fun _ h => List.mem_cons_of_mem _ (List.mem_append_left _ (List.mem_append_right _ h))) (by decide +kernel))
set_option maxRecDepth 20000 in
theorem gX11_trainSize_X11_members : GoodIn wsX11_trainSize (wsV RX11 88 RX11 yX11_members wsX11_members) := goodIn_app (goodIn_of _ (by decide +kernel)) ggX11_trainSize_X11_members
set_option maxRecDepth 20000 in
theorem ggX11_trainSize_X11_done : GoodIn wsX11_trainSize wsX11_done := goodIn_r _ [41, 18, 42, 43, 44, 45, 46, 47, 48, 49, 50, 51, 52, 53, 54, 55, 56, 57, 58, 59] (by decide +kernel) (by decide +kernel)
set_option maxRecDepth 20000 in
theorem gX11_trainSize_X11_done : GoodIn wsX11_trainSize (wsV RX11 98 RX11 yX11_done wsX11_done) := goodIn_app (goodIn_of _ (by decide +kernel)) ggX11_trainSize_X11_done
theorem dX11_trainSize_0 : decode cX11_trainSize 0 = .ok (.aload_n 0, 1) := by decide +kernel
theorem dX11_trainSize_1 : decode cX11_trainSize 1 = .ok (.iload_n 1, 1) := by decide +kernel
theorem dX11_trainSize_2 : decode cX11_trainSize 2 = .ok (.invokevirtual 69, 3) := by decide +kernel
theorem dX11_trainSize_5 : decode cX11_trainSize 5 = .ok (.ifCond .ne 9, 3) := by decide +kernel
theorem dX11_trainSize_8 : decode cX11_trainSize 8 = .ok (.aload_n 0, 1) := by decide +kernel
theorem dX11_trainSize_9 : decode cX11_trainSize 9 = .ok (.iconst 1, 1) := by decide +kernel
theorem dX11_trainSize_10 : decode cX11_trainSize 10 = .ok (.invokevirtual 95, 3) := by decide +kernel
theorem dX11_trainSize_13 : decode cX11_trainSize 13 = .ok (.ireturn, 1) := by decide +kernel
theorem dX11_trainSize_14 : decode cX11_trainSize 14 = .ok (.aload_n 0, 1) := by decide +kernel
theorem dX11_trainSize_15 : decode cX11_trainSize 15 = .ok (.iload_n 1, 1) := by decide +kernel
theorem dX11_trainSize_16 : decode cX11_trainSize 16 = .ok (.invokevirtual 84, 3) := by decide +kernel
theorem dX11_trainSize_19 : decode cX11_trainSize 19 = .ok (.aload_n 0, 1) := by decide +kernel
theorem dX11_trainSize_20 : decode cX11_trainSize 20 = .ok (.aload_n 0, 1) := by decide +kernel
theorem dX11_trainSize_21 : decode cX11_trainSize 21 = .ok (.invokevirtual 88, 3) := by decide +kernel
theorem dX11_trainSize_24 : decode cX11_trainSize 24 = .ok (.invokevirtual 98, 3) := by decide +kernel
theorem dX11_trainSize_27 : decode cX11_trainSize 27 = .ok (.ireturn, 1) := by decide +kernel
set_option maxRecDepth 20000 in
theorem ggX11_areInTrain_X11_areGears : GoodIn wsX11_areInTrain wsX11_areGears := goodIn_ca (goodIn_r _ [7, 8, 9, 10, 6, 11, 12, 13, 14, 15, 16, 17, 18, 19, 34, 35, 36, 37, 38, 39, 40, 41, 42, 43, 44, 45, 46, 47, 48, 49, 50, 51] (by decide +kernel) (by decide +kernel)) (goodIn_sub (fun _ h => List.mem_cons_of_mem _ (List.mem_append_left _ (List.mem_append_right _ h))) (by decide +kernel))
set_option maxRecDepth 20000 in
theorem gX11_areInTrain_X11_areGears : GoodIn wsX11_areInTrain (wsV RX11 113 RX11 yX11_areGears wsX11_areGears) := goodIn_app (goodIn_of _ (by decide +kernel)) ggX11_areInTrain_X11_areGears
set_option maxRecDepth 20000 in
theorem ggX11_areInTrain_X11_turns : GoodIn wsX11_areInTrain wsX11_turns := goodIn_ca (goodIn_ca (goodIn_r _ [23, 2, 24, 25, 26, 27, 28, 6, 29, 16, 30, 31, 32, 33, 12, 13, 14, 15, 34, 35, 36, 37, 38, 39, 40, 41, 42, 43, 44, 45, 46, 47, 48, 49, 50, 51] (by decide +kernel) (by decide +kernel)) (goodIn_sub (fun _ h => List.mem_cons_of_mem _ (List.mem_append_left _ (List.mem_append_right _ h))) (by decide +kernel))) (goodIn_sub (fun _ h => List.mem_cons_of_mem _ (List.mem_append_right _ h)) (by decide +kernel))
set_option maxRecDepth 20000 in
theorem gX11_areInTrain_X11_turns : GoodIn wsX11_areInTrain (wsV RX11 84 RX11 yX11_turns wsX11_turns) := goodIn_app (goodIn_of _ (by decide +kernel)) ggX11_areInTrain_X11_turns
theorem dX11_areInTrain_0 : decode cX11_areInTrain 0 = .ok (.aload_n 0, 1) := by decide +kernel
theorem dX11_areInTrain_1 : decode cX11_areInTrain 1 = .ok (.aload_n 0, 1) := by decide +kernel
theorem dX11_areInTrain_2 : decode cX11_areInTrain 2 = .ok (.iload_n 1, 1) := by decide +kernel
theorem dX11_areInTrain_3 : decode cX11_areInTrain 3 = .ok (.iload_n 2, 1) := by decide +kernel
theorem dX11_areInTrain_4 : decode cX11_areInTrain 4 = .ok (.invokevirtual 113, 3) := by decide +kernel
theorem dX11_areInTrain_7 : decode cX11_areInTrain 7 = .ok (.ifCond .eq 7, 3) := by decide +kernel
theorem dX11_areInTrain_10 : decode cX11_areInTrain 10 = .ok (.iconst 0, 1) := by decide +kernel
theorem dX11_areInTrain_11 : decode cX11_areInTrain 11 = .ok (.goto 4, 3) := by decide +kernel
theorem dX11_areInTrain_14 : decode cX11_areInTrain 14 = .ok (.iconst 1, 1) := by decide +kernel
theorem dX11_areInTrain_15 : decode cX11_areInTrain 15 = .ok (.putfield 49, 3) := by decide +kernel
theorem dX11_areInTrain_18 : decode cX11_areInTrain 18 = .ok (.aload_n 0, 1) := by decide +kernel
theorem dX11_areInTrain_19 : decode cX11_areInTrain 19 = .ok (.getfield 49, 3) := by decide +kernel
theorem dX11_areInTrain_22 : decode cX11_areInTrain 22 = .ok (.ifCond .le 5, 3) := by decide +kernel
theorem dX11_areInTrain_25 : decode cX11_areInTrain 25 = .ok (.iconst 0, 1) := by decide +kernel
theorem dX11_areInTrain_26 : decode cX11_areInTrain 26 = .ok (.ireturn, 1) := by decide +kernel
theorem dX11_areInTrain_27 : decode cX11_areInTrain 27 = .ok (.aload_n 0, 1) := by decide +kernel
theorem dX11_areInTrain_28 : decode cX11_areInTrain 28 = .ok (.iload_n 1, 1) := by decide +kernel
theorem dX11_areInTrain_29 : decode cX11_areInTrain 29 = .ok (.invokevirtual 84, 3) := by decide +kernel
theorem dX11_areInTrain_32 : decode cX11_areInTrain 32 = .ok (.aload_n 0, 1) := by decide +kernel
theorem dX11_areInTrain_33 : decode cX11_areInTrain 33 = .ok (.getfield 39, 3) := by decide +kernel
theorem dX11_areInTrain_36 : decode cX11_areInTrain 36 = .ok (.iload_n 2, 1) := by decide +kernel
theorem dX11_areInTrain_37 : decode cX11_areInTrain 37 = .ok (.baload, 1) := by decide +kernel
theorem dX11_areInTrain_38 : decode cX11_areInTrain 38 = .ok (.ireturn, 1) := by decide +kernel
set_option maxRecDepth 20000 in
theorem ggX11_unitsPerTurn_X11_areGears : GoodIn wsX11_unitsPerTurn wsX11_areGears := goodIn_ca (goodIn_r _ [8, 9, 10, 11, 7, 12, 13, 14, 15, 16, 17, 18, 19, 20, 34, 35, 36, 37, 38, 39, 40, 41, 42, 43, 44, 45, 46, 47, 48, 49, 50, 51] (by decide +kernel) (by decide +kernel)) (goodIn_sub (fun _ h => List.mem_cons_of_mem _ (List.mem_append_left _ (List.mem_append_right _ h))) (by decide +kernel))
set_option maxRecDepth 20000 in
theorem gX11_unitsPerTurn_X11_areGears : GoodIn wsX11_unitsPerTurn (wsV RX11 113 RX11 yX11_areGears wsX11_areGears) := goodIn_app (goodIn_of _ (by decide +kernel)) ggX11_unitsPerTurn_X11_areGears
set_option maxRecDepth 20000 in
theorem ggX11_unitsPerTurn_X11_turns : GoodIn wsX11_unitsPerTurn wsX11_turns := goodIn_ca (goodIn_ca (goodIn_r _ [24, 2, 3, 25, 26, 27, 28, 7, 29, 17, 30, 31, 32, 33, 13, 14, 15, 16, 34, 35, 36, 37, 38, 39, 40, 41, 42, 43, 44, 45, 46, 47, 48, 49, 50, 51] (by decide +kernel) (by decide +kernel)) (goodIn_sub (fun _ h => List.mem_cons_of_mem _ (List.mem_append_left _ (List.mem_append_right _ h))) (by decide +kernel))) (goodIn_sub (fun _ h => List.mem_cons_of_mem _ (List.mem_append_right _ h)) (by decide +kernel))
set_option maxRecDepth 20000 in
theorem gX11_unitsPerTurn_X11_turns : GoodIn wsX11_unitsPerTurn (wsV RX11 84 RX11 yX11_turns wsX11_turns) := goodIn_app (goodIn_of _ (by decide +kernel)) ggX11_unitsPerTurn_X11_turns
theorem dX11_unitsPerTurn_0 : decode cX11_unitsPerTurn 0 = .ok (.aload_n 0, 1) := by decide +kernel
theorem dX11_unitsPerTurn_1 : decode cX11_unitsPerTurn 1 = .ok (.aload_n 0, 1) := by decide +kernel
theorem dX11_unitsPerTurn_2 : decode cX11_unitsPerTurn 2 = .ok (.iload_n 1, 1) := by decide +kernel
theorem dX11_unitsPerTurn_3 : decode cX11_unitsPerTurn 3 = .ok (.iload_n 2, 1) := by decide +kernel
theorem dX11_unitsPerTurn_4 : decode cX11_unitsPerTurn 4 = .ok (.invokevirtual 113, 3) := by decide +kernel
theorem dX11_unitsPerTurn_7 : decode cX11_unitsPerTurn 7 = .ok (.ifCond .eq 7, 3) := by decide +kernel
theorem dX11_unitsPerTurn_10 : decode cX11_unitsPerTurn 10 = .ok (.iconst 0, 1) := by decide +kernel
theorem dX11_unitsPerTurn_11 : decode cX11_unitsPerTurn 11 = .ok (.goto 4, 3) := by decide +kernel
theorem dX11_unitsPerTurn_14 : decode cX11_unitsPerTurn 14 = .ok (.iconst 1, 1) := by decide +kernel
theorem dX11_unitsPerTurn_15 : decode cX11_unitsPerTurn 15 = .ok (.putfield 49, 3) := by decide +kernel
theorem dX11_unitsPerTurn_18 : decode cX11_unitsPerTurn 18 = .ok (.aload_n 0, 1) := by decide +kernel
theorem dX11_unitsPerTurn_19 : decode cX11_unitsPerTurn 19 = .ok (.getfield 49, 3) := by decide +kernel
theorem dX11_unitsPerTurn_22 : decode cX11_unitsPerTurn 22 = .ok (.ifCond .le 5, 3) := by decide +kernel
theorem dX11_unitsPerTurn_25 : decode cX11_unitsPerTurn 25 = .ok (.lconst 0, 1) := by decide +kernel
theorem dX11_unitsPerTurn_26 : decode cX11_unitsPerTurn 26 = .ok (.lreturn, 1) := by decide +kernel
theorem dX11_unitsPerTurn_27 : decode cX11_unitsPerTurn 27 = .ok (.aload_n 0, 1) := by decide +kernel
theorem dX11_unitsPerTurn_28 : decode cX11_unitsPerTurn 28 = .ok (.iload_n 1, 1) := by decide +kernel
theorem dX11_unitsPerTurn_29 : decode cX11_unitsPerTurn 29 = .ok (.invokevirtual 84, 3) := by decide +kernel
theorem dX11_unitsPerTurn_32 : decode cX11_unitsPerTurn 32 = .ok (.aload_n 0, 1) := by decide +kernel
theorem dX11_unitsPerTurn_33 : decode cX11_unitsPerTurn 33 = .ok (.aload_n 0, 1) := by decide +kernel
theorem dX11_unitsPerTurn_34 : decode cX11_unitsPerTurn 34 = .ok (.getfield 39, 3) := by decide +kernel
theorem dX11_unitsPerTurn_37 : decode cX11_unitsPerTurn 37 = .ok (.iload_n 2, 1) := by decide +kernel
theorem dX11_unitsPerTurn_38 : decode cX11_unitsPerTurn 38 = .ok (.baload, 1) := by decide +kernel
theorem dX11_unitsPerTurn_39 : decode cX11_unitsPerTurn 39 = .ok (.ifCond .eq 7, 3) := by decide +kernel
theorem dX11_unitsPerTurn_42 : decode cX11_unitsPerTurn 42 = .ok (.iconst 0, 1) := by decide +kernel
theorem dX11_unitsPerTurn_43 : decode cX11_unitsPerTurn 43 = .ok (.goto 4, 3) := by decide +kernel
theorem dX11_unitsPerTurn_46 : decode cX11_unitsPerTurn 46 = .ok (.iconst 2, 1) := by decide +kernel
theorem dX11_unitsPerTurn_47 : decode cX11_unitsPerTurn 47 = .ok (.putfield 49, 3) := by decide +kernel
theorem dX11_unitsPerTurn_50 : decode cX11_unitsPerTurn 50 = .ok (.aload_n 0, 1) := by decide +kernel
theorem dX11_unitsPerTurn_51 : decode cX11_unitsPerTurn 51 = .ok (.getfield 36, 3) := by decide +kernel
theorem dX11_unitsPerTurn_54 : decode cX11_unitsPerTurn 54 = .ok (.iload_n 2, 1) := by decide +kernel
theorem dX11_unitsPerTurn_55 : decode cX11_unitsPerTurn 55 = .ok (.laload, 1) := by decide +kernel
theorem dX11_unitsPerTurn_56 : decode cX11_unitsPerTurn 56 = .ok (.lreturn, 1) := by decide +kernel
set_option maxRecDepth 20000 in
theorem ggX11_unitsPerTurnByLowest_X11_unitsPerTurn : GoodIn wsX11_unitsPerTurnByLowest wsX11_unitsPerTurn := goodIn_ca (goodIn_ca (goodIn_r _ [5, 6, 7, 8, 9, 10, 11, 4, 12, 13, 14, 15, 16, 17, 18, 19, 20, 21, 22, 23, 24, 25, 26, 27, 28, 29, 30, 31, 32, 33, 34, 35, 36, 37, 38, 39, 40, 41, 42, 43, 44, 45, 46, 47, 48, 49, 50, 51, 52, 53, 54, 55] (by decide +kernel) (by decide +kernel)) (goodIn_sub (fun _ h => List.mem_cons_of_mem _ (List.mem_append_left _ (List.mem_append_right _ h))) (by decide +kernel))) (goodIn_sub (fun _ h => List.mem_cons_of_mem _ (List.mem_append_right _ h)) (by decide +kernel))
set_option maxRecDepth 20000 in
theorem gX11_unitsPerTurnByLowest_X11_unitsPerTurn : GoodIn wsX11_unitsPerTurnByLowest (wsV RX11 183 RX11 yX11_unitsPerTurn wsX11_unitsPerTurn) := goodIn_app (goodIn_of _ (by decide +kernel)) ggX11_unitsPerTurnByLowest_X11_unitsPerTurn
theorem dX11_unitsPerTurnByLowest_0 : decode cX11_unitsPerTurnByLowest 0 = .ok (.aload_n 0, 1) := by decide +kernel
theorem dX11_unitsPerTurnByLowest_1 : decode cX11_unitsPerTurnByLowest 1 = .ok (.iload_n 1, 1) := by decide +kernel
theorem dX11_unitsPerTurnByLowest_2 : decode cX11_unitsPerTurnByLowest 2 = .ok (.iload_n 2, 1) := by decide +kernel
theorem dX11_unitsPerTurnByLowest_3 : decode cX11_unitsPerTurnByLowest 3 = .ok (.invokevirtual 183, 3) := by decide +kernel
theorem dX11_unitsPerTurnByLowest_6 : decode cX11_unitsPerTurnByLowest 6 = .ok (.lreturn, 1) := by decide +kernel
set_option maxRecDepth 20000 in
theorem ggX11_angle_X11_isGear : GoodIn wsX11_angle wsX11_isGear := goodIn_ca (goodIn_r _ [7, 8, 9, 10, 6, 11, 2, 12, 13, 14, 15, 16, 17, 18, 19, 20, 21, 22, 23, 24, 25, 26, 27, 28, 29, 30, 31, 32] (by decide +kernel) (by decide +kernel)) (goodIn_sub (fun _ h => List.mem_cons_of_mem _ (List.mem_append_right _ h)) (by decide +kernel))
set_option maxRecDepth 20000 in
theorem gX11_angle_X11_isGear : GoodIn wsX11_angle (wsV RX11 69 RX11 yX11_isGear wsX11_isGear) := goodIn_app (goodIn_of _ (by decide +kernel)) ggX11_angle_X11_isGear
theorem dX11_angle_0 : decode cX11_angle 0 = .ok (.aload_n 0, 1) := by decide +kernel
theorem dX11_angle_1 : decode cX11_angle 1 = .ok (.aload_n 0, 1) := by decide +kernel
theorem dX11_angle_2 : decode cX11_angle 2 = .ok (.iload_n 1, 1) := by decide +kernel
theorem dX11_angle_3 : decode cX11_angle 3 = .ok (.invokevirtual 69, 3) := by decide +kernel
theorem dX11_angle_6 : decode cX11_angle 6 = .ok (.ifCond .eq 7, 3) := by decide +kernel
theorem dX11_angle_9 : decode cX11_angle 9 = .ok (.iconst 0, 1) := by decide +kernel
theorem dX11_angle_10 : decode cX11_angle 10 = .ok (.goto 4, 3) := by decide +kernel
theorem dX11_angle_13 : decode cX11_angle 13 = .ok (.iconst 1, 1) := by decide +kernel
theorem dX11_angle_14 : decode cX11_angle 14 = .ok (.putfield 49, 3) := by decide +kernel
theorem dX11_angle_17 : decode cX11_angle 17 = .ok (.aload_n 0, 1) := by decide +kernel
theorem dX11_angle_18 : decode cX11_angle 18 = .ok (.getfield 49, 3) := by decide +kernel
theorem dX11_angle_21 : decode cX11_angle 21 = .ok (.ifCond .le 7, 3) := by decide +kernel
theorem dX11_angle_24 : decode cX11_angle 24 = .ok (.lconst 0, 1) := by decide +kernel
theorem dX11_angle_25 : decode cX11_angle 25 = .ok (.goto 12, 3) := by decide +kernel
theorem dX11_angle_28 : decode cX11_angle 28 = .ok (.aload_n 0, 1) := by decide +kernel
theorem dX11_angle_29 : decode cX11_angle 29 = .ok (.getfield 7, 3) := by decide +kernel
theorem dX11_angle_32 : decode cX11_angle 32 = .ok (.bipush 16, 2) := by decide +kernel
theorem dX11_angle_34 : decode cX11_angle 34 = .ok (.iload_n 1, 1) := by decide +kernel
theorem dX11_angle_35 : decode cX11_angle 35 = .ok (.iadd, 1) := by decide +kernel
theorem dX11_angle_36 : decode cX11_angle 36 = .ok (.laload, 1) := by decide +kernel
theorem dX11_angle_37 : decode cX11_angle 37 = .ok (.lreturn, 1) := by decide +kernel
set_option maxRecDepth 20000 in
theorem ggX11_anglePart_X11_isGear : GoodIn wsX11_anglePart wsX11_isGear := goodIn_ca (goodIn_r _ [8, 9, 10, 11, 7, 12, 2, 13, 14, 15, 16, 17, 18, 19, 20, 21, 22, 23, 24, 25, 26, 27, 28, 29, 30, 31, 32, 33] (by decide +kernel) (by decide +kernel)) (goodIn_sub (fun _ h => List.mem_cons_of_mem _ (List.mem_append_right _ h)) (by decide +kernel))
set_option maxRecDepth 20000 in
theorem gX11_anglePart_X11_isGear : GoodIn wsX11_anglePart (wsV RX11 69 RX11 yX11_isGear wsX11_isGear) := goodIn_app (goodIn_of _ (by decide +kernel)) ggX11_anglePart_X11_isGear
theorem dX11_anglePart_0 : decode cX11_anglePart 0 = .ok (.aload_n 0, 1) := by decide +kernel
theorem dX11_anglePart_1 : decode cX11_anglePart 1 = .ok (.aload_n 0, 1) := by decide +kernel
theorem dX11_anglePart_2 : decode cX11_anglePart 2 = .ok (.iload_n 1, 1) := by decide +kernel
theorem dX11_anglePart_3 : decode cX11_anglePart 3 = .ok (.invokevirtual 69, 3) := by decide +kernel
theorem dX11_anglePart_6 : decode cX11_anglePart 6 = .ok (.ifCond .eq 7, 3) := by decide +kernel
theorem dX11_anglePart_9 : decode cX11_anglePart 9 = .ok (.iconst 0, 1) := by decide +kernel
theorem dX11_anglePart_10 : decode cX11_anglePart 10 = .ok (.goto 4, 3) := by decide +kernel
theorem dX11_anglePart_13 : decode cX11_anglePart 13 = .ok (.iconst 1, 1) := by decide +kernel
theorem dX11_anglePart_14 : decode cX11_anglePart 14 = .ok (.putfield 49, 3) := by decide +kernel
theorem dX11_anglePart_17 : decode cX11_anglePart 17 = .ok (.aload_n 0, 1) := by decide +kernel
theorem dX11_anglePart_18 : decode cX11_anglePart 18 = .ok (.getfield 49, 3) := by decide +kernel
theorem dX11_anglePart_21 : decode cX11_anglePart 21 = .ok (.ifCond .le 7, 3) := by decide +kernel
theorem dX11_anglePart_24 : decode cX11_anglePart 24 = .ok (.dconst 0, 1) := by decide +kernel
theorem dX11_anglePart_25 : decode cX11_anglePart 25 = .ok (.goto 17, 3) := by decide +kernel
theorem dX11_anglePart_28 : decode cX11_anglePart 28 = .ok (.aload_n 0, 1) := by decide +kernel
theorem dX11_anglePart_29 : decode cX11_anglePart 29 = .ok (.getfield 7, 3) := by decide +kernel
theorem dX11_anglePart_32 : decode cX11_anglePart 32 = .ok (.bipush 16, 2) := by decide +kernel
theorem dX11_anglePart_34 : decode cX11_anglePart 34 = .ok (.iload_n 1, 1) := by decide +kernel
theorem dX11_anglePart_35 : decode cX11_anglePart 35 = .ok (.iadd, 1) := by decide +kernel
theorem dX11_anglePart_36 : decode cX11_anglePart 36 = .ok (.laload, 1) := by decide +kernel
theorem dX11_anglePart_37 : decode cX11_anglePart 37 = .ok (.l2d, 1) := by decide +kernel
theorem dX11_anglePart_38 : decode cX11_anglePart 38 = .ok (.ldc2_w 187, 3) := by decide +kernel
theorem dX11_anglePart_41 : decode cX11_anglePart 41 = .ok (.ddiv, 1) := by decide +kernel
theorem dX11_anglePart_42 : decode cX11_anglePart 42 = .ok (.dreturn, 1) := by decide +kernel
set_option maxRecDepth 20000 in
theorem ggX11_whyNoSpring_X11_isGear : GoodIn wsX11_whyNoSpring wsX11_isGear := goodIn_ca (goodIn_r _ [5, 6, 7, 8, 4, 9, 10, 11, 12, 13, 18, 19, 20, 21, 22, 23, 24, 25, 26, 27, 28, 29, 30, 31, 32, 33, 34, 35] (by decide +kernel) (by decide +kernel)) (goodIn_sub (fun _ h => List.mem_cons_of_mem _ (List.mem_append_right _ h)) (by decide +kernel))
set_option maxRecDepth 20000 in
theorem gX11_whyNoSpring_X11_isGear : GoodIn wsX11_whyNoSpring (wsV RX11 69 RX11 yX11_isGear wsX11_isGear) := goodIn_app (goodIn_of _ (by decide +kernel)) ggX11_whyNoSpring_X11_isGear
set_option maxRecDepth 20000 in
theorem ggX11_whyNoSpring_X11_hasSpring : GoodIn wsX11_whyNoSpring wsX11_hasSpring := goodIn_ca (goodIn_r _ [17, 6, 7, 8, 4, 9, 10, 18, 19, 20, 21, 22, 23, 24, 25, 26, 27, 28, 29, 30, 31, 32, 33, 34, 35] (by decide +kernel) (by decide +kernel)) (goodIn_sub (fun _ h => List.mem_cons_of_mem _ (List.mem_append_right _ h)) (by decide +kernel))
set_option maxRecDepth 20000 in
theorem gX11_whyNoSpring_X11_hasSpring : GoodIn wsX11_whyNoSpring (wsV RX11 81 RX11 yX11_hasSpring wsX11_hasSpring) := goodIn_app (goodIn_of _ (by decide +kernel)) ggX11_whyNoSpring_X11_hasSpring
theorem dX11_whyNoSpring_0 : decode cX11_whyNoSpring 0 = .ok (.aload_n 0, 1) := by decide +kernel
theorem dX11_whyNoSpring_1 : decode cX11_whyNoSpring 1 = .ok (.iload_n 1, 1) := by decide +kernel
theorem dX11_whyNoSpring_2 : decode cX11_whyNoSpring 2 = .ok (.invokevirtual 69, 3) := by decide +kernel
theorem dX11_whyNoSpring_5 : decode cX11_whyNoSpring 5 = .ok (.ifCond .ne 7, 3) := by decide +kernel
theorem dX11_whyNoSpring_8 : decode cX11_whyNoSpring 8 = .ok (.iconst 1, 1) := by decide +kernel
theorem dX11_whyNoSpring_9 : decode cX11_whyNoSpring 9 = .ok (.goto 16, 3) := by decide +kernel
theorem dX11_whyNoSpring_12 : decode cX11_whyNoSpring 12 = .ok (.aload_n 0, 1) := by decide +kernel
theorem dX11_whyNoSpring_13 : decode cX11_whyNoSpring 13 = .ok (.iload_n 1, 1) := by decide +kernel
theorem dX11_whyNoSpring_14 : decode cX11_whyNoSpring 14 = .ok (.invokevirtual 81, 3) := by decide +kernel
theorem dX11_whyNoSpring_17 : decode cX11_whyNoSpring 17 = .ok (.ifCond .eq 7, 3) := by decide +kernel
theorem dX11_whyNoSpring_20 : decode cX11_whyNoSpring 20 = .ok (.iconst 0, 1) := by decide +kernel
theorem dX11_whyNoSpring_21 : decode cX11_whyNoSpring 21 = .ok (.goto 4, 3) := by decide +kernel
theorem dX11_whyNoSpring_24 : decode cX11_whyNoSpring 24 = .ok (.iconst 2, 1) := by decide +kernel
theorem dX11_whyNoSpring_25 : decode cX11_whyNoSpring 25 = .ok (.ireturn, 1) := by decide +kernel
set_option maxRecDepth 20000 in
theorem ggX11_tension_X11_whyNoSpring : GoodIn wsX11_tension wsX11_whyNoSpring := goodIn_ca (goodIn_r _ [5, 6, 7, 8, 4, 9, 10, 11, 12, 13, 14, 15, 16, 17, 18, 19, 20, 21, 31, 32, 33, 34, 35, 36, 37, 38, 39, 40, 41, 42, 43, 44, 45, 46, 47, 48] (by decide +kernel) (by decide +kernel)) (goodIn_sub (fun _ h => List.mem_cons_of_mem _ (List.mem_append_right _ h)) (by decide +kernel))
set_option maxRecDepth 20000 in
theorem gX11_tension_X11_whyNoSpring : GoodIn wsX11_tension (wsV RX11 189 RX11 yX11_whyNoSpring wsX11_whyNoSpring) := goodIn_app (goodIn_of _ (by decide +kernel)) ggX11_tension_X11_whyNoSpring
set_option maxRecDepth 20000 in
theorem ggX11_tension_X11_fails : GoodIn wsX11_tension wsX11_fails := goodIn_r _ [25, 26, 31, 32, 33, 34, 35, 36, 37, 38, 39, 40, 41, 42, 43, 44, 45, 46, 47, 48] (by decide +kernel) (by decide +kernel)
set_option maxRecDepth 20000 in
theorem gX11_tension_X11_fails : GoodIn wsX11_tension (wsV RX11 95 RX11 yX11_fails wsX11_fails) := goodIn_app (goodIn_of _ (by decide +kernel)) ggX11_tension_X11_fails
set_option maxRecDepth 20000 in
theorem ggX11_tension_X11_at : GoodIn wsX11_tension wsX11_at := goodIn_ca (goodIn_r _ [13, 14, 31, 32, 33, 34, 35, 36, 37, 38, 39, 40, 41, 42, 43, 44, 45, 46, 47, 48] (by decide +kernel) (by decide +kernel)) (goodIn_sub (fun _ h => List.mem_cons_of_mem _ (List.mem_append_right _ h)) (by decide +kernel))
set_option maxRecDepth 20000 in
theorem gX11_tension_X11_at : GoodIn wsX11_tension (wsV RX11 61 RX11 yX11_at wsX11_at) := goodIn_app (goodIn_of _ (by decide +kernel)) ggX11_tension_X11_at
set_option maxRecDepth 20000 in
theorem ggX11_tension_X11_done : GoodIn wsX11_tension wsX11_done := goodIn_r _ [30, 26, 31, 32, 33, 34, 35, 36, 37, 38, 39, 40, 41, 42, 43, 44, 45, 46, 47, 48] (by decide +kernel) (by decide +kernel)
set_option maxRecDepth 20000 in
theorem gX11_tension_X11_done : GoodIn wsX11_tension (wsV RX11 98 RX11 yX11_done wsX11_done) := goodIn_app (goodIn_of _ (by decide +kernel)) ggX11_tension_X11_done
theorem dX11_tension_0 : decode cX11_tension 0 = .ok (.aload_n 0, 1) := by decide +kernel
theorem dX11_tension_1 : decode cX11_tension 1 = .ok (.iload_n 1, 1) := by decide +kernel
theorem dX11_tension_2 : decode cX11_tension 2 = .ok (.invokevirtual 189, 3) := by decide +kernel
theorem dX11_tension_5 : decode cX11_tension 5 = .ok (.istore_n 2, 1) := by decide +kernel
theorem dX11_tension_6 : decode cX11_tension 6 = .ok (.iload_n 2, 1) := by decide +kernel
theorem dX11_tension_7 : decode cX11_tension 7 = .ok (.ifCond .le 11, 3) := by decide +kernel
theorem dX11_tension_10 : decode cX11_tension 10 = .ok (.aload_n 0, 1) := by decide +kernel
theorem dX11_tension_11 : decode cX11_tension 11 = .ok (.iload_n 2, 1) := by decide +kernel
theorem dX11_tension_12 : decode cX11_tension 12 = .ok (.invokevirtual 95, 3) := by decide +kernel
theorem dX11_tension_15 : decode cX11_tension 15 = .ok (.goto 15, 3) := by decide +kernel
theorem dX11_tension_18 : decode cX11_tension 18 = .ok (.aload_n 0, 1) := by decide +kernel
theorem dX11_tension_19 : decode cX11_tension 19 = .ok (.aload_n 0, 1) := by decide +kernel
theorem dX11_tension_20 : decode cX11_tension 20 = .ok (.bipush 36, 2) := by decide +kernel
theorem dX11_tension_22 : decode cX11_tension 22 = .ok (.iload_n 1, 1) := by decide +kernel
theorem dX11_tension_23 : decode cX11_tension 23 = .ok (.iadd, 1) := by decide +kernel
theorem dX11_tension_24 : decode cX11_tension 24 = .ok (.invokevirtual 61, 3) := by decide +kernel
theorem dX11_tension_27 : decode cX11_tension 27 = .ok (.invokevirtual 98, 3) := by decide +kernel
theorem dX11_tension_30 : decode cX11_tension 30 = .ok (.ireturn, 1) := by decide +kernel
set_option maxRecDepth 20000 in
theorem ggX11_springSize_X11_whyNoSpring : GoodIn wsX11_springSize wsX11_whyNoSpring := goodIn_ca (goodIn_r _ [5, 6, 7, 8, 4, 9, 10, 11, 12, 13, 14, 15, 16, 17, 18, 19, 20, 21, 31, 32, 33, 34, 35, 36, 37, 38, 39, 40, 41, 42, 43, 44, 45, 46, 47, 48] (by decide +kernel) (by decide +kernel)) (goodIn_sub (fun _ h => List.mem_cons_of_mem _ (List.mem_append_right _ h)) (by decide +kernel))
set_option maxRecDepth 20000 in
theorem gX11_springSize_X11_whyNoSpring : GoodIn wsX11_springSize (wsV RX11 189 RX11 yX11_whyNoSpring wsX11_whyNoSpring) := goodIn_app (goodIn_of _ (by decide +kernel)) ggX11_springSize_X11_whyNoSpring
set_option maxRecDepth 20000 in
theorem ggX11_springSize_X11_fails : GoodIn wsX11_springSize wsX11_fails := goodIn_r _ [25, 26, 31, 32, 33, 34, 35, 36, 37, 38, 39, 40, 41, 42, 43, 44, 45, 46, 47, 48] (by decide +kernel) (by decide +kernel)
set_option maxRecDepth 20000 in
theorem gX11_springSize_X11_fails : GoodIn wsX11_springSize (wsV RX11 95 RX11 yX11_fails wsX11_fails) := goodIn_app (goodIn_of _ (by decide +kernel)) ggX11_springSize_X11_fails
set_option maxRecDepth 20000 in
theorem ggX11_springSize_X11_at : GoodIn wsX11_springSize wsX11_at := goodIn_ca (goodIn_r _ [13, 14, 31, 32, 33, 34, 35, 36, 37, 38, 39, 40, 41, 42, 43, 44, 45, 46, 47, 48] (by decide +kernel) (by decide +kernel)) (goodIn_sub (fun _ h => List.mem_cons_of_mem _ (List.mem_append_right _ h)) (by decide +kernel))
set_option maxRecDepth 20000 in
theorem gX11_springSize_X11_at : GoodIn wsX11_springSize (wsV RX11 61 RX11 yX11_at wsX11_at) := goodIn_app (goodIn_of _ (by decide +kernel)) ggX11_springSize_X11_at
set_option maxRecDepth 20000 in
theorem ggX11_springSize_X11_done : GoodIn wsX11_springSize wsX11_done := goodIn_r _ [30, 26, 31, 32, 33, 34, 35, 36, 37, 38, 39, 40, 41, 42, 43, 44, 45, 46, 47, 48] (by decide +kernel) (by decide +kernel)
set_option maxRecDepth 20000 in
theorem gX11_springSize_X11_done : GoodIn wsX11_springSize (wsV RX11 98 RX11 yX11_done wsX11_done) := goodIn_app (goodIn_of _ (by decide +kernel)) ggX11_springSize_X11_done
theorem dX11_springSize_0 : decode cX11_springSize 0 = .ok (.aload_n 0, 1) := by decide +kernel
