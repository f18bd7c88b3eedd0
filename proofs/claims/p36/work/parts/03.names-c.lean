theorem dX0_init_0 : decode cX0_init 0 = .ok (.aload_n 0, 1) := by decide +kernel
theorem dX0_init_1 : decode cX0_init 1 = .ok (.invokespecial 1, 3) := by decide +kernel
theorem dX0_init_4 : decode cX0_init 4 = .ok (.aload_n 0, 1) := by decide +kernel
theorem dX0_init_5 : decode cX0_init 5 = .ok (.bipush 12, 2) := by decide +kernel
theorem dX0_init_7 : decode cX0_init 7 = .ok (.newarray .int, 2) := by decide +kernel
theorem dX0_init_9 : decode cX0_init 9 = .ok (.putfield 9, 3) := by decide +kernel
theorem dX0_init_12 : decode cX0_init 12 = .ok (.aload_n 0, 1) := by decide +kernel
theorem dX0_init_13 : decode cX0_init 13 = .ok (.bipush 12, 2) := by decide +kernel
theorem dX0_init_15 : decode cX0_init 15 = .ok (.newarray .int, 2) := by decide +kernel
theorem dX0_init_17 : decode cX0_init 17 = .ok (.putfield 13, 3) := by decide +kernel
theorem dX0_init_20 : decode cX0_init 20 = .ok (.aload_n 0, 1) := by decide +kernel
theorem dX0_init_21 : decode cX0_init 21 = .ok (.bipush 12, 2) := by decide +kernel
theorem dX0_init_23 : decode cX0_init 23 = .ok (.newarray .int, 2) := by decide +kernel
theorem dX0_init_25 : decode cX0_init 25 = .ok (.putfield 16, 3) := by decide +kernel
theorem dX0_init_28 : decode cX0_init 28 = .ok (.aload_n 0, 1) := by decide +kernel
theorem dX0_init_29 : decode cX0_init 29 = .ok (.bipush 12, 2) := by decide +kernel
theorem dX0_init_31 : decode cX0_init 31 = .ok (.newarray .int, 2) := by decide +kernel
theorem dX0_init_33 : decode cX0_init 33 = .ok (.putfield 19, 3) := by decide +kernel
theorem dX0_init_36 : decode cX0_init 36 = .ok (.aload_n 0, 1) := by decide +kernel
theorem dX0_init_37 : decode cX0_init 37 = .ok (.iconst 0, 1) := by decide +kernel
theorem dX0_init_38 : decode cX0_init 38 = .ok (.putfield 22, 3) := by decide +kernel
theorem dX0_init_41 : decode cX0_init 41 = .ok (.aload_n 0, 1) := by decide +kernel
theorem dX0_init_42 : decode cX0_init 42 = .ok (.iconst 0, 1) := by decide +kernel
theorem dX0_init_43 : decode cX0_init 43 = .ok (.putfield 26, 3) := by decide +kernel
theorem dX0_init_46 : decode cX0_init 46 = .ok (.aload_n 0, 1) := by decide +kernel
theorem dX0_init_47 : decode cX0_init 47 = .ok (.bipush 20, 2) := by decide +kernel
theorem dX0_init_49 : decode cX0_init 49 = .ok (.putfield 29, 3) := by decide +kernel
theorem dX0_init_52 : decode cX0_init 52 = .ok (.aload_n 0, 1) := by decide +kernel
theorem dX0_init_53 : decode cX0_init 53 = .ok (.iconst 0, 1) := by decide +kernel
theorem dX0_init_54 : decode cX0_init 54 = .ok (.putfield 32, 3) := by decide +kernel
theorem dX0_init_57 : decode cX0_init 57 = .ok (.aload_n 0, 1) := by decide +kernel
theorem dX0_init_58 : decode cX0_init 58 = .ok (.iconst 0, 1) := by decide +kernel
theorem dX0_init_59 : decode cX0_init 59 = .ok (.putfield 35, 3) := by decide +kernel
theorem dX0_init_62 : decode cX0_init 62 = .ok (.return_, 1) := by decide +kernel
set_option maxRecDepth 20000 in
theorem ggX0_addStranger_X0_isTicket : GoodIn wsX0_addStranger wsX0_isTicket := goodIn_r _ [13] (by decide +kernel) (by decide +kernel)
set_option maxRecDepth 20000 in
theorem gX0_addStranger_X0_isTicket : GoodIn wsX0_addStranger (va_wsS RX0 38 yX0_isTicket wsX0_isTicket) := goodIn_app (goodIn_of _ (by decide +kernel)) ggX0_addStranger_X0_isTicket
set_option maxRecDepth 20000 in
theorem ggX0_addStranger_X0_isColour : GoodIn wsX0_addStranger wsX0_isColour := goodIn_r _ [16] (by decide +kernel) (by decide +kernel)
set_option maxRecDepth 20000 in
theorem gX0_addStranger_X0_isColour : GoodIn wsX0_addStranger (va_wsS RX0 42 yX0_isColour wsX0_isColour) := goodIn_app (goodIn_of _ (by decide +kernel)) ggX0_addStranger_X0_isColour
set_option maxRecDepth 20000 in
theorem ggX0_addStranger_X0_isCorner : GoodIn wsX0_addStranger wsX0_isCorner := goodIn_r _ [19] (by decide +kernel) (by decide +kernel)
set_option maxRecDepth 20000 in
theorem gX0_addStranger_X0_isCorner : GoodIn wsX0_addStranger (va_wsS RX0 45 yX0_isCorner wsX0_isCorner) := goodIn_app (goodIn_of _ (by decide +kernel)) ggX0_addStranger_X0_isCorner
set_option maxRecDepth 20000 in
theorem ggX0_addStranger_X0_isWalk : GoodIn wsX0_addStranger wsX0_isWalk := goodIn_r _ [22] (by decide +kernel) (by decide +kernel)
set_option maxRecDepth 20000 in
theorem gX0_addStranger_X0_isWalk : GoodIn wsX0_addStranger (va_wsS RX0 48 yX0_isWalk wsX0_isWalk) := goodIn_app (goodIn_of _ (by decide +kernel)) ggX0_addStranger_X0_isWalk
theorem dX0_addStranger_0 : decode cX0_addStranger 0 = .ok (.iload_n 1, 1) := by decide +kernel
theorem dX0_addStranger_1 : decode cX0_addStranger 1 = .ok (.invokestatic 38, 3) := by decide +kernel
theorem dX0_addStranger_4 : decode cX0_addStranger 4 = .ok (.ifCond .eq 25, 3) := by decide +kernel
theorem dX0_addStranger_7 : decode cX0_addStranger 7 = .ok (.iload_n 2, 1) := by decide +kernel
theorem dX0_addStranger_8 : decode cX0_addStranger 8 = .ok (.invokestatic 42, 3) := by decide +kernel
theorem dX0_addStranger_11 : decode cX0_addStranger 11 = .ok (.ifCond .eq 18, 3) := by decide +kernel
theorem dX0_addStranger_14 : decode cX0_addStranger 14 = .ok (.iload_n 3, 1) := by decide +kernel
theorem dX0_addStranger_15 : decode cX0_addStranger 15 = .ok (.invokestatic 45, 3) := by decide +kernel
theorem dX0_addStranger_18 : decode cX0_addStranger 18 = .ok (.ifCond .eq 11, 3) := by decide +kernel
theorem dX0_addStranger_21 : decode cX0_addStranger 21 = .ok (.iload 4, 2) := by decide +kernel
theorem dX0_addStranger_23 : decode cX0_addStranger 23 = .ok (.invokestatic 48, 3) := by decide +kernel
theorem dX0_addStranger_26 : decode cX0_addStranger 26 = .ok (.ifCond .ne 13, 3) := by decide +kernel
theorem dX0_addStranger_29 : decode cX0_addStranger 29 = .ok (.new 51, 3) := by decide +kernel
theorem dX0_addStranger_32 : decode cX0_addStranger 32 = .ok (.dup, 1) := by decide +kernel
theorem dX0_addStranger_33 : decode cX0_addStranger 33 = .ok (.ldc 53, 2) := by decide +kernel
theorem dX0_addStranger_35 : decode cX0_addStranger 35 = .ok (.invokespecial 55, 3) := by decide +kernel
theorem dX0_addStranger_38 : decode cX0_addStranger 38 = .ok (.athrow, 1) := by decide +kernel
theorem dX0_addStranger_39 : decode cX0_addStranger 39 = .ok (.aload_n 0, 1) := by decide +kernel
theorem dX0_addStranger_40 : decode cX0_addStranger 40 = .ok (.getfield 22, 3) := by decide +kernel
theorem dX0_addStranger_43 : decode cX0_addStranger 43 = .ok (.bipush 12, 2) := by decide +kernel
theorem dX0_addStranger_45 : decode cX0_addStranger 45 = .ok (.if_icmp .lt 13, 3) := by decide +kernel
theorem dX0_addStranger_48 : decode cX0_addStranger 48 = .ok (.new 58, 3) := by decide +kernel
theorem dX0_addStranger_51 : decode cX0_addStranger 51 = .ok (.dup, 1) := by decide +kernel
theorem dX0_addStranger_52 : decode cX0_addStranger 52 = .ok (.ldc 60, 2) := by decide +kernel
theorem dX0_addStranger_54 : decode cX0_addStranger 54 = .ok (.invokespecial 62, 3) := by decide +kernel
theorem dX0_addStranger_57 : decode cX0_addStranger 57 = .ok (.athrow, 1) := by decide +kernel
theorem dX0_addStranger_58 : decode cX0_addStranger 58 = .ok (.aload_n 0, 1) := by decide +kernel
theorem dX0_addStranger_59 : decode cX0_addStranger 59 = .ok (.getfield 22, 3) := by decide +kernel
theorem dX0_addStranger_62 : decode cX0_addStranger 62 = .ok (.istore 5, 2) := by decide +kernel
theorem dX0_addStranger_64 : decode cX0_addStranger 64 = .ok (.aload_n 0, 1) := by decide +kernel
theorem dX0_addStranger_65 : decode cX0_addStranger 65 = .ok (.getfield 9, 3) := by decide +kernel
theorem dX0_addStranger_68 : decode cX0_addStranger 68 = .ok (.iload 5, 2) := by decide +kernel
theorem dX0_addStranger_70 : decode cX0_addStranger 70 = .ok (.iload_n 1, 1) := by decide +kernel
theorem dX0_addStranger_71 : decode cX0_addStranger 71 = .ok (.iastore, 1) := by decide +kernel
theorem dX0_addStranger_72 : decode cX0_addStranger 72 = .ok (.aload_n 0, 1) := by decide +kernel
theorem dX0_addStranger_73 : decode cX0_addStranger 73 = .ok (.getfield 13, 3) := by decide +kernel
theorem dX0_addStranger_76 : decode cX0_addStranger 76 = .ok (.iload 5, 2) := by decide +kernel
theorem dX0_addStranger_78 : decode cX0_addStranger 78 = .ok (.iload_n 2, 1) := by decide +kernel
theorem dX0_addStranger_79 : decode cX0_addStranger 79 = .ok (.iastore, 1) := by decide +kernel
theorem dX0_addStranger_80 : decode cX0_addStranger 80 = .ok (.aload_n 0, 1) := by decide +kernel
theorem dX0_addStranger_81 : decode cX0_addStranger 81 = .ok (.getfield 16, 3) := by decide +kernel
theorem dX0_addStranger_84 : decode cX0_addStranger 84 = .ok (.iload 5, 2) := by decide +kernel
theorem dX0_addStranger_86 : decode cX0_addStranger 86 = .ok (.iload_n 3, 1) := by decide +kernel
theorem dX0_addStranger_87 : decode cX0_addStranger 87 = .ok (.iastore, 1) := by decide +kernel
theorem dX0_addStranger_88 : decode cX0_addStranger 88 = .ok (.aload_n 0, 1) := by decide +kernel
theorem dX0_addStranger_89 : decode cX0_addStranger 89 = .ok (.getfield 19, 3) := by decide +kernel
theorem dX0_addStranger_92 : decode cX0_addStranger 92 = .ok (.iload 5, 2) := by decide +kernel
theorem dX0_addStranger_94 : decode cX0_addStranger 94 = .ok (.iload 4, 2) := by decide +kernel
theorem dX0_addStranger_96 : decode cX0_addStranger 96 = .ok (.iastore, 1) := by decide +kernel
theorem dX0_addStranger_97 : decode cX0_addStranger 97 = .ok (.aload_n 0, 1) := by decide +kernel
theorem dX0_addStranger_98 : decode cX0_addStranger 98 = .ok (.iload 5, 2) := by decide +kernel
theorem dX0_addStranger_100 : decode cX0_addStranger 100 = .ok (.iconst 1, 1) := by decide +kernel
theorem dX0_addStranger_101 : decode cX0_addStranger 101 = .ok (.iadd, 1) := by decide +kernel
theorem dX0_addStranger_102 : decode cX0_addStranger 102 = .ok (.putfield 22, 3) := by decide +kernel
theorem dX0_addStranger_105 : decode cX0_addStranger 105 = .ok (.iload 5, 2) := by decide +kernel
theorem dX0_addStranger_107 : decode cX0_addStranger 107 = .ok (.ireturn, 1) := by decide +kernel
set_option maxRecDepth 20000 in
theorem ggX0_setWalk_X0_requireStranger : GoodIn wsX0_setWalk wsX0_requireStranger := goodIn_ca (goodIn_r _ [8, 9, 10, 11, 15, 16, 17, 18, 19, 20, 21, 22, 23] (by decide +kernel) (by decide +kernel)) (goodIn_sub (fun _ h => List.mem_cons_of_mem _ (List.mem_append_right _ h)) (by decide +kernel))
set_option maxRecDepth 20000 in
theorem gX0_setWalk_X0_requireStranger : GoodIn wsX0_setWalk (wsV RX0 63 RX0 yX0_requireStranger wsX0_requireStranger) := goodIn_app (goodIn_of _ (by decide +kernel)) ggX0_setWalk_X0_requireStranger
set_option maxRecDepth 20000 in
theorem ggX0_setWalk_X0_isWalk : GoodIn wsX0_setWalk wsX0_isWalk := goodIn_r _ [14] (by decide +kernel) (by decide +kernel)
set_option maxRecDepth 20000 in
theorem gX0_setWalk_X0_isWalk : GoodIn wsX0_setWalk (va_wsS RX0 48 yX0_isWalk wsX0_isWalk) := goodIn_app (goodIn_of _ (by decide +kernel)) ggX0_setWalk_X0_isWalk
theorem dX0_setWalk_0 : decode cX0_setWalk 0 = .ok (.aload_n 0, 1) := by decide +kernel
theorem dX0_setWalk_1 : decode cX0_setWalk 1 = .ok (.iload_n 1, 1) := by decide +kernel
theorem dX0_setWalk_2 : decode cX0_setWalk 2 = .ok (.invokevirtual 63, 3) := by decide +kernel
theorem dX0_setWalk_5 : decode cX0_setWalk 5 = .ok (.iload_n 2, 1) := by decide +kernel
theorem dX0_setWalk_6 : decode cX0_setWalk 6 = .ok (.invokestatic 48, 3) := by decide +kernel
theorem dX0_setWalk_9 : decode cX0_setWalk 9 = .ok (.ifCond .ne 13, 3) := by decide +kernel
theorem dX0_setWalk_12 : decode cX0_setWalk 12 = .ok (.new 51, 3) := by decide +kernel
theorem dX0_setWalk_15 : decode cX0_setWalk 15 = .ok (.dup, 1) := by decide +kernel
theorem dX0_setWalk_16 : decode cX0_setWalk 16 = .ok (.ldc 67, 2) := by decide +kernel
theorem dX0_setWalk_18 : decode cX0_setWalk 18 = .ok (.invokespecial 55, 3) := by decide +kernel
theorem dX0_setWalk_21 : decode cX0_setWalk 21 = .ok (.athrow, 1) := by decide +kernel
theorem dX0_setWalk_22 : decode cX0_setWalk 22 = .ok (.aload_n 0, 1) := by decide +kernel
theorem dX0_setWalk_23 : decode cX0_setWalk 23 = .ok (.getfield 19, 3) := by decide +kernel
theorem dX0_setWalk_26 : decode cX0_setWalk 26 = .ok (.iload_n 1, 1) := by decide +kernel
theorem dX0_setWalk_27 : decode cX0_setWalk 27 = .ok (.iaload, 1) := by decide +kernel
theorem dX0_setWalk_28 : decode cX0_setWalk 28 = .ok (.istore_n 3, 1) := by decide +kernel
theorem dX0_setWalk_29 : decode cX0_setWalk 29 = .ok (.aload_n 0, 1) := by decide +kernel
theorem dX0_setWalk_30 : decode cX0_setWalk 30 = .ok (.getfield 19, 3) := by decide +kernel
theorem dX0_setWalk_33 : decode cX0_setWalk 33 = .ok (.iload_n 1, 1) := by decide +kernel
theorem dX0_setWalk_34 : decode cX0_setWalk 34 = .ok (.iload_n 2, 1) := by decide +kernel
theorem dX0_setWalk_35 : decode cX0_setWalk 35 = .ok (.iastore, 1) := by decide +kernel
theorem dX0_setWalk_36 : decode cX0_setWalk 36 = .ok (.iload_n 3, 1) := by decide +kernel
theorem dX0_setWalk_37 : decode cX0_setWalk 37 = .ok (.ireturn, 1) := by decide +kernel
set_option maxRecDepth 20000 in
theorem ggX0_move_X0_requireStranger : GoodIn wsX0_move wsX0_requireStranger := goodIn_ca (goodIn_r _ [10, 11, 12, 13, 33, 34, 35, 36, 37, 38, 39, 40, 41] (by decide +kernel) (by decide +kernel)) (goodIn_sub (fun _ h => List.mem_cons_of_mem _ (List.mem_append_right _ h)) (by decide +kernel))
set_option maxRecDepth 20000 in
theorem gX0_move_X0_requireStranger : GoodIn wsX0_move (wsV RX0 63 RX0 yX0_requireStranger wsX0_requireStranger) := goodIn_app (goodIn_of _ (by decide +kernel)) ggX0_move_X0_requireStranger
set_option maxRecDepth 20000 in
theorem ggX0_move_X0_isCorner : GoodIn wsX0_move wsX0_isCorner := goodIn_r _ [16] (by decide +kernel) (by decide +kernel)
set_option maxRecDepth 20000 in
theorem gX0_move_X0_isCorner : GoodIn wsX0_move (va_wsS RX0 45 yX0_isCorner wsX0_isCorner) := goodIn_app (goodIn_of _ (by decide +kernel)) ggX0_move_X0_isCorner
set_option maxRecDepth 20000 in
theorem ggX0_move_X0_costOfWay : GoodIn wsX0_move wsX0_costOfWay := goodIn_r _ [19, 20, 21, 22, 23, 24, 25, 26] (by decide +kernel) (by decide +kernel)
set_option maxRecDepth 20000 in
theorem gX0_move_X0_costOfWay : GoodIn wsX0_move (va_wsS RX0 73 yX0_costOfWay wsX0_costOfWay) := goodIn_app (goodIn_of _ (by decide +kernel)) ggX0_move_X0_costOfWay
set_option maxRecDepth 20000 in
theorem ggX0_move_X0_pay : GoodIn wsX0_move wsX0_pay := goodIn_ca (goodIn_r _ [30, 3, 4, 31, 32, 33, 34, 35, 36, 37, 38, 39, 40, 41] (by decide +kernel) (by decide +kernel)) (goodIn_sub (fun _ h => List.mem_cons_of_mem _ (List.mem_append_left _ (List.mem_append_right _ h))) (by decide +kernel))
set_option maxRecDepth 20000 in
theorem gX0_move_X0_pay : GoodIn wsX0_move (wsV RX0 77 RX0 yX0_pay wsX0_pay) := goodIn_app (goodIn_of _ (by decide +kernel)) ggX0_move_X0_pay
theorem dX0_move_0 : decode cX0_move 0 = .ok (.aload_n 0, 1) := by decide +kernel
theorem dX0_move_1 : decode cX0_move 1 = .ok (.iload_n 1, 1) := by decide +kernel
theorem dX0_move_2 : decode cX0_move 2 = .ok (.invokevirtual 63, 3) := by decide +kernel
theorem dX0_move_5 : decode cX0_move 5 = .ok (.iload_n 2, 1) := by decide +kernel
theorem dX0_move_6 : decode cX0_move 6 = .ok (.invokestatic 45, 3) := by decide +kernel
theorem dX0_move_9 : decode cX0_move 9 = .ok (.ifCond .ne 13, 3) := by decide +kernel
theorem dX0_move_12 : decode cX0_move 12 = .ok (.new 51, 3) := by decide +kernel
theorem dX0_move_15 : decode cX0_move 15 = .ok (.dup, 1) := by decide +kernel
theorem dX0_move_16 : decode cX0_move 16 = .ok (.ldc 69, 2) := by decide +kernel
theorem dX0_move_18 : decode cX0_move 18 = .ok (.invokespecial 55, 3) := by decide +kernel
theorem dX0_move_21 : decode cX0_move 21 = .ok (.athrow, 1) := by decide +kernel
theorem dX0_move_22 : decode cX0_move 22 = .ok (.aload_n 0, 1) := by decide +kernel
theorem dX0_move_23 : decode cX0_move 23 = .ok (.getfield 16, 3) := by decide +kernel
theorem dX0_move_26 : decode cX0_move 26 = .ok (.iload_n 1, 1) := by decide +kernel
theorem dX0_move_27 : decode cX0_move 27 = .ok (.iaload, 1) := by decide +kernel
theorem dX0_move_28 : decode cX0_move 28 = .ok (.iload_n 2, 1) := by decide +kernel
theorem dX0_move_29 : decode cX0_move 29 = .ok (.if_icmp .ne 13, 3) := by decide +kernel
theorem dX0_move_32 : decode cX0_move 32 = .ok (.new 58, 3) := by decide +kernel
theorem dX0_move_35 : decode cX0_move 35 = .ok (.dup, 1) := by decide +kernel
theorem dX0_move_36 : decode cX0_move 36 = .ok (.ldc 71, 2) := by decide +kernel
theorem dX0_move_38 : decode cX0_move 38 = .ok (.invokespecial 62, 3) := by decide +kernel
theorem dX0_move_41 : decode cX0_move 41 = .ok (.athrow, 1) := by decide +kernel
theorem dX0_move_42 : decode cX0_move 42 = .ok (.aload_n 0, 1) := by decide +kernel
theorem dX0_move_43 : decode cX0_move 43 = .ok (.getfield 16, 3) := by decide +kernel
theorem dX0_move_46 : decode cX0_move 46 = .ok (.iload_n 1, 1) := by decide +kernel
theorem dX0_move_47 : decode cX0_move 47 = .ok (.iaload, 1) := by decide +kernel
theorem dX0_move_48 : decode cX0_move 48 = .ok (.iload_n 2, 1) := by decide +kernel
theorem dX0_move_49 : decode cX0_move 49 = .ok (.invokestatic 73, 3) := by decide +kernel
theorem dX0_move_52 : decode cX0_move 52 = .ok (.istore_n 3, 1) := by decide +kernel
theorem dX0_move_53 : decode cX0_move 53 = .ok (.aload_n 0, 1) := by decide +kernel
theorem dX0_move_54 : decode cX0_move 54 = .ok (.iload_n 3, 1) := by decide +kernel
theorem dX0_move_55 : decode cX0_move 55 = .ok (.invokevirtual 77, 3) := by decide +kernel
theorem dX0_move_58 : decode cX0_move 58 = .ok (.aload_n 0, 1) := by decide +kernel
theorem dX0_move_59 : decode cX0_move 59 = .ok (.getfield 16, 3) := by decide +kernel
theorem dX0_move_62 : decode cX0_move 62 = .ok (.iload_n 1, 1) := by decide +kernel
theorem dX0_move_63 : decode cX0_move 63 = .ok (.iload_n 2, 1) := by decide +kernel
theorem dX0_move_64 : decode cX0_move 64 = .ok (.iastore, 1) := by decide +kernel
theorem dX0_move_65 : decode cX0_move 65 = .ok (.iload_n 3, 1) := by decide +kernel
theorem dX0_move_66 : decode cX0_move 66 = .ok (.ireturn, 1) := by decide +kernel
set_option maxRecDepth 20000 in
theorem ggX0_swapUmbrellas_X0_requirePair : GoodIn wsX0_swapUmbrellas wsX0_requirePair := goodIn_ca (goodIn_ca (goodIn_r _ [9, 10, 11, 12, 13, 14, 8, 15, 16, 17, 18, 58, 59, 60, 61, 62, 63, 64, 65, 66] (by decide +kernel) (by decide +kernel)) (goodIn_sub (fun _ h => List.mem_cons_of_mem _ (List.mem_append_left _ (List.mem_append_right _ h))) (by decide +kernel))) (goodIn_sub (fun _ h => List.mem_cons_of_mem _ (List.mem_append_right _ h)) (by decide +kernel))
set_option maxRecDepth 20000 in
theorem gX0_swapUmbrellas_X0_requirePair : GoodIn wsX0_swapUmbrellas (wsV RX0 80 RX0 yX0_requirePair wsX0_requirePair) := goodIn_app (goodIn_of _ (by decide +kernel)) ggX0_swapUmbrellas_X0_requirePair
set_option maxRecDepth 20000 in
theorem ggX0_swapUmbrellas_X0_pay : GoodIn wsX0_swapUmbrellas wsX0_pay := goodIn_ca (goodIn_r _ [22, 1, 2, 23, 24, 58, 59, 60, 61, 62, 63, 64, 65, 66] (by decide +kernel) (by decide +kernel)) (goodIn_sub (fun _ h => List.mem_cons_of_mem _ (List.mem_append_left _ (List.mem_append_left _ (List.mem_append_right _ h)))) (by decide +kernel))
set_option maxRecDepth 20000 in
theorem gX0_swapUmbrellas_X0_pay : GoodIn wsX0_swapUmbrellas (wsV RX0 77 RX0 yX0_pay wsX0_pay) := goodIn_app (goodIn_of _ (by decide +kernel)) ggX0_swapUmbrellas_X0_pay
set_option maxRecDepth 20000 in
theorem ggX0_swapUmbrellas_X0_townBehind : GoodIn wsX0_swapUmbrellas wsX0_townBehind := goodIn_r _ [28, 18, 29, 30, 31, 8, 32, 3, 33, 34, 35, 36, 37, 38, 4, 39, 40, 41, 42, 43, 44, 45, 46, 47, 48, 49, 50, 51, 52, 53, 54, 58, 59, 60, 61, 62, 63, 64, 65, 66] (by decide +kernel) (by decide +kernel)
set_option maxRecDepth 20000 in
theorem gX0_swapUmbrellas_X0_townBehind : GoodIn wsX0_swapUmbrellas (wsV RX0 86 RX0 yX0_townBehind wsX0_townBehind) := goodIn_app (goodIn_of _ (by decide +kernel)) ggX0_swapUmbrellas_X0_townBehind
set_option maxRecDepth 20000 in
theorem ggX0_swapUmbrellas_X0_exchange : GoodIn wsX0_swapUmbrellas wsX0_exchange := goodIn_r _ [57] (by decide +kernel) (by decide +kernel)
set_option maxRecDepth 20000 in
theorem gX0_swapUmbrellas_X0_exchange : GoodIn wsX0_swapUmbrellas (va_wsS RX0 90 yX0_exchange wsX0_exchange) := goodIn_app (goodIn_of _ (by decide +kernel)) ggX0_swapUmbrellas_X0_exchange
theorem dX0_swapUmbrellas_0 : decode cX0_swapUmbrellas 0 = .ok (.aload_n 0, 1) := by decide +kernel
theorem dX0_swapUmbrellas_1 : decode cX0_swapUmbrellas 1 = .ok (.iload_n 1, 1) := by decide +kernel
theorem dX0_swapUmbrellas_2 : decode cX0_swapUmbrellas 2 = .ok (.iload_n 2, 1) := by decide +kernel
theorem dX0_swapUmbrellas_3 : decode cX0_swapUmbrellas 3 = .ok (.invokevirtual 80, 3) := by decide +kernel
theorem dX0_swapUmbrellas_6 : decode cX0_swapUmbrellas 6 = .ok (.aload_n 0, 1) := by decide +kernel
theorem dX0_swapUmbrellas_7 : decode cX0_swapUmbrellas 7 = .ok (.getfield 16, 3) := by decide +kernel
theorem dX0_swapUmbrellas_10 : decode cX0_swapUmbrellas 10 = .ok (.iload_n 1, 1) := by decide +kernel
theorem dX0_swapUmbrellas_11 : decode cX0_swapUmbrellas 11 = .ok (.iaload, 1) := by decide +kernel
theorem dX0_swapUmbrellas_12 : decode cX0_swapUmbrellas 12 = .ok (.aload_n 0, 1) := by decide +kernel
theorem dX0_swapUmbrellas_13 : decode cX0_swapUmbrellas 13 = .ok (.getfield 16, 3) := by decide +kernel
theorem dX0_swapUmbrellas_16 : decode cX0_swapUmbrellas 16 = .ok (.iload_n 2, 1) := by decide +kernel
theorem dX0_swapUmbrellas_17 : decode cX0_swapUmbrellas 17 = .ok (.iaload, 1) := by decide +kernel
theorem dX0_swapUmbrellas_18 : decode cX0_swapUmbrellas 18 = .ok (.if_icmp .eq 13, 3) := by decide +kernel
theorem dX0_swapUmbrellas_21 : decode cX0_swapUmbrellas 21 = .ok (.new 58, 3) := by decide +kernel
theorem dX0_swapUmbrellas_24 : decode cX0_swapUmbrellas 24 = .ok (.dup, 1) := by decide +kernel
theorem dX0_swapUmbrellas_25 : decode cX0_swapUmbrellas 25 = .ok (.ldc 84, 2) := by decide +kernel
theorem dX0_swapUmbrellas_27 : decode cX0_swapUmbrellas 27 = .ok (.invokespecial 62, 3) := by decide +kernel
theorem dX0_swapUmbrellas_30 : decode cX0_swapUmbrellas 30 = .ok (.athrow, 1) := by decide +kernel
theorem dX0_swapUmbrellas_31 : decode cX0_swapUmbrellas 31 = .ok (.aload_n 0, 1) := by decide +kernel
theorem dX0_swapUmbrellas_32 : decode cX0_swapUmbrellas 32 = .ok (.iconst 3, 1) := by decide +kernel
theorem dX0_swapUmbrellas_33 : decode cX0_swapUmbrellas 33 = .ok (.invokevirtual 77, 3) := by decide +kernel
theorem dX0_swapUmbrellas_36 : decode cX0_swapUmbrellas 36 = .ok (.aload_n 0, 1) := by decide +kernel
theorem dX0_swapUmbrellas_37 : decode cX0_swapUmbrellas 37 = .ok (.iconst 0, 1) := by decide +kernel
theorem dX0_swapUmbrellas_38 : decode cX0_swapUmbrellas 38 = .ok (.invokevirtual 86, 3) := by decide +kernel
theorem dX0_swapUmbrellas_41 : decode cX0_swapUmbrellas 41 = .ok (.istore_n 3, 1) := by decide +kernel
theorem dX0_swapUmbrellas_42 : decode cX0_swapUmbrellas 42 = .ok (.aload_n 0, 1) := by decide +kernel
theorem dX0_swapUmbrellas_43 : decode cX0_swapUmbrellas 43 = .ok (.getfield 13, 3) := by decide +kernel
theorem dX0_swapUmbrellas_46 : decode cX0_swapUmbrellas 46 = .ok (.iload_n 1, 1) := by decide +kernel
theorem dX0_swapUmbrellas_47 : decode cX0_swapUmbrellas 47 = .ok (.iload_n 2, 1) := by decide +kernel
theorem dX0_swapUmbrellas_48 : decode cX0_swapUmbrellas 48 = .ok (.invokestatic 90, 3) := by decide +kernel
theorem dX0_swapUmbrellas_51 : decode cX0_swapUmbrellas 51 = .ok (.aload_n 0, 1) := by decide +kernel
theorem dX0_swapUmbrellas_52 : decode cX0_swapUmbrellas 52 = .ok (.iconst 0, 1) := by decide +kernel
theorem dX0_swapUmbrellas_53 : decode cX0_swapUmbrellas 53 = .ok (.invokevirtual 86, 3) := by decide +kernel
theorem dX0_swapUmbrellas_56 : decode cX0_swapUmbrellas 56 = .ok (.iload_n 3, 1) := by decide +kernel
theorem dX0_swapUmbrellas_57 : decode cX0_swapUmbrellas 57 = .ok (.isub, 1) := by decide +kernel
theorem dX0_swapUmbrellas_58 : decode cX0_swapUmbrellas 58 = .ok (.ireturn, 1) := by decide +kernel
set_option maxRecDepth 20000 in
theorem ggX0_swapTickets_X0_requirePair : GoodIn wsX0_swapTickets wsX0_requirePair := goodIn_ca (goodIn_ca (goodIn_r _ [6, 7, 8, 9, 10, 11, 5, 12, 13, 14, 15, 58, 59, 60, 61, 62, 63, 64, 65, 66] (by decide +kernel) (by decide +kernel)) (goodIn_sub (fun _ h => List.mem_cons_of_mem _ (List.mem_append_left _ (List.mem_append_left _ (List.mem_append_right _ h)))) (by decide +kernel))) (goodIn_sub (fun _ h => List.mem_cons_of_mem _ (List.mem_append_left _ (List.mem_append_right _ h))) (by decide +kernel))
set_option maxRecDepth 20000 in
theorem gX0_swapTickets_X0_requirePair : GoodIn wsX0_swapTickets (wsV RX0 80 RX0 yX0_requirePair wsX0_requirePair) := goodIn_app (goodIn_of _ (by decide +kernel)) ggX0_swapTickets_X0_requirePair
set_option maxRecDepth 20000 in
theorem ggX0_swapTickets_X0_pay : GoodIn wsX0_swapTickets wsX0_pay := goodIn_ca (goodIn_r _ [19, 20, 21, 22, 23, 58, 59, 60, 61, 62, 63, 64, 65, 66] (by decide +kernel) (by decide +kernel)) (goodIn_sub (fun _ h => List.mem_cons_of_mem _ (List.mem_append_right _ h)) (by decide +kernel))
set_option maxRecDepth 20000 in
theorem gX0_swapTickets_X0_pay : GoodIn wsX0_swapTickets (wsV RX0 77 RX0 yX0_pay wsX0_pay) := goodIn_app (goodIn_of _ (by decide +kernel)) ggX0_swapTickets_X0_pay
set_option maxRecDepth 20000 in
theorem ggX0_swapTickets_X0_townBehind : GoodIn wsX0_swapTickets wsX0_townBehind := goodIn_r _ [27, 15, 28, 29, 30, 5, 31, 32, 33, 34, 35, 36, 37, 1, 38, 39, 40, 41, 42, 43, 44, 45, 46, 47, 48, 49, 50, 51, 52, 53, 54, 58, 59, 60, 61, 62, 63, 64, 65, 66] (by decide +kernel) (by decide +kernel)
set_option maxRecDepth 20000 in
theorem gX0_swapTickets_X0_townBehind : GoodIn wsX0_swapTickets (wsV RX0 86 RX0 yX0_townBehind wsX0_townBehind) := goodIn_app (goodIn_of _ (by decide +kernel)) ggX0_swapTickets_X0_townBehind
set_option maxRecDepth 20000 in
theorem ggX0_swapTickets_X0_exchange : GoodIn wsX0_swapTickets wsX0_exchange := goodIn_r _ [57] (by decide +kernel) (by decide +kernel)
set_option maxRecDepth 20000 in
theorem gX0_swapTickets_X0_exchange : GoodIn wsX0_swapTickets (va_wsS RX0 90 yX0_exchange wsX0_exchange) := goodIn_app (goodIn_of _ (by decide +kernel)) ggX0_swapTickets_X0_exchange
theorem dX0_swapTickets_0 : decode cX0_swapTickets 0 = .ok (.aload_n 0, 1) := by decide +kernel
theorem dX0_swapTickets_1 : decode cX0_swapTickets 1 = .ok (.iload_n 1, 1) := by decide +kernel
theorem dX0_swapTickets_2 : decode cX0_swapTickets 2 = .ok (.iload_n 2, 1) := by decide +kernel
theorem dX0_swapTickets_3 : decode cX0_swapTickets 3 = .ok (.invokevirtual 80, 3) := by decide +kernel
theorem dX0_swapTickets_6 : decode cX0_swapTickets 6 = .ok (.aload_n 0, 1) := by decide +kernel
theorem dX0_swapTickets_7 : decode cX0_swapTickets 7 = .ok (.bipush 8, 2) := by decide +kernel
theorem dX0_swapTickets_9 : decode cX0_swapTickets 9 = .ok (.invokevirtual 77, 3) := by decide +kernel
theorem dX0_swapTickets_12 : decode cX0_swapTickets 12 = .ok (.aload_n 0, 1) := by decide +kernel
theorem dX0_swapTickets_13 : decode cX0_swapTickets 13 = .ok (.iconst 0, 1) := by decide +kernel
theorem dX0_swapTickets_14 : decode cX0_swapTickets 14 = .ok (.invokevirtual 86, 3) := by decide +kernel
theorem dX0_swapTickets_17 : decode cX0_swapTickets 17 = .ok (.istore_n 3, 1) := by decide +kernel
theorem dX0_swapTickets_18 : decode cX0_swapTickets 18 = .ok (.aload_n 0, 1) := by decide +kernel
theorem dX0_swapTickets_19 : decode cX0_swapTickets 19 = .ok (.getfield 9, 3) := by decide +kernel
theorem dX0_swapTickets_22 : decode cX0_swapTickets 22 = .ok (.iload_n 1, 1) := by decide +kernel
theorem dX0_swapTickets_23 : decode cX0_swapTickets 23 = .ok (.iload_n 2, 1) := by decide +kernel
theorem dX0_swapTickets_24 : decode cX0_swapTickets 24 = .ok (.invokestatic 90, 3) := by decide +kernel
theorem dX0_swapTickets_27 : decode cX0_swapTickets 27 = .ok (.aload_n 0, 1) := by decide +kernel
theorem dX0_swapTickets_28 : decode cX0_swapTickets 28 = .ok (.iconst 0, 1) := by decide +kernel
theorem dX0_swapTickets_29 : decode cX0_swapTickets 29 = .ok (.invokevirtual 86, 3) := by decide +kernel
theorem dX0_swapTickets_32 : decode cX0_swapTickets 32 = .ok (.iload_n 3, 1) := by decide +kernel
theorem dX0_swapTickets_33 : decode cX0_swapTickets 33 = .ok (.isub, 1) := by decide +kernel
theorem dX0_swapTickets_34 : decode cX0_swapTickets 34 = .ok (.ireturn, 1) := by decide +kernel
set_option maxRecDepth 20000 in
theorem ggX0_draw_X0_requireStranger : GoodIn wsX0_draw wsX0_requireStranger := goodIn_ca (goodIn_r _ [8, 9, 10, 11, 23, 24, 25, 26, 27, 28, 29, 30, 31] (by decide +kernel) (by decide +kernel)) (goodIn_sub (fun _ h => List.mem_cons_of_mem _ (List.mem_append_left _ (List.mem_append_right _ h))) (by decide +kernel))
set_option maxRecDepth 20000 in
theorem gX0_draw_X0_requireStranger : GoodIn wsX0_draw (wsV RX0 63 RX0 yX0_requireStranger wsX0_requireStranger) := goodIn_app (goodIn_of _ (by decide +kernel)) ggX0_draw_X0_requireStranger
set_option maxRecDepth 20000 in
theorem ggX0_draw_X0_isTicket : GoodIn wsX0_draw wsX0_isTicket := goodIn_r _ [14] (by decide +kernel) (by decide +kernel)
set_option maxRecDepth 20000 in
theorem gX0_draw_X0_isTicket : GoodIn wsX0_draw (va_wsS RX0 38 yX0_isTicket wsX0_isTicket) := goodIn_app (goodIn_of _ (by decide +kernel)) ggX0_draw_X0_isTicket
set_option maxRecDepth 20000 in
theorem ggX0_draw_X0_pay : GoodIn wsX0_draw wsX0_pay := goodIn_ca (goodIn_r _ [18, 19, 20, 21, 22, 23, 24, 25, 26, 27, 28, 29, 30, 31] (by decide +kernel) (by decide +kernel)) (goodIn_sub (fun _ h => List.mem_cons_of_mem _ (List.mem_append_right _ h)) (by decide +kernel))
set_option maxRecDepth 20000 in
theorem gX0_draw_X0_pay : GoodIn wsX0_draw (wsV RX0 77 RX0 yX0_pay wsX0_pay) := goodIn_app (goodIn_of _ (by decide +kernel)) ggX0_draw_X0_pay
theorem dX0_draw_0 : decode cX0_draw 0 = .ok (.aload_n 0, 1) := by decide +kernel
theorem dX0_draw_1 : decode cX0_draw 1 = .ok (.iload_n 1, 1) := by decide +kernel
theorem dX0_draw_2 : decode cX0_draw 2 = .ok (.invokevirtual 63, 3) := by decide +kernel
theorem dX0_draw_5 : decode cX0_draw 5 = .ok (.iload_n 2, 1) := by decide +kernel
theorem dX0_draw_6 : decode cX0_draw 6 = .ok (.invokestatic 38, 3) := by decide +kernel
theorem dX0_draw_9 : decode cX0_draw 9 = .ok (.ifCond .ne 13, 3) := by decide +kernel
theorem dX0_draw_12 : decode cX0_draw 12 = .ok (.new 51, 3) := by decide +kernel
theorem dX0_draw_15 : decode cX0_draw 15 = .ok (.dup, 1) := by decide +kernel
theorem dX0_draw_16 : decode cX0_draw 16 = .ok (.ldc 94, 2) := by decide +kernel
theorem dX0_draw_18 : decode cX0_draw 18 = .ok (.invokespecial 55, 3) := by decide +kernel
theorem dX0_draw_21 : decode cX0_draw 21 = .ok (.athrow, 1) := by decide +kernel
theorem dX0_draw_22 : decode cX0_draw 22 = .ok (.aload_n 0, 1) := by decide +kernel
theorem dX0_draw_23 : decode cX0_draw 23 = .ok (.bipush 12, 2) := by decide +kernel
theorem dX0_draw_25 : decode cX0_draw 25 = .ok (.invokevirtual 77, 3) := by decide +kernel
theorem dX0_draw_28 : decode cX0_draw 28 = .ok (.aload_n 0, 1) := by decide +kernel
theorem dX0_draw_29 : decode cX0_draw 29 = .ok (.getfield 9, 3) := by decide +kernel
theorem dX0_draw_32 : decode cX0_draw 32 = .ok (.iload_n 1, 1) := by decide +kernel
theorem dX0_draw_33 : decode cX0_draw 33 = .ok (.iaload, 1) := by decide +kernel
theorem dX0_draw_34 : decode cX0_draw 34 = .ok (.istore_n 3, 1) := by decide +kernel
theorem dX0_draw_35 : decode cX0_draw 35 = .ok (.aload_n 0, 1) := by decide +kernel
theorem dX0_draw_36 : decode cX0_draw 36 = .ok (.getfield 9, 3) := by decide +kernel
theorem dX0_draw_39 : decode cX0_draw 39 = .ok (.iload_n 1, 1) := by decide +kernel
theorem dX0_draw_40 : decode cX0_draw 40 = .ok (.iload_n 2, 1) := by decide +kernel
theorem dX0_draw_41 : decode cX0_draw 41 = .ok (.iastore, 1) := by decide +kernel
theorem dX0_draw_42 : decode cX0_draw 42 = .ok (.iload_n 3, 1) := by decide +kernel
theorem dX0_draw_43 : decode cX0_draw 43 = .ok (.ireturn, 1) := by decide +kernel
set_option maxRecDepth 20000 in
theorem ggX0_pass_X0_passOneHour : GoodIn wsX0_pass wsX0_passOneHour := goodIn_r _ [8, 9, 10, 3, 11, 12, 13, 14, 15, 16, 17, 18, 19, 7, 20, 21, 22, 23, 24, 25, 26, 27, 28, 29, 30, 31, 32, 33, 34, 35, 36, 37, 38, 39, 40, 41, 42, 43, 44, 45, 46, 47, 48, 49, 50, 51, 52, 53, 54, 55, 56, 57, 58, 59, 60, 61, 62, 63] (by decide +kernel) (by decide +kernel)
set_option maxRecDepth 20000 in
theorem gX0_pass_X0_passOneHour : GoodIn wsX0_pass (wsV RX0 98 RX0 yX0_passOneHour wsX0_passOneHour) := goodIn_app (goodIn_of _ (by decide +kernel)) ggX0_pass_X0_passOneHour
theorem dX0_pass_0 : decode cX0_pass 0 = .ok (.iload_n 1, 1) := by decide +kernel
theorem dX0_pass_1 : decode cX0_pass 1 = .ok (.iconst 1, 1) := by decide +kernel
theorem dX0_pass_2 : decode cX0_pass 2 = .ok (.if_icmp .lt 9, 3) := by decide +kernel
theorem dX0_pass_5 : decode cX0_pass 5 = .ok (.iload_n 1, 1) := by decide +kernel
theorem dX0_pass_6 : decode cX0_pass 6 = .ok (.bipush 60, 2) := by decide +kernel
theorem dX0_pass_8 : decode cX0_pass 8 = .ok (.if_icmp .le 13, 3) := by decide +kernel
theorem dX0_pass_11 : decode cX0_pass 11 = .ok (.new 51, 3) := by decide +kernel
theorem dX0_pass_14 : decode cX0_pass 14 = .ok (.dup, 1) := by decide +kernel
theorem dX0_pass_15 : decode cX0_pass 15 = .ok (.ldc 96, 2) := by decide +kernel
theorem dX0_pass_17 : decode cX0_pass 17 = .ok (.invokespecial 55, 3) := by decide +kernel
theorem dX0_pass_20 : decode cX0_pass 20 = .ok (.athrow, 1) := by decide +kernel
theorem dX0_pass_21 : decode cX0_pass 21 = .ok (.aload_n 0, 1) := by decide +kernel
theorem dX0_pass_22 : decode cX0_pass 22 = .ok (.getfield 32, 3) := by decide +kernel
theorem dX0_pass_25 : decode cX0_pass 25 = .ok (.istore_n 2, 1) := by decide +kernel
theorem dX0_pass_26 : decode cX0_pass 26 = .ok (.iconst 0, 1) := by decide +kernel
theorem dX0_pass_27 : decode cX0_pass 27 = .ok (.istore_n 3, 1) := by decide +kernel
theorem dX0_pass_28 : decode cX0_pass 28 = .ok (.iload_n 3, 1) := by decide +kernel
theorem dX0_pass_29 : decode cX0_pass 29 = .ok (.iload_n 1, 1) := by decide +kernel
theorem dX0_pass_30 : decode cX0_pass 30 = .ok (.if_icmp .ge 13, 3) := by decide +kernel
theorem dX0_pass_33 : decode cX0_pass 33 = .ok (.aload_n 0, 1) := by decide +kernel
theorem dX0_pass_34 : decode cX0_pass 34 = .ok (.invokevirtual 98, 3) := by decide +kernel
theorem dX0_pass_37 : decode cX0_pass 37 = .ok (.iinc 3 1, 3) := by decide +kernel
theorem dX0_pass_40 : decode cX0_pass 40 = .ok (.goto (-12), 3) := by decide +kernel
theorem dX0_pass_43 : decode cX0_pass 43 = .ok (.aload_n 0, 1) := by decide +kernel
theorem dX0_pass_44 : decode cX0_pass 44 = .ok (.getfield 32, 3) := by decide +kernel
theorem dX0_pass_47 : decode cX0_pass 47 = .ok (.iload_n 2, 1) := by decide +kernel
theorem dX0_pass_48 : decode cX0_pass 48 = .ok (.isub, 1) := by decide +kernel
theorem dX0_pass_49 : decode cX0_pass 49 = .ok (.ireturn, 1) := by decide +kernel
theorem dX0_strangers_0 : decode cX0_strangers 0 = .ok (.aload_n 0, 1) := by decide +kernel
theorem dX0_strangers_1 : decode cX0_strangers 1 = .ok (.getfield 22, 3) := by decide +kernel
theorem dX0_strangers_4 : decode cX0_strangers 4 = .ok (.ireturn, 1) := by decide +kernel
theorem dX0_hour_0 : decode cX0_hour 0 = .ok (.aload_n 0, 1) := by decide +kernel
theorem dX0_hour_1 : decode cX0_hour 1 = .ok (.getfield 26, 3) := by decide +kernel
theorem dX0_hour_4 : decode cX0_hour 4 = .ok (.ireturn, 1) := by decide +kernel
theorem dX0_store_0 : decode cX0_store 0 = .ok (.aload_n 0, 1) := by decide +kernel
theorem dX0_store_1 : decode cX0_store 1 = .ok (.getfield 29, 3) := by decide +kernel
theorem dX0_store_4 : decode cX0_store 4 = .ok (.ireturn, 1) := by decide +kernel
theorem dX0_counted_0 : decode cX0_counted 0 = .ok (.aload_n 0, 1) := by decide +kernel
theorem dX0_counted_1 : decode cX0_counted 1 = .ok (.getfield 32, 3) := by decide +kernel
theorem dX0_counted_4 : decode cX0_counted 4 = .ok (.ireturn, 1) := by decide +kernel
theorem dX0_spent_0 : decode cX0_spent 0 = .ok (.aload_n 0, 1) := by decide +kernel
theorem dX0_spent_1 : decode cX0_spent 1 = .ok (.getfield 35, 3) := by decide +kernel
theorem dX0_spent_4 : decode cX0_spent 4 = .ok (.ireturn, 1) := by decide +kernel
set_option maxRecDepth 20000 in
theorem ggX0_ticketOf_X0_requireStranger : GoodIn wsX0_ticketOf wsX0_requireStranger := goodIn_ca (goodIn_r _ [6, 7, 8, 9, 10, 11, 12, 13, 14, 15, 16, 17, 18] (by decide +kernel) (by decide +kernel)) (goodIn_sub (fun _ h => List.mem_cons_of_mem _ (List.mem_append_right _ h)) (by decide +kernel))
set_option maxRecDepth 20000 in
theorem gX0_ticketOf_X0_requireStranger : GoodIn wsX0_ticketOf (wsV RX0 63 RX0 yX0_requireStranger wsX0_requireStranger) := goodIn_app (goodIn_of _ (by decide +kernel)) ggX0_ticketOf_X0_requireStranger
theorem dX0_ticketOf_0 : decode cX0_ticketOf 0 = .ok (.aload_n 0, 1) := by decide +kernel
theorem dX0_ticketOf_1 : decode cX0_ticketOf 1 = .ok (.iload_n 1, 1) := by decide +kernel
theorem dX0_ticketOf_2 : decode cX0_ticketOf 2 = .ok (.invokevirtual 63, 3) := by decide +kernel
theorem dX0_ticketOf_5 : decode cX0_ticketOf 5 = .ok (.aload_n 0, 1) := by decide +kernel
theorem dX0_ticketOf_6 : decode cX0_ticketOf 6 = .ok (.getfield 9, 3) := by decide +kernel
theorem dX0_ticketOf_9 : decode cX0_ticketOf 9 = .ok (.iload_n 1, 1) := by decide +kernel
theorem dX0_ticketOf_10 : decode cX0_ticketOf 10 = .ok (.iaload, 1) := by decide +kernel
theorem dX0_ticketOf_11 : decode cX0_ticketOf 11 = .ok (.ireturn, 1) := by decide +kernel
set_option maxRecDepth 20000 in
theorem ggX0_colourOf_X0_requireStranger : GoodIn wsX0_colourOf wsX0_requireStranger := goodIn_ca (goodIn_r _ [6, 7, 8, 9, 10, 11, 12, 13, 14, 15, 16, 17, 18] (by decide +kernel) (by decide +kernel)) (goodIn_sub (fun _ h => List.mem_cons_of_mem _ (List.mem_append_right _ h)) (by decide +kernel))
set_option maxRecDepth 20000 in
theorem gX0_colourOf_X0_requireStranger : GoodIn wsX0_colourOf (wsV RX0 63 RX0 yX0_requireStranger wsX0_requireStranger) := goodIn_app (goodIn_of _ (by decide +kernel)) ggX0_colourOf_X0_requireStranger
theorem dX0_colourOf_0 : decode cX0_colourOf 0 = .ok (.aload_n 0, 1) := by decide +kernel
theorem dX0_colourOf_1 : decode cX0_colourOf 1 = .ok (.iload_n 1, 1) := by decide +kernel
theorem dX0_colourOf_2 : decode cX0_colourOf 2 = .ok (.invokevirtual 63, 3) := by decide +kernel
theorem dX0_colourOf_5 : decode cX0_colourOf 5 = .ok (.aload_n 0, 1) := by decide +kernel
theorem dX0_colourOf_6 : decode cX0_colourOf 6 = .ok (.getfield 13, 3) := by decide +kernel
theorem dX0_colourOf_9 : decode cX0_colourOf 9 = .ok (.iload_n 1, 1) := by decide +kernel
theorem dX0_colourOf_10 : decode cX0_colourOf 10 = .ok (.iaload, 1) := by decide +kernel
theorem dX0_colourOf_11 : decode cX0_colourOf 11 = .ok (.ireturn, 1) := by decide +kernel
set_option maxRecDepth 20000 in
theorem ggX0_cornerOf_X0_requireStranger : GoodIn wsX0_cornerOf wsX0_requireStranger := goodIn_ca (goodIn_r _ [6, 7, 8, 9, 10, 11, 12, 13, 14, 15, 16, 17, 18] (by decide +kernel) (by decide +kernel)) (goodIn_sub (fun _ h => List.mem_cons_of_mem _ (List.mem_append_right _ h)) (by decide +kernel))
set_option maxRecDepth 20000 in
theorem gX0_cornerOf_X0_requireStranger : GoodIn wsX0_cornerOf (wsV RX0 63 RX0 yX0_requireStranger wsX0_requireStranger) := goodIn_app (goodIn_of _ (by decide +kernel)) ggX0_cornerOf_X0_requireStranger
theorem dX0_cornerOf_0 : decode cX0_cornerOf 0 = .ok (.aload_n 0, 1) := by decide +kernel
theorem dX0_cornerOf_1 : decode cX0_cornerOf 1 = .ok (.iload_n 1, 1) := by decide +kernel
theorem dX0_cornerOf_2 : decode cX0_cornerOf 2 = .ok (.invokevirtual 63, 3) := by decide +kernel
theorem dX0_cornerOf_5 : decode cX0_cornerOf 5 = .ok (.aload_n 0, 1) := by decide +kernel
theorem dX0_cornerOf_6 : decode cX0_cornerOf 6 = .ok (.getfield 16, 3) := by decide +kernel
theorem dX0_cornerOf_9 : decode cX0_cornerOf 9 = .ok (.iload_n 1, 1) := by decide +kernel
theorem dX0_cornerOf_10 : decode cX0_cornerOf 10 = .ok (.iaload, 1) := by decide +kernel
theorem dX0_cornerOf_11 : decode cX0_cornerOf 11 = .ok (.ireturn, 1) := by decide +kernel
set_option maxRecDepth 20000 in
theorem ggX0_walkOf_X0_requireStranger : GoodIn wsX0_walkOf wsX0_requireStranger := goodIn_ca (goodIn_r _ [6, 7, 8, 9, 10, 11, 12, 13, 14, 15, 16, 17, 18] (by decide +kernel) (by decide +kernel)) (goodIn_sub (fun _ h => List.mem_cons_of_mem _ (List.mem_append_right _ h)) (by decide +kernel))
set_option maxRecDepth 20000 in
theorem gX0_walkOf_X0_requireStranger : GoodIn wsX0_walkOf (wsV RX0 63 RX0 yX0_requireStranger wsX0_requireStranger) := goodIn_app (goodIn_of _ (by decide +kernel)) ggX0_walkOf_X0_requireStranger
theorem dX0_walkOf_0 : decode cX0_walkOf 0 = .ok (.aload_n 0, 1) := by decide +kernel
theorem dX0_walkOf_1 : decode cX0_walkOf 1 = .ok (.iload_n 1, 1) := by decide +kernel
theorem dX0_walkOf_2 : decode cX0_walkOf 2 = .ok (.invokevirtual 63, 3) := by decide +kernel
theorem dX0_walkOf_5 : decode cX0_walkOf 5 = .ok (.aload_n 0, 1) := by decide +kernel
theorem dX0_walkOf_6 : decode cX0_walkOf 6 = .ok (.getfield 19, 3) := by decide +kernel
theorem dX0_walkOf_9 : decode cX0_walkOf 9 = .ok (.iload_n 1, 1) := by decide +kernel
theorem dX0_walkOf_10 : decode cX0_walkOf 10 = .ok (.iaload, 1) := by decide +kernel
theorem dX0_walkOf_11 : decode cX0_walkOf 11 = .ok (.ireturn, 1) := by decide +kernel
set_option maxRecDepth 20000 in
theorem ggX0_peopleAt_X0_requireCorner : GoodIn wsX0_peopleAt wsX0_requireCorner := goodIn_ca (goodIn_r _ [4, 5, 6, 7, 8, 3, 9] (by decide +kernel) (by decide +kernel)) (goodIn_sub (fun _ h => List.mem_cons_of_mem _ (List.mem_append_right _ h)) (by decide +kernel))
set_option maxRecDepth 20000 in
theorem gX0_peopleAt_X0_requireCorner : GoodIn wsX0_peopleAt (va_wsS RX0 101 yX0_requireCorner wsX0_requireCorner) := goodIn_app (goodIn_of _ (by decide +kernel)) ggX0_peopleAt_X0_requireCorner
set_option maxRecDepth 20000 in
theorem ggX0_peopleAt_X0_crowdAt : GoodIn wsX0_peopleAt wsX0_crowdAt := goodIn_r _ [13, 14, 15, 16, 17, 18, 19, 20, 21, 22, 23, 24] (by decide +kernel) (by decide +kernel)
set_option maxRecDepth 20000 in
theorem gX0_peopleAt_X0_crowdAt : GoodIn wsX0_peopleAt (wsV RX0 104 RX0 yX0_crowdAt wsX0_crowdAt) := goodIn_app (goodIn_of _ (by decide +kernel)) ggX0_peopleAt_X0_crowdAt
theorem dX0_peopleAt_0 : decode cX0_peopleAt 0 = .ok (.iload_n 1, 1) := by decide +kernel
theorem dX0_peopleAt_1 : decode cX0_peopleAt 1 = .ok (.invokestatic 101, 3) := by decide +kernel
theorem dX0_peopleAt_4 : decode cX0_peopleAt 4 = .ok (.aload_n 0, 1) := by decide +kernel
theorem dX0_peopleAt_5 : decode cX0_peopleAt 5 = .ok (.iload_n 1, 1) := by decide +kernel
theorem dX0_peopleAt_6 : decode cX0_peopleAt 6 = .ok (.invokevirtual 104, 3) := by decide +kernel
theorem dX0_peopleAt_9 : decode cX0_peopleAt 9 = .ok (.ireturn, 1) := by decide +kernel
set_option maxRecDepth 20000 in
theorem ggX0_pointsOf_X0_requirePair : GoodIn wsX0_pointsOf wsX0_requirePair := goodIn_ca (goodIn_ca (goodIn_r _ [5, 6, 7, 8, 9, 10, 4, 11, 12, 13, 14, 37, 38, 39, 40, 41, 42, 43, 44, 45] (by decide +kernel) (by decide +kernel)) (goodIn_sub (fun _ h => List.mem_cons_of_mem _ (List.mem_append_left _ (List.mem_append_right _ h))) (by decide +kernel))) (goodIn_sub (fun _ h => List.mem_cons_of_mem _ (List.mem_append_right _ h)) (by decide +kernel))
set_option maxRecDepth 20000 in
theorem gX0_pointsOf_X0_requirePair : GoodIn wsX0_pointsOf (wsV RX0 80 RX0 yX0_requirePair wsX0_requirePair) := goodIn_app (goodIn_of _ (by decide +kernel)) ggX0_pointsOf_X0_requirePair
set_option maxRecDepth 20000 in
theorem ggX0_pointsOf_X0_pointsOfPair : GoodIn wsX0_pointsOf wsX0_pointsOfPair := goodIn_r _ [18, 19, 20, 21, 22, 4, 23, 24, 25, 26, 27, 28, 29, 30, 31, 32, 33, 34, 35, 36, 37, 38, 39, 40, 41, 42, 43, 44, 45] (by decide +kernel) (by decide +kernel)
set_option maxRecDepth 20000 in
theorem gX0_pointsOf_X0_pointsOfPair : GoodIn wsX0_pointsOf (wsV RX0 107 RX0 yX0_pointsOfPair wsX0_pointsOfPair) := goodIn_app (goodIn_of _ (by decide +kernel)) ggX0_pointsOf_X0_pointsOfPair
theorem dX0_pointsOf_0 : decode cX0_pointsOf 0 = .ok (.aload_n 0, 1) := by decide +kernel
theorem dX0_pointsOf_1 : decode cX0_pointsOf 1 = .ok (.iload_n 1, 1) := by decide +kernel
theorem dX0_pointsOf_2 : decode cX0_pointsOf 2 = .ok (.iload_n 2, 1) := by decide +kernel
theorem dX0_pointsOf_3 : decode cX0_pointsOf 3 = .ok (.invokevirtual 80, 3) := by decide +kernel
theorem dX0_pointsOf_6 : decode cX0_pointsOf 6 = .ok (.aload_n 0, 1) := by decide +kernel
theorem dX0_pointsOf_7 : decode cX0_pointsOf 7 = .ok (.iload_n 1, 1) := by decide +kernel
theorem dX0_pointsOf_8 : decode cX0_pointsOf 8 = .ok (.iload_n 2, 1) := by decide +kernel
theorem dX0_pointsOf_9 : decode cX0_pointsOf 9 = .ok (.invokevirtual 107, 3) := by decide +kernel
theorem dX0_pointsOf_12 : decode cX0_pointsOf 12 = .ok (.ireturn, 1) := by decide +kernel
set_option maxRecDepth 20000 in
theorem ggX0_areTogether_X0_requirePair : GoodIn wsX0_areTogether wsX0_requirePair := goodIn_ca (goodIn_ca (goodIn_r _ [6, 7, 8, 9, 10, 11, 5, 12, 13, 14, 15, 16, 17, 18, 19, 20, 21, 22, 23, 24] (by decide +kernel) (by decide +kernel)) (goodIn_sub (fun _ h => List.mem_cons_of_mem _ (List.mem_append_left _ (List.mem_append_right _ h))) (by decide +kernel))) (goodIn_sub (fun _ h => List.mem_cons_of_mem _ (List.mem_append_right _ h)) (by decide +kernel))
set_option maxRecDepth 20000 in
theorem gX0_areTogether_X0_requirePair : GoodIn wsX0_areTogether (wsV RX0 80 RX0 yX0_requirePair wsX0_requirePair) := goodIn_app (goodIn_of _ (by decide +kernel)) ggX0_areTogether_X0_requirePair
theorem dX0_areTogether_0 : decode cX0_areTogether 0 = .ok (.aload_n 0, 1) := by decide +kernel
theorem dX0_areTogether_1 : decode cX0_areTogether 1 = .ok (.iload_n 1, 1) := by decide +kernel
theorem dX0_areTogether_2 : decode cX0_areTogether 2 = .ok (.iload_n 2, 1) := by decide +kernel
theorem dX0_areTogether_3 : decode cX0_areTogether 3 = .ok (.invokevirtual 80, 3) := by decide +kernel
theorem dX0_areTogether_6 : decode cX0_areTogether 6 = .ok (.aload_n 0, 1) := by decide +kernel
theorem dX0_areTogether_7 : decode cX0_areTogether 7 = .ok (.getfield 16, 3) := by decide +kernel
theorem dX0_areTogether_10 : decode cX0_areTogether 10 = .ok (.iload_n 1, 1) := by decide +kernel
theorem dX0_areTogether_11 : decode cX0_areTogether 11 = .ok (.iaload, 1) := by decide +kernel
theorem dX0_areTogether_12 : decode cX0_areTogether 12 = .ok (.aload_n 0, 1) := by decide +kernel
theorem dX0_areTogether_13 : decode cX0_areTogether 13 = .ok (.getfield 16, 3) := by decide +kernel
theorem dX0_areTogether_16 : decode cX0_areTogether 16 = .ok (.iload_n 2, 1) := by decide +kernel
theorem dX0_areTogether_17 : decode cX0_areTogether 17 = .ok (.iaload, 1) := by decide +kernel
theorem dX0_areTogether_18 : decode cX0_areTogether 18 = .ok (.if_icmp .ne 7, 3) := by decide +kernel
theorem dX0_areTogether_21 : decode cX0_areTogether 21 = .ok (.iconst 1, 1) := by decide +kernel
theorem dX0_areTogether_22 : decode cX0_areTogether 22 = .ok (.goto 4, 3) := by decide +kernel
theorem dX0_areTogether_25 : decode cX0_areTogether 25 = .ok (.iconst 0, 1) := by decide +kernel
theorem dX0_areTogether_26 : decode cX0_areTogether 26 = .ok (.ireturn, 1) := by decide +kernel
set_option maxRecDepth 20000 in
theorem ggX0_areMirrored_X0_requirePair : GoodIn wsX0_areMirrored wsX0_requirePair := goodIn_ca (goodIn_ca (goodIn_r _ [6, 7, 8, 9, 10, 11, 5, 12, 13, 14, 15, 19, 20, 21, 22, 23, 24, 25, 26, 27] (by decide +kernel) (by decide +kernel)) (goodIn_sub (fun _ h => List.mem_cons_of_mem _ (List.mem_append_left _ (List.mem_append_right _ h))) (by decide +kernel))) (goodIn_sub (fun _ h => List.mem_cons_of_mem _ (List.mem_append_right _ h)) (by decide +kernel))
set_option maxRecDepth 20000 in
theorem gX0_areMirrored_X0_requirePair : GoodIn wsX0_areMirrored (wsV RX0 80 RX0 yX0_requirePair wsX0_requirePair) := goodIn_app (goodIn_of _ (by decide +kernel)) ggX0_areMirrored_X0_requirePair
set_option maxRecDepth 20000 in
theorem ggX0_areMirrored_X0_mirrored : GoodIn wsX0_areMirrored wsX0_mirrored := goodIn_r _ [18] (by decide +kernel) (by decide +kernel)
set_option maxRecDepth 20000 in
theorem gX0_areMirrored_X0_mirrored : GoodIn wsX0_areMirrored (va_wsS RX0 110 yX0_mirrored wsX0_mirrored) := goodIn_app (goodIn_of _ (by decide +kernel)) ggX0_areMirrored_X0_mirrored
theorem dX0_areMirrored_0 : decode cX0_areMirrored 0 = .ok (.aload_n 0, 1) := by decide +kernel
theorem dX0_areMirrored_1 : decode cX0_areMirrored 1 = .ok (.iload_n 1, 1) := by decide +kernel
theorem dX0_areMirrored_2 : decode cX0_areMirrored 2 = .ok (.iload_n 2, 1) := by decide +kernel
theorem dX0_areMirrored_3 : decode cX0_areMirrored 3 = .ok (.invokevirtual 80, 3) := by decide +kernel
theorem dX0_areMirrored_6 : decode cX0_areMirrored 6 = .ok (.aload_n 0, 1) := by decide +kernel
theorem dX0_areMirrored_7 : decode cX0_areMirrored 7 = .ok (.getfield 9, 3) := by decide +kernel
theorem dX0_areMirrored_10 : decode cX0_areMirrored 10 = .ok (.iload_n 1, 1) := by decide +kernel
theorem dX0_areMirrored_11 : decode cX0_areMirrored 11 = .ok (.iaload, 1) := by decide +kernel
theorem dX0_areMirrored_12 : decode cX0_areMirrored 12 = .ok (.aload_n 0, 1) := by decide +kernel
theorem dX0_areMirrored_13 : decode cX0_areMirrored 13 = .ok (.getfield 9, 3) := by decide +kernel
theorem dX0_areMirrored_16 : decode cX0_areMirrored 16 = .ok (.iload_n 2, 1) := by decide +kernel
theorem dX0_areMirrored_17 : decode cX0_areMirrored 17 = .ok (.iaload, 1) := by decide +kernel
theorem dX0_areMirrored_18 : decode cX0_areMirrored 18 = .ok (.invokestatic 110, 3) := by decide +kernel
theorem dX0_areMirrored_21 : decode cX0_areMirrored 21 = .ok (.ireturn, 1) := by decide +kernel
set_option maxRecDepth 20000 in
theorem ggX0_coincidences_X0_townBehind : GoodIn wsX0_coincidences wsX0_townBehind := goodIn_r _ [5, 6, 7, 8, 9, 4, 10, 11, 12, 13, 14, 15, 16, 17, 18, 19, 20, 21, 22, 23, 24, 25, 26, 27, 28, 29, 30, 31, 32, 33, 34, 35, 36, 37, 38, 39, 40, 41, 42, 43] (by decide +kernel) (by decide +kernel)
set_option maxRecDepth 20000 in
theorem gX0_coincidences_X0_townBehind : GoodIn wsX0_coincidences (wsV RX0 86 RX0 yX0_townBehind wsX0_townBehind) := goodIn_app (goodIn_of _ (by decide +kernel)) ggX0_coincidences_X0_townBehind
theorem dX0_coincidences_0 : decode cX0_coincidences 0 = .ok (.aload_n 0, 1) := by decide +kernel
theorem dX0_coincidences_1 : decode cX0_coincidences 1 = .ok (.iconst 0, 1) := by decide +kernel
theorem dX0_coincidences_2 : decode cX0_coincidences 2 = .ok (.invokevirtual 86, 3) := by decide +kernel
theorem dX0_coincidences_5 : decode cX0_coincidences 5 = .ok (.ireturn, 1) := by decide +kernel
set_option maxRecDepth 20000 in
theorem ggX0_coincidencesAt_X0_requireCorner : GoodIn wsX0_coincidencesAt wsX0_requireCorner := goodIn_ca (goodIn_r _ [6, 7, 8, 9, 10, 5, 11] (by decide +kernel) (by decide +kernel)) (goodIn_sub (fun _ h => List.mem_cons_of_mem _ (List.mem_append_right _ h)) (by decide +kernel))
set_option maxRecDepth 20000 in
theorem gX0_coincidencesAt_X0_requireCorner : GoodIn wsX0_coincidencesAt (va_wsS RX0 101 yX0_requireCorner wsX0_requireCorner) := goodIn_app (goodIn_of _ (by decide +kernel)) ggX0_coincidencesAt_X0_requireCorner
set_option maxRecDepth 20000 in
theorem ggX0_coincidencesAt_X0_pointsOfPair : GoodIn wsX0_coincidencesAt wsX0_pointsOfPair := goodIn_r _ [15, 16, 17, 18, 19, 5, 20, 21, 22, 23, 24, 25, 26, 27, 28, 29, 30, 31, 32, 33, 34, 35, 36, 37, 38, 39, 40, 41, 42] (by decide +kernel) (by decide +kernel)
set_option maxRecDepth 20000 in
theorem gX0_coincidencesAt_X0_pointsOfPair : GoodIn wsX0_coincidencesAt (wsV RX0 107 RX0 yX0_pointsOfPair wsX0_pointsOfPair) := goodIn_app (goodIn_of _ (by decide +kernel)) ggX0_coincidencesAt_X0_pointsOfPair
theorem dX0_coincidencesAt_0 : decode cX0_coincidencesAt 0 = .ok (.iload_n 1, 1) := by decide +kernel
theorem dX0_coincidencesAt_1 : decode cX0_coincidencesAt 1 = .ok (.invokestatic 101, 3) := by decide +kernel
theorem dX0_coincidencesAt_4 : decode cX0_coincidencesAt 4 = .ok (.iconst 0, 1) := by decide +kernel
theorem dX0_coincidencesAt_5 : decode cX0_coincidencesAt 5 = .ok (.istore_n 2, 1) := by decide +kernel
theorem dX0_coincidencesAt_6 : decode cX0_coincidencesAt 6 = .ok (.iconst 0, 1) := by decide +kernel
theorem dX0_coincidencesAt_7 : decode cX0_coincidencesAt 7 = .ok (.istore_n 3, 1) := by decide +kernel
theorem dX0_coincidencesAt_8 : decode cX0_coincidencesAt 8 = .ok (.iload_n 3, 1) := by decide +kernel
theorem dX0_coincidencesAt_9 : decode cX0_coincidencesAt 9 = .ok (.aload_n 0, 1) := by decide +kernel
theorem dX0_coincidencesAt_10 : decode cX0_coincidencesAt 10 = .ok (.getfield 22, 3) := by decide +kernel
theorem dX0_coincidencesAt_13 : decode cX0_coincidencesAt 13 = .ok (.if_icmp .ge 60, 3) := by decide +kernel
theorem dX0_coincidencesAt_16 : decode cX0_coincidencesAt 16 = .ok (.iload_n 3, 1) := by decide +kernel
theorem dX0_coincidencesAt_17 : decode cX0_coincidencesAt 17 = .ok (.iconst 1, 1) := by decide +kernel
theorem dX0_coincidencesAt_18 : decode cX0_coincidencesAt 18 = .ok (.iadd, 1) := by decide +kernel
theorem dX0_coincidencesAt_19 : decode cX0_coincidencesAt 19 = .ok (.istore 4, 2) := by decide +kernel
theorem dX0_coincidencesAt_21 : decode cX0_coincidencesAt 21 = .ok (.iload 4, 2) := by decide +kernel
theorem dX0_coincidencesAt_23 : decode cX0_coincidencesAt 23 = .ok (.aload_n 0, 1) := by decide +kernel
theorem dX0_coincidencesAt_24 : decode cX0_coincidencesAt 24 = .ok (.getfield 22, 3) := by decide +kernel
theorem dX0_coincidencesAt_27 : decode cX0_coincidencesAt 27 = .ok (.if_icmp .ge 40, 3) := by decide +kernel
theorem dX0_coincidencesAt_30 : decode cX0_coincidencesAt 30 = .ok (.aload_n 0, 1) := by decide +kernel
theorem dX0_coincidencesAt_31 : decode cX0_coincidencesAt 31 = .ok (.getfield 16, 3) := by decide +kernel
theorem dX0_coincidencesAt_34 : decode cX0_coincidencesAt 34 = .ok (.iload_n 3, 1) := by decide +kernel
theorem dX0_coincidencesAt_35 : decode cX0_coincidencesAt 35 = .ok (.iaload, 1) := by decide +kernel
theorem dX0_coincidencesAt_36 : decode cX0_coincidencesAt 36 = .ok (.iload_n 1, 1) := by decide +kernel
theorem dX0_coincidencesAt_37 : decode cX0_coincidencesAt 37 = .ok (.if_icmp .ne 24, 3) := by decide +kernel
theorem dX0_coincidencesAt_40 : decode cX0_coincidencesAt 40 = .ok (.aload_n 0, 1) := by decide +kernel
theorem dX0_coincidencesAt_41 : decode cX0_coincidencesAt 41 = .ok (.getfield 16, 3) := by decide +kernel
theorem dX0_coincidencesAt_44 : decode cX0_coincidencesAt 44 = .ok (.iload 4, 2) := by decide +kernel
theorem dX0_coincidencesAt_46 : decode cX0_coincidencesAt 46 = .ok (.iaload, 1) := by decide +kernel
theorem dX0_coincidencesAt_47 : decode cX0_coincidencesAt 47 = .ok (.iload_n 1, 1) := by decide +kernel
theorem dX0_coincidencesAt_48 : decode cX0_coincidencesAt 48 = .ok (.if_icmp .ne 13, 3) := by decide +kernel
theorem dX0_coincidencesAt_51 : decode cX0_coincidencesAt 51 = .ok (.iload_n 2, 1) := by decide +kernel
theorem dX0_coincidencesAt_52 : decode cX0_coincidencesAt 52 = .ok (.aload_n 0, 1) := by decide +kernel
theorem dX0_coincidencesAt_53 : decode cX0_coincidencesAt 53 = .ok (.iload_n 3, 1) := by decide +kernel
theorem dX0_coincidencesAt_54 : decode cX0_coincidencesAt 54 = .ok (.iload 4, 2) := by decide +kernel
theorem dX0_coincidencesAt_56 : decode cX0_coincidencesAt 56 = .ok (.invokevirtual 107, 3) := by decide +kernel
theorem dX0_coincidencesAt_59 : decode cX0_coincidencesAt 59 = .ok (.iadd, 1) := by decide +kernel
theorem dX0_coincidencesAt_60 : decode cX0_coincidencesAt 60 = .ok (.istore_n 2, 1) := by decide +kernel
theorem dX0_coincidencesAt_61 : decode cX0_coincidencesAt 61 = .ok (.iinc 4 1, 3) := by decide +kernel
theorem dX0_coincidencesAt_64 : decode cX0_coincidencesAt 64 = .ok (.goto (-43), 3) := by decide +kernel
theorem dX0_coincidencesAt_67 : decode cX0_coincidencesAt 67 = .ok (.iinc 3 1, 3) := by decide +kernel
theorem dX0_coincidencesAt_70 : decode cX0_coincidencesAt 70 = .ok (.goto (-62), 3) := by decide +kernel
theorem dX0_coincidencesAt_73 : decode cX0_coincidencesAt 73 = .ok (.iload_n 2, 1) := by decide +kernel
theorem dX0_coincidencesAt_74 : decode cX0_coincidencesAt 74 = .ok (.ireturn, 1) := by decide +kernel
set_option maxRecDepth 20000 in
theorem ggX0_luckOf_X0_requireStranger : GoodIn wsX0_luckOf wsX0_requireStranger := goodIn_ca (goodIn_r _ [5, 6, 7, 8, 36, 37, 38, 39, 40, 41, 42, 43, 44] (by decide +kernel) (by decide +kernel)) (goodIn_sub (fun _ h => List.mem_cons_of_mem _ (List.mem_append_right _ h)) (by decide +kernel))
set_option maxRecDepth 20000 in
theorem gX0_luckOf_X0_requireStranger : GoodIn wsX0_luckOf (wsV RX0 63 RX0 yX0_requireStranger wsX0_requireStranger) := goodIn_app (goodIn_of _ (by decide +kernel)) ggX0_luckOf_X0_requireStranger
set_option maxRecDepth 20000 in
theorem ggX0_luckOf_X0_luckNow : GoodIn wsX0_luckOf wsX0_luckNow := goodIn_r _ [12, 13, 14, 15, 16, 17, 4, 18, 8, 19, 20, 21, 22, 23, 24, 25, 26, 27, 28, 29, 30, 31, 32, 33, 34, 35, 36, 37, 38, 39, 40, 41, 42, 43, 44] (by decide +kernel) (by decide +kernel)
set_option maxRecDepth 20000 in
theorem gX0_luckOf_X0_luckNow : GoodIn wsX0_luckOf (wsV RX0 114 RX0 yX0_luckNow wsX0_luckNow) := goodIn_app (goodIn_of _ (by decide +kernel)) ggX0_luckOf_X0_luckNow
theorem dX0_luckOf_0 : decode cX0_luckOf 0 = .ok (.aload_n 0, 1) := by decide +kernel
theorem dX0_luckOf_1 : decode cX0_luckOf 1 = .ok (.iload_n 1, 1) := by decide +kernel
theorem dX0_luckOf_2 : decode cX0_luckOf 2 = .ok (.invokevirtual 63, 3) := by decide +kernel
theorem dX0_luckOf_5 : decode cX0_luckOf 5 = .ok (.aload_n 0, 1) := by decide +kernel
theorem dX0_luckOf_6 : decode cX0_luckOf 6 = .ok (.iload_n 1, 1) := by decide +kernel
theorem dX0_luckOf_7 : decode cX0_luckOf 7 = .ok (.invokevirtual 114, 3) := by decide +kernel
theorem dX0_luckOf_10 : decode cX0_luckOf 10 = .ok (.ireturn, 1) := by decide +kernel
set_option maxRecDepth 20000 in
theorem ggX0_luckiestPair_X0_pointsOfPair : GoodIn wsX0_luckiestPair wsX0_pointsOfPair := goodIn_r _ [6, 7, 8, 9, 10, 5, 11, 12, 13, 14, 15, 16, 17, 18, 19, 20, 21, 22, 23, 24, 25, 26, 27, 28, 29, 30, 31, 32, 33] (by decide +kernel) (by decide +kernel)
set_option maxRecDepth 20000 in
theorem gX0_luckiestPair_X0_pointsOfPair : GoodIn wsX0_luckiestPair (wsV RX0 107 RX0 yX0_pointsOfPair wsX0_pointsOfPair) := goodIn_app (goodIn_of _ (by decide +kernel)) ggX0_luckiestPair_X0_pointsOfPair
theorem dX0_luckiestPair_0 : decode cX0_luckiestPair 0 = .ok (.iconst (-1), 1) := by decide +kernel
theorem dX0_luckiestPair_1 : decode cX0_luckiestPair 1 = .ok (.istore_n 1, 1) := by decide +kernel
theorem dX0_luckiestPair_2 : decode cX0_luckiestPair 2 = .ok (.iconst (-1), 1) := by decide +kernel
theorem dX0_luckiestPair_3 : decode cX0_luckiestPair 3 = .ok (.istore_n 2, 1) := by decide +kernel
theorem dX0_luckiestPair_4 : decode cX0_luckiestPair 4 = .ok (.iconst 0, 1) := by decide +kernel
theorem dX0_luckiestPair_5 : decode cX0_luckiestPair 5 = .ok (.istore_n 3, 1) := by decide +kernel
theorem dX0_luckiestPair_6 : decode cX0_luckiestPair 6 = .ok (.iload_n 3, 1) := by decide +kernel
theorem dX0_luckiestPair_7 : decode cX0_luckiestPair 7 = .ok (.aload_n 0, 1) := by decide +kernel
theorem dX0_luckiestPair_8 : decode cX0_luckiestPair 8 = .ok (.getfield 22, 3) := by decide +kernel
theorem dX0_luckiestPair_11 : decode cX0_luckiestPair 11 = .ok (.if_icmp .ge 55, 3) := by decide +kernel
theorem dX0_luckiestPair_14 : decode cX0_luckiestPair 14 = .ok (.iload_n 3, 1) := by decide +kernel
theorem dX0_luckiestPair_15 : decode cX0_luckiestPair 15 = .ok (.iconst 1, 1) := by decide +kernel
theorem dX0_luckiestPair_16 : decode cX0_luckiestPair 16 = .ok (.iadd, 1) := by decide +kernel
theorem dX0_luckiestPair_17 : decode cX0_luckiestPair 17 = .ok (.istore 4, 2) := by decide +kernel
theorem dX0_luckiestPair_19 : decode cX0_luckiestPair 19 = .ok (.iload 4, 2) := by decide +kernel
theorem dX0_luckiestPair_21 : decode cX0_luckiestPair 21 = .ok (.aload_n 0, 1) := by decide +kernel
theorem dX0_luckiestPair_22 : decode cX0_luckiestPair 22 = .ok (.getfield 22, 3) := by decide +kernel
theorem dX0_luckiestPair_25 : decode cX0_luckiestPair 25 = .ok (.if_icmp .ge 35, 3) := by decide +kernel
theorem dX0_luckiestPair_28 : decode cX0_luckiestPair 28 = .ok (.aload_n 0, 1) := by decide +kernel
theorem dX0_luckiestPair_29 : decode cX0_luckiestPair 29 = .ok (.iload_n 3, 1) := by decide +kernel
theorem dX0_luckiestPair_30 : decode cX0_luckiestPair 30 = .ok (.iload 4, 2) := by decide +kernel
theorem dX0_luckiestPair_32 : decode cX0_luckiestPair 32 = .ok (.invokevirtual 107, 3) := by decide +kernel
theorem dX0_luckiestPair_35 : decode cX0_luckiestPair 35 = .ok (.istore 5, 2) := by decide +kernel
theorem dX0_luckiestPair_37 : decode cX0_luckiestPair 37 = .ok (.iload 5, 2) := by decide +kernel
theorem dX0_luckiestPair_39 : decode cX0_luckiestPair 39 = .ok (.iload_n 2, 1) := by decide +kernel
theorem dX0_luckiestPair_40 : decode cX0_luckiestPair 40 = .ok (.if_icmp .le 14, 3) := by decide +kernel
theorem dX0_luckiestPair_43 : decode cX0_luckiestPair 43 = .ok (.iload 5, 2) := by decide +kernel
theorem dX0_luckiestPair_45 : decode cX0_luckiestPair 45 = .ok (.istore_n 2, 1) := by decide +kernel
theorem dX0_luckiestPair_46 : decode cX0_luckiestPair 46 = .ok (.bipush 100, 2) := by decide +kernel
theorem dX0_luckiestPair_48 : decode cX0_luckiestPair 48 = .ok (.iload_n 3, 1) := by decide +kernel
theorem dX0_luckiestPair_49 : decode cX0_luckiestPair 49 = .ok (.imul, 1) := by decide +kernel
theorem dX0_luckiestPair_50 : decode cX0_luckiestPair 50 = .ok (.iload 4, 2) := by decide +kernel
theorem dX0_luckiestPair_52 : decode cX0_luckiestPair 52 = .ok (.iadd, 1) := by decide +kernel
theorem dX0_luckiestPair_53 : decode cX0_luckiestPair 53 = .ok (.istore_n 1, 1) := by decide +kernel
theorem dX0_luckiestPair_54 : decode cX0_luckiestPair 54 = .ok (.iinc 4 1, 3) := by decide +kernel
theorem dX0_luckiestPair_57 : decode cX0_luckiestPair 57 = .ok (.goto (-38), 3) := by decide +kernel
theorem dX0_luckiestPair_60 : decode cX0_luckiestPair 60 = .ok (.iinc 3 1, 3) := by decide +kernel
theorem dX0_luckiestPair_63 : decode cX0_luckiestPair 63 = .ok (.goto (-57), 3) := by decide +kernel
theorem dX0_luckiestPair_66 : decode cX0_luckiestPair 66 = .ok (.iload_n 1, 1) := by decide +kernel
theorem dX0_luckiestPair_67 : decode cX0_luckiestPair 67 = .ok (.ireturn, 1) := by decide +kernel
set_option maxRecDepth 20000 in
theorem ggX0_coincidencesIn_X0_townBehind : GoodIn wsX0_coincidencesIn wsX0_townBehind := goodIn_r _ [7, 8, 9, 10, 11, 6, 12, 13, 14, 15, 16, 17, 18, 19, 20, 21, 22, 23, 24, 25, 26, 27, 28, 29, 30, 31, 32, 33, 34, 35, 36, 37, 38, 39, 40, 41, 42, 43, 44, 45] (by decide +kernel) (by decide +kernel)
set_option maxRecDepth 20000 in
theorem gX0_coincidencesIn_X0_townBehind : GoodIn wsX0_coincidencesIn (wsV RX0 86 RX0 yX0_townBehind wsX0_townBehind) := goodIn_app (goodIn_of _ (by decide +kernel)) ggX0_coincidencesIn_X0_townBehind
theorem dX0_coincidencesIn_0 : decode cX0_coincidencesIn 0 = .ok (.iload_n 1, 1) := by decide +kernel
theorem dX0_coincidencesIn_1 : decode cX0_coincidencesIn 1 = .ok (.ifCond .lt 9, 3) := by decide +kernel
theorem dX0_coincidencesIn_4 : decode cX0_coincidencesIn 4 = .ok (.iload_n 1, 1) := by decide +kernel
theorem dX0_coincidencesIn_5 : decode cX0_coincidencesIn 5 = .ok (.bipush 60, 2) := by decide +kernel
theorem dX0_coincidencesIn_7 : decode cX0_coincidencesIn 7 = .ok (.if_icmp .le 13, 3) := by decide +kernel
theorem dX0_coincidencesIn_10 : decode cX0_coincidencesIn 10 = .ok (.new 51, 3) := by decide +kernel
theorem dX0_coincidencesIn_13 : decode cX0_coincidencesIn 13 = .ok (.dup, 1) := by decide +kernel
theorem dX0_coincidencesIn_14 : decode cX0_coincidencesIn 14 = .ok (.ldc 117, 2) := by decide +kernel
theorem dX0_coincidencesIn_16 : decode cX0_coincidencesIn 16 = .ok (.invokespecial 55, 3) := by decide +kernel
theorem dX0_coincidencesIn_19 : decode cX0_coincidencesIn 19 = .ok (.athrow, 1) := by decide +kernel
theorem dX0_coincidencesIn_20 : decode cX0_coincidencesIn 20 = .ok (.aload_n 0, 1) := by decide +kernel
theorem dX0_coincidencesIn_21 : decode cX0_coincidencesIn 21 = .ok (.iload_n 1, 1) := by decide +kernel
theorem dX0_coincidencesIn_22 : decode cX0_coincidencesIn 22 = .ok (.invokevirtual 86, 3) := by decide +kernel
theorem dX0_coincidencesIn_25 : decode cX0_coincidencesIn 25 = .ok (.ireturn, 1) := by decide +kernel
set_option maxRecDepth 20000 in
theorem ggX0_hoursUntilTogether_X0_requirePair : GoodIn wsX0_hoursUntilTogether wsX0_requirePair := goodIn_ca (goodIn_ca (goodIn_r _ [5, 6, 7, 8, 9, 10, 4, 11, 12, 13, 14, 21, 22, 23, 24, 25, 26, 27, 28, 29] (by decide +kernel) (by decide +kernel)) (goodIn_sub (fun _ h => List.mem_cons_of_mem _ (List.mem_append_left _ (List.mem_append_right _ h))) (by decide +kernel))) (goodIn_sub (fun _ h => List.mem_cons_of_mem _ (List.mem_append_right _ h)) (by decide +kernel))
set_option maxRecDepth 20000 in
theorem gX0_hoursUntilTogether_X0_requirePair : GoodIn wsX0_hoursUntilTogether (wsV RX0 80 RX0 yX0_requirePair wsX0_requirePair) := goodIn_app (goodIn_of _ (by decide +kernel)) ggX0_hoursUntilTogether_X0_requirePair
set_option maxRecDepth 20000 in
theorem ggX0_hoursUntilTogether_X0_cornerBehind : GoodIn wsX0_hoursUntilTogether wsX0_cornerBehind := goodIn_r _ [18, 19, 20, 21, 22, 23, 24, 25, 26, 27, 28, 29] (by decide +kernel) (by decide +kernel)
set_option maxRecDepth 20000 in
theorem gX0_hoursUntilTogether_X0_cornerBehind : GoodIn wsX0_hoursUntilTogether (wsV RX0 119 RX0 yX0_cornerBehind wsX0_cornerBehind) := goodIn_app (goodIn_of _ (by decide +kernel)) ggX0_hoursUntilTogether_X0_cornerBehind
theorem dX0_hoursUntilTogether_0 : decode cX0_hoursUntilTogether 0 = .ok (.aload_n 0, 1) := by decide +kernel
theorem dX0_hoursUntilTogether_1 : decode cX0_hoursUntilTogether 1 = .ok (.iload_n 1, 1) := by decide +kernel
theorem dX0_hoursUntilTogether_2 : decode cX0_hoursUntilTogether 2 = .ok (.iload_n 2, 1) := by decide +kernel
theorem dX0_hoursUntilTogether_3 : decode cX0_hoursUntilTogether 3 = .ok (.invokevirtual 80, 3) := by decide +kernel
theorem dX0_hoursUntilTogether_6 : decode cX0_hoursUntilTogether 6 = .ok (.iconst 0, 1) := by decide +kernel
theorem dX0_hoursUntilTogether_7 : decode cX0_hoursUntilTogether 7 = .ok (.istore_n 3, 1) := by decide +kernel
theorem dX0_hoursUntilTogether_8 : decode cX0_hoursUntilTogether 8 = .ok (.iload_n 3, 1) := by decide +kernel
theorem dX0_hoursUntilTogether_9 : decode cX0_hoursUntilTogether 9 = .ok (.bipush 6, 2) := by decide +kernel
theorem dX0_hoursUntilTogether_11 : decode cX0_hoursUntilTogether 11 = .ok (.if_icmp .ge 26, 3) := by decide +kernel
theorem dX0_hoursUntilTogether_14 : decode cX0_hoursUntilTogether 14 = .ok (.aload_n 0, 1) := by decide +kernel
theorem dX0_hoursUntilTogether_15 : decode cX0_hoursUntilTogether 15 = .ok (.iload_n 1, 1) := by decide +kernel
theorem dX0_hoursUntilTogether_16 : decode cX0_hoursUntilTogether 16 = .ok (.iload_n 3, 1) := by decide +kernel
theorem dX0_hoursUntilTogether_17 : decode cX0_hoursUntilTogether 17 = .ok (.invokevirtual 119, 3) := by decide +kernel
theorem dX0_hoursUntilTogether_20 : decode cX0_hoursUntilTogether 20 = .ok (.aload_n 0, 1) := by decide +kernel
theorem dX0_hoursUntilTogether_21 : decode cX0_hoursUntilTogether 21 = .ok (.iload_n 2, 1) := by decide +kernel
theorem dX0_hoursUntilTogether_22 : decode cX0_hoursUntilTogether 22 = .ok (.iload_n 3, 1) := by decide +kernel
theorem dX0_hoursUntilTogether_23 : decode cX0_hoursUntilTogether 23 = .ok (.invokevirtual 119, 3) := by decide +kernel
theorem dX0_hoursUntilTogether_26 : decode cX0_hoursUntilTogether 26 = .ok (.if_icmp .ne 5, 3) := by decide +kernel
theorem dX0_hoursUntilTogether_29 : decode cX0_hoursUntilTogether 29 = .ok (.iload_n 3, 1) := by decide +kernel
theorem dX0_hoursUntilTogether_30 : decode cX0_hoursUntilTogether 30 = .ok (.ireturn, 1) := by decide +kernel
theorem dX0_hoursUntilTogether_31 : decode cX0_hoursUntilTogether 31 = .ok (.iinc 3 1, 3) := by decide +kernel
theorem dX0_hoursUntilTogether_34 : decode cX0_hoursUntilTogether 34 = .ok (.goto (-26), 3) := by decide +kernel
theorem dX0_hoursUntilTogether_37 : decode cX0_hoursUntilTogether 37 = .ok (.iconst (-1), 1) := by decide +kernel
theorem dX0_hoursUntilTogether_38 : decode cX0_hoursUntilTogether 38 = .ok (.ireturn, 1) := by decide +kernel
set_option maxRecDepth 20000 in
theorem ggX0_costOfMeeting_X0_requirePair : GoodIn wsX0_costOfMeeting wsX0_requirePair := goodIn_ca (goodIn_ca (goodIn_r _ [6, 7, 8, 9, 10, 11, 5, 12, 13, 14, 15, 26, 27, 28, 29, 30, 31, 32, 33, 34] (by decide +kernel) (by decide +kernel)) (goodIn_sub (fun _ h => List.mem_cons_of_mem _ (List.mem_append_left _ (List.mem_append_right _ h))) (by decide +kernel))) (goodIn_sub (fun _ h => List.mem_cons_of_mem _ (List.mem_append_right _ h)) (by decide +kernel))
set_option maxRecDepth 20000 in
theorem gX0_costOfMeeting_X0_requirePair : GoodIn wsX0_costOfMeeting (wsV RX0 80 RX0 yX0_requirePair wsX0_requirePair) := goodIn_app (goodIn_of _ (by decide +kernel)) ggX0_costOfMeeting_X0_requirePair
set_option maxRecDepth 20000 in
theorem ggX0_costOfMeeting_X0_costOfWay : GoodIn wsX0_costOfMeeting wsX0_costOfWay := goodIn_r _ [18, 19, 20, 21, 22, 23, 24, 25] (by decide +kernel) (by decide +kernel)
set_option maxRecDepth 20000 in
theorem gX0_costOfMeeting_X0_costOfWay : GoodIn wsX0_costOfMeeting (va_wsS RX0 73 yX0_costOfWay wsX0_costOfWay) := goodIn_app (goodIn_of _ (by decide +kernel)) ggX0_costOfMeeting_X0_costOfWay
theorem dX0_costOfMeeting_0 : decode cX0_costOfMeeting 0 = .ok (.aload_n 0, 1) := by decide +kernel
theorem dX0_costOfMeeting_1 : decode cX0_costOfMeeting 1 = .ok (.iload_n 1, 1) := by decide +kernel
theorem dX0_costOfMeeting_2 : decode cX0_costOfMeeting 2 = .ok (.iload_n 2, 1) := by decide +kernel
theorem dX0_costOfMeeting_3 : decode cX0_costOfMeeting 3 = .ok (.invokevirtual 80, 3) := by decide +kernel
theorem dX0_costOfMeeting_6 : decode cX0_costOfMeeting 6 = .ok (.aload_n 0, 1) := by decide +kernel
theorem dX0_costOfMeeting_7 : decode cX0_costOfMeeting 7 = .ok (.getfield 16, 3) := by decide +kernel
theorem dX0_costOfMeeting_10 : decode cX0_costOfMeeting 10 = .ok (.iload_n 1, 1) := by decide +kernel
theorem dX0_costOfMeeting_11 : decode cX0_costOfMeeting 11 = .ok (.iaload, 1) := by decide +kernel
theorem dX0_costOfMeeting_12 : decode cX0_costOfMeeting 12 = .ok (.aload_n 0, 1) := by decide +kernel
theorem dX0_costOfMeeting_13 : decode cX0_costOfMeeting 13 = .ok (.getfield 16, 3) := by decide +kernel
theorem dX0_costOfMeeting_16 : decode cX0_costOfMeeting 16 = .ok (.iload_n 2, 1) := by decide +kernel
theorem dX0_costOfMeeting_17 : decode cX0_costOfMeeting 17 = .ok (.iaload, 1) := by decide +kernel
theorem dX0_costOfMeeting_18 : decode cX0_costOfMeeting 18 = .ok (.invokestatic 73, 3) := by decide +kernel
theorem dX0_costOfMeeting_21 : decode cX0_costOfMeeting 21 = .ok (.ireturn, 1) := by decide +kernel
set_option maxRecDepth 20000 in
theorem ggX0_bestHour_X0_townBehind : GoodIn wsX0_bestHour wsX0_townBehind := goodIn_r _ [5, 6, 7, 8, 9, 4, 10, 11, 12, 13, 14, 15, 16, 17, 18, 19, 20, 21, 22, 23, 24, 25, 26, 27, 28, 29, 30, 31, 32, 33, 34, 35, 36, 37, 38, 39, 40, 41, 42, 43] (by decide +kernel) (by decide +kernel)
set_option maxRecDepth 20000 in
theorem gX0_bestHour_X0_townBehind : GoodIn wsX0_bestHour (wsV RX0 86 RX0 yX0_townBehind wsX0_townBehind) := goodIn_app (goodIn_of _ (by decide +kernel)) ggX0_bestHour_X0_townBehind
theorem dX0_bestHour_0 : decode cX0_bestHour 0 = .ok (.iconst 1, 1) := by decide +kernel
theorem dX0_bestHour_1 : decode cX0_bestHour 1 = .ok (.istore_n 1, 1) := by decide +kernel
theorem dX0_bestHour_2 : decode cX0_bestHour 2 = .ok (.aload_n 0, 1) := by decide +kernel
theorem dX0_bestHour_3 : decode cX0_bestHour 3 = .ok (.iconst 1, 1) := by decide +kernel
theorem dX0_bestHour_4 : decode cX0_bestHour 4 = .ok (.invokevirtual 86, 3) := by decide +kernel
theorem dX0_bestHour_7 : decode cX0_bestHour 7 = .ok (.istore_n 2, 1) := by decide +kernel
theorem dX0_bestHour_8 : decode cX0_bestHour 8 = .ok (.iconst 2, 1) := by decide +kernel
theorem dX0_bestHour_9 : decode cX0_bestHour 9 = .ok (.istore_n 3, 1) := by decide +kernel
theorem dX0_bestHour_10 : decode cX0_bestHour 10 = .ok (.iload_n 3, 1) := by decide +kernel
theorem dX0_bestHour_11 : decode cX0_bestHour 11 = .ok (.bipush 6, 2) := by decide +kernel
theorem dX0_bestHour_13 : decode cX0_bestHour 13 = .ok (.if_icmp .gt 27, 3) := by decide +kernel
theorem dX0_bestHour_16 : decode cX0_bestHour 16 = .ok (.aload_n 0, 1) := by decide +kernel
theorem dX0_bestHour_17 : decode cX0_bestHour 17 = .ok (.iload_n 3, 1) := by decide +kernel
theorem dX0_bestHour_18 : decode cX0_bestHour 18 = .ok (.invokevirtual 86, 3) := by decide +kernel
theorem dX0_bestHour_21 : decode cX0_bestHour 21 = .ok (.istore 4, 2) := by decide +kernel
theorem dX0_bestHour_23 : decode cX0_bestHour 23 = .ok (.iload 4, 2) := by decide +kernel
theorem dX0_bestHour_25 : decode cX0_bestHour 25 = .ok (.iload_n 2, 1) := by decide +kernel
theorem dX0_bestHour_26 : decode cX0_bestHour 26 = .ok (.if_icmp .le 8, 3) := by decide +kernel
theorem dX0_bestHour_29 : decode cX0_bestHour 29 = .ok (.iload 4, 2) := by decide +kernel
theorem dX0_bestHour_31 : decode cX0_bestHour 31 = .ok (.istore_n 2, 1) := by decide +kernel
theorem dX0_bestHour_32 : decode cX0_bestHour 32 = .ok (.iload_n 3, 1) := by decide +kernel
theorem dX0_bestHour_33 : decode cX0_bestHour 33 = .ok (.istore_n 1, 1) := by decide +kernel
theorem dX0_bestHour_34 : decode cX0_bestHour 34 = .ok (.iinc 3 1, 3) := by decide +kernel
theorem dX0_bestHour_37 : decode cX0_bestHour 37 = .ok (.goto (-27), 3) := by decide +kernel
theorem dX0_bestHour_40 : decode cX0_bestHour 40 = .ok (.iload_n 1, 1) := by decide +kernel
theorem dX0_bestHour_41 : decode cX0_bestHour 41 = .ok (.ireturn, 1) := by decide +kernel
set_option maxRecDepth 20000 in
theorem ggX0_bestCorner_X0_requireStranger : GoodIn wsX0_bestCorner wsX0_requireStranger := goodIn_ca (goodIn_r _ [6, 7, 8, 9, 32, 33, 34, 35, 36, 37, 38, 39, 40] (by decide +kernel) (by decide +kernel)) (goodIn_sub (fun _ h => List.mem_cons_of_mem _ (List.mem_append_right _ h)) (by decide +kernel))
set_option maxRecDepth 20000 in
theorem gX0_bestCorner_X0_requireStranger : GoodIn wsX0_bestCorner (wsV RX0 63 RX0 yX0_requireStranger wsX0_requireStranger) := goodIn_app (goodIn_of _ (by decide +kernel)) ggX0_bestCorner_X0_requireStranger
set_option maxRecDepth 20000 in
theorem ggX0_bestCorner_X0_luckWith : GoodIn wsX0_bestCorner wsX0_luckWith := goodIn_r _ [13, 9, 14, 1, 15, 16, 17, 5, 18, 19, 20, 21, 22, 23, 24, 25, 26, 27, 28, 29, 30, 31, 32, 33, 34, 35, 36, 37, 38, 39, 40] (by decide +kernel) (by decide +kernel)
set_option maxRecDepth 20000 in
theorem gX0_bestCorner_X0_luckWith : GoodIn wsX0_bestCorner (wsV RX0 122 RX0 yX0_luckWith wsX0_luckWith) := goodIn_app (goodIn_of _ (by decide +kernel)) ggX0_bestCorner_X0_luckWith
theorem dX0_bestCorner_0 : decode cX0_bestCorner 0 = .ok (.aload_n 0, 1) := by decide +kernel
theorem dX0_bestCorner_1 : decode cX0_bestCorner 1 = .ok (.iload_n 1, 1) := by decide +kernel
theorem dX0_bestCorner_2 : decode cX0_bestCorner 2 = .ok (.invokevirtual 63, 3) := by decide +kernel
theorem dX0_bestCorner_5 : decode cX0_bestCorner 5 = .ok (.iconst 0, 1) := by decide +kernel
theorem dX0_bestCorner_6 : decode cX0_bestCorner 6 = .ok (.istore_n 2, 1) := by decide +kernel
theorem dX0_bestCorner_7 : decode cX0_bestCorner 7 = .ok (.iconst (-1), 1) := by decide +kernel
theorem dX0_bestCorner_8 : decode cX0_bestCorner 8 = .ok (.istore_n 3, 1) := by decide +kernel
theorem dX0_bestCorner_9 : decode cX0_bestCorner 9 = .ok (.iconst 0, 1) := by decide +kernel
theorem dX0_bestCorner_10 : decode cX0_bestCorner 10 = .ok (.istore 4, 2) := by decide +kernel
theorem dX0_bestCorner_12 : decode cX0_bestCorner 12 = .ok (.iload 4, 2) := by decide +kernel
theorem dX0_bestCorner_14 : decode cX0_bestCorner 14 = .ok (.bipush 6, 2) := by decide +kernel
theorem dX0_bestCorner_16 : decode cX0_bestCorner 16 = .ok (.if_icmp .ge 36, 3) := by decide +kernel
theorem dX0_bestCorner_19 : decode cX0_bestCorner 19 = .ok (.aload_n 0, 1) := by decide +kernel
theorem dX0_bestCorner_20 : decode cX0_bestCorner 20 = .ok (.iload_n 1, 1) := by decide +kernel
theorem dX0_bestCorner_21 : decode cX0_bestCorner 21 = .ok (.aload_n 0, 1) := by decide +kernel
theorem dX0_bestCorner_22 : decode cX0_bestCorner 22 = .ok (.getfield 9, 3) := by decide +kernel
theorem dX0_bestCorner_25 : decode cX0_bestCorner 25 = .ok (.iload_n 1, 1) := by decide +kernel
theorem dX0_bestCorner_26 : decode cX0_bestCorner 26 = .ok (.iaload, 1) := by decide +kernel
theorem dX0_bestCorner_27 : decode cX0_bestCorner 27 = .ok (.iload 4, 2) := by decide +kernel
theorem dX0_bestCorner_29 : decode cX0_bestCorner 29 = .ok (.invokevirtual 122, 3) := by decide +kernel
theorem dX0_bestCorner_32 : decode cX0_bestCorner 32 = .ok (.istore 5, 2) := by decide +kernel
theorem dX0_bestCorner_34 : decode cX0_bestCorner 34 = .ok (.iload 5, 2) := by decide +kernel
theorem dX0_bestCorner_36 : decode cX0_bestCorner 36 = .ok (.iload_n 3, 1) := by decide +kernel
theorem dX0_bestCorner_37 : decode cX0_bestCorner 37 = .ok (.if_icmp .le 9, 3) := by decide +kernel
theorem dX0_bestCorner_40 : decode cX0_bestCorner 40 = .ok (.iload 5, 2) := by decide +kernel
theorem dX0_bestCorner_42 : decode cX0_bestCorner 42 = .ok (.istore_n 3, 1) := by decide +kernel
theorem dX0_bestCorner_43 : decode cX0_bestCorner 43 = .ok (.iload 4, 2) := by decide +kernel
theorem dX0_bestCorner_45 : decode cX0_bestCorner 45 = .ok (.istore_n 2, 1) := by decide +kernel
theorem dX0_bestCorner_46 : decode cX0_bestCorner 46 = .ok (.iinc 4 1, 3) := by decide +kernel
theorem dX0_bestCorner_49 : decode cX0_bestCorner 49 = .ok (.goto (-37), 3) := by decide +kernel
theorem dX0_bestCorner_52 : decode cX0_bestCorner 52 = .ok (.iload_n 2, 1) := by decide +kernel
theorem dX0_bestCorner_53 : decode cX0_bestCorner 53 = .ok (.ireturn, 1) := by decide +kernel
set_option maxRecDepth 20000 in
theorem ggX0_bestSwap_X0_townBehind : GoodIn wsX0_bestSwap wsX0_townBehind := goodIn_r _ [6, 1, 7, 8, 9, 5, 10, 11, 12, 13, 14, 15, 16, 17, 18, 19, 20, 21, 22, 23, 24, 25, 26, 27, 28, 29, 30, 31, 32, 33, 34, 42, 43, 44, 45, 46, 47, 48, 49, 50] (by decide +kernel) (by decide +kernel)
set_option maxRecDepth 20000 in
theorem gX0_bestSwap_X0_townBehind : GoodIn wsX0_bestSwap (wsV RX0 86 RX0 yX0_townBehind wsX0_townBehind) := goodIn_app (goodIn_of _ (by decide +kernel)) ggX0_bestSwap_X0_townBehind
set_option maxRecDepth 20000 in
theorem ggX0_bestSwap_X0_townIfSwapped : GoodIn wsX0_bestSwap wsX0_townIfSwapped := goodIn_r _ [38, 17, 39, 40, 5, 41, 2, 3, 4, 6, 1, 7, 8, 9, 10, 11, 12, 13, 14, 15, 16, 18, 19, 20, 21, 22, 23, 24, 25, 26, 27, 28, 29, 30, 31, 32, 33, 34, 42, 43, 44, 45, 46, 47, 48, 49, 50] (by decide +kernel) (by decide +kernel)
set_option maxRecDepth 20000 in
theorem gX0_bestSwap_X0_townIfSwapped : GoodIn wsX0_bestSwap (wsV RX0 126 RX0 yX0_townIfSwapped wsX0_townIfSwapped) := goodIn_app (goodIn_of _ (by decide +kernel)) ggX0_bestSwap_X0_townIfSwapped
theorem dX0_bestSwap_0 : decode cX0_bestSwap 0 = .ok (.iconst (-1), 1) := by decide +kernel
theorem dX0_bestSwap_1 : decode cX0_bestSwap 1 = .ok (.istore_n 1, 1) := by decide +kernel
theorem dX0_bestSwap_2 : decode cX0_bestSwap 2 = .ok (.aload_n 0, 1) := by decide +kernel
theorem dX0_bestSwap_3 : decode cX0_bestSwap 3 = .ok (.iconst 0, 1) := by decide +kernel
theorem dX0_bestSwap_4 : decode cX0_bestSwap 4 = .ok (.invokevirtual 86, 3) := by decide +kernel
theorem dX0_bestSwap_7 : decode cX0_bestSwap 7 = .ok (.istore_n 2, 1) := by decide +kernel
theorem dX0_bestSwap_8 : decode cX0_bestSwap 8 = .ok (.iconst 0, 1) := by decide +kernel
theorem dX0_bestSwap_9 : decode cX0_bestSwap 9 = .ok (.istore_n 3, 1) := by decide +kernel
theorem dX0_bestSwap_10 : decode cX0_bestSwap 10 = .ok (.iload_n 3, 1) := by decide +kernel
theorem dX0_bestSwap_11 : decode cX0_bestSwap 11 = .ok (.aload_n 0, 1) := by decide +kernel
theorem dX0_bestSwap_12 : decode cX0_bestSwap 12 = .ok (.getfield 22, 3) := by decide +kernel
theorem dX0_bestSwap_15 : decode cX0_bestSwap 15 = .ok (.if_icmp .ge 55, 3) := by decide +kernel
theorem dX0_bestSwap_18 : decode cX0_bestSwap 18 = .ok (.iload_n 3, 1) := by decide +kernel
theorem dX0_bestSwap_19 : decode cX0_bestSwap 19 = .ok (.iconst 1, 1) := by decide +kernel
theorem dX0_bestSwap_20 : decode cX0_bestSwap 20 = .ok (.iadd, 1) := by decide +kernel
theorem dX0_bestSwap_21 : decode cX0_bestSwap 21 = .ok (.istore 4, 2) := by decide +kernel
theorem dX0_bestSwap_23 : decode cX0_bestSwap 23 = .ok (.iload 4, 2) := by decide +kernel
theorem dX0_bestSwap_25 : decode cX0_bestSwap 25 = .ok (.aload_n 0, 1) := by decide +kernel
theorem dX0_bestSwap_26 : decode cX0_bestSwap 26 = .ok (.getfield 22, 3) := by decide +kernel
theorem dX0_bestSwap_29 : decode cX0_bestSwap 29 = .ok (.if_icmp .ge 35, 3) := by decide +kernel
theorem dX0_bestSwap_32 : decode cX0_bestSwap 32 = .ok (.aload_n 0, 1) := by decide +kernel
theorem dX0_bestSwap_33 : decode cX0_bestSwap 33 = .ok (.iload_n 3, 1) := by decide +kernel
theorem dX0_bestSwap_34 : decode cX0_bestSwap 34 = .ok (.iload 4, 2) := by decide +kernel
theorem dX0_bestSwap_36 : decode cX0_bestSwap 36 = .ok (.invokevirtual 126, 3) := by decide +kernel
theorem dX0_bestSwap_39 : decode cX0_bestSwap 39 = .ok (.istore 5, 2) := by decide +kernel
theorem dX0_bestSwap_41 : decode cX0_bestSwap 41 = .ok (.iload 5, 2) := by decide +kernel
theorem dX0_bestSwap_43 : decode cX0_bestSwap 43 = .ok (.iload_n 2, 1) := by decide +kernel
theorem dX0_bestSwap_44 : decode cX0_bestSwap 44 = .ok (.if_icmp .le 14, 3) := by decide +kernel
theorem dX0_bestSwap_47 : decode cX0_bestSwap 47 = .ok (.iload 5, 2) := by decide +kernel
theorem dX0_bestSwap_49 : decode cX0_bestSwap 49 = .ok (.istore_n 2, 1) := by decide +kernel
theorem dX0_bestSwap_50 : decode cX0_bestSwap 50 = .ok (.bipush 100, 2) := by decide +kernel
theorem dX0_bestSwap_52 : decode cX0_bestSwap 52 = .ok (.iload_n 3, 1) := by decide +kernel
theorem dX0_bestSwap_53 : decode cX0_bestSwap 53 = .ok (.imul, 1) := by decide +kernel
theorem dX0_bestSwap_54 : decode cX0_bestSwap 54 = .ok (.iload 4, 2) := by decide +kernel
theorem dX0_bestSwap_56 : decode cX0_bestSwap 56 = .ok (.iadd, 1) := by decide +kernel
theorem dX0_bestSwap_57 : decode cX0_bestSwap 57 = .ok (.istore_n 1, 1) := by decide +kernel
theorem dX0_bestSwap_58 : decode cX0_bestSwap 58 = .ok (.iinc 4 1, 3) := by decide +kernel
theorem dX0_bestSwap_61 : decode cX0_bestSwap 61 = .ok (.goto (-38), 3) := by decide +kernel
theorem dX0_bestSwap_64 : decode cX0_bestSwap 64 = .ok (.iinc 3 1, 3) := by decide +kernel
theorem dX0_bestSwap_67 : decode cX0_bestSwap 67 = .ok (.goto (-57), 3) := by decide +kernel
theorem dX0_bestSwap_70 : decode cX0_bestSwap 70 = .ok (.iload_n 1, 1) := by decide +kernel
theorem dX0_bestSwap_71 : decode cX0_bestSwap 71 = .ok (.ireturn, 1) := by decide +kernel
set_option maxRecDepth 20000 in
theorem ggX0_bestTicket_X0_requireStranger : GoodIn wsX0_bestTicket wsX0_requireStranger := goodIn_ca (goodIn_r _ [6, 7, 8, 9, 32, 33, 34, 35, 36, 37, 38, 39, 40] (by decide +kernel) (by decide +kernel)) (goodIn_sub (fun _ h => List.mem_cons_of_mem _ (List.mem_append_right _ h)) (by decide +kernel))
set_option maxRecDepth 20000 in
theorem gX0_bestTicket_X0_requireStranger : GoodIn wsX0_bestTicket (wsV RX0 63 RX0 yX0_requireStranger wsX0_requireStranger) := goodIn_app (goodIn_of _ (by decide +kernel)) ggX0_bestTicket_X0_requireStranger
set_option maxRecDepth 20000 in
theorem ggX0_bestTicket_X0_luckWith : GoodIn wsX0_bestTicket wsX0_luckWith := goodIn_r _ [13, 9, 1, 14, 15, 16, 17, 5, 18, 19, 20, 21, 22, 23, 24, 25, 26, 27, 28, 29, 30, 31, 32, 33, 34, 35, 36, 37, 38, 39, 40] (by decide +kernel) (by decide +kernel)
set_option maxRecDepth 20000 in
theorem gX0_bestTicket_X0_luckWith : GoodIn wsX0_bestTicket (wsV RX0 122 RX0 yX0_luckWith wsX0_luckWith) := goodIn_app (goodIn_of _ (by decide +kernel)) ggX0_bestTicket_X0_luckWith
theorem dX0_bestTicket_0 : decode cX0_bestTicket 0 = .ok (.aload_n 0, 1) := by decide +kernel
theorem dX0_bestTicket_1 : decode cX0_bestTicket 1 = .ok (.iload_n 1, 1) := by decide +kernel
theorem dX0_bestTicket_2 : decode cX0_bestTicket 2 = .ok (.invokevirtual 63, 3) := by decide +kernel
theorem dX0_bestTicket_5 : decode cX0_bestTicket 5 = .ok (.iconst 0, 1) := by decide +kernel
theorem dX0_bestTicket_6 : decode cX0_bestTicket 6 = .ok (.istore_n 2, 1) := by decide +kernel
theorem dX0_bestTicket_7 : decode cX0_bestTicket 7 = .ok (.iconst (-1), 1) := by decide +kernel
theorem dX0_bestTicket_8 : decode cX0_bestTicket 8 = .ok (.istore_n 3, 1) := by decide +kernel
theorem dX0_bestTicket_9 : decode cX0_bestTicket 9 = .ok (.iconst 0, 1) := by decide +kernel
theorem dX0_bestTicket_10 : decode cX0_bestTicket 10 = .ok (.istore 4, 2) := by decide +kernel
theorem dX0_bestTicket_12 : decode cX0_bestTicket 12 = .ok (.iload 4, 2) := by decide +kernel
theorem dX0_bestTicket_14 : decode cX0_bestTicket 14 = .ok (.bipush 100, 2) := by decide +kernel
theorem dX0_bestTicket_16 : decode cX0_bestTicket 16 = .ok (.if_icmp .ge 36, 3) := by decide +kernel
theorem dX0_bestTicket_19 : decode cX0_bestTicket 19 = .ok (.aload_n 0, 1) := by decide +kernel
theorem dX0_bestTicket_20 : decode cX0_bestTicket 20 = .ok (.iload_n 1, 1) := by decide +kernel
theorem dX0_bestTicket_21 : decode cX0_bestTicket 21 = .ok (.iload 4, 2) := by decide +kernel
theorem dX0_bestTicket_23 : decode cX0_bestTicket 23 = .ok (.aload_n 0, 1) := by decide +kernel
theorem dX0_bestTicket_24 : decode cX0_bestTicket 24 = .ok (.getfield 16, 3) := by decide +kernel
theorem dX0_bestTicket_27 : decode cX0_bestTicket 27 = .ok (.iload_n 1, 1) := by decide +kernel
theorem dX0_bestTicket_28 : decode cX0_bestTicket 28 = .ok (.iaload, 1) := by decide +kernel
theorem dX0_bestTicket_29 : decode cX0_bestTicket 29 = .ok (.invokevirtual 122, 3) := by decide +kernel
theorem dX0_bestTicket_32 : decode cX0_bestTicket 32 = .ok (.istore 5, 2) := by decide +kernel
theorem dX0_bestTicket_34 : decode cX0_bestTicket 34 = .ok (.iload 5, 2) := by decide +kernel
theorem dX0_bestTicket_36 : decode cX0_bestTicket 36 = .ok (.iload_n 3, 1) := by decide +kernel
theorem dX0_bestTicket_37 : decode cX0_bestTicket 37 = .ok (.if_icmp .le 9, 3) := by decide +kernel
theorem dX0_bestTicket_40 : decode cX0_bestTicket 40 = .ok (.iload 5, 2) := by decide +kernel
theorem dX0_bestTicket_42 : decode cX0_bestTicket 42 = .ok (.istore_n 3, 1) := by decide +kernel
theorem dX0_bestTicket_43 : decode cX0_bestTicket 43 = .ok (.iload 4, 2) := by decide +kernel
theorem dX0_bestTicket_45 : decode cX0_bestTicket 45 = .ok (.istore_n 2, 1) := by decide +kernel
theorem dX0_bestTicket_46 : decode cX0_bestTicket 46 = .ok (.iinc 4 1, 3) := by decide +kernel
theorem dX0_bestTicket_49 : decode cX0_bestTicket 49 = .ok (.goto (-37), 3) := by decide +kernel
theorem dX0_bestTicket_52 : decode cX0_bestTicket 52 = .ok (.iload_n 2, 1) := by decide +kernel
theorem dX0_bestTicket_53 : decode cX0_bestTicket 53 = .ok (.ireturn, 1) := by decide +kernel
set_option maxRecDepth 20000 in
theorem ggX0_meanLuck_X0_luckNow : GoodIn wsX0_meanLuck wsX0_luckNow := goodIn_r _ [6, 7, 8, 9, 10, 11, 5, 12, 1, 13, 14, 15, 16, 17, 18, 19, 20, 21, 22, 23, 24, 25, 26, 27, 28, 29, 30, 31, 32, 33, 34, 35, 36, 37, 38] (by decide +kernel) (by decide +kernel)
set_option maxRecDepth 20000 in
theorem gX0_meanLuck_X0_luckNow : GoodIn wsX0_meanLuck (wsV RX0 114 RX0 yX0_luckNow wsX0_luckNow) := goodIn_app (goodIn_of _ (by decide +kernel)) ggX0_meanLuck_X0_luckNow
theorem dX0_meanLuck_0 : decode cX0_meanLuck 0 = .ok (.aload_n 0, 1) := by decide +kernel
theorem dX0_meanLuck_1 : decode cX0_meanLuck 1 = .ok (.getfield 22, 3) := by decide +kernel
theorem dX0_meanLuck_4 : decode cX0_meanLuck 4 = .ok (.ifCond .ne 5, 3) := by decide +kernel
theorem dX0_meanLuck_7 : decode cX0_meanLuck 7 = .ok (.dconst 0, 1) := by decide +kernel
theorem dX0_meanLuck_8 : decode cX0_meanLuck 8 = .ok (.dreturn, 1) := by decide +kernel
theorem dX0_meanLuck_9 : decode cX0_meanLuck 9 = .ok (.iconst 0, 1) := by decide +kernel
theorem dX0_meanLuck_10 : decode cX0_meanLuck 10 = .ok (.istore_n 1, 1) := by decide +kernel
theorem dX0_meanLuck_11 : decode cX0_meanLuck 11 = .ok (.iconst 0, 1) := by decide +kernel
theorem dX0_meanLuck_12 : decode cX0_meanLuck 12 = .ok (.istore_n 2, 1) := by decide +kernel
theorem dX0_meanLuck_13 : decode cX0_meanLuck 13 = .ok (.iload_n 2, 1) := by decide +kernel
theorem dX0_meanLuck_14 : decode cX0_meanLuck 14 = .ok (.aload_n 0, 1) := by decide +kernel
theorem dX0_meanLuck_15 : decode cX0_meanLuck 15 = .ok (.getfield 22, 3) := by decide +kernel
theorem dX0_meanLuck_18 : decode cX0_meanLuck 18 = .ok (.if_icmp .ge 17, 3) := by decide +kernel
theorem dX0_meanLuck_21 : decode cX0_meanLuck 21 = .ok (.iload_n 1, 1) := by decide +kernel
theorem dX0_meanLuck_22 : decode cX0_meanLuck 22 = .ok (.aload_n 0, 1) := by decide +kernel
theorem dX0_meanLuck_23 : decode cX0_meanLuck 23 = .ok (.iload_n 2, 1) := by decide +kernel
theorem dX0_meanLuck_24 : decode cX0_meanLuck 24 = .ok (.invokevirtual 114, 3) := by decide +kernel
theorem dX0_meanLuck_27 : decode cX0_meanLuck 27 = .ok (.iadd, 1) := by decide +kernel
theorem dX0_meanLuck_28 : decode cX0_meanLuck 28 = .ok (.istore_n 1, 1) := by decide +kernel
theorem dX0_meanLuck_29 : decode cX0_meanLuck 29 = .ok (.iinc 2 1, 3) := by decide +kernel
theorem dX0_meanLuck_32 : decode cX0_meanLuck 32 = .ok (.goto (-19), 3) := by decide +kernel
theorem dX0_meanLuck_35 : decode cX0_meanLuck 35 = .ok (.iload_n 1, 1) := by decide +kernel
theorem dX0_meanLuck_36 : decode cX0_meanLuck 36 = .ok (.i2d, 1) := by decide +kernel
theorem dX0_meanLuck_37 : decode cX0_meanLuck 37 = .ok (.aload_n 0, 1) := by decide +kernel
theorem dX0_meanLuck_38 : decode cX0_meanLuck 38 = .ok (.getfield 22, 3) := by decide +kernel
theorem dX0_meanLuck_41 : decode cX0_meanLuck 41 = .ok (.i2d, 1) := by decide +kernel
theorem dX0_meanLuck_42 : decode cX0_meanLuck 42 = .ok (.ddiv, 1) := by decide +kernel
theorem dX0_meanLuck_43 : decode cX0_meanLuck 43 = .ok (.dreturn, 1) := by decide +kernel
set_option maxRecDepth 20000 in
theorem ggX0_digest_X0_mixed : GoodIn wsX0_digest wsX0_mixed := goodIn_r _ [14, 15] (by decide +kernel) (by decide +kernel)
set_option maxRecDepth 20000 in
theorem gX0_digest_X0_mixed : GoodIn wsX0_digest (va_wsS RX0 131 yX0_mixed wsX0_mixed) := goodIn_app (goodIn_of _ (by decide +kernel)) ggX0_digest_X0_mixed
set_option maxRecDepth 20000 in
theorem ggX0_digest_X0_coincidences : GoodIn wsX0_digest wsX0_coincidences := goodIn_r _ [19, 20, 21, 22, 13, 23, 2, 24, 25, 26, 27, 9, 10, 28, 29, 30, 31, 7, 8, 32, 33, 34, 35, 36, 37, 38, 39, 40, 41, 42, 43, 44, 45, 46, 47, 103, 104, 105, 106, 107, 108, 109, 110, 111] (by decide +kernel) (by decide +kernel)
set_option maxRecDepth 20000 in
theorem gX0_digest_X0_coincidences : GoodIn wsX0_digest (wsV RX0 135 RX0 yX0_coincidences wsX0_coincidences) := goodIn_app (goodIn_of _ (by decide +kernel)) ggX0_digest_X0_coincidences
set_option maxRecDepth 20000 in
theorem ggX0_digest_X0_luckiestPair : GoodIn wsX0_digest wsX0_luckiestPair := goodIn_r _ [51, 2, 28, 29, 30, 13, 31, 7, 8, 32, 33, 34, 35, 36, 37, 38, 39, 40, 41, 42, 43, 44, 45, 46, 47, 103, 104, 105, 106, 107, 108, 109, 110, 111] (by decide +kernel) (by decide +kernel)
set_option maxRecDepth 20000 in
theorem gX0_digest_X0_luckiestPair : GoodIn wsX0_digest (wsV RX0 139 RX0 yX0_luckiestPair wsX0_luckiestPair) := goodIn_app (goodIn_of _ (by decide +kernel)) ggX0_digest_X0_luckiestPair
set_option maxRecDepth 20000 in
theorem ggX0_digest_X0_bestHour : GoodIn wsX0_digest wsX0_bestHour := goodIn_r _ [55, 20, 21, 22, 13, 23, 2, 24, 25, 26, 27, 9, 10, 28, 29, 30, 31, 7, 8, 32, 33, 34, 35, 36, 37, 38, 39, 40, 41, 42, 43, 44, 45, 46, 47, 103, 104, 105, 106, 107, 108, 109, 110, 111] (by decide +kernel) (by decide +kernel)
set_option maxRecDepth 20000 in
theorem gX0_digest_X0_bestHour : GoodIn wsX0_digest (wsV RX0 142 RX0 yX0_bestHour wsX0_bestHour) := goodIn_app (goodIn_of _ (by decide +kernel)) ggX0_digest_X0_bestHour
set_option maxRecDepth 20000 in
theorem ggX0_digest_X0_bestSwap : GoodIn wsX0_digest wsX0_bestSwap := goodIn_r _ [59, 2, 20, 21, 22, 13, 23, 24, 25, 26, 27, 9, 10, 28, 29, 30, 31, 7, 8, 32, 33, 34, 35, 36, 37, 38, 39, 40, 41, 42, 43, 44, 45, 46, 47, 60, 61, 62, 63, 64, 65, 66, 103, 104, 105, 106, 107, 108, 109, 110, 111] (by decide +kernel) (by decide +kernel)
set_option maxRecDepth 20000 in
theorem gX0_digest_X0_bestSwap : GoodIn wsX0_digest (wsV RX0 145 RX0 yX0_bestSwap wsX0_bestSwap) := goodIn_app (goodIn_of _ (by decide +kernel)) ggX0_digest_X0_bestSwap
set_option maxRecDepth 20000 in
theorem ggX0_digest_X0_peopleAt : GoodIn wsX0_digest wsX0_peopleAt := goodIn_ca (goodIn_r _ [70, 71, 72, 13, 73, 74, 75, 76, 77, 78, 79, 80, 81, 82, 2, 9, 103, 104, 105, 106, 107, 108, 109, 110, 111] (by decide +kernel) (by decide +kernel)) (goodIn_sub (fun _ h => List.mem_cons_of_mem _ (List.mem_append_right _ h)) (by decide +kernel))
set_option maxRecDepth 20000 in
theorem gX0_digest_X0_peopleAt : GoodIn wsX0_digest (wsV RX0 148 RX0 yX0_peopleAt wsX0_peopleAt) := goodIn_app (goodIn_of _ (by decide +kernel)) ggX0_digest_X0_peopleAt
set_option maxRecDepth 20000 in
theorem ggX0_digest_X0_coincidencesAt : GoodIn wsX0_digest wsX0_coincidencesAt := goodIn_ca (goodIn_r _ [86, 2, 9, 71, 72, 13, 73, 74, 75, 76, 77, 78, 28, 29, 30, 31, 7, 8, 32, 33, 34, 35, 36, 37, 38, 39, 40, 41, 42, 43, 44, 45, 46, 47, 103, 104, 105, 106, 107, 108, 109, 110, 111] (by decide +kernel) (by decide +kernel)) (goodIn_sub (fun _ h => List.mem_cons_of_mem _ (List.mem_append_right _ h)) (by decide +kernel))
set_option maxRecDepth 20000 in
theorem gX0_digest_X0_coincidencesAt : GoodIn wsX0_digest (wsV RX0 151 RX0 yX0_coincidencesAt wsX0_coincidencesAt) := goodIn_app (goodIn_of _ (by decide +kernel)) ggX0_digest_X0_coincidencesAt
set_option maxRecDepth 20000 in
theorem ggX0_digest_X0_luckNow : GoodIn wsX0_digest wsX0_luckNow := goodIn_r _ [90, 7, 9, 91, 92, 93, 13, 94, 2, 8, 32, 33, 34, 35, 36, 37, 38, 39, 40, 41, 42, 43, 44, 45, 46, 47, 103, 104, 105, 106, 107, 108, 109, 110, 111] (by decide +kernel) (by decide +kernel)
set_option maxRecDepth 20000 in
theorem gX0_digest_X0_luckNow : GoodIn wsX0_digest (wsV RX0 114 RX0 yX0_luckNow wsX0_luckNow) := goodIn_app (goodIn_of _ (by decide +kernel)) ggX0_digest_X0_luckNow
set_option maxRecDepth 20000 in
theorem ggX0_digest_X0_bestCorner : GoodIn wsX0_digest wsX0_bestCorner := goodIn_ca (goodIn_r _ [98, 7, 99, 100, 101, 13, 102, 74, 75, 2, 91, 92, 93, 94, 9, 8, 32, 33, 34, 35, 36, 37, 38, 39, 40, 41, 42, 43, 44, 45, 46, 47, 103, 104, 105, 106, 107, 108, 109, 110, 111] (by decide +kernel) (by decide +kernel)) (goodIn_sub (fun _ h => List.mem_cons_of_mem _ (List.mem_append_right _ h)) (by decide +kernel))
set_option maxRecDepth 20000 in
theorem gX0_digest_X0_bestCorner : GoodIn wsX0_digest (wsV RX0 154 RX0 yX0_bestCorner wsX0_bestCorner) := goodIn_app (goodIn_of _ (by decide +kernel)) ggX0_digest_X0_bestCorner
theorem dX0_digest_0 : decode cX0_digest 0 = .ok (.ldc2_w 129, 3) := by decide +kernel
theorem dX0_digest_3 : decode cX0_digest 3 = .ok (.lstore_n 1, 1) := by decide +kernel
theorem dX0_digest_4 : decode cX0_digest 4 = .ok (.lload_n 1, 1) := by decide +kernel
theorem dX0_digest_5 : decode cX0_digest 5 = .ok (.aload_n 0, 1) := by decide +kernel
theorem dX0_digest_6 : decode cX0_digest 6 = .ok (.getfield 22, 3) := by decide +kernel
theorem dX0_digest_9 : decode cX0_digest 9 = .ok (.i2l, 1) := by decide +kernel
theorem dX0_digest_10 : decode cX0_digest 10 = .ok (.invokestatic 131, 3) := by decide +kernel
theorem dX0_digest_13 : decode cX0_digest 13 = .ok (.lstore_n 1, 1) := by decide +kernel
theorem dX0_digest_14 : decode cX0_digest 14 = .ok (.lload_n 1, 1) := by decide +kernel
theorem dX0_digest_15 : decode cX0_digest 15 = .ok (.aload_n 0, 1) := by decide +kernel
theorem dX0_digest_16 : decode cX0_digest 16 = .ok (.getfield 26, 3) := by decide +kernel
theorem dX0_digest_19 : decode cX0_digest 19 = .ok (.i2l, 1) := by decide +kernel
theorem dX0_digest_20 : decode cX0_digest 20 = .ok (.invokestatic 131, 3) := by decide +kernel
theorem dX0_digest_23 : decode cX0_digest 23 = .ok (.lstore_n 1, 1) := by decide +kernel
theorem dX0_digest_24 : decode cX0_digest 24 = .ok (.lload_n 1, 1) := by decide +kernel
theorem dX0_digest_25 : decode cX0_digest 25 = .ok (.aload_n 0, 1) := by decide +kernel
theorem dX0_digest_26 : decode cX0_digest 26 = .ok (.getfield 29, 3) := by decide +kernel
theorem dX0_digest_29 : decode cX0_digest 29 = .ok (.i2l, 1) := by decide +kernel
theorem dX0_digest_30 : decode cX0_digest 30 = .ok (.invokestatic 131, 3) := by decide +kernel
theorem dX0_digest_33 : decode cX0_digest 33 = .ok (.lstore_n 1, 1) := by decide +kernel
theorem dX0_digest_34 : decode cX0_digest 34 = .ok (.lload_n 1, 1) := by decide +kernel
theorem dX0_digest_35 : decode cX0_digest 35 = .ok (.aload_n 0, 1) := by decide +kernel
theorem dX0_digest_36 : decode cX0_digest 36 = .ok (.getfield 32, 3) := by decide +kernel
theorem dX0_digest_39 : decode cX0_digest 39 = .ok (.i2l, 1) := by decide +kernel
theorem dX0_digest_40 : decode cX0_digest 40 = .ok (.invokestatic 131, 3) := by decide +kernel
theorem dX0_digest_43 : decode cX0_digest 43 = .ok (.lstore_n 1, 1) := by decide +kernel
theorem dX0_digest_44 : decode cX0_digest 44 = .ok (.lload_n 1, 1) := by decide +kernel
theorem dX0_digest_45 : decode cX0_digest 45 = .ok (.aload_n 0, 1) := by decide +kernel
theorem dX0_digest_46 : decode cX0_digest 46 = .ok (.getfield 35, 3) := by decide +kernel
theorem dX0_digest_49 : decode cX0_digest 49 = .ok (.i2l, 1) := by decide +kernel
theorem dX0_digest_50 : decode cX0_digest 50 = .ok (.invokestatic 131, 3) := by decide +kernel
theorem dX0_digest_53 : decode cX0_digest 53 = .ok (.lstore_n 1, 1) := by decide +kernel
theorem dX0_digest_54 : decode cX0_digest 54 = .ok (.lload_n 1, 1) := by decide +kernel
theorem dX0_digest_55 : decode cX0_digest 55 = .ok (.aload_n 0, 1) := by decide +kernel
theorem dX0_digest_56 : decode cX0_digest 56 = .ok (.invokevirtual 135, 3) := by decide +kernel
theorem dX0_digest_59 : decode cX0_digest 59 = .ok (.i2l, 1) := by decide +kernel
theorem dX0_digest_60 : decode cX0_digest 60 = .ok (.invokestatic 131, 3) := by decide +kernel
theorem dX0_digest_63 : decode cX0_digest 63 = .ok (.lstore_n 1, 1) := by decide +kernel
theorem dX0_digest_64 : decode cX0_digest 64 = .ok (.lload_n 1, 1) := by decide +kernel
theorem dX0_digest_65 : decode cX0_digest 65 = .ok (.aload_n 0, 1) := by decide +kernel
theorem dX0_digest_66 : decode cX0_digest 66 = .ok (.invokevirtual 139, 3) := by decide +kernel
theorem dX0_digest_69 : decode cX0_digest 69 = .ok (.i2l, 1) := by decide +kernel
theorem dX0_digest_70 : decode cX0_digest 70 = .ok (.invokestatic 131, 3) := by decide +kernel
theorem dX0_digest_73 : decode cX0_digest 73 = .ok (.lstore_n 1, 1) := by decide +kernel
theorem dX0_digest_74 : decode cX0_digest 74 = .ok (.lload_n 1, 1) := by decide +kernel
theorem dX0_digest_75 : decode cX0_digest 75 = .ok (.aload_n 0, 1) := by decide +kernel
theorem dX0_digest_76 : decode cX0_digest 76 = .ok (.invokevirtual 142, 3) := by decide +kernel
theorem dX0_digest_79 : decode cX0_digest 79 = .ok (.i2l, 1) := by decide +kernel
theorem dX0_digest_80 : decode cX0_digest 80 = .ok (.invokestatic 131, 3) := by decide +kernel
theorem dX0_digest_83 : decode cX0_digest 83 = .ok (.lstore_n 1, 1) := by decide +kernel
theorem dX0_digest_84 : decode cX0_digest 84 = .ok (.lload_n 1, 1) := by decide +kernel
theorem dX0_digest_85 : decode cX0_digest 85 = .ok (.aload_n 0, 1) := by decide +kernel
theorem dX0_digest_86 : decode cX0_digest 86 = .ok (.invokevirtual 145, 3) := by decide +kernel
theorem dX0_digest_89 : decode cX0_digest 89 = .ok (.i2l, 1) := by decide +kernel
theorem dX0_digest_90 : decode cX0_digest 90 = .ok (.invokestatic 131, 3) := by decide +kernel
theorem dX0_digest_93 : decode cX0_digest 93 = .ok (.lstore_n 1, 1) := by decide +kernel
theorem dX0_digest_94 : decode cX0_digest 94 = .ok (.iconst 0, 1) := by decide +kernel
theorem dX0_digest_95 : decode cX0_digest 95 = .ok (.istore_n 3, 1) := by decide +kernel
theorem dX0_digest_96 : decode cX0_digest 96 = .ok (.iload_n 3, 1) := by decide +kernel
theorem dX0_digest_97 : decode cX0_digest 97 = .ok (.bipush 6, 2) := by decide +kernel
theorem dX0_digest_99 : decode cX0_digest 99 = .ok (.if_icmp .ge 31, 3) := by decide +kernel
theorem dX0_digest_102 : decode cX0_digest 102 = .ok (.lload_n 1, 1) := by decide +kernel
theorem dX0_digest_103 : decode cX0_digest 103 = .ok (.aload_n 0, 1) := by decide +kernel
theorem dX0_digest_104 : decode cX0_digest 104 = .ok (.iload_n 3, 1) := by decide +kernel
theorem dX0_digest_105 : decode cX0_digest 105 = .ok (.invokevirtual 148, 3) := by decide +kernel
theorem dX0_digest_108 : decode cX0_digest 108 = .ok (.i2l, 1) := by decide +kernel
theorem dX0_digest_109 : decode cX0_digest 109 = .ok (.invokestatic 131, 3) := by decide +kernel
theorem dX0_digest_112 : decode cX0_digest 112 = .ok (.lstore_n 1, 1) := by decide +kernel
theorem dX0_digest_113 : decode cX0_digest 113 = .ok (.lload_n 1, 1) := by decide +kernel
theorem dX0_digest_114 : decode cX0_digest 114 = .ok (.aload_n 0, 1) := by decide +kernel
theorem dX0_digest_115 : decode cX0_digest 115 = .ok (.iload_n 3, 1) := by decide +kernel
theorem dX0_digest_116 : decode cX0_digest 116 = .ok (.invokevirtual 151, 3) := by decide +kernel
theorem dX0_digest_119 : decode cX0_digest 119 = .ok (.i2l, 1) := by decide +kernel
theorem dX0_digest_120 : decode cX0_digest 120 = .ok (.invokestatic 131, 3) := by decide +kernel
theorem dX0_digest_123 : decode cX0_digest 123 = .ok (.lstore_n 1, 1) := by decide +kernel
theorem dX0_digest_124 : decode cX0_digest 124 = .ok (.iinc 3 1, 3) := by decide +kernel
theorem dX0_digest_127 : decode cX0_digest 127 = .ok (.goto (-31), 3) := by decide +kernel
theorem dX0_digest_130 : decode cX0_digest 130 = .ok (.iconst 0, 1) := by decide +kernel
theorem dX0_digest_131 : decode cX0_digest 131 = .ok (.istore_n 3, 1) := by decide +kernel
theorem dX0_digest_132 : decode cX0_digest 132 = .ok (.iload_n 3, 1) := by decide +kernel
theorem dX0_digest_133 : decode cX0_digest 133 = .ok (.aload_n 0, 1) := by decide +kernel
theorem dX0_digest_134 : decode cX0_digest 134 = .ok (.getfield 22, 3) := by decide +kernel
theorem dX0_digest_137 : decode cX0_digest 137 = .ok (.if_icmp .ge 79, 3) := by decide +kernel
theorem dX0_digest_140 : decode cX0_digest 140 = .ok (.lload_n 1, 1) := by decide +kernel
theorem dX0_digest_141 : decode cX0_digest 141 = .ok (.aload_n 0, 1) := by decide +kernel
theorem dX0_digest_142 : decode cX0_digest 142 = .ok (.getfield 9, 3) := by decide +kernel
theorem dX0_digest_145 : decode cX0_digest 145 = .ok (.iload_n 3, 1) := by decide +kernel
theorem dX0_digest_146 : decode cX0_digest 146 = .ok (.iaload, 1) := by decide +kernel
theorem dX0_digest_147 : decode cX0_digest 147 = .ok (.i2l, 1) := by decide +kernel
theorem dX0_digest_148 : decode cX0_digest 148 = .ok (.invokestatic 131, 3) := by decide +kernel
theorem dX0_digest_151 : decode cX0_digest 151 = .ok (.lstore_n 1, 1) := by decide +kernel
theorem dX0_digest_152 : decode cX0_digest 152 = .ok (.lload_n 1, 1) := by decide +kernel
theorem dX0_digest_153 : decode cX0_digest 153 = .ok (.aload_n 0, 1) := by decide +kernel
theorem dX0_digest_154 : decode cX0_digest 154 = .ok (.getfield 13, 3) := by decide +kernel
theorem dX0_digest_157 : decode cX0_digest 157 = .ok (.iload_n 3, 1) := by decide +kernel
theorem dX0_digest_158 : decode cX0_digest 158 = .ok (.iaload, 1) := by decide +kernel
theorem dX0_digest_159 : decode cX0_digest 159 = .ok (.i2l, 1) := by decide +kernel
theorem dX0_digest_160 : decode cX0_digest 160 = .ok (.invokestatic 131, 3) := by decide +kernel
theorem dX0_digest_163 : decode cX0_digest 163 = .ok (.lstore_n 1, 1) := by decide +kernel
theorem dX0_digest_164 : decode cX0_digest 164 = .ok (.lload_n 1, 1) := by decide +kernel
theorem dX0_digest_165 : decode cX0_digest 165 = .ok (.aload_n 0, 1) := by decide +kernel
theorem dX0_digest_166 : decode cX0_digest 166 = .ok (.getfield 16, 3) := by decide +kernel
theorem dX0_digest_169 : decode cX0_digest 169 = .ok (.iload_n 3, 1) := by decide +kernel
theorem dX0_digest_170 : decode cX0_digest 170 = .ok (.iaload, 1) := by decide +kernel
theorem dX0_digest_171 : decode cX0_digest 171 = .ok (.i2l, 1) := by decide +kernel
theorem dX0_digest_172 : decode cX0_digest 172 = .ok (.invokestatic 131, 3) := by decide +kernel
theorem dX0_digest_175 : decode cX0_digest 175 = .ok (.lstore_n 1, 1) := by decide +kernel
theorem dX0_digest_176 : decode cX0_digest 176 = .ok (.lload_n 1, 1) := by decide +kernel
theorem dX0_digest_177 : decode cX0_digest 177 = .ok (.aload_n 0, 1) := by decide +kernel
theorem dX0_digest_178 : decode cX0_digest 178 = .ok (.getfield 19, 3) := by decide +kernel
theorem dX0_digest_181 : decode cX0_digest 181 = .ok (.iload_n 3, 1) := by decide +kernel
theorem dX0_digest_182 : decode cX0_digest 182 = .ok (.iaload, 1) := by decide +kernel
theorem dX0_digest_183 : decode cX0_digest 183 = .ok (.i2l, 1) := by decide +kernel
theorem dX0_digest_184 : decode cX0_digest 184 = .ok (.invokestatic 131, 3) := by decide +kernel
theorem dX0_digest_187 : decode cX0_digest 187 = .ok (.lstore_n 1, 1) := by decide +kernel
theorem dX0_digest_188 : decode cX0_digest 188 = .ok (.lload_n 1, 1) := by decide +kernel
theorem dX0_digest_189 : decode cX0_digest 189 = .ok (.aload_n 0, 1) := by decide +kernel
theorem dX0_digest_190 : decode cX0_digest 190 = .ok (.iload_n 3, 1) := by decide +kernel
theorem dX0_digest_191 : decode cX0_digest 191 = .ok (.invokevirtual 114, 3) := by decide +kernel
theorem dX0_digest_194 : decode cX0_digest 194 = .ok (.i2l, 1) := by decide +kernel
theorem dX0_digest_195 : decode cX0_digest 195 = .ok (.invokestatic 131, 3) := by decide +kernel
theorem dX0_digest_198 : decode cX0_digest 198 = .ok (.lstore_n 1, 1) := by decide +kernel
theorem dX0_digest_199 : decode cX0_digest 199 = .ok (.lload_n 1, 1) := by decide +kernel
theorem dX0_digest_200 : decode cX0_digest 200 = .ok (.aload_n 0, 1) := by decide +kernel
theorem dX0_digest_201 : decode cX0_digest 201 = .ok (.iload_n 3, 1) := by decide +kernel
theorem dX0_digest_202 : decode cX0_digest 202 = .ok (.invokevirtual 154, 3) := by decide +kernel
theorem dX0_digest_205 : decode cX0_digest 205 = .ok (.i2l, 1) := by decide +kernel
theorem dX0_digest_206 : decode cX0_digest 206 = .ok (.invokestatic 131, 3) := by decide +kernel
theorem dX0_digest_209 : decode cX0_digest 209 = .ok (.lstore_n 1, 1) := by decide +kernel
theorem dX0_digest_210 : decode cX0_digest 210 = .ok (.iinc 3 1, 3) := by decide +kernel
theorem dX0_digest_213 : decode cX0_digest 213 = .ok (.goto (-81), 3) := by decide +kernel
theorem dX0_digest_216 : decode cX0_digest 216 = .ok (.lload_n 1, 1) := by decide +kernel
theorem dX0_digest_217 : decode cX0_digest 217 = .ok (.lreturn, 1) := by decide +kernel
theorem dX0_isTicket_0 : decode cX0_isTicket 0 = .ok (.iload_n 0, 1) := by decide +kernel
theorem dX0_isTicket_1 : decode cX0_isTicket 1 = .ok (.ifCond .lt 13, 3) := by decide +kernel
theorem dX0_isTicket_4 : decode cX0_isTicket 4 = .ok (.iload_n 0, 1) := by decide +kernel
theorem dX0_isTicket_5 : decode cX0_isTicket 5 = .ok (.bipush 100, 2) := by decide +kernel
theorem dX0_isTicket_7 : decode cX0_isTicket 7 = .ok (.if_icmp .ge 7, 3) := by decide +kernel
theorem dX0_isTicket_10 : decode cX0_isTicket 10 = .ok (.iconst 1, 1) := by decide +kernel
theorem dX0_isTicket_11 : decode cX0_isTicket 11 = .ok (.goto 4, 3) := by decide +kernel
theorem dX0_isTicket_14 : decode cX0_isTicket 14 = .ok (.iconst 0, 1) := by decide +kernel
theorem dX0_isTicket_15 : decode cX0_isTicket 15 = .ok (.ireturn, 1) := by decide +kernel
theorem dX0_isColour_0 : decode cX0_isColour 0 = .ok (.iload_n 0, 1) := by decide +kernel
theorem dX0_isColour_1 : decode cX0_isColour 1 = .ok (.ifCond .lt 12, 3) := by decide +kernel
theorem dX0_isColour_4 : decode cX0_isColour 4 = .ok (.iload_n 0, 1) := by decide +kernel
theorem dX0_isColour_5 : decode cX0_isColour 5 = .ok (.iconst 5, 1) := by decide +kernel
theorem dX0_isColour_6 : decode cX0_isColour 6 = .ok (.if_icmp .ge 7, 3) := by decide +kernel
theorem dX0_isColour_9 : decode cX0_isColour 9 = .ok (.iconst 1, 1) := by decide +kernel
theorem dX0_isColour_10 : decode cX0_isColour 10 = .ok (.goto 4, 3) := by decide +kernel
theorem dX0_isColour_13 : decode cX0_isColour 13 = .ok (.iconst 0, 1) := by decide +kernel
theorem dX0_isColour_14 : decode cX0_isColour 14 = .ok (.ireturn, 1) := by decide +kernel
theorem dX0_isCorner_0 : decode cX0_isCorner 0 = .ok (.iload_n 0, 1) := by decide +kernel
theorem dX0_isCorner_1 : decode cX0_isCorner 1 = .ok (.ifCond .lt 13, 3) := by decide +kernel
theorem dX0_isCorner_4 : decode cX0_isCorner 4 = .ok (.iload_n 0, 1) := by decide +kernel
theorem dX0_isCorner_5 : decode cX0_isCorner 5 = .ok (.bipush 6, 2) := by decide +kernel
theorem dX0_isCorner_7 : decode cX0_isCorner 7 = .ok (.if_icmp .ge 7, 3) := by decide +kernel
theorem dX0_isCorner_10 : decode cX0_isCorner 10 = .ok (.iconst 1, 1) := by decide +kernel
theorem dX0_isCorner_11 : decode cX0_isCorner 11 = .ok (.goto 4, 3) := by decide +kernel
theorem dX0_isCorner_14 : decode cX0_isCorner 14 = .ok (.iconst 0, 1) := by decide +kernel
theorem dX0_isCorner_15 : decode cX0_isCorner 15 = .ok (.ireturn, 1) := by decide +kernel
theorem dX0_isWalk_0 : decode cX0_isWalk 0 = .ok (.iload_n 0, 1) := by decide +kernel
theorem dX0_isWalk_1 : decode cX0_isWalk 1 = .ok (.ifCond .lt 12, 3) := by decide +kernel
theorem dX0_isWalk_4 : decode cX0_isWalk 4 = .ok (.iload_n 0, 1) := by decide +kernel
theorem dX0_isWalk_5 : decode cX0_isWalk 5 = .ok (.iconst 5, 1) := by decide +kernel
theorem dX0_isWalk_6 : decode cX0_isWalk 6 = .ok (.if_icmp .gt 7, 3) := by decide +kernel
theorem dX0_isWalk_9 : decode cX0_isWalk 9 = .ok (.iconst 1, 1) := by decide +kernel
theorem dX0_isWalk_10 : decode cX0_isWalk 10 = .ok (.goto 4, 3) := by decide +kernel
theorem dX0_isWalk_13 : decode cX0_isWalk 13 = .ok (.iconst 0, 1) := by decide +kernel
theorem dX0_isWalk_14 : decode cX0_isWalk 14 = .ok (.ireturn, 1) := by decide +kernel
theorem dX0_requireStranger_0 : decode cX0_requireStranger 0 = .ok (.iload_n 1, 1) := by decide +kernel
theorem dX0_requireStranger_1 : decode cX0_requireStranger 1 = .ok (.ifCond .lt 11, 3) := by decide +kernel
theorem dX0_requireStranger_4 : decode cX0_requireStranger 4 = .ok (.iload_n 1, 1) := by decide +kernel
theorem dX0_requireStranger_5 : decode cX0_requireStranger 5 = .ok (.aload_n 0, 1) := by decide +kernel
theorem dX0_requireStranger_6 : decode cX0_requireStranger 6 = .ok (.getfield 22, 3) := by decide +kernel
theorem dX0_requireStranger_9 : decode cX0_requireStranger 9 = .ok (.if_icmp .lt 13, 3) := by decide +kernel
theorem dX0_requireStranger_12 : decode cX0_requireStranger 12 = .ok (.new 157, 3) := by decide +kernel
theorem dX0_requireStranger_15 : decode cX0_requireStranger 15 = .ok (.dup, 1) := by decide +kernel
theorem dX0_requireStranger_16 : decode cX0_requireStranger 16 = .ok (.ldc 159, 2) := by decide +kernel
theorem dX0_requireStranger_18 : decode cX0_requireStranger 18 = .ok (.invokespecial 161, 3) := by decide +kernel
theorem dX0_requireStranger_21 : decode cX0_requireStranger 21 = .ok (.athrow, 1) := by decide +kernel
theorem dX0_requireStranger_22 : decode cX0_requireStranger 22 = .ok (.return_, 1) := by decide +kernel
set_option maxRecDepth 20000 in
theorem ggX0_requirePair_X0_requireStranger : GoodIn wsX0_requirePair wsX0_requireStranger := goodIn_ca (goodIn_r _ [7, 8, 9, 10, 11, 12, 13, 14, 15, 16, 17, 18, 19] (by decide +kernel) (by decide +kernel)) (goodIn_sub (fun _ h => List.mem_cons_of_mem _ (List.mem_append_right _ h)) (by decide +kernel))
set_option maxRecDepth 20000 in
theorem gX0_requirePair_X0_requireStranger : GoodIn wsX0_requirePair (wsV RX0 63 RX0 yX0_requireStranger wsX0_requireStranger) := goodIn_app (goodIn_of _ (by decide +kernel)) ggX0_requirePair_X0_requireStranger
theorem dX0_requirePair_0 : decode cX0_requirePair 0 = .ok (.aload_n 0, 1) := by decide +kernel
theorem dX0_requirePair_1 : decode cX0_requirePair 1 = .ok (.iload_n 1, 1) := by decide +kernel
theorem dX0_requirePair_2 : decode cX0_requirePair 2 = .ok (.invokevirtual 63, 3) := by decide +kernel
theorem dX0_requirePair_5 : decode cX0_requirePair 5 = .ok (.aload_n 0, 1) := by decide +kernel
theorem dX0_requirePair_6 : decode cX0_requirePair 6 = .ok (.iload_n 2, 1) := by decide +kernel
theorem dX0_requirePair_7 : decode cX0_requirePair 7 = .ok (.invokevirtual 63, 3) := by decide +kernel
theorem dX0_requirePair_10 : decode cX0_requirePair 10 = .ok (.iload_n 1, 1) := by decide +kernel
theorem dX0_requirePair_11 : decode cX0_requirePair 11 = .ok (.iload_n 2, 1) := by decide +kernel
theorem dX0_requirePair_12 : decode cX0_requirePair 12 = .ok (.if_icmp .ne 13, 3) := by decide +kernel
theorem dX0_requirePair_15 : decode cX0_requirePair 15 = .ok (.new 51, 3) := by decide +kernel
theorem dX0_requirePair_18 : decode cX0_requirePair 18 = .ok (.dup, 1) := by decide +kernel
theorem dX0_requirePair_19 : decode cX0_requirePair 19 = .ok (.ldc 162, 2) := by decide +kernel
theorem dX0_requirePair_21 : decode cX0_requirePair 21 = .ok (.invokespecial 55, 3) := by decide +kernel
theorem dX0_requirePair_24 : decode cX0_requirePair 24 = .ok (.athrow, 1) := by decide +kernel
theorem dX0_requirePair_25 : decode cX0_requirePair 25 = .ok (.return_, 1) := by decide +kernel
set_option maxRecDepth 20000 in
theorem ggX0_requireCorner_X0_isCorner : GoodIn wsX0_requireCorner wsX0_isCorner := goodIn_r _ [6] (by decide +kernel) (by decide +kernel)
set_option maxRecDepth 20000 in
theorem gX0_requireCorner_X0_isCorner : GoodIn wsX0_requireCorner (va_wsS RX0 45 yX0_isCorner wsX0_isCorner) := goodIn_app (goodIn_of _ (by decide +kernel)) ggX0_requireCorner_X0_isCorner
theorem dX0_requireCorner_0 : decode cX0_requireCorner 0 = .ok (.iload_n 0, 1) := by decide +kernel
theorem dX0_requireCorner_1 : decode cX0_requireCorner 1 = .ok (.invokestatic 45, 3) := by decide +kernel
theorem dX0_requireCorner_4 : decode cX0_requireCorner 4 = .ok (.ifCond .ne 13, 3) := by decide +kernel
theorem dX0_requireCorner_7 : decode cX0_requireCorner 7 = .ok (.new 157, 3) := by decide +kernel
theorem dX0_requireCorner_10 : decode cX0_requireCorner 10 = .ok (.dup, 1) := by decide +kernel
theorem dX0_requireCorner_11 : decode cX0_requireCorner 11 = .ok (.ldc 69, 2) := by decide +kernel
theorem dX0_requireCorner_13 : decode cX0_requireCorner 13 = .ok (.invokespecial 161, 3) := by decide +kernel
theorem dX0_requireCorner_16 : decode cX0_requireCorner 16 = .ok (.athrow, 1) := by decide +kernel
theorem dX0_requireCorner_17 : decode cX0_requireCorner 17 = .ok (.return_, 1) := by decide +kernel
theorem dX0_pay_0 : decode cX0_pay 0 = .ok (.iload_n 1, 1) := by decide +kernel
theorem dX0_pay_1 : decode cX0_pay 1 = .ok (.aload_n 0, 1) := by decide +kernel
theorem dX0_pay_2 : decode cX0_pay 2 = .ok (.getfield 29, 3) := by decide +kernel
theorem dX0_pay_5 : decode cX0_pay 5 = .ok (.if_icmp .le 13, 3) := by decide +kernel
theorem dX0_pay_8 : decode cX0_pay 8 = .ok (.new 58, 3) := by decide +kernel
theorem dX0_pay_11 : decode cX0_pay 11 = .ok (.dup, 1) := by decide +kernel
theorem dX0_pay_12 : decode cX0_pay 12 = .ok (.ldc 164, 2) := by decide +kernel
theorem dX0_pay_14 : decode cX0_pay 14 = .ok (.invokespecial 62, 3) := by decide +kernel
theorem dX0_pay_17 : decode cX0_pay 17 = .ok (.athrow, 1) := by decide +kernel
theorem dX0_pay_18 : decode cX0_pay 18 = .ok (.aload_n 0, 1) := by decide +kernel
theorem dX0_pay_19 : decode cX0_pay 19 = .ok (.dup, 1) := by decide +kernel
theorem dX0_pay_20 : decode cX0_pay 20 = .ok (.getfield 29, 3) := by decide +kernel
theorem dX0_pay_23 : decode cX0_pay 23 = .ok (.iload_n 1, 1) := by decide +kernel
theorem dX0_pay_24 : decode cX0_pay 24 = .ok (.isub, 1) := by decide +kernel
theorem dX0_pay_25 : decode cX0_pay 25 = .ok (.putfield 29, 3) := by decide +kernel
theorem dX0_pay_28 : decode cX0_pay 28 = .ok (.aload_n 0, 1) := by decide +kernel
theorem dX0_pay_29 : decode cX0_pay 29 = .ok (.dup, 1) := by decide +kernel
theorem dX0_pay_30 : decode cX0_pay 30 = .ok (.getfield 35, 3) := by decide +kernel
theorem dX0_pay_33 : decode cX0_pay 33 = .ok (.iload_n 1, 1) := by decide +kernel
theorem dX0_pay_34 : decode cX0_pay 34 = .ok (.iadd, 1) := by decide +kernel
theorem dX0_pay_35 : decode cX0_pay 35 = .ok (.putfield 35, 3) := by decide +kernel
theorem dX0_pay_38 : decode cX0_pay 38 = .ok (.return_, 1) := by decide +kernel
theorem dX0_costOfWay_0 : decode cX0_costOfWay 0 = .ok (.iload_n 0, 1) := by decide +kernel
theorem dX0_costOfWay_1 : decode cX0_costOfWay 1 = .ok (.iload_n 1, 1) := by decide +kernel
theorem dX0_costOfWay_2 : decode cX0_costOfWay 2 = .ok (.isub, 1) := by decide +kernel
theorem dX0_costOfWay_3 : decode cX0_costOfWay 3 = .ok (.invokestatic 166, 3) := by decide +kernel
theorem dX0_costOfWay_6 : decode cX0_costOfWay 6 = .ok (.istore_n 2, 1) := by decide +kernel
theorem dX0_costOfWay_7 : decode cX0_costOfWay 7 = .ok (.iconst 2, 1) := by decide +kernel
theorem dX0_costOfWay_8 : decode cX0_costOfWay 8 = .ok (.iload_n 2, 1) := by decide +kernel
theorem dX0_costOfWay_9 : decode cX0_costOfWay 9 = .ok (.bipush 6, 2) := by decide +kernel
theorem dX0_costOfWay_11 : decode cX0_costOfWay 11 = .ok (.iload_n 2, 1) := by decide +kernel
theorem dX0_costOfWay_12 : decode cX0_costOfWay 12 = .ok (.isub, 1) := by decide +kernel
theorem dX0_costOfWay_13 : decode cX0_costOfWay 13 = .ok (.invokestatic 171, 3) := by decide +kernel
theorem dX0_costOfWay_16 : decode cX0_costOfWay 16 = .ok (.imul, 1) := by decide +kernel
theorem dX0_costOfWay_17 : decode cX0_costOfWay 17 = .ok (.ireturn, 1) := by decide +kernel
set_option maxRecDepth 20000 in
theorem ggX0_passOneHour_X0_cornerBehind : GoodIn wsX0_passOneHour wsX0_cornerBehind := goodIn_r _ [14, 2, 15, 49, 50, 51, 52, 53, 54, 55, 56, 57] (by decide +kernel) (by decide +kernel)
set_option maxRecDepth 20000 in
theorem gX0_passOneHour_X0_cornerBehind : GoodIn wsX0_passOneHour (wsV RX0 119 RX0 yX0_cornerBehind wsX0_cornerBehind) := goodIn_app (goodIn_of _ (by decide +kernel)) ggX0_passOneHour_X0_cornerBehind
set_option maxRecDepth 20000 in
theorem ggX0_passOneHour_X0_townBehind : GoodIn wsX0_passOneHour wsX0_townBehind := goodIn_r _ [19, 1, 10, 11, 12, 13, 14, 2, 15, 20, 21, 22, 23, 24, 25, 26, 27, 28, 29, 30, 7, 31, 32, 33, 34, 35, 36, 37, 38, 39, 40, 49, 50, 51, 52, 53, 54, 55, 56, 57] (by decide +kernel) (by decide +kernel)
set_option maxRecDepth 20000 in
theorem gX0_passOneHour_X0_townBehind : GoodIn wsX0_passOneHour (wsV RX0 86 RX0 yX0_townBehind wsX0_townBehind) := goodIn_app (goodIn_of _ (by decide +kernel)) ggX0_passOneHour_X0_townBehind
set_option maxRecDepth 20000 in
theorem ggX0_passOneHour_X0_emptyCorners : GoodIn wsX0_passOneHour wsX0_emptyCorners := goodIn_r _ [44, 45, 46, 47, 13, 48, 1, 2, 49, 50, 51, 52, 53, 54, 55, 56, 57] (by decide +kernel) (by decide +kernel)
set_option maxRecDepth 20000 in
theorem gX0_passOneHour_X0_emptyCorners : GoodIn wsX0_passOneHour (wsV RX0 174 RX0 yX0_emptyCorners wsX0_emptyCorners) := goodIn_app (goodIn_of _ (by decide +kernel)) ggX0_passOneHour_X0_emptyCorners
theorem dX0_passOneHour_0 : decode cX0_passOneHour 0 = .ok (.iconst 0, 1) := by decide +kernel
theorem dX0_passOneHour_1 : decode cX0_passOneHour 1 = .ok (.istore_n 1, 1) := by decide +kernel
theorem dX0_passOneHour_2 : decode cX0_passOneHour 2 = .ok (.iload_n 1, 1) := by decide +kernel
theorem dX0_passOneHour_3 : decode cX0_passOneHour 3 = .ok (.aload_n 0, 1) := by decide +kernel
theorem dX0_passOneHour_4 : decode cX0_passOneHour 4 = .ok (.getfield 22, 3) := by decide +kernel
theorem dX0_passOneHour_7 : decode cX0_passOneHour 7 = .ok (.if_icmp .ge 21, 3) := by decide +kernel
theorem dX0_passOneHour_10 : decode cX0_passOneHour 10 = .ok (.aload_n 0, 1) := by decide +kernel
theorem dX0_passOneHour_11 : decode cX0_passOneHour 11 = .ok (.getfield 16, 3) := by decide +kernel
theorem dX0_passOneHour_14 : decode cX0_passOneHour 14 = .ok (.iload_n 1, 1) := by decide +kernel
theorem dX0_passOneHour_15 : decode cX0_passOneHour 15 = .ok (.aload_n 0, 1) := by decide +kernel
theorem dX0_passOneHour_16 : decode cX0_passOneHour 16 = .ok (.iload_n 1, 1) := by decide +kernel
theorem dX0_passOneHour_17 : decode cX0_passOneHour 17 = .ok (.iconst 1, 1) := by decide +kernel
theorem dX0_passOneHour_18 : decode cX0_passOneHour 18 = .ok (.invokevirtual 119, 3) := by decide +kernel
theorem dX0_passOneHour_21 : decode cX0_passOneHour 21 = .ok (.iastore, 1) := by decide +kernel
theorem dX0_passOneHour_22 : decode cX0_passOneHour 22 = .ok (.iinc 1 1, 3) := by decide +kernel
theorem dX0_passOneHour_25 : decode cX0_passOneHour 25 = .ok (.goto (-23), 3) := by decide +kernel
theorem dX0_passOneHour_28 : decode cX0_passOneHour 28 = .ok (.aload_n 0, 1) := by decide +kernel
theorem dX0_passOneHour_29 : decode cX0_passOneHour 29 = .ok (.dup, 1) := by decide +kernel
theorem dX0_passOneHour_30 : decode cX0_passOneHour 30 = .ok (.getfield 32, 3) := by decide +kernel
theorem dX0_passOneHour_33 : decode cX0_passOneHour 33 = .ok (.aload_n 0, 1) := by decide +kernel
theorem dX0_passOneHour_34 : decode cX0_passOneHour 34 = .ok (.iconst 0, 1) := by decide +kernel
theorem dX0_passOneHour_35 : decode cX0_passOneHour 35 = .ok (.invokevirtual 86, 3) := by decide +kernel
theorem dX0_passOneHour_38 : decode cX0_passOneHour 38 = .ok (.iadd, 1) := by decide +kernel
theorem dX0_passOneHour_39 : decode cX0_passOneHour 39 = .ok (.putfield 32, 3) := by decide +kernel
theorem dX0_passOneHour_42 : decode cX0_passOneHour 42 = .ok (.aload_n 0, 1) := by decide +kernel
theorem dX0_passOneHour_43 : decode cX0_passOneHour 43 = .ok (.bipush 100, 2) := by decide +kernel
theorem dX0_passOneHour_45 : decode cX0_passOneHour 45 = .ok (.aload_n 0, 1) := by decide +kernel
theorem dX0_passOneHour_46 : decode cX0_passOneHour 46 = .ok (.getfield 29, 3) := by decide +kernel
theorem dX0_passOneHour_49 : decode cX0_passOneHour 49 = .ok (.aload_n 0, 1) := by decide +kernel
theorem dX0_passOneHour_50 : decode cX0_passOneHour 50 = .ok (.invokevirtual 174, 3) := by decide +kernel
theorem dX0_passOneHour_53 : decode cX0_passOneHour 53 = .ok (.iadd, 1) := by decide +kernel
theorem dX0_passOneHour_54 : decode cX0_passOneHour 54 = .ok (.invokestatic 171, 3) := by decide +kernel
theorem dX0_passOneHour_57 : decode cX0_passOneHour 57 = .ok (.putfield 29, 3) := by decide +kernel
theorem dX0_passOneHour_60 : decode cX0_passOneHour 60 = .ok (.aload_n 0, 1) := by decide +kernel
theorem dX0_passOneHour_61 : decode cX0_passOneHour 61 = .ok (.dup, 1) := by decide +kernel
theorem dX0_passOneHour_62 : decode cX0_passOneHour 62 = .ok (.getfield 26, 3) := by decide +kernel
theorem dX0_passOneHour_65 : decode cX0_passOneHour 65 = .ok (.iconst 1, 1) := by decide +kernel
theorem dX0_passOneHour_66 : decode cX0_passOneHour 66 = .ok (.iadd, 1) := by decide +kernel
theorem dX0_passOneHour_67 : decode cX0_passOneHour 67 = .ok (.putfield 26, 3) := by decide +kernel
theorem dX0_passOneHour_70 : decode cX0_passOneHour 70 = .ok (.return_, 1) := by decide +kernel
set_option maxRecDepth 20000 in
theorem ggX0_emptyCorners_X0_crowdAt : GoodIn wsX0_emptyCorners wsX0_crowdAt := goodIn_r _ [5, 6, 7, 8, 9, 10, 11, 12, 13, 14, 15, 16] (by decide +kernel) (by decide +kernel)
set_option maxRecDepth 20000 in
theorem gX0_emptyCorners_X0_crowdAt : GoodIn wsX0_emptyCorners (wsV RX0 104 RX0 yX0_crowdAt wsX0_crowdAt) := goodIn_app (goodIn_of _ (by decide +kernel)) ggX0_emptyCorners_X0_crowdAt
theorem dX0_emptyCorners_0 : decode cX0_emptyCorners 0 = .ok (.iconst 0, 1) := by decide +kernel
theorem dX0_emptyCorners_1 : decode cX0_emptyCorners 1 = .ok (.istore_n 1, 1) := by decide +kernel
theorem dX0_emptyCorners_2 : decode cX0_emptyCorners 2 = .ok (.iconst 0, 1) := by decide +kernel
theorem dX0_emptyCorners_3 : decode cX0_emptyCorners 3 = .ok (.istore_n 2, 1) := by decide +kernel
theorem dX0_emptyCorners_4 : decode cX0_emptyCorners 4 = .ok (.iload_n 2, 1) := by decide +kernel
theorem dX0_emptyCorners_5 : decode cX0_emptyCorners 5 = .ok (.bipush 6, 2) := by decide +kernel
theorem dX0_emptyCorners_7 : decode cX0_emptyCorners 7 = .ok (.if_icmp .ge 20, 3) := by decide +kernel
theorem dX0_emptyCorners_10 : decode cX0_emptyCorners 10 = .ok (.aload_n 0, 1) := by decide +kernel
theorem dX0_emptyCorners_11 : decode cX0_emptyCorners 11 = .ok (.iload_n 2, 1) := by decide +kernel
theorem dX0_emptyCorners_12 : decode cX0_emptyCorners 12 = .ok (.invokevirtual 104, 3) := by decide +kernel
theorem dX0_emptyCorners_15 : decode cX0_emptyCorners 15 = .ok (.ifCond .ne 6, 3) := by decide +kernel
theorem dX0_emptyCorners_18 : decode cX0_emptyCorners 18 = .ok (.iinc 1 1, 3) := by decide +kernel
theorem dX0_emptyCorners_21 : decode cX0_emptyCorners 21 = .ok (.iinc 2 1, 3) := by decide +kernel
theorem dX0_emptyCorners_24 : decode cX0_emptyCorners 24 = .ok (.goto (-20), 3) := by decide +kernel
theorem dX0_emptyCorners_27 : decode cX0_emptyCorners 27 = .ok (.iload_n 1, 1) := by decide +kernel
theorem dX0_emptyCorners_28 : decode cX0_emptyCorners 28 = .ok (.ireturn, 1) := by decide +kernel
theorem dX0_crowdAt_0 : decode cX0_crowdAt 0 = .ok (.iconst 0, 1) := by decide +kernel
theorem dX0_crowdAt_1 : decode cX0_crowdAt 1 = .ok (.istore_n 2, 1) := by decide +kernel
theorem dX0_crowdAt_2 : decode cX0_crowdAt 2 = .ok (.iconst 0, 1) := by decide +kernel
theorem dX0_crowdAt_3 : decode cX0_crowdAt 3 = .ok (.istore_n 3, 1) := by decide +kernel
theorem dX0_crowdAt_4 : decode cX0_crowdAt 4 = .ok (.iload_n 3, 1) := by decide +kernel
theorem dX0_crowdAt_5 : decode cX0_crowdAt 5 = .ok (.aload_n 0, 1) := by decide +kernel
theorem dX0_crowdAt_6 : decode cX0_crowdAt 6 = .ok (.getfield 22, 3) := by decide +kernel
theorem dX0_crowdAt_9 : decode cX0_crowdAt 9 = .ok (.if_icmp .ge 22, 3) := by decide +kernel
theorem dX0_crowdAt_12 : decode cX0_crowdAt 12 = .ok (.aload_n 0, 1) := by decide +kernel
theorem dX0_crowdAt_13 : decode cX0_crowdAt 13 = .ok (.getfield 16, 3) := by decide +kernel
theorem dX0_crowdAt_16 : decode cX0_crowdAt 16 = .ok (.iload_n 3, 1) := by decide +kernel
theorem dX0_crowdAt_17 : decode cX0_crowdAt 17 = .ok (.iaload, 1) := by decide +kernel
theorem dX0_crowdAt_18 : decode cX0_crowdAt 18 = .ok (.iload_n 1, 1) := by decide +kernel
theorem dX0_crowdAt_19 : decode cX0_crowdAt 19 = .ok (.if_icmp .ne 6, 3) := by decide +kernel
theorem dX0_crowdAt_22 : decode cX0_crowdAt 22 = .ok (.iinc 2 1, 3) := by decide +kernel
theorem dX0_crowdAt_25 : decode cX0_crowdAt 25 = .ok (.iinc 3 1, 3) := by decide +kernel
theorem dX0_crowdAt_28 : decode cX0_crowdAt 28 = .ok (.goto (-24), 3) := by decide +kernel
theorem dX0_crowdAt_31 : decode cX0_crowdAt 31 = .ok (.iload_n 2, 1) := by decide +kernel
theorem dX0_crowdAt_32 : decode cX0_crowdAt 32 = .ok (.ireturn, 1) := by decide +kernel
theorem dX0_exchange_0 : decode cX0_exchange 0 = .ok (.aload_n 0, 1) := by decide +kernel
theorem dX0_exchange_1 : decode cX0_exchange 1 = .ok (.iload_n 1, 1) := by decide +kernel
theorem dX0_exchange_2 : decode cX0_exchange 2 = .ok (.iaload, 1) := by decide +kernel
theorem dX0_exchange_3 : decode cX0_exchange 3 = .ok (.istore_n 3, 1) := by decide +kernel
theorem dX0_exchange_4 : decode cX0_exchange 4 = .ok (.aload_n 0, 1) := by decide +kernel
theorem dX0_exchange_5 : decode cX0_exchange 5 = .ok (.iload_n 1, 1) := by decide +kernel
theorem dX0_exchange_6 : decode cX0_exchange 6 = .ok (.aload_n 0, 1) := by decide +kernel
theorem dX0_exchange_7 : decode cX0_exchange 7 = .ok (.iload_n 2, 1) := by decide +kernel
theorem dX0_exchange_8 : decode cX0_exchange 8 = .ok (.iaload, 1) := by decide +kernel
theorem dX0_exchange_9 : decode cX0_exchange 9 = .ok (.iastore, 1) := by decide +kernel
theorem dX0_exchange_10 : decode cX0_exchange 10 = .ok (.aload_n 0, 1) := by decide +kernel
theorem dX0_exchange_11 : decode cX0_exchange 11 = .ok (.iload_n 2, 1) := by decide +kernel
theorem dX0_exchange_12 : decode cX0_exchange 12 = .ok (.iload_n 3, 1) := by decide +kernel
theorem dX0_exchange_13 : decode cX0_exchange 13 = .ok (.iastore, 1) := by decide +kernel
theorem dX0_exchange_14 : decode cX0_exchange 14 = .ok (.return_, 1) := by decide +kernel
theorem dX0_mirrored_0 : decode cX0_mirrored 0 = .ok (.iload_n 0, 1) := by decide +kernel
theorem dX0_mirrored_1 : decode cX0_mirrored 1 = .ok (.bipush 10, 2) := by decide +kernel
theorem dX0_mirrored_3 : decode cX0_mirrored 3 = .ok (.idiv, 1) := by decide +kernel
theorem dX0_mirrored_4 : decode cX0_mirrored 4 = .ok (.iload_n 1, 1) := by decide +kernel
theorem dX0_mirrored_5 : decode cX0_mirrored 5 = .ok (.bipush 10, 2) := by decide +kernel
theorem dX0_mirrored_7 : decode cX0_mirrored 7 = .ok (.irem, 1) := by decide +kernel
theorem dX0_mirrored_8 : decode cX0_mirrored 8 = .ok (.if_icmp .ne 18, 3) := by decide +kernel
theorem dX0_mirrored_11 : decode cX0_mirrored 11 = .ok (.iload_n 0, 1) := by decide +kernel
theorem dX0_mirrored_12 : decode cX0_mirrored 12 = .ok (.bipush 10, 2) := by decide +kernel
theorem dX0_mirrored_14 : decode cX0_mirrored 14 = .ok (.irem, 1) := by decide +kernel
theorem dX0_mirrored_15 : decode cX0_mirrored 15 = .ok (.iload_n 1, 1) := by decide +kernel
theorem dX0_mirrored_16 : decode cX0_mirrored 16 = .ok (.bipush 10, 2) := by decide +kernel
theorem dX0_mirrored_18 : decode cX0_mirrored 18 = .ok (.idiv, 1) := by decide +kernel
theorem dX0_mirrored_19 : decode cX0_mirrored 19 = .ok (.if_icmp .ne 7, 3) := by decide +kernel
theorem dX0_mirrored_22 : decode cX0_mirrored 22 = .ok (.iconst 1, 1) := by decide +kernel
theorem dX0_mirrored_23 : decode cX0_mirrored 23 = .ok (.goto 4, 3) := by decide +kernel
theorem dX0_mirrored_26 : decode cX0_mirrored 26 = .ok (.iconst 0, 1) := by decide +kernel
theorem dX0_mirrored_27 : decode cX0_mirrored 27 = .ok (.ireturn, 1) := by decide +kernel
theorem dX0_figureSum_0 : decode cX0_figureSum 0 = .ok (.iload_n 0, 1) := by decide +kernel
theorem dX0_figureSum_1 : decode cX0_figureSum 1 = .ok (.bipush 10, 2) := by decide +kernel
theorem dX0_figureSum_3 : decode cX0_figureSum 3 = .ok (.idiv, 1) := by decide +kernel
theorem dX0_figureSum_4 : decode cX0_figureSum 4 = .ok (.iload_n 0, 1) := by decide +kernel
theorem dX0_figureSum_5 : decode cX0_figureSum 5 = .ok (.bipush 10, 2) := by decide +kernel
theorem dX0_figureSum_7 : decode cX0_figureSum 7 = .ok (.irem, 1) := by decide +kernel
theorem dX0_figureSum_8 : decode cX0_figureSum 8 = .ok (.iadd, 1) := by decide +kernel
theorem dX0_figureSum_9 : decode cX0_figureSum 9 = .ok (.ireturn, 1) := by decide +kernel
set_option maxRecDepth 20000 in
theorem ggX0_pointsOfTickets_X0_figureSum : GoodIn wsX0_pointsOfTickets wsX0_figureSum := goodIn_r _ [8] (by decide +kernel) (by decide +kernel)
set_option maxRecDepth 20000 in
theorem gX0_pointsOfTickets_X0_figureSum : GoodIn wsX0_pointsOfTickets (va_wsS RX0 177 yX0_figureSum wsX0_figureSum) := goodIn_app (goodIn_of _ (by decide +kernel)) ggX0_pointsOfTickets_X0_figureSum
set_option maxRecDepth 20000 in
theorem ggX0_pointsOfTickets_X0_mirrored : GoodIn wsX0_pointsOfTickets wsX0_mirrored := goodIn_r _ [11] (by decide +kernel) (by decide +kernel)
set_option maxRecDepth 20000 in
theorem gX0_pointsOfTickets_X0_mirrored : GoodIn wsX0_pointsOfTickets (va_wsS RX0 110 yX0_mirrored wsX0_mirrored) := goodIn_app (goodIn_of _ (by decide +kernel)) ggX0_pointsOfTickets_X0_mirrored
theorem dX0_pointsOfTickets_0 : decode cX0_pointsOfTickets 0 = .ok (.iconst 0, 1) := by decide +kernel
theorem dX0_pointsOfTickets_1 : decode cX0_pointsOfTickets 1 = .ok (.istore_n 2, 1) := by decide +kernel
theorem dX0_pointsOfTickets_2 : decode cX0_pointsOfTickets 2 = .ok (.iload_n 0, 1) := by decide +kernel
theorem dX0_pointsOfTickets_3 : decode cX0_pointsOfTickets 3 = .ok (.bipush 10, 2) := by decide +kernel
theorem dX0_pointsOfTickets_5 : decode cX0_pointsOfTickets 5 = .ok (.irem, 1) := by decide +kernel
theorem dX0_pointsOfTickets_6 : decode cX0_pointsOfTickets 6 = .ok (.iload_n 1, 1) := by decide +kernel
theorem dX0_pointsOfTickets_7 : decode cX0_pointsOfTickets 7 = .ok (.bipush 10, 2) := by decide +kernel
theorem dX0_pointsOfTickets_9 : decode cX0_pointsOfTickets 9 = .ok (.irem, 1) := by decide +kernel
theorem dX0_pointsOfTickets_10 : decode cX0_pointsOfTickets 10 = .ok (.if_icmp .ne 6, 3) := by decide +kernel
theorem dX0_pointsOfTickets_13 : decode cX0_pointsOfTickets 13 = .ok (.iinc 2 1, 3) := by decide +kernel
theorem dX0_pointsOfTickets_16 : decode cX0_pointsOfTickets 16 = .ok (.iload_n 0, 1) := by decide +kernel
theorem dX0_pointsOfTickets_17 : decode cX0_pointsOfTickets 17 = .ok (.invokestatic 177, 3) := by decide +kernel
theorem dX0_pointsOfTickets_20 : decode cX0_pointsOfTickets 20 = .ok (.iload_n 1, 1) := by decide +kernel
theorem dX0_pointsOfTickets_21 : decode cX0_pointsOfTickets 21 = .ok (.invokestatic 177, 3) := by decide +kernel
theorem dX0_pointsOfTickets_24 : decode cX0_pointsOfTickets 24 = .ok (.if_icmp .ne 6, 3) := by decide +kernel
theorem dX0_pointsOfTickets_27 : decode cX0_pointsOfTickets 27 = .ok (.iinc 2 2, 3) := by decide +kernel
theorem dX0_pointsOfTickets_30 : decode cX0_pointsOfTickets 30 = .ok (.iload_n 0, 1) := by decide +kernel
theorem dX0_pointsOfTickets_31 : decode cX0_pointsOfTickets 31 = .ok (.iload_n 1, 1) := by decide +kernel
theorem dX0_pointsOfTickets_32 : decode cX0_pointsOfTickets 32 = .ok (.isub, 1) := by decide +kernel
theorem dX0_pointsOfTickets_33 : decode cX0_pointsOfTickets 33 = .ok (.invokestatic 166, 3) := by decide +kernel
theorem dX0_pointsOfTickets_36 : decode cX0_pointsOfTickets 36 = .ok (.iconst 1, 1) := by decide +kernel
theorem dX0_pointsOfTickets_37 : decode cX0_pointsOfTickets 37 = .ok (.if_icmp .ne 6, 3) := by decide +kernel
theorem dX0_pointsOfTickets_40 : decode cX0_pointsOfTickets 40 = .ok (.iinc 2 3, 3) := by decide +kernel
theorem dX0_pointsOfTickets_43 : decode cX0_pointsOfTickets 43 = .ok (.iload_n 0, 1) := by decide +kernel
theorem dX0_pointsOfTickets_44 : decode cX0_pointsOfTickets 44 = .ok (.iload_n 1, 1) := by decide +kernel
theorem dX0_pointsOfTickets_45 : decode cX0_pointsOfTickets 45 = .ok (.invokestatic 110, 3) := by decide +kernel
theorem dX0_pointsOfTickets_48 : decode cX0_pointsOfTickets 48 = .ok (.ifCond .eq 6, 3) := by decide +kernel
theorem dX0_pointsOfTickets_51 : decode cX0_pointsOfTickets 51 = .ok (.iinc 2 5, 3) := by decide +kernel
theorem dX0_pointsOfTickets_54 : decode cX0_pointsOfTickets 54 = .ok (.iload_n 2, 1) := by decide +kernel
theorem dX0_pointsOfTickets_55 : decode cX0_pointsOfTickets 55 = .ok (.ireturn, 1) := by decide +kernel
theorem dX0_pointsOfColours_0 : decode cX0_pointsOfColours 0 = .ok (.iload_n 0, 1) := by decide +kernel
theorem dX0_pointsOfColours_1 : decode cX0_pointsOfColours 1 = .ok (.iload_n 1, 1) := by decide +kernel
theorem dX0_pointsOfColours_2 : decode cX0_pointsOfColours 2 = .ok (.if_icmp .ne 7, 3) := by decide +kernel
theorem dX0_pointsOfColours_5 : decode cX0_pointsOfColours 5 = .ok (.iconst 2, 1) := by decide +kernel
theorem dX0_pointsOfColours_6 : decode cX0_pointsOfColours 6 = .ok (.goto 4, 3) := by decide +kernel
theorem dX0_pointsOfColours_9 : decode cX0_pointsOfColours 9 = .ok (.iconst 0, 1) := by decide +kernel
theorem dX0_pointsOfColours_10 : decode cX0_pointsOfColours 10 = .ok (.ireturn, 1) := by decide +kernel
set_option maxRecDepth 20000 in
theorem ggX0_pointsOfPair_X0_pointsOfTickets : GoodIn wsX0_pointsOfPair wsX0_pointsOfTickets := goodIn_r _ [6, 7, 8, 9, 10, 11, 12, 5, 13, 14, 15, 16] (by decide +kernel) (by decide +kernel)
set_option maxRecDepth 20000 in
theorem gX0_pointsOfPair_X0_pointsOfTickets : GoodIn wsX0_pointsOfPair (va_wsS RX0 180 yX0_pointsOfTickets wsX0_pointsOfTickets) := goodIn_app (goodIn_of _ (by decide +kernel)) ggX0_pointsOfPair_X0_pointsOfTickets
set_option maxRecDepth 20000 in
theorem ggX0_pointsOfPair_X0_pointsOfColours : GoodIn wsX0_pointsOfPair wsX0_pointsOfColours := goodIn_r _ [19] (by decide +kernel) (by decide +kernel)
set_option maxRecDepth 20000 in
theorem gX0_pointsOfPair_X0_pointsOfColours : GoodIn wsX0_pointsOfPair (va_wsS RX0 183 yX0_pointsOfColours wsX0_pointsOfColours) := goodIn_app (goodIn_of _ (by decide +kernel)) ggX0_pointsOfPair_X0_pointsOfColours
theorem dX0_pointsOfPair_0 : decode cX0_pointsOfPair 0 = .ok (.aload_n 0, 1) := by decide +kernel
theorem dX0_pointsOfPair_1 : decode cX0_pointsOfPair 1 = .ok (.getfield 9, 3) := by decide +kernel
theorem dX0_pointsOfPair_4 : decode cX0_pointsOfPair 4 = .ok (.iload_n 1, 1) := by decide +kernel
theorem dX0_pointsOfPair_5 : decode cX0_pointsOfPair 5 = .ok (.iaload, 1) := by decide +kernel
theorem dX0_pointsOfPair_6 : decode cX0_pointsOfPair 6 = .ok (.aload_n 0, 1) := by decide +kernel
theorem dX0_pointsOfPair_7 : decode cX0_pointsOfPair 7 = .ok (.getfield 9, 3) := by decide +kernel
theorem dX0_pointsOfPair_10 : decode cX0_pointsOfPair 10 = .ok (.iload_n 2, 1) := by decide +kernel
theorem dX0_pointsOfPair_11 : decode cX0_pointsOfPair 11 = .ok (.iaload, 1) := by decide +kernel
theorem dX0_pointsOfPair_12 : decode cX0_pointsOfPair 12 = .ok (.invokestatic 180, 3) := by decide +kernel
theorem dX0_pointsOfPair_15 : decode cX0_pointsOfPair 15 = .ok (.aload_n 0, 1) := by decide +kernel
theorem dX0_pointsOfPair_16 : decode cX0_pointsOfPair 16 = .ok (.getfield 13, 3) := by decide +kernel
theorem dX0_pointsOfPair_19 : decode cX0_pointsOfPair 19 = .ok (.iload_n 1, 1) := by decide +kernel
theorem dX0_pointsOfPair_20 : decode cX0_pointsOfPair 20 = .ok (.iaload, 1) := by decide +kernel
theorem dX0_pointsOfPair_21 : decode cX0_pointsOfPair 21 = .ok (.aload_n 0, 1) := by decide +kernel
theorem dX0_pointsOfPair_22 : decode cX0_pointsOfPair 22 = .ok (.getfield 13, 3) := by decide +kernel
theorem dX0_pointsOfPair_25 : decode cX0_pointsOfPair 25 = .ok (.iload_n 2, 1) := by decide +kernel
theorem dX0_pointsOfPair_26 : decode cX0_pointsOfPair 26 = .ok (.iaload, 1) := by decide +kernel
theorem dX0_pointsOfPair_27 : decode cX0_pointsOfPair 27 = .ok (.invokestatic 183, 3) := by decide +kernel
theorem dX0_pointsOfPair_30 : decode cX0_pointsOfPair 30 = .ok (.iadd, 1) := by decide +kernel
theorem dX0_pointsOfPair_31 : decode cX0_pointsOfPair 31 = .ok (.ireturn, 1) := by decide +kernel
theorem dX0_cornerBehind_0 : decode cX0_cornerBehind 0 = .ok (.aload_n 0, 1) := by decide +kernel
theorem dX0_cornerBehind_1 : decode cX0_cornerBehind 1 = .ok (.getfield 16, 3) := by decide +kernel
theorem dX0_cornerBehind_4 : decode cX0_cornerBehind 4 = .ok (.iload_n 1, 1) := by decide +kernel
theorem dX0_cornerBehind_5 : decode cX0_cornerBehind 5 = .ok (.iaload, 1) := by decide +kernel
theorem dX0_cornerBehind_6 : decode cX0_cornerBehind 6 = .ok (.aload_n 0, 1) := by decide +kernel
theorem dX0_cornerBehind_7 : decode cX0_cornerBehind 7 = .ok (.getfield 19, 3) := by decide +kernel
theorem dX0_cornerBehind_10 : decode cX0_cornerBehind 10 = .ok (.iload_n 1, 1) := by decide +kernel
theorem dX0_cornerBehind_11 : decode cX0_cornerBehind 11 = .ok (.iaload, 1) := by decide +kernel
theorem dX0_cornerBehind_12 : decode cX0_cornerBehind 12 = .ok (.iload_n 2, 1) := by decide +kernel
theorem dX0_cornerBehind_13 : decode cX0_cornerBehind 13 = .ok (.imul, 1) := by decide +kernel
theorem dX0_cornerBehind_14 : decode cX0_cornerBehind 14 = .ok (.iadd, 1) := by decide +kernel
theorem dX0_cornerBehind_15 : decode cX0_cornerBehind 15 = .ok (.bipush 6, 2) := by decide +kernel
theorem dX0_cornerBehind_17 : decode cX0_cornerBehind 17 = .ok (.irem, 1) := by decide +kernel
theorem dX0_cornerBehind_18 : decode cX0_cornerBehind 18 = .ok (.ireturn, 1) := by decide +kernel
set_option maxRecDepth 20000 in
theorem ggX0_townBehind_X0_cornerBehind : GoodIn wsX0_townBehind wsX0_cornerBehind := goodIn_r _ [6, 7, 8, 31, 32, 33, 34, 35, 36, 37, 38, 39] (by decide +kernel) (by decide +kernel)
set_option maxRecDepth 20000 in
theorem gX0_townBehind_X0_cornerBehind : GoodIn wsX0_townBehind (wsV RX0 119 RX0 yX0_cornerBehind wsX0_cornerBehind) := goodIn_app (goodIn_of _ (by decide +kernel)) ggX0_townBehind_X0_cornerBehind
set_option maxRecDepth 20000 in
theorem ggX0_townBehind_X0_pointsOfPair : GoodIn wsX0_townBehind wsX0_pointsOfPair := goodIn_r _ [12, 13, 14, 15, 16, 5, 17, 18, 19, 20, 21, 22, 23, 24, 25, 26, 27, 28, 29, 30, 31, 32, 33, 34, 35, 36, 37, 38, 39] (by decide +kernel) (by decide +kernel)
set_option maxRecDepth 20000 in
theorem gX0_townBehind_X0_pointsOfPair : GoodIn wsX0_townBehind (wsV RX0 107 RX0 yX0_pointsOfPair wsX0_pointsOfPair) := goodIn_app (goodIn_of _ (by decide +kernel)) ggX0_townBehind_X0_pointsOfPair
theorem dX0_townBehind_0 : decode cX0_townBehind 0 = .ok (.iconst 0, 1) := by decide +kernel
theorem dX0_townBehind_1 : decode cX0_townBehind 1 = .ok (.istore_n 2, 1) := by decide +kernel
theorem dX0_townBehind_2 : decode cX0_townBehind 2 = .ok (.iconst 0, 1) := by decide +kernel
theorem dX0_townBehind_3 : decode cX0_townBehind 3 = .ok (.istore_n 3, 1) := by decide +kernel
theorem dX0_townBehind_4 : decode cX0_townBehind 4 = .ok (.iload_n 3, 1) := by decide +kernel
theorem dX0_townBehind_5 : decode cX0_townBehind 5 = .ok (.aload_n 0, 1) := by decide +kernel
theorem dX0_townBehind_6 : decode cX0_townBehind 6 = .ok (.getfield 22, 3) := by decide +kernel
theorem dX0_townBehind_9 : decode cX0_townBehind 9 = .ok (.if_icmp .ge 55, 3) := by decide +kernel
theorem dX0_townBehind_12 : decode cX0_townBehind 12 = .ok (.iload_n 3, 1) := by decide +kernel
theorem dX0_townBehind_13 : decode cX0_townBehind 13 = .ok (.iconst 1, 1) := by decide +kernel
theorem dX0_townBehind_14 : decode cX0_townBehind 14 = .ok (.iadd, 1) := by decide +kernel
theorem dX0_townBehind_15 : decode cX0_townBehind 15 = .ok (.istore 4, 2) := by decide +kernel
theorem dX0_townBehind_17 : decode cX0_townBehind 17 = .ok (.iload 4, 2) := by decide +kernel
theorem dX0_townBehind_19 : decode cX0_townBehind 19 = .ok (.aload_n 0, 1) := by decide +kernel
theorem dX0_townBehind_20 : decode cX0_townBehind 20 = .ok (.getfield 22, 3) := by decide +kernel
theorem dX0_townBehind_23 : decode cX0_townBehind 23 = .ok (.if_icmp .ge 35, 3) := by decide +kernel
theorem dX0_townBehind_26 : decode cX0_townBehind 26 = .ok (.aload_n 0, 1) := by decide +kernel
theorem dX0_townBehind_27 : decode cX0_townBehind 27 = .ok (.iload_n 3, 1) := by decide +kernel
theorem dX0_townBehind_28 : decode cX0_townBehind 28 = .ok (.iload_n 1, 1) := by decide +kernel
theorem dX0_townBehind_29 : decode cX0_townBehind 29 = .ok (.invokevirtual 119, 3) := by decide +kernel
theorem dX0_townBehind_32 : decode cX0_townBehind 32 = .ok (.aload_n 0, 1) := by decide +kernel
theorem dX0_townBehind_33 : decode cX0_townBehind 33 = .ok (.iload 4, 2) := by decide +kernel
theorem dX0_townBehind_35 : decode cX0_townBehind 35 = .ok (.iload_n 1, 1) := by decide +kernel
theorem dX0_townBehind_36 : decode cX0_townBehind 36 = .ok (.invokevirtual 119, 3) := by decide +kernel
theorem dX0_townBehind_39 : decode cX0_townBehind 39 = .ok (.if_icmp .ne 13, 3) := by decide +kernel
theorem dX0_townBehind_42 : decode cX0_townBehind 42 = .ok (.iload_n 2, 1) := by decide +kernel
theorem dX0_townBehind_43 : decode cX0_townBehind 43 = .ok (.aload_n 0, 1) := by decide +kernel
theorem dX0_townBehind_44 : decode cX0_townBehind 44 = .ok (.iload_n 3, 1) := by decide +kernel
theorem dX0_townBehind_45 : decode cX0_townBehind 45 = .ok (.iload 4, 2) := by decide +kernel
theorem dX0_townBehind_47 : decode cX0_townBehind 47 = .ok (.invokevirtual 107, 3) := by decide +kernel
theorem dX0_townBehind_50 : decode cX0_townBehind 50 = .ok (.iadd, 1) := by decide +kernel
theorem dX0_townBehind_51 : decode cX0_townBehind 51 = .ok (.istore_n 2, 1) := by decide +kernel
theorem dX0_townBehind_52 : decode cX0_townBehind 52 = .ok (.iinc 4 1, 3) := by decide +kernel
theorem dX0_townBehind_55 : decode cX0_townBehind 55 = .ok (.goto (-38), 3) := by decide +kernel
theorem dX0_townBehind_58 : decode cX0_townBehind 58 = .ok (.iinc 3 1, 3) := by decide +kernel
theorem dX0_townBehind_61 : decode cX0_townBehind 61 = .ok (.goto (-57), 3) := by decide +kernel
theorem dX0_townBehind_64 : decode cX0_townBehind 64 = .ok (.iload_n 2, 1) := by decide +kernel
theorem dX0_townBehind_65 : decode cX0_townBehind 65 = .ok (.ireturn, 1) := by decide +kernel
set_option maxRecDepth 20000 in
theorem ggX0_townIfSwapped_X0_exchange : GoodIn wsX0_townIfSwapped wsX0_exchange := goodIn_r _ [5] (by decide +kernel) (by decide +kernel)
set_option maxRecDepth 20000 in
theorem gX0_townIfSwapped_X0_exchange : GoodIn wsX0_townIfSwapped (va_wsS RX0 90 yX0_exchange wsX0_exchange) := goodIn_app (goodIn_of _ (by decide +kernel)) ggX0_townIfSwapped_X0_exchange
set_option maxRecDepth 20000 in
theorem ggX0_townIfSwapped_X0_townBehind : GoodIn wsX0_townIfSwapped wsX0_townBehind := goodIn_r _ [9, 10, 11, 12, 13, 4, 14, 15, 16, 17, 18, 19, 20, 1, 21, 22, 23, 24, 25, 26, 27, 28, 29, 30, 31, 32, 33, 34, 35, 36, 37, 38, 39, 40, 41, 42, 43, 44, 45, 46] (by decide +kernel) (by decide +kernel)
set_option maxRecDepth 20000 in
theorem gX0_townIfSwapped_X0_townBehind : GoodIn wsX0_townIfSwapped (wsV RX0 86 RX0 yX0_townBehind wsX0_townBehind) := goodIn_app (goodIn_of _ (by decide +kernel)) ggX0_townIfSwapped_X0_townBehind
theorem dX0_townIfSwapped_0 : decode cX0_townIfSwapped 0 = .ok (.aload_n 0, 1) := by decide +kernel
theorem dX0_townIfSwapped_1 : decode cX0_townIfSwapped 1 = .ok (.getfield 9, 3) := by decide +kernel
theorem dX0_townIfSwapped_4 : decode cX0_townIfSwapped 4 = .ok (.iload_n 1, 1) := by decide +kernel
theorem dX0_townIfSwapped_5 : decode cX0_townIfSwapped 5 = .ok (.iload_n 2, 1) := by decide +kernel
theorem dX0_townIfSwapped_6 : decode cX0_townIfSwapped 6 = .ok (.invokestatic 90, 3) := by decide +kernel
theorem dX0_townIfSwapped_9 : decode cX0_townIfSwapped 9 = .ok (.aload_n 0, 1) := by decide +kernel
theorem dX0_townIfSwapped_10 : decode cX0_townIfSwapped 10 = .ok (.iconst 0, 1) := by decide +kernel
theorem dX0_townIfSwapped_11 : decode cX0_townIfSwapped 11 = .ok (.invokevirtual 86, 3) := by decide +kernel
theorem dX0_townIfSwapped_14 : decode cX0_townIfSwapped 14 = .ok (.istore_n 3, 1) := by decide +kernel
theorem dX0_townIfSwapped_15 : decode cX0_townIfSwapped 15 = .ok (.aload_n 0, 1) := by decide +kernel
theorem dX0_townIfSwapped_16 : decode cX0_townIfSwapped 16 = .ok (.getfield 9, 3) := by decide +kernel
theorem dX0_townIfSwapped_19 : decode cX0_townIfSwapped 19 = .ok (.iload_n 1, 1) := by decide +kernel
theorem dX0_townIfSwapped_20 : decode cX0_townIfSwapped 20 = .ok (.iload_n 2, 1) := by decide +kernel
theorem dX0_townIfSwapped_21 : decode cX0_townIfSwapped 21 = .ok (.invokestatic 90, 3) := by decide +kernel
theorem dX0_townIfSwapped_24 : decode cX0_townIfSwapped 24 = .ok (.iload_n 3, 1) := by decide +kernel
theorem dX0_townIfSwapped_25 : decode cX0_townIfSwapped 25 = .ok (.ireturn, 1) := by decide +kernel
set_option maxRecDepth 20000 in
theorem ggX0_luckNow_X0_luckWith : GoodIn wsX0_luckNow wsX0_luckWith := goodIn_r _ [7, 8, 2, 1, 9, 10, 11, 6, 12, 13, 14, 15, 16, 17, 18, 19, 20, 21, 22, 23, 24, 25, 26, 27, 28, 29, 30, 31, 32, 33, 34] (by decide +kernel) (by decide +kernel)
set_option maxRecDepth 20000 in
theorem gX0_luckNow_X0_luckWith : GoodIn wsX0_luckNow (wsV RX0 122 RX0 yX0_luckWith wsX0_luckWith) := goodIn_app (goodIn_of _ (by decide +kernel)) ggX0_luckNow_X0_luckWith
theorem dX0_luckNow_0 : decode cX0_luckNow 0 = .ok (.aload_n 0, 1) := by decide +kernel
theorem dX0_luckNow_1 : decode cX0_luckNow 1 = .ok (.iload_n 1, 1) := by decide +kernel
theorem dX0_luckNow_2 : decode cX0_luckNow 2 = .ok (.aload_n 0, 1) := by decide +kernel
theorem dX0_luckNow_3 : decode cX0_luckNow 3 = .ok (.getfield 9, 3) := by decide +kernel
theorem dX0_luckNow_6 : decode cX0_luckNow 6 = .ok (.iload_n 1, 1) := by decide +kernel
theorem dX0_luckNow_7 : decode cX0_luckNow 7 = .ok (.iaload, 1) := by decide +kernel
theorem dX0_luckNow_8 : decode cX0_luckNow 8 = .ok (.aload_n 0, 1) := by decide +kernel
theorem dX0_luckNow_9 : decode cX0_luckNow 9 = .ok (.getfield 16, 3) := by decide +kernel
theorem dX0_luckNow_12 : decode cX0_luckNow 12 = .ok (.iload_n 1, 1) := by decide +kernel
theorem dX0_luckNow_13 : decode cX0_luckNow 13 = .ok (.iaload, 1) := by decide +kernel
theorem dX0_luckNow_14 : decode cX0_luckNow 14 = .ok (.invokevirtual 122, 3) := by decide +kernel
theorem dX0_luckNow_17 : decode cX0_luckNow 17 = .ok (.ireturn, 1) := by decide +kernel
set_option maxRecDepth 20000 in
theorem ggX0_luckWith_X0_pointsOfTickets : GoodIn wsX0_luckWith wsX0_pointsOfTickets := goodIn_r _ [8, 9, 10, 11, 12, 13, 14, 7, 15, 16, 17, 18] (by decide +kernel) (by decide +kernel)
set_option maxRecDepth 20000 in
theorem gX0_luckWith_X0_pointsOfTickets : GoodIn wsX0_luckWith (va_wsS RX0 180 yX0_pointsOfTickets wsX0_pointsOfTickets) := goodIn_app (goodIn_of _ (by decide +kernel)) ggX0_luckWith_X0_pointsOfTickets
set_option maxRecDepth 20000 in
theorem ggX0_luckWith_X0_pointsOfColours : GoodIn wsX0_luckWith wsX0_pointsOfColours := goodIn_r _ [21] (by decide +kernel) (by decide +kernel)
set_option maxRecDepth 20000 in
theorem gX0_luckWith_X0_pointsOfColours : GoodIn wsX0_luckWith (va_wsS RX0 183 yX0_pointsOfColours wsX0_pointsOfColours) := goodIn_app (goodIn_of _ (by decide +kernel)) ggX0_luckWith_X0_pointsOfColours
theorem dX0_luckWith_0 : decode cX0_luckWith 0 = .ok (.iconst 0, 1) := by decide +kernel
theorem dX0_luckWith_1 : decode cX0_luckWith 1 = .ok (.istore 4, 2) := by decide +kernel
theorem dX0_luckWith_3 : decode cX0_luckWith 3 = .ok (.iconst 0, 1) := by decide +kernel
theorem dX0_luckWith_4 : decode cX0_luckWith 4 = .ok (.istore 5, 2) := by decide +kernel
theorem dX0_luckWith_6 : decode cX0_luckWith 6 = .ok (.iload 5, 2) := by decide +kernel
theorem dX0_luckWith_8 : decode cX0_luckWith 8 = .ok (.aload_n 0, 1) := by decide +kernel
theorem dX0_luckWith_9 : decode cX0_luckWith 9 = .ok (.getfield 22, 3) := by decide +kernel
theorem dX0_luckWith_12 : decode cX0_luckWith 12 = .ok (.if_icmp .ge 59, 3) := by decide +kernel
theorem dX0_luckWith_15 : decode cX0_luckWith 15 = .ok (.iload 5, 2) := by decide +kernel
theorem dX0_luckWith_17 : decode cX0_luckWith 17 = .ok (.iload_n 1, 1) := by decide +kernel
theorem dX0_luckWith_18 : decode cX0_luckWith 18 = .ok (.if_icmp .eq 47, 3) := by decide +kernel
theorem dX0_luckWith_21 : decode cX0_luckWith 21 = .ok (.aload_n 0, 1) := by decide +kernel
theorem dX0_luckWith_22 : decode cX0_luckWith 22 = .ok (.getfield 16, 3) := by decide +kernel
theorem dX0_luckWith_25 : decode cX0_luckWith 25 = .ok (.iload 5, 2) := by decide +kernel
theorem dX0_luckWith_27 : decode cX0_luckWith 27 = .ok (.iaload, 1) := by decide +kernel
theorem dX0_luckWith_28 : decode cX0_luckWith 28 = .ok (.iload_n 3, 1) := by decide +kernel
theorem dX0_luckWith_29 : decode cX0_luckWith 29 = .ok (.if_icmp .ne 36, 3) := by decide +kernel
theorem dX0_luckWith_32 : decode cX0_luckWith 32 = .ok (.iload 4, 2) := by decide +kernel
theorem dX0_luckWith_34 : decode cX0_luckWith 34 = .ok (.iload_n 2, 1) := by decide +kernel
theorem dX0_luckWith_35 : decode cX0_luckWith 35 = .ok (.aload_n 0, 1) := by decide +kernel
theorem dX0_luckWith_36 : decode cX0_luckWith 36 = .ok (.getfield 9, 3) := by decide +kernel
theorem dX0_luckWith_39 : decode cX0_luckWith 39 = .ok (.iload 5, 2) := by decide +kernel
theorem dX0_luckWith_41 : decode cX0_luckWith 41 = .ok (.iaload, 1) := by decide +kernel
theorem dX0_luckWith_42 : decode cX0_luckWith 42 = .ok (.invokestatic 180, 3) := by decide +kernel
theorem dX0_luckWith_45 : decode cX0_luckWith 45 = .ok (.aload_n 0, 1) := by decide +kernel
theorem dX0_luckWith_46 : decode cX0_luckWith 46 = .ok (.getfield 13, 3) := by decide +kernel
theorem dX0_luckWith_49 : decode cX0_luckWith 49 = .ok (.iload_n 1, 1) := by decide +kernel
theorem dX0_luckWith_50 : decode cX0_luckWith 50 = .ok (.iaload, 1) := by decide +kernel
theorem dX0_luckWith_51 : decode cX0_luckWith 51 = .ok (.aload_n 0, 1) := by decide +kernel
theorem dX0_luckWith_52 : decode cX0_luckWith 52 = .ok (.getfield 13, 3) := by decide +kernel
theorem dX0_luckWith_55 : decode cX0_luckWith 55 = .ok (.iload 5, 2) := by decide +kernel
theorem dX0_luckWith_57 : decode cX0_luckWith 57 = .ok (.iaload, 1) := by decide +kernel
theorem dX0_luckWith_58 : decode cX0_luckWith 58 = .ok (.invokestatic 183, 3) := by decide +kernel
theorem dX0_luckWith_61 : decode cX0_luckWith 61 = .ok (.iadd, 1) := by decide +kernel
theorem dX0_luckWith_62 : decode cX0_luckWith 62 = .ok (.iadd, 1) := by decide +kernel
theorem dX0_luckWith_63 : decode cX0_luckWith 63 = .ok (.istore 4, 2) := by decide +kernel
theorem dX0_luckWith_65 : decode cX0_luckWith 65 = .ok (.iinc 5 1, 3) := by decide +kernel
theorem dX0_luckWith_68 : decode cX0_luckWith 68 = .ok (.goto (-62), 3) := by decide +kernel
theorem dX0_luckWith_71 : decode cX0_luckWith 71 = .ok (.iload 4, 2) := by decide +kernel
theorem dX0_luckWith_73 : decode cX0_luckWith 73 = .ok (.ireturn, 1) := by decide +kernel
theorem dX0_mixed_0 : decode cX0_mixed 0 = .ok (.lload_n 0, 1) := by decide +kernel
theorem dX0_mixed_1 : decode cX0_mixed 1 = .ok (.ldc2_w 186, 3) := by decide +kernel
theorem dX0_mixed_4 : decode cX0_mixed 4 = .ok (.lmul, 1) := by decide +kernel
theorem dX0_mixed_5 : decode cX0_mixed 5 = .ok (.lload_n 2, 1) := by decide +kernel
theorem dX0_mixed_6 : decode cX0_mixed 6 = .ok (.ladd, 1) := by decide +kernel
theorem dX0_mixed_7 : decode cX0_mixed 7 = .ok (.lreturn, 1) := by decide +kernel
