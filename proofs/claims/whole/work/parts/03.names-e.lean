theorem dL_addStranger_0 : decode cL_addStranger 0 = .ok (.aload 5, 2) := by decide +kernel
theorem dL_addStranger_2 : decode cL_addStranger 2 = .ok (.iconst 0, 1) := by decide +kernel
theorem dL_addStranger_3 : decode cL_addStranger 3 = .ok (.aload_n 0, 1) := by decide +kernel
theorem dL_addStranger_4 : decode cL_addStranger 4 = .ok (.iload_n 1, 1) := by decide +kernel
theorem dL_addStranger_5 : decode cL_addStranger 5 = .ok (.iload_n 2, 1) := by decide +kernel
theorem dL_addStranger_6 : decode cL_addStranger 6 = .ok (.iload_n 3, 1) := by decide +kernel
theorem dL_addStranger_7 : decode cL_addStranger 7 = .ok (.iload 4, 2) := by decide +kernel
theorem dL_addStranger_9 : decode cL_addStranger 9 = .ok (.invokevirtual 7, 3) := by decide +kernel
theorem dL_addStranger_12 : decode cL_addStranger 12 = .ok (.i2l, 1) := by decide +kernel
theorem dL_addStranger_13 : decode cL_addStranger 13 = .ok (.lastore, 1) := by decide +kernel
theorem dL_addStranger_14 : decode cL_addStranger 14 = .ok (.goto 11, 3) := by decide +kernel
theorem dL_addStranger_17 : decode cL_addStranger 17 = .ok (.astore 6, 2) := by decide +kernel
theorem dL_addStranger_19 : decode cL_addStranger 19 = .ok (.iconst 1, 1) := by decide +kernel
theorem dL_addStranger_20 : decode cL_addStranger 20 = .ok (.ireturn, 1) := by decide +kernel
theorem dL_addStranger_21 : decode cL_addStranger 21 = .ok (.astore 6, 2) := by decide +kernel
theorem dL_addStranger_23 : decode cL_addStranger 23 = .ok (.iconst 2, 1) := by decide +kernel
theorem dL_addStranger_24 : decode cL_addStranger 24 = .ok (.ireturn, 1) := by decide +kernel
theorem dL_addStranger_25 : decode cL_addStranger 25 = .ok (.iconst 0, 1) := by decide +kernel
theorem dL_addStranger_26 : decode cL_addStranger 26 = .ok (.ireturn, 1) := by decide +kernel
set_option maxRecDepth 20000 in
theorem ggL_setWalk_X0_setWalk : GoodIn wsL_setWalk wsX0_setWalk := goodIn_ca (goodIn_ca (goodIn_r _ [7, 8, 9, 10, 11, 12, 13, 6, 14, 15, 16, 17, 18, 19, 20, 21, 22, 23, 24, 25, 26, 27, 28, 29] (by decide +kernel) (by decide +kernel)) (goodIn_sub (fun _ h => List.mem_cons_of_mem _ (List.mem_append_left _ (List.mem_append_right _ h))) (by decide +kernel))) (goodIn_sub (fun _ h => List.mem_cons_of_mem _ (List.mem_append_right _ h)) (by decide +kernel))
set_option maxRecDepth 20000 in
theorem gL_setWalk_X0_setWalk : GoodIn wsL_setWalk (wsV RL 17 RX0 yX0_setWalk wsX0_setWalk) := goodIn_app (goodIn_of _ (by decide +kernel)) ggL_setWalk_X0_setWalk
theorem dL_setWalk_0 : decode cL_setWalk 0 = .ok (.aload_n 3, 1) := by decide +kernel
theorem dL_setWalk_1 : decode cL_setWalk 1 = .ok (.iconst 0, 1) := by decide +kernel
theorem dL_setWalk_2 : decode cL_setWalk 2 = .ok (.aload_n 0, 1) := by decide +kernel
theorem dL_setWalk_3 : decode cL_setWalk 3 = .ok (.iload_n 1, 1) := by decide +kernel
theorem dL_setWalk_4 : decode cL_setWalk 4 = .ok (.iload_n 2, 1) := by decide +kernel
theorem dL_setWalk_5 : decode cL_setWalk 5 = .ok (.invokevirtual 17, 3) := by decide +kernel
theorem dL_setWalk_8 : decode cL_setWalk 8 = .ok (.i2l, 1) := by decide +kernel
theorem dL_setWalk_9 : decode cL_setWalk 9 = .ok (.lastore, 1) := by decide +kernel
theorem dL_setWalk_10 : decode cL_setWalk 10 = .ok (.goto 11, 3) := by decide +kernel
theorem dL_setWalk_13 : decode cL_setWalk 13 = .ok (.astore 4, 2) := by decide +kernel
theorem dL_setWalk_15 : decode cL_setWalk 15 = .ok (.iconst 1, 1) := by decide +kernel
theorem dL_setWalk_16 : decode cL_setWalk 16 = .ok (.ireturn, 1) := by decide +kernel
theorem dL_setWalk_17 : decode cL_setWalk 17 = .ok (.astore 4, 2) := by decide +kernel
theorem dL_setWalk_19 : decode cL_setWalk 19 = .ok (.iconst 2, 1) := by decide +kernel
theorem dL_setWalk_20 : decode cL_setWalk 20 = .ok (.ireturn, 1) := by decide +kernel
theorem dL_setWalk_21 : decode cL_setWalk 21 = .ok (.iconst 0, 1) := by decide +kernel
theorem dL_setWalk_22 : decode cL_setWalk 22 = .ok (.ireturn, 1) := by decide +kernel
set_option maxRecDepth 20000 in
theorem ggL_move_X0_move : GoodIn wsL_move wsX0_move := goodIn_ca (goodIn_ca (goodIn_ca (goodIn_r _ [8, 9, 10, 11, 12, 13, 14, 15, 16, 7, 17, 18, 19, 20, 21, 22, 23, 24, 25, 26, 27, 28, 29, 30, 31, 32, 33, 34, 35, 36, 37, 38, 39, 40, 41, 42, 43, 44, 45, 46, 47, 48] (by decide +kernel) (by decide +kernel)) (goodIn_sub (fun _ h => List.mem_cons_of_mem _ (List.mem_append_left _ (List.mem_append_left _ (List.mem_append_right _ h)))) (by decide +kernel))) (goodIn_sub (fun _ h => List.mem_cons_of_mem _ (List.mem_append_left _ (List.mem_append_right _ h))) (by decide +kernel))) (goodIn_sub (fun _ h => List.mem_cons_of_mem _ (List.mem_append_right _ h)) (by decide +kernel))
set_option maxRecDepth 20000 in
theorem gL_move_X0_move : GoodIn wsL_move (wsV RL 23 RX0 yX0_move wsX0_move) := goodIn_app (goodIn_of _ (by decide +kernel)) ggL_move_X0_move
theorem dL_move_0 : decode cL_move 0 = .ok (.aload_n 3, 1) := by decide +kernel
theorem dL_move_1 : decode cL_move 1 = .ok (.iconst 0, 1) := by decide +kernel
theorem dL_move_2 : decode cL_move 2 = .ok (.aload_n 0, 1) := by decide +kernel
theorem dL_move_3 : decode cL_move 3 = .ok (.iload_n 1, 1) := by decide +kernel
theorem dL_move_4 : decode cL_move 4 = .ok (.iload_n 2, 1) := by decide +kernel
theorem dL_move_5 : decode cL_move 5 = .ok (.invokevirtual 23, 3) := by decide +kernel
theorem dL_move_8 : decode cL_move 8 = .ok (.i2l, 1) := by decide +kernel
theorem dL_move_9 : decode cL_move 9 = .ok (.lastore, 1) := by decide +kernel
theorem dL_move_10 : decode cL_move 10 = .ok (.goto 15, 3) := by decide +kernel
theorem dL_move_13 : decode cL_move 13 = .ok (.astore 4, 2) := by decide +kernel
theorem dL_move_15 : decode cL_move 15 = .ok (.iconst 1, 1) := by decide +kernel
theorem dL_move_16 : decode cL_move 16 = .ok (.ireturn, 1) := by decide +kernel
theorem dL_move_17 : decode cL_move 17 = .ok (.astore 4, 2) := by decide +kernel
theorem dL_move_19 : decode cL_move 19 = .ok (.iconst 2, 1) := by decide +kernel
theorem dL_move_20 : decode cL_move 20 = .ok (.ireturn, 1) := by decide +kernel
theorem dL_move_21 : decode cL_move 21 = .ok (.astore 4, 2) := by decide +kernel
theorem dL_move_23 : decode cL_move 23 = .ok (.iconst 3, 1) := by decide +kernel
theorem dL_move_24 : decode cL_move 24 = .ok (.ireturn, 1) := by decide +kernel
theorem dL_move_25 : decode cL_move 25 = .ok (.iconst 0, 1) := by decide +kernel
theorem dL_move_26 : decode cL_move 26 = .ok (.ireturn, 1) := by decide +kernel
set_option maxRecDepth 20000 in
theorem ggL_swapUmbrellas_X0_swapUmbrellas : GoodIn wsL_swapUmbrellas wsX0_swapUmbrellas := goodIn_ca (goodIn_ca (goodIn_ca (goodIn_r _ [8, 9, 10, 11, 12, 13, 14, 15, 7, 16, 17, 18, 19, 20, 21, 22, 23, 24, 25, 26, 27, 28, 29, 30, 31, 32, 33, 34, 35, 36, 37, 38, 39, 40, 41, 42, 43, 44, 45, 46, 47, 48, 49, 50, 51, 52, 53, 54, 55, 56, 57, 58, 59, 60, 61, 62, 63, 64, 65, 66, 67, 68, 69, 70, 71, 72, 73] (by decide +kernel) (by decide +kernel)) (goodIn_sub (fun _ h => List.mem_cons_of_mem _ (List.mem_append_left _ (List.mem_append_left _ (List.mem_append_right _ h)))) (by decide +kernel))) (goodIn_sub (fun _ h => List.mem_cons_of_mem _ (List.mem_append_left _ (List.mem_append_right _ h))) (by decide +kernel))) (goodIn_sub (fun _ h => List.mem_cons_of_mem _ (List.mem_append_right _ h)) (by decide +kernel))
set_option maxRecDepth 20000 in
theorem gL_swapUmbrellas_X0_swapUmbrellas : GoodIn wsL_swapUmbrellas (wsV RL 26 RX0 yX0_swapUmbrellas wsX0_swapUmbrellas) := goodIn_app (goodIn_of _ (by decide +kernel)) ggL_swapUmbrellas_X0_swapUmbrellas
theorem dL_swapUmbrellas_0 : decode cL_swapUmbrellas 0 = .ok (.aload_n 3, 1) := by decide +kernel
theorem dL_swapUmbrellas_1 : decode cL_swapUmbrellas 1 = .ok (.iconst 0, 1) := by decide +kernel
theorem dL_swapUmbrellas_2 : decode cL_swapUmbrellas 2 = .ok (.aload_n 0, 1) := by decide +kernel
theorem dL_swapUmbrellas_3 : decode cL_swapUmbrellas 3 = .ok (.iload_n 1, 1) := by decide +kernel
theorem dL_swapUmbrellas_4 : decode cL_swapUmbrellas 4 = .ok (.iload_n 2, 1) := by decide +kernel
theorem dL_swapUmbrellas_5 : decode cL_swapUmbrellas 5 = .ok (.invokevirtual 26, 3) := by decide +kernel
theorem dL_swapUmbrellas_8 : decode cL_swapUmbrellas 8 = .ok (.i2l, 1) := by decide +kernel
theorem dL_swapUmbrellas_9 : decode cL_swapUmbrellas 9 = .ok (.lastore, 1) := by decide +kernel
theorem dL_swapUmbrellas_10 : decode cL_swapUmbrellas 10 = .ok (.goto 15, 3) := by decide +kernel
theorem dL_swapUmbrellas_13 : decode cL_swapUmbrellas 13 = .ok (.astore 4, 2) := by decide +kernel
theorem dL_swapUmbrellas_15 : decode cL_swapUmbrellas 15 = .ok (.iconst 1, 1) := by decide +kernel
theorem dL_swapUmbrellas_16 : decode cL_swapUmbrellas 16 = .ok (.ireturn, 1) := by decide +kernel
theorem dL_swapUmbrellas_17 : decode cL_swapUmbrellas 17 = .ok (.astore 4, 2) := by decide +kernel
theorem dL_swapUmbrellas_19 : decode cL_swapUmbrellas 19 = .ok (.iconst 2, 1) := by decide +kernel
theorem dL_swapUmbrellas_20 : decode cL_swapUmbrellas 20 = .ok (.ireturn, 1) := by decide +kernel
theorem dL_swapUmbrellas_21 : decode cL_swapUmbrellas 21 = .ok (.astore 4, 2) := by decide +kernel
theorem dL_swapUmbrellas_23 : decode cL_swapUmbrellas 23 = .ok (.iconst 3, 1) := by decide +kernel
theorem dL_swapUmbrellas_24 : decode cL_swapUmbrellas 24 = .ok (.ireturn, 1) := by decide +kernel
theorem dL_swapUmbrellas_25 : decode cL_swapUmbrellas 25 = .ok (.iconst 0, 1) := by decide +kernel
theorem dL_swapUmbrellas_26 : decode cL_swapUmbrellas 26 = .ok (.ireturn, 1) := by decide +kernel
set_option maxRecDepth 20000 in
theorem ggL_swapTickets_X0_swapTickets : GoodIn wsL_swapTickets wsX0_swapTickets := goodIn_ca (goodIn_ca (goodIn_ca (goodIn_r _ [8, 9, 10, 11, 12, 7, 13, 14, 15, 16, 17, 18, 19, 20, 21, 22, 23, 24, 25, 26, 27, 28, 29, 30, 31, 32, 33, 34, 35, 36, 37, 38, 39, 40, 41, 42, 43, 44, 45, 46, 47, 48, 49, 50, 51, 52, 53, 54, 55, 56, 57, 58, 59, 60, 61, 62, 63, 64, 65, 66, 67, 68, 69, 70, 71, 72, 73] (by decide +kernel) (by decide +kernel)) (goodIn_sub (fun _ h => List.mem_cons_of_mem _ (List.mem_append_left _ (List.mem_append_left _ (List.mem_append_right _ h)))) (by decide +kernel))) (goodIn_sub (fun _ h => List.mem_cons_of_mem _ (List.mem_append_left _ (List.mem_append_right _ h))) (by decide +kernel))) (goodIn_sub (fun _ h => List.mem_cons_of_mem _ (List.mem_append_right _ h)) (by decide +kernel))
set_option maxRecDepth 20000 in
theorem gL_swapTickets_X0_swapTickets : GoodIn wsL_swapTickets (wsV RL 29 RX0 yX0_swapTickets wsX0_swapTickets) := goodIn_app (goodIn_of _ (by decide +kernel)) ggL_swapTickets_X0_swapTickets
theorem dL_swapTickets_0 : decode cL_swapTickets 0 = .ok (.aload_n 3, 1) := by decide +kernel
theorem dL_swapTickets_1 : decode cL_swapTickets 1 = .ok (.iconst 0, 1) := by decide +kernel
theorem dL_swapTickets_2 : decode cL_swapTickets 2 = .ok (.aload_n 0, 1) := by decide +kernel
theorem dL_swapTickets_3 : decode cL_swapTickets 3 = .ok (.iload_n 1, 1) := by decide +kernel
theorem dL_swapTickets_4 : decode cL_swapTickets 4 = .ok (.iload_n 2, 1) := by decide +kernel
theorem dL_swapTickets_5 : decode cL_swapTickets 5 = .ok (.invokevirtual 29, 3) := by decide +kernel
theorem dL_swapTickets_8 : decode cL_swapTickets 8 = .ok (.i2l, 1) := by decide +kernel
theorem dL_swapTickets_9 : decode cL_swapTickets 9 = .ok (.lastore, 1) := by decide +kernel
theorem dL_swapTickets_10 : decode cL_swapTickets 10 = .ok (.goto 15, 3) := by decide +kernel
theorem dL_swapTickets_13 : decode cL_swapTickets 13 = .ok (.astore 4, 2) := by decide +kernel
theorem dL_swapTickets_15 : decode cL_swapTickets 15 = .ok (.iconst 1, 1) := by decide +kernel
theorem dL_swapTickets_16 : decode cL_swapTickets 16 = .ok (.ireturn, 1) := by decide +kernel
theorem dL_swapTickets_17 : decode cL_swapTickets 17 = .ok (.astore 4, 2) := by decide +kernel
theorem dL_swapTickets_19 : decode cL_swapTickets 19 = .ok (.iconst 2, 1) := by decide +kernel
theorem dL_swapTickets_20 : decode cL_swapTickets 20 = .ok (.ireturn, 1) := by decide +kernel
theorem dL_swapTickets_21 : decode cL_swapTickets 21 = .ok (.astore 4, 2) := by decide +kernel
theorem dL_swapTickets_23 : decode cL_swapTickets 23 = .ok (.iconst 3, 1) := by decide +kernel
theorem dL_swapTickets_24 : decode cL_swapTickets 24 = .ok (.ireturn, 1) := by decide +kernel
theorem dL_swapTickets_25 : decode cL_swapTickets 25 = .ok (.iconst 0, 1) := by decide +kernel
theorem dL_swapTickets_26 : decode cL_swapTickets 26 = .ok (.ireturn, 1) := by decide +kernel
set_option maxRecDepth 20000 in
theorem ggL_draw_X0_draw : GoodIn wsL_draw wsX0_draw := goodIn_ca (goodIn_ca (goodIn_ca (goodIn_r _ [8, 9, 10, 11, 12, 13, 14, 7, 15, 16, 17, 18, 19, 20, 21, 22, 23, 24, 25, 26, 27, 28, 29, 30, 31, 32, 33, 34, 35, 36, 37, 38] (by decide +kernel) (by decide +kernel)) (goodIn_sub (fun _ h => List.mem_cons_of_mem _ (List.mem_append_left _ (List.mem_append_left _ (List.mem_append_right _ h)))) (by decide +kernel))) (goodIn_sub (fun _ h => List.mem_cons_of_mem _ (List.mem_append_left _ (List.mem_append_right _ h))) (by decide +kernel))) (goodIn_sub (fun _ h => List.mem_cons_of_mem _ (List.mem_append_right _ h)) (by decide +kernel))
set_option maxRecDepth 20000 in
theorem gL_draw_X0_draw : GoodIn wsL_draw (wsV RL 32 RX0 yX0_draw wsX0_draw) := goodIn_app (goodIn_of _ (by decide +kernel)) ggL_draw_X0_draw
theorem dL_draw_0 : decode cL_draw 0 = .ok (.aload_n 3, 1) := by decide +kernel
theorem dL_draw_1 : decode cL_draw 1 = .ok (.iconst 0, 1) := by decide +kernel
theorem dL_draw_2 : decode cL_draw 2 = .ok (.aload_n 0, 1) := by decide +kernel
theorem dL_draw_3 : decode cL_draw 3 = .ok (.iload_n 1, 1) := by decide +kernel
theorem dL_draw_4 : decode cL_draw 4 = .ok (.iload_n 2, 1) := by decide +kernel
theorem dL_draw_5 : decode cL_draw 5 = .ok (.invokevirtual 32, 3) := by decide +kernel
theorem dL_draw_8 : decode cL_draw 8 = .ok (.i2l, 1) := by decide +kernel
theorem dL_draw_9 : decode cL_draw 9 = .ok (.lastore, 1) := by decide +kernel
theorem dL_draw_10 : decode cL_draw 10 = .ok (.goto 15, 3) := by decide +kernel
theorem dL_draw_13 : decode cL_draw 13 = .ok (.astore 4, 2) := by decide +kernel
theorem dL_draw_15 : decode cL_draw 15 = .ok (.iconst 1, 1) := by decide +kernel
theorem dL_draw_16 : decode cL_draw 16 = .ok (.ireturn, 1) := by decide +kernel
theorem dL_draw_17 : decode cL_draw 17 = .ok (.astore 4, 2) := by decide +kernel
theorem dL_draw_19 : decode cL_draw 19 = .ok (.iconst 2, 1) := by decide +kernel
theorem dL_draw_20 : decode cL_draw 20 = .ok (.ireturn, 1) := by decide +kernel
theorem dL_draw_21 : decode cL_draw 21 = .ok (.astore 4, 2) := by decide +kernel
theorem dL_draw_23 : decode cL_draw 23 = .ok (.iconst 3, 1) := by decide +kernel
theorem dL_draw_24 : decode cL_draw 24 = .ok (.ireturn, 1) := by decide +kernel
theorem dL_draw_25 : decode cL_draw 25 = .ok (.iconst 0, 1) := by decide +kernel
theorem dL_draw_26 : decode cL_draw 26 = .ok (.ireturn, 1) := by decide +kernel
set_option maxRecDepth 20000 in
theorem ggL_pass_X0_pass : GoodIn wsL_pass wsX0_pass := goodIn_ca (goodIn_r _ [6, 7, 8, 9, 10, 11, 12, 5, 13, 14, 15, 16, 17, 18, 19, 20, 21, 22, 23, 24, 25, 26, 27, 28, 29, 30, 31, 32, 33, 34, 35, 36, 37, 38, 39, 40, 41, 42, 43, 44, 45, 46, 47, 48, 49, 50, 51, 52, 53, 54, 55, 56, 57, 58, 59, 60, 61, 62, 63, 64, 65, 66, 67, 68] (by decide +kernel) (by decide +kernel)) (goodIn_sub (fun _ h => List.mem_cons_of_mem _ (List.mem_append_right _ h)) (by decide +kernel))
set_option maxRecDepth 20000 in
theorem gL_pass_X0_pass : GoodIn wsL_pass (wsV RL 35 RX0 yX0_pass wsX0_pass) := goodIn_app (goodIn_of _ (by decide +kernel)) ggL_pass_X0_pass
theorem dL_pass_0 : decode cL_pass 0 = .ok (.aload_n 2, 1) := by decide +kernel
theorem dL_pass_1 : decode cL_pass 1 = .ok (.iconst 0, 1) := by decide +kernel
theorem dL_pass_2 : decode cL_pass 2 = .ok (.aload_n 0, 1) := by decide +kernel
theorem dL_pass_3 : decode cL_pass 3 = .ok (.iload_n 1, 1) := by decide +kernel
theorem dL_pass_4 : decode cL_pass 4 = .ok (.invokevirtual 35, 3) := by decide +kernel
theorem dL_pass_7 : decode cL_pass 7 = .ok (.i2l, 1) := by decide +kernel
theorem dL_pass_8 : decode cL_pass 8 = .ok (.lastore, 1) := by decide +kernel
theorem dL_pass_9 : decode cL_pass 9 = .ok (.goto 6, 3) := by decide +kernel
theorem dL_pass_12 : decode cL_pass 12 = .ok (.astore_n 3, 1) := by decide +kernel
theorem dL_pass_13 : decode cL_pass 13 = .ok (.iconst 1, 1) := by decide +kernel
theorem dL_pass_14 : decode cL_pass 14 = .ok (.ireturn, 1) := by decide +kernel
theorem dL_pass_15 : decode cL_pass 15 = .ok (.iconst 0, 1) := by decide +kernel
theorem dL_pass_16 : decode cL_pass 16 = .ok (.ireturn, 1) := by decide +kernel
set_option maxRecDepth 20000 in
theorem ggL_ticketOf_X0_ticketOf : GoodIn wsL_ticketOf wsX0_ticketOf := goodIn_ca (goodIn_r _ [6, 7, 8, 9, 10, 5, 11, 12, 13, 14, 15, 16, 17, 18, 19, 20, 21, 22, 23] (by decide +kernel) (by decide +kernel)) (goodIn_sub (fun _ h => List.mem_cons_of_mem _ (List.mem_append_right _ h)) (by decide +kernel))
set_option maxRecDepth 20000 in
theorem gL_ticketOf_X0_ticketOf : GoodIn wsL_ticketOf (wsV RL 39 RX0 yX0_ticketOf wsX0_ticketOf) := goodIn_app (goodIn_of _ (by decide +kernel)) ggL_ticketOf_X0_ticketOf
theorem dL_ticketOf_0 : decode cL_ticketOf 0 = .ok (.aload_n 2, 1) := by decide +kernel
theorem dL_ticketOf_1 : decode cL_ticketOf 1 = .ok (.iconst 0, 1) := by decide +kernel
theorem dL_ticketOf_2 : decode cL_ticketOf 2 = .ok (.aload_n 0, 1) := by decide +kernel
theorem dL_ticketOf_3 : decode cL_ticketOf 3 = .ok (.iload_n 1, 1) := by decide +kernel
theorem dL_ticketOf_4 : decode cL_ticketOf 4 = .ok (.invokevirtual 39, 3) := by decide +kernel
theorem dL_ticketOf_7 : decode cL_ticketOf 7 = .ok (.i2l, 1) := by decide +kernel
theorem dL_ticketOf_8 : decode cL_ticketOf 8 = .ok (.lastore, 1) := by decide +kernel
theorem dL_ticketOf_9 : decode cL_ticketOf 9 = .ok (.goto 6, 3) := by decide +kernel
theorem dL_ticketOf_12 : decode cL_ticketOf 12 = .ok (.astore_n 3, 1) := by decide +kernel
theorem dL_ticketOf_13 : decode cL_ticketOf 13 = .ok (.iconst 1, 1) := by decide +kernel
theorem dL_ticketOf_14 : decode cL_ticketOf 14 = .ok (.ireturn, 1) := by decide +kernel
theorem dL_ticketOf_15 : decode cL_ticketOf 15 = .ok (.iconst 0, 1) := by decide +kernel
theorem dL_ticketOf_16 : decode cL_ticketOf 16 = .ok (.ireturn, 1) := by decide +kernel
set_option maxRecDepth 20000 in
theorem ggL_colourOf_X0_colourOf : GoodIn wsL_colourOf wsX0_colourOf := goodIn_ca (goodIn_r _ [6, 7, 8, 9, 10, 5, 11, 12, 13, 14, 15, 16, 17, 18, 19, 20, 21, 22, 23] (by decide +kernel) (by decide +kernel)) (goodIn_sub (fun _ h => List.mem_cons_of_mem _ (List.mem_append_right _ h)) (by decide +kernel))
set_option maxRecDepth 20000 in
theorem gL_colourOf_X0_colourOf : GoodIn wsL_colourOf (wsV RL 42 RX0 yX0_colourOf wsX0_colourOf) := goodIn_app (goodIn_of _ (by decide +kernel)) ggL_colourOf_X0_colourOf
theorem dL_colourOf_0 : decode cL_colourOf 0 = .ok (.aload_n 2, 1) := by decide +kernel
theorem dL_colourOf_1 : decode cL_colourOf 1 = .ok (.iconst 0, 1) := by decide +kernel
theorem dL_colourOf_2 : decode cL_colourOf 2 = .ok (.aload_n 0, 1) := by decide +kernel
theorem dL_colourOf_3 : decode cL_colourOf 3 = .ok (.iload_n 1, 1) := by decide +kernel
theorem dL_colourOf_4 : decode cL_colourOf 4 = .ok (.invokevirtual 42, 3) := by decide +kernel
theorem dL_colourOf_7 : decode cL_colourOf 7 = .ok (.i2l, 1) := by decide +kernel
theorem dL_colourOf_8 : decode cL_colourOf 8 = .ok (.lastore, 1) := by decide +kernel
theorem dL_colourOf_9 : decode cL_colourOf 9 = .ok (.goto 6, 3) := by decide +kernel
theorem dL_colourOf_12 : decode cL_colourOf 12 = .ok (.astore_n 3, 1) := by decide +kernel
theorem dL_colourOf_13 : decode cL_colourOf 13 = .ok (.iconst 1, 1) := by decide +kernel
theorem dL_colourOf_14 : decode cL_colourOf 14 = .ok (.ireturn, 1) := by decide +kernel
theorem dL_colourOf_15 : decode cL_colourOf 15 = .ok (.iconst 0, 1) := by decide +kernel
theorem dL_colourOf_16 : decode cL_colourOf 16 = .ok (.ireturn, 1) := by decide +kernel
set_option maxRecDepth 20000 in
theorem ggL_cornerOf_X0_cornerOf : GoodIn wsL_cornerOf wsX0_cornerOf := goodIn_ca (goodIn_r _ [6, 7, 8, 9, 10, 5, 11, 12, 13, 14, 15, 16, 17, 18, 19, 20, 21, 22, 23] (by decide +kernel) (by decide +kernel)) (goodIn_sub (fun _ h => List.mem_cons_of_mem _ (List.mem_append_right _ h)) (by decide +kernel))
set_option maxRecDepth 20000 in
theorem gL_cornerOf_X0_cornerOf : GoodIn wsL_cornerOf (wsV RL 45 RX0 yX0_cornerOf wsX0_cornerOf) := goodIn_app (goodIn_of _ (by decide +kernel)) ggL_cornerOf_X0_cornerOf
theorem dL_cornerOf_0 : decode cL_cornerOf 0 = .ok (.aload_n 2, 1) := by decide +kernel
theorem dL_cornerOf_1 : decode cL_cornerOf 1 = .ok (.iconst 0, 1) := by decide +kernel
theorem dL_cornerOf_2 : decode cL_cornerOf 2 = .ok (.aload_n 0, 1) := by decide +kernel
theorem dL_cornerOf_3 : decode cL_cornerOf 3 = .ok (.iload_n 1, 1) := by decide +kernel
theorem dL_cornerOf_4 : decode cL_cornerOf 4 = .ok (.invokevirtual 45, 3) := by decide +kernel
theorem dL_cornerOf_7 : decode cL_cornerOf 7 = .ok (.i2l, 1) := by decide +kernel
theorem dL_cornerOf_8 : decode cL_cornerOf 8 = .ok (.lastore, 1) := by decide +kernel
theorem dL_cornerOf_9 : decode cL_cornerOf 9 = .ok (.goto 6, 3) := by decide +kernel
theorem dL_cornerOf_12 : decode cL_cornerOf 12 = .ok (.astore_n 3, 1) := by decide +kernel
theorem dL_cornerOf_13 : decode cL_cornerOf 13 = .ok (.iconst 1, 1) := by decide +kernel
theorem dL_cornerOf_14 : decode cL_cornerOf 14 = .ok (.ireturn, 1) := by decide +kernel
theorem dL_cornerOf_15 : decode cL_cornerOf 15 = .ok (.iconst 0, 1) := by decide +kernel
theorem dL_cornerOf_16 : decode cL_cornerOf 16 = .ok (.ireturn, 1) := by decide +kernel
set_option maxRecDepth 20000 in
theorem ggL_walkOf_X0_walkOf : GoodIn wsL_walkOf wsX0_walkOf := goodIn_ca (goodIn_r _ [6, 7, 8, 9, 10, 5, 11, 12, 13, 14, 15, 16, 17, 18, 19, 20, 21, 22, 23] (by decide +kernel) (by decide +kernel)) (goodIn_sub (fun _ h => List.mem_cons_of_mem _ (List.mem_append_right _ h)) (by decide +kernel))
set_option maxRecDepth 20000 in
theorem gL_walkOf_X0_walkOf : GoodIn wsL_walkOf (wsV RL 48 RX0 yX0_walkOf wsX0_walkOf) := goodIn_app (goodIn_of _ (by decide +kernel)) ggL_walkOf_X0_walkOf
theorem dL_walkOf_0 : decode cL_walkOf 0 = .ok (.aload_n 2, 1) := by decide +kernel
theorem dL_walkOf_1 : decode cL_walkOf 1 = .ok (.iconst 0, 1) := by decide +kernel
theorem dL_walkOf_2 : decode cL_walkOf 2 = .ok (.aload_n 0, 1) := by decide +kernel
theorem dL_walkOf_3 : decode cL_walkOf 3 = .ok (.iload_n 1, 1) := by decide +kernel
theorem dL_walkOf_4 : decode cL_walkOf 4 = .ok (.invokevirtual 48, 3) := by decide +kernel
theorem dL_walkOf_7 : decode cL_walkOf 7 = .ok (.i2l, 1) := by decide +kernel
theorem dL_walkOf_8 : decode cL_walkOf 8 = .ok (.lastore, 1) := by decide +kernel
theorem dL_walkOf_9 : decode cL_walkOf 9 = .ok (.goto 6, 3) := by decide +kernel
theorem dL_walkOf_12 : decode cL_walkOf 12 = .ok (.astore_n 3, 1) := by decide +kernel
theorem dL_walkOf_13 : decode cL_walkOf 13 = .ok (.iconst 1, 1) := by decide +kernel
theorem dL_walkOf_14 : decode cL_walkOf 14 = .ok (.ireturn, 1) := by decide +kernel
theorem dL_walkOf_15 : decode cL_walkOf 15 = .ok (.iconst 0, 1) := by decide +kernel
theorem dL_walkOf_16 : decode cL_walkOf 16 = .ok (.ireturn, 1) := by decide +kernel
set_option maxRecDepth 20000 in
theorem ggL_peopleAt_X0_peopleAt : GoodIn wsL_peopleAt wsX0_peopleAt := goodIn_ca (goodIn_r _ [6, 7, 8, 5, 9, 10, 11, 12, 13, 14, 15, 16, 17, 18, 19, 20, 21, 22, 23, 24, 25, 26, 27, 28, 29] (by decide +kernel) (by decide +kernel)) (goodIn_sub (fun _ h => List.mem_cons_of_mem _ (List.mem_append_right _ h)) (by decide +kernel))
set_option maxRecDepth 20000 in
theorem gL_peopleAt_X0_peopleAt : GoodIn wsL_peopleAt (wsV RL 51 RX0 yX0_peopleAt wsX0_peopleAt) := goodIn_app (goodIn_of _ (by decide +kernel)) ggL_peopleAt_X0_peopleAt
theorem dL_peopleAt_0 : decode cL_peopleAt 0 = .ok (.aload_n 2, 1) := by decide +kernel
theorem dL_peopleAt_1 : decode cL_peopleAt 1 = .ok (.iconst 0, 1) := by decide +kernel
theorem dL_peopleAt_2 : decode cL_peopleAt 2 = .ok (.aload_n 0, 1) := by decide +kernel
theorem dL_peopleAt_3 : decode cL_peopleAt 3 = .ok (.iload_n 1, 1) := by decide +kernel
theorem dL_peopleAt_4 : decode cL_peopleAt 4 = .ok (.invokevirtual 51, 3) := by decide +kernel
theorem dL_peopleAt_7 : decode cL_peopleAt 7 = .ok (.i2l, 1) := by decide +kernel
theorem dL_peopleAt_8 : decode cL_peopleAt 8 = .ok (.lastore, 1) := by decide +kernel
theorem dL_peopleAt_9 : decode cL_peopleAt 9 = .ok (.goto 6, 3) := by decide +kernel
theorem dL_peopleAt_12 : decode cL_peopleAt 12 = .ok (.astore_n 3, 1) := by decide +kernel
theorem dL_peopleAt_13 : decode cL_peopleAt 13 = .ok (.iconst 1, 1) := by decide +kernel
theorem dL_peopleAt_14 : decode cL_peopleAt 14 = .ok (.ireturn, 1) := by decide +kernel
theorem dL_peopleAt_15 : decode cL_peopleAt 15 = .ok (.iconst 0, 1) := by decide +kernel
theorem dL_peopleAt_16 : decode cL_peopleAt 16 = .ok (.ireturn, 1) := by decide +kernel
set_option maxRecDepth 20000 in
theorem ggL_pointsOf_X0_pointsOf : GoodIn wsL_pointsOf wsX0_pointsOf := goodIn_ca (goodIn_ca (goodIn_r _ [7, 8, 9, 10, 6, 11, 12, 13, 14, 15, 16, 17, 18, 19, 20, 21, 22, 23, 24, 25, 26, 27, 28, 29, 30, 31, 32, 33, 34, 35, 36, 37, 38, 39, 40, 41, 42, 43, 44, 45, 46, 47, 48, 49, 50, 51] (by decide +kernel) (by decide +kernel)) (goodIn_sub (fun _ h => List.mem_cons_of_mem _ (List.mem_append_left _ (List.mem_append_right _ h))) (by decide +kernel))) (goodIn_sub (fun _ h => List.mem_cons_of_mem _ (List.mem_append_right _ h)) (by decide +kernel))
set_option maxRecDepth 20000 in
theorem gL_pointsOf_X0_pointsOf : GoodIn wsL_pointsOf (wsV RL 54 RX0 yX0_pointsOf wsX0_pointsOf) := goodIn_app (goodIn_of _ (by decide +kernel)) ggL_pointsOf_X0_pointsOf
theorem dL_pointsOf_0 : decode cL_pointsOf 0 = .ok (.aload_n 3, 1) := by decide +kernel
theorem dL_pointsOf_1 : decode cL_pointsOf 1 = .ok (.iconst 0, 1) := by decide +kernel
theorem dL_pointsOf_2 : decode cL_pointsOf 2 = .ok (.aload_n 0, 1) := by decide +kernel
theorem dL_pointsOf_3 : decode cL_pointsOf 3 = .ok (.iload_n 1, 1) := by decide +kernel
theorem dL_pointsOf_4 : decode cL_pointsOf 4 = .ok (.iload_n 2, 1) := by decide +kernel
theorem dL_pointsOf_5 : decode cL_pointsOf 5 = .ok (.invokevirtual 54, 3) := by decide +kernel
theorem dL_pointsOf_8 : decode cL_pointsOf 8 = .ok (.i2l, 1) := by decide +kernel
theorem dL_pointsOf_9 : decode cL_pointsOf 9 = .ok (.lastore, 1) := by decide +kernel
theorem dL_pointsOf_10 : decode cL_pointsOf 10 = .ok (.goto 11, 3) := by decide +kernel
theorem dL_pointsOf_13 : decode cL_pointsOf 13 = .ok (.astore 4, 2) := by decide +kernel
theorem dL_pointsOf_15 : decode cL_pointsOf 15 = .ok (.iconst 1, 1) := by decide +kernel
theorem dL_pointsOf_16 : decode cL_pointsOf 16 = .ok (.ireturn, 1) := by decide +kernel
theorem dL_pointsOf_17 : decode cL_pointsOf 17 = .ok (.astore 4, 2) := by decide +kernel
theorem dL_pointsOf_19 : decode cL_pointsOf 19 = .ok (.iconst 2, 1) := by decide +kernel
theorem dL_pointsOf_20 : decode cL_pointsOf 20 = .ok (.ireturn, 1) := by decide +kernel
theorem dL_pointsOf_21 : decode cL_pointsOf 21 = .ok (.iconst 0, 1) := by decide +kernel
theorem dL_pointsOf_22 : decode cL_pointsOf 22 = .ok (.ireturn, 1) := by decide +kernel
set_option maxRecDepth 20000 in
theorem ggL_areTogether_X0_areTogether : GoodIn wsL_areTogether wsX0_areTogether := goodIn_ca (goodIn_ca (goodIn_r _ [7, 8, 9, 10, 11, 6, 12, 13, 14, 15, 16, 17, 18, 19, 20, 21, 22, 23, 24, 25, 26, 27, 28, 29, 30] (by decide +kernel) (by decide +kernel)) (goodIn_sub (fun _ h => List.mem_cons_of_mem _ (List.mem_append_left _ (List.mem_append_right _ h))) (by decide +kernel))) (goodIn_sub (fun _ h => List.mem_cons_of_mem _ (List.mem_append_right _ h)) (by decide +kernel))
set_option maxRecDepth 20000 in
theorem gL_areTogether_X0_areTogether : GoodIn wsL_areTogether (wsV RL 57 RX0 yX0_areTogether wsX0_areTogether) := goodIn_app (goodIn_of _ (by decide +kernel)) ggL_areTogether_X0_areTogether
theorem dL_areTogether_0 : decode cL_areTogether 0 = .ok (.aload_n 3, 1) := by decide +kernel
theorem dL_areTogether_1 : decode cL_areTogether 1 = .ok (.iconst 0, 1) := by decide +kernel
theorem dL_areTogether_2 : decode cL_areTogether 2 = .ok (.aload_n 0, 1) := by decide +kernel
theorem dL_areTogether_3 : decode cL_areTogether 3 = .ok (.iload_n 1, 1) := by decide +kernel
theorem dL_areTogether_4 : decode cL_areTogether 4 = .ok (.iload_n 2, 1) := by decide +kernel
theorem dL_areTogether_5 : decode cL_areTogether 5 = .ok (.invokevirtual 57, 3) := by decide +kernel
theorem dL_areTogether_8 : decode cL_areTogether 8 = .ok (.ifCond .eq 7, 3) := by decide +kernel
theorem dL_areTogether_11 : decode cL_areTogether 11 = .ok (.lconst 1, 1) := by decide +kernel
theorem dL_areTogether_12 : decode cL_areTogether 12 = .ok (.goto 4, 3) := by decide +kernel
theorem dL_areTogether_15 : decode cL_areTogether 15 = .ok (.lconst 0, 1) := by decide +kernel
theorem dL_areTogether_16 : decode cL_areTogether 16 = .ok (.lastore, 1) := by decide +kernel
theorem dL_areTogether_17 : decode cL_areTogether 17 = .ok (.goto 11, 3) := by decide +kernel
theorem dL_areTogether_20 : decode cL_areTogether 20 = .ok (.astore 4, 2) := by decide +kernel
theorem dL_areTogether_22 : decode cL_areTogether 22 = .ok (.iconst 1, 1) := by decide +kernel
theorem dL_areTogether_23 : decode cL_areTogether 23 = .ok (.ireturn, 1) := by decide +kernel
theorem dL_areTogether_24 : decode cL_areTogether 24 = .ok (.astore 4, 2) := by decide +kernel
theorem dL_areTogether_26 : decode cL_areTogether 26 = .ok (.iconst 2, 1) := by decide +kernel
theorem dL_areTogether_27 : decode cL_areTogether 27 = .ok (.ireturn, 1) := by decide +kernel
theorem dL_areTogether_28 : decode cL_areTogether 28 = .ok (.iconst 0, 1) := by decide +kernel
theorem dL_areTogether_29 : decode cL_areTogether 29 = .ok (.ireturn, 1) := by decide +kernel
set_option maxRecDepth 20000 in
theorem ggL_areMirrored_X0_areMirrored : GoodIn wsL_areMirrored wsX0_areMirrored := goodIn_ca (goodIn_ca (goodIn_r _ [7, 8, 9, 10, 11, 6, 12, 13, 14, 15, 16, 17, 18, 19, 20, 21, 22, 23, 24, 25, 26, 27, 28, 29, 30, 31, 32, 33] (by decide +kernel) (by decide +kernel)) (goodIn_sub (fun _ h => List.mem_cons_of_mem _ (List.mem_append_left _ (List.mem_append_right _ h))) (by decide +kernel))) (goodIn_sub (fun _ h => List.mem_cons_of_mem _ (List.mem_append_right _ h)) (by decide +kernel))
set_option maxRecDepth 20000 in
theorem gL_areMirrored_X0_areMirrored : GoodIn wsL_areMirrored (wsV RL 61 RX0 yX0_areMirrored wsX0_areMirrored) := goodIn_app (goodIn_of _ (by decide +kernel)) ggL_areMirrored_X0_areMirrored
theorem dL_areMirrored_0 : decode cL_areMirrored 0 = .ok (.aload_n 3, 1) := by decide +kernel
theorem dL_areMirrored_1 : decode cL_areMirrored 1 = .ok (.iconst 0, 1) := by decide +kernel
theorem dL_areMirrored_2 : decode cL_areMirrored 2 = .ok (.aload_n 0, 1) := by decide +kernel
theorem dL_areMirrored_3 : decode cL_areMirrored 3 = .ok (.iload_n 1, 1) := by decide +kernel
theorem dL_areMirrored_4 : decode cL_areMirrored 4 = .ok (.iload_n 2, 1) := by decide +kernel
theorem dL_areMirrored_5 : decode cL_areMirrored 5 = .ok (.invokevirtual 61, 3) := by decide +kernel
theorem dL_areMirrored_8 : decode cL_areMirrored 8 = .ok (.ifCond .eq 7, 3) := by decide +kernel
theorem dL_areMirrored_11 : decode cL_areMirrored 11 = .ok (.lconst 1, 1) := by decide +kernel
theorem dL_areMirrored_12 : decode cL_areMirrored 12 = .ok (.goto 4, 3) := by decide +kernel
theorem dL_areMirrored_15 : decode cL_areMirrored 15 = .ok (.lconst 0, 1) := by decide +kernel
theorem dL_areMirrored_16 : decode cL_areMirrored 16 = .ok (.lastore, 1) := by decide +kernel
theorem dL_areMirrored_17 : decode cL_areMirrored 17 = .ok (.goto 11, 3) := by decide +kernel
theorem dL_areMirrored_20 : decode cL_areMirrored 20 = .ok (.astore 4, 2) := by decide +kernel
theorem dL_areMirrored_22 : decode cL_areMirrored 22 = .ok (.iconst 1, 1) := by decide +kernel
theorem dL_areMirrored_23 : decode cL_areMirrored 23 = .ok (.ireturn, 1) := by decide +kernel
theorem dL_areMirrored_24 : decode cL_areMirrored 24 = .ok (.astore 4, 2) := by decide +kernel
theorem dL_areMirrored_26 : decode cL_areMirrored 26 = .ok (.iconst 2, 1) := by decide +kernel
theorem dL_areMirrored_27 : decode cL_areMirrored 27 = .ok (.ireturn, 1) := by decide +kernel
theorem dL_areMirrored_28 : decode cL_areMirrored 28 = .ok (.iconst 0, 1) := by decide +kernel
theorem dL_areMirrored_29 : decode cL_areMirrored 29 = .ok (.ireturn, 1) := by decide +kernel
set_option maxRecDepth 20000 in
theorem ggL_coincidencesAt_X0_coincidencesAt : GoodIn wsL_coincidencesAt wsX0_coincidencesAt := goodIn_ca (goodIn_r _ [6, 7, 8, 9, 10, 5, 11, 12, 13, 14, 15, 16, 17, 18, 19, 20, 21, 22, 23, 24, 25, 26, 27, 28, 29, 30, 31, 32, 33, 34, 35, 36, 37, 38, 39, 40, 41, 42, 43, 44, 45, 46, 47] (by decide +kernel) (by decide +kernel)) (goodIn_sub (fun _ h => List.mem_cons_of_mem _ (List.mem_append_right _ h)) (by decide +kernel))
set_option maxRecDepth 20000 in
theorem gL_coincidencesAt_X0_coincidencesAt : GoodIn wsL_coincidencesAt (wsV RL 64 RX0 yX0_coincidencesAt wsX0_coincidencesAt) := goodIn_app (goodIn_of _ (by decide +kernel)) ggL_coincidencesAt_X0_coincidencesAt
theorem dL_coincidencesAt_0 : decode cL_coincidencesAt 0 = .ok (.aload_n 2, 1) := by decide +kernel
theorem dL_coincidencesAt_1 : decode cL_coincidencesAt 1 = .ok (.iconst 0, 1) := by decide +kernel
theorem dL_coincidencesAt_2 : decode cL_coincidencesAt 2 = .ok (.aload_n 0, 1) := by decide +kernel
theorem dL_coincidencesAt_3 : decode cL_coincidencesAt 3 = .ok (.iload_n 1, 1) := by decide +kernel
theorem dL_coincidencesAt_4 : decode cL_coincidencesAt 4 = .ok (.invokevirtual 64, 3) := by decide +kernel
theorem dL_coincidencesAt_7 : decode cL_coincidencesAt 7 = .ok (.i2l, 1) := by decide +kernel
theorem dL_coincidencesAt_8 : decode cL_coincidencesAt 8 = .ok (.lastore, 1) := by decide +kernel
theorem dL_coincidencesAt_9 : decode cL_coincidencesAt 9 = .ok (.goto 6, 3) := by decide +kernel
theorem dL_coincidencesAt_12 : decode cL_coincidencesAt 12 = .ok (.astore_n 3, 1) := by decide +kernel
theorem dL_coincidencesAt_13 : decode cL_coincidencesAt 13 = .ok (.iconst 1, 1) := by decide +kernel
theorem dL_coincidencesAt_14 : decode cL_coincidencesAt 14 = .ok (.ireturn, 1) := by decide +kernel
theorem dL_coincidencesAt_15 : decode cL_coincidencesAt 15 = .ok (.iconst 0, 1) := by decide +kernel
theorem dL_coincidencesAt_16 : decode cL_coincidencesAt 16 = .ok (.ireturn, 1) := by decide +kernel
set_option maxRecDepth 20000 in
theorem ggL_luckOf_X0_luckOf : GoodIn wsL_luckOf wsX0_luckOf := goodIn_ca (goodIn_r _ [6, 7, 8, 9, 5, 10, 11, 12, 13, 14, 15, 16, 17, 18, 19, 20, 21, 22, 23, 24, 25, 26, 27, 28, 29, 30, 31, 32, 33, 34, 35, 36, 37, 38, 39, 40, 41, 42, 43, 44, 45, 46, 47, 48, 49] (by decide +kernel) (by decide +kernel)) (goodIn_sub (fun _ h => List.mem_cons_of_mem _ (List.mem_append_right _ h)) (by decide +kernel))
set_option maxRecDepth 20000 in
theorem gL_luckOf_X0_luckOf : GoodIn wsL_luckOf (wsV RL 67 RX0 yX0_luckOf wsX0_luckOf) := goodIn_app (goodIn_of _ (by decide +kernel)) ggL_luckOf_X0_luckOf
theorem dL_luckOf_0 : decode cL_luckOf 0 = .ok (.aload_n 2, 1) := by decide +kernel
theorem dL_luckOf_1 : decode cL_luckOf 1 = .ok (.iconst 0, 1) := by decide +kernel
theorem dL_luckOf_2 : decode cL_luckOf 2 = .ok (.aload_n 0, 1) := by decide +kernel
theorem dL_luckOf_3 : decode cL_luckOf 3 = .ok (.iload_n 1, 1) := by decide +kernel
theorem dL_luckOf_4 : decode cL_luckOf 4 = .ok (.invokevirtual 67, 3) := by decide +kernel
theorem dL_luckOf_7 : decode cL_luckOf 7 = .ok (.i2l, 1) := by decide +kernel
theorem dL_luckOf_8 : decode cL_luckOf 8 = .ok (.lastore, 1) := by decide +kernel
theorem dL_luckOf_9 : decode cL_luckOf 9 = .ok (.goto 6, 3) := by decide +kernel
theorem dL_luckOf_12 : decode cL_luckOf 12 = .ok (.astore_n 3, 1) := by decide +kernel
theorem dL_luckOf_13 : decode cL_luckOf 13 = .ok (.iconst 1, 1) := by decide +kernel
theorem dL_luckOf_14 : decode cL_luckOf 14 = .ok (.ireturn, 1) := by decide +kernel
theorem dL_luckOf_15 : decode cL_luckOf 15 = .ok (.iconst 0, 1) := by decide +kernel
theorem dL_luckOf_16 : decode cL_luckOf 16 = .ok (.ireturn, 1) := by decide +kernel
set_option maxRecDepth 20000 in
theorem ggL_coincidencesIn_X0_coincidencesIn : GoodIn wsL_coincidencesIn wsX0_coincidencesIn := goodIn_ca (goodIn_r _ [6, 7, 8, 9, 10, 11, 5, 12, 13, 14, 15, 16, 17, 18, 19, 20, 21, 22, 23, 24, 25, 26, 27, 28, 29, 30, 31, 32, 33, 34, 35, 36, 37, 38, 39, 40, 41, 42, 43, 44, 45, 46, 47, 48, 49, 50] (by decide +kernel) (by decide +kernel)) (goodIn_sub (fun _ h => List.mem_cons_of_mem _ (List.mem_append_right _ h)) (by decide +kernel))
set_option maxRecDepth 20000 in
theorem gL_coincidencesIn_X0_coincidencesIn : GoodIn wsL_coincidencesIn (wsV RL 70 RX0 yX0_coincidencesIn wsX0_coincidencesIn) := goodIn_app (goodIn_of _ (by decide +kernel)) ggL_coincidencesIn_X0_coincidencesIn
theorem dL_coincidencesIn_0 : decode cL_coincidencesIn 0 = .ok (.aload_n 2, 1) := by decide +kernel
theorem dL_coincidencesIn_1 : decode cL_coincidencesIn 1 = .ok (.iconst 0, 1) := by decide +kernel
theorem dL_coincidencesIn_2 : decode cL_coincidencesIn 2 = .ok (.aload_n 0, 1) := by decide +kernel
theorem dL_coincidencesIn_3 : decode cL_coincidencesIn 3 = .ok (.iload_n 1, 1) := by decide +kernel
theorem dL_coincidencesIn_4 : decode cL_coincidencesIn 4 = .ok (.invokevirtual 70, 3) := by decide +kernel
theorem dL_coincidencesIn_7 : decode cL_coincidencesIn 7 = .ok (.i2l, 1) := by decide +kernel
theorem dL_coincidencesIn_8 : decode cL_coincidencesIn 8 = .ok (.lastore, 1) := by decide +kernel
theorem dL_coincidencesIn_9 : decode cL_coincidencesIn 9 = .ok (.goto 6, 3) := by decide +kernel
theorem dL_coincidencesIn_12 : decode cL_coincidencesIn 12 = .ok (.astore_n 3, 1) := by decide +kernel
theorem dL_coincidencesIn_13 : decode cL_coincidencesIn 13 = .ok (.iconst 1, 1) := by decide +kernel
theorem dL_coincidencesIn_14 : decode cL_coincidencesIn 14 = .ok (.ireturn, 1) := by decide +kernel
theorem dL_coincidencesIn_15 : decode cL_coincidencesIn 15 = .ok (.iconst 0, 1) := by decide +kernel
theorem dL_coincidencesIn_16 : decode cL_coincidencesIn 16 = .ok (.ireturn, 1) := by decide +kernel
set_option maxRecDepth 20000 in
theorem ggL_hoursUntilTogether_X0_hoursUntilTogether : GoodIn wsL_hoursUntilTogether wsX0_hoursUntilTogether := goodIn_ca (goodIn_ca (goodIn_r _ [7, 8, 9, 10, 6, 11, 12, 13, 14, 15, 16, 17, 18, 19, 20, 21, 22, 23, 24, 25, 26, 27, 28, 29, 30, 31, 32, 33, 34, 35] (by decide +kernel) (by decide +kernel)) (goodIn_sub (fun _ h => List.mem_cons_of_mem _ (List.mem_append_left _ (List.mem_append_right _ h))) (by decide +kernel))) (goodIn_sub (fun _ h => List.mem_cons_of_mem _ (List.mem_append_right _ h)) (by decide +kernel))
set_option maxRecDepth 20000 in
theorem gL_hoursUntilTogether_X0_hoursUntilTogether : GoodIn wsL_hoursUntilTogether (wsV RL 73 RX0 yX0_hoursUntilTogether wsX0_hoursUntilTogether) := goodIn_app (goodIn_of _ (by decide +kernel)) ggL_hoursUntilTogether_X0_hoursUntilTogether
theorem dL_hoursUntilTogether_0 : decode cL_hoursUntilTogether 0 = .ok (.aload_n 3, 1) := by decide +kernel
theorem dL_hoursUntilTogether_1 : decode cL_hoursUntilTogether 1 = .ok (.iconst 0, 1) := by decide +kernel
theorem dL_hoursUntilTogether_2 : decode cL_hoursUntilTogether 2 = .ok (.aload_n 0, 1) := by decide +kernel
theorem dL_hoursUntilTogether_3 : decode cL_hoursUntilTogether 3 = .ok (.iload_n 1, 1) := by decide +kernel
theorem dL_hoursUntilTogether_4 : decode cL_hoursUntilTogether 4 = .ok (.iload_n 2, 1) := by decide +kernel
theorem dL_hoursUntilTogether_5 : decode cL_hoursUntilTogether 5 = .ok (.invokevirtual 73, 3) := by decide +kernel
theorem dL_hoursUntilTogether_8 : decode cL_hoursUntilTogether 8 = .ok (.i2l, 1) := by decide +kernel
theorem dL_hoursUntilTogether_9 : decode cL_hoursUntilTogether 9 = .ok (.lastore, 1) := by decide +kernel
theorem dL_hoursUntilTogether_10 : decode cL_hoursUntilTogether 10 = .ok (.goto 11, 3) := by decide +kernel
theorem dL_hoursUntilTogether_13 : decode cL_hoursUntilTogether 13 = .ok (.astore 4, 2) := by decide +kernel
theorem dL_hoursUntilTogether_15 : decode cL_hoursUntilTogether 15 = .ok (.iconst 1, 1) := by decide +kernel
theorem dL_hoursUntilTogether_16 : decode cL_hoursUntilTogether 16 = .ok (.ireturn, 1) := by decide +kernel
theorem dL_hoursUntilTogether_17 : decode cL_hoursUntilTogether 17 = .ok (.astore 4, 2) := by decide +kernel
theorem dL_hoursUntilTogether_19 : decode cL_hoursUntilTogether 19 = .ok (.iconst 2, 1) := by decide +kernel
theorem dL_hoursUntilTogether_20 : decode cL_hoursUntilTogether 20 = .ok (.ireturn, 1) := by decide +kernel
theorem dL_hoursUntilTogether_21 : decode cL_hoursUntilTogether 21 = .ok (.iconst 0, 1) := by decide +kernel
theorem dL_hoursUntilTogether_22 : decode cL_hoursUntilTogether 22 = .ok (.ireturn, 1) := by decide +kernel
set_option maxRecDepth 20000 in
theorem ggL_costOfMeeting_X0_costOfMeeting : GoodIn wsL_costOfMeeting wsX0_costOfMeeting := goodIn_ca (goodIn_ca (goodIn_r _ [7, 8, 9, 10, 11, 6, 12, 13, 14, 15, 16, 17, 18, 19, 20, 21, 22, 23, 24, 25, 26, 27, 28, 29, 30, 31, 32, 33, 34, 35, 36, 37, 38, 39, 40] (by decide +kernel) (by decide +kernel)) (goodIn_sub (fun _ h => List.mem_cons_of_mem _ (List.mem_append_left _ (List.mem_append_right _ h))) (by decide +kernel))) (goodIn_sub (fun _ h => List.mem_cons_of_mem _ (List.mem_append_right _ h)) (by decide +kernel))
set_option maxRecDepth 20000 in
theorem gL_costOfMeeting_X0_costOfMeeting : GoodIn wsL_costOfMeeting (wsV RL 76 RX0 yX0_costOfMeeting wsX0_costOfMeeting) := goodIn_app (goodIn_of _ (by decide +kernel)) ggL_costOfMeeting_X0_costOfMeeting
theorem dL_costOfMeeting_0 : decode cL_costOfMeeting 0 = .ok (.aload_n 3, 1) := by decide +kernel
theorem dL_costOfMeeting_1 : decode cL_costOfMeeting 1 = .ok (.iconst 0, 1) := by decide +kernel
theorem dL_costOfMeeting_2 : decode cL_costOfMeeting 2 = .ok (.aload_n 0, 1) := by decide +kernel
theorem dL_costOfMeeting_3 : decode cL_costOfMeeting 3 = .ok (.iload_n 1, 1) := by decide +kernel
theorem dL_costOfMeeting_4 : decode cL_costOfMeeting 4 = .ok (.iload_n 2, 1) := by decide +kernel
theorem dL_costOfMeeting_5 : decode cL_costOfMeeting 5 = .ok (.invokevirtual 76, 3) := by decide +kernel
theorem dL_costOfMeeting_8 : decode cL_costOfMeeting 8 = .ok (.i2l, 1) := by decide +kernel
theorem dL_costOfMeeting_9 : decode cL_costOfMeeting 9 = .ok (.lastore, 1) := by decide +kernel
theorem dL_costOfMeeting_10 : decode cL_costOfMeeting 10 = .ok (.goto 11, 3) := by decide +kernel
theorem dL_costOfMeeting_13 : decode cL_costOfMeeting 13 = .ok (.astore 4, 2) := by decide +kernel
theorem dL_costOfMeeting_15 : decode cL_costOfMeeting 15 = .ok (.iconst 1, 1) := by decide +kernel
theorem dL_costOfMeeting_16 : decode cL_costOfMeeting 16 = .ok (.ireturn, 1) := by decide +kernel
theorem dL_costOfMeeting_17 : decode cL_costOfMeeting 17 = .ok (.astore 4, 2) := by decide +kernel
theorem dL_costOfMeeting_19 : decode cL_costOfMeeting 19 = .ok (.iconst 2, 1) := by decide +kernel
theorem dL_costOfMeeting_20 : decode cL_costOfMeeting 20 = .ok (.ireturn, 1) := by decide +kernel
theorem dL_costOfMeeting_21 : decode cL_costOfMeeting 21 = .ok (.iconst 0, 1) := by decide +kernel
theorem dL_costOfMeeting_22 : decode cL_costOfMeeting 22 = .ok (.ireturn, 1) := by decide +kernel
set_option maxRecDepth 20000 in
theorem ggL_bestCorner_X0_bestCorner : GoodIn wsL_bestCorner wsX0_bestCorner := goodIn_ca (goodIn_r _ [6, 7, 8, 9, 10, 5, 11, 12, 13, 14, 15, 16, 17, 18, 19, 20, 21, 22, 23, 24, 25, 26, 27, 28, 29, 30, 31, 32, 33, 34, 35, 36, 37, 38, 39, 40, 41, 42, 43, 44, 45] (by decide +kernel) (by decide +kernel)) (goodIn_sub (fun _ h => List.mem_cons_of_mem _ (List.mem_append_right _ h)) (by decide +kernel))
set_option maxRecDepth 20000 in
theorem gL_bestCorner_X0_bestCorner : GoodIn wsL_bestCorner (wsV RL 79 RX0 yX0_bestCorner wsX0_bestCorner) := goodIn_app (goodIn_of _ (by decide +kernel)) ggL_bestCorner_X0_bestCorner
theorem dL_bestCorner_0 : decode cL_bestCorner 0 = .ok (.aload_n 2, 1) := by decide +kernel
theorem dL_bestCorner_1 : decode cL_bestCorner 1 = .ok (.iconst 0, 1) := by decide +kernel
theorem dL_bestCorner_2 : decode cL_bestCorner 2 = .ok (.aload_n 0, 1) := by decide +kernel
theorem dL_bestCorner_3 : decode cL_bestCorner 3 = .ok (.iload_n 1, 1) := by decide +kernel
theorem dL_bestCorner_4 : decode cL_bestCorner 4 = .ok (.invokevirtual 79, 3) := by decide +kernel
theorem dL_bestCorner_7 : decode cL_bestCorner 7 = .ok (.i2l, 1) := by decide +kernel
theorem dL_bestCorner_8 : decode cL_bestCorner 8 = .ok (.lastore, 1) := by decide +kernel
theorem dL_bestCorner_9 : decode cL_bestCorner 9 = .ok (.goto 6, 3) := by decide +kernel
theorem dL_bestCorner_12 : decode cL_bestCorner 12 = .ok (.astore_n 3, 1) := by decide +kernel
theorem dL_bestCorner_13 : decode cL_bestCorner 13 = .ok (.iconst 1, 1) := by decide +kernel
theorem dL_bestCorner_14 : decode cL_bestCorner 14 = .ok (.ireturn, 1) := by decide +kernel
theorem dL_bestCorner_15 : decode cL_bestCorner 15 = .ok (.iconst 0, 1) := by decide +kernel
theorem dL_bestCorner_16 : decode cL_bestCorner 16 = .ok (.ireturn, 1) := by decide +kernel
set_option maxRecDepth 20000 in
theorem ggL_bestTicket_X0_bestTicket : GoodIn wsL_bestTicket wsX0_bestTicket := goodIn_ca (goodIn_r _ [6, 7, 8, 9, 10, 5, 11, 12, 13, 14, 15, 16, 17, 18, 19, 20, 21, 22, 23, 24, 25, 26, 27, 28, 29, 30, 31, 32, 33, 34, 35, 36, 37, 38, 39, 40, 41, 42, 43, 44, 45] (by decide +kernel) (by decide +kernel)) (goodIn_sub (fun _ h => List.mem_cons_of_mem _ (List.mem_append_right _ h)) (by decide +kernel))
set_option maxRecDepth 20000 in
theorem gL_bestTicket_X0_bestTicket : GoodIn wsL_bestTicket (wsV RL 82 RX0 yX0_bestTicket wsX0_bestTicket) := goodIn_app (goodIn_of _ (by decide +kernel)) ggL_bestTicket_X0_bestTicket
theorem dL_bestTicket_0 : decode cL_bestTicket 0 = .ok (.aload_n 2, 1) := by decide +kernel
theorem dL_bestTicket_1 : decode cL_bestTicket 1 = .ok (.iconst 0, 1) := by decide +kernel
theorem dL_bestTicket_2 : decode cL_bestTicket 2 = .ok (.aload_n 0, 1) := by decide +kernel
theorem dL_bestTicket_3 : decode cL_bestTicket 3 = .ok (.iload_n 1, 1) := by decide +kernel
theorem dL_bestTicket_4 : decode cL_bestTicket 4 = .ok (.invokevirtual 82, 3) := by decide +kernel
theorem dL_bestTicket_7 : decode cL_bestTicket 7 = .ok (.i2l, 1) := by decide +kernel
theorem dL_bestTicket_8 : decode cL_bestTicket 8 = .ok (.lastore, 1) := by decide +kernel
theorem dL_bestTicket_9 : decode cL_bestTicket 9 = .ok (.goto 6, 3) := by decide +kernel
theorem dL_bestTicket_12 : decode cL_bestTicket 12 = .ok (.astore_n 3, 1) := by decide +kernel
theorem dL_bestTicket_13 : decode cL_bestTicket 13 = .ok (.iconst 1, 1) := by decide +kernel
theorem dL_bestTicket_14 : decode cL_bestTicket 14 = .ok (.ireturn, 1) := by decide +kernel
theorem dL_bestTicket_15 : decode cL_bestTicket 15 = .ok (.iconst 0, 1) := by decide +kernel
theorem dL_bestTicket_16 : decode cL_bestTicket 16 = .ok (.ireturn, 1) := by decide +kernel
set_option maxRecDepth 20000 in
theorem ggL_law_X0_init : GoodIn wsL_law wsX0_init := goodIn_r _ [9, 10, 11, 12, 13, 14, 15, 16, 17, 18, 19, 20, 21, 22, 576, 577, 578, 579, 580, 581, 582, 583, 584] (by decide +kernel) (by decide +kernel)
set_option maxRecDepth 20000 in
theorem gL_law_X0_init : GoodIn wsL_law (wsX0_init) := ggL_law_X0_init
set_option maxRecDepth 20000 in
theorem ggL_law_X1_init : GoodIn wsL_law wsX1_init := goodIn_r _ [25, 26, 11, 12, 13, 27, 28, 29, 30, 31, 585, 586, 587, 588, 589, 590, 591, 592, 593, 594] (by decide +kernel) (by decide +kernel)
set_option maxRecDepth 20000 in
theorem gL_law_X1_init : GoodIn wsL_law (wsX1_init) := ggL_law_X1_init
set_option maxRecDepth 20000 in
theorem ggL_law_L_addStranger : GoodIn wsL_law wsL_addStranger := goodIn_ca (goodIn_ca (goodIn_r _ [35, 36, 37, 38, 39, 40, 2, 41, 42, 43, 44, 45, 18, 14, 15, 16, 17, 46, 47, 48, 49, 50, 51, 52, 53, 54, 55, 56, 57, 576, 577, 578, 579, 580, 581, 582, 583, 584] (by decide +kernel) (by decide +kernel)) (goodIn_sub (fun _ h => List.mem_append_left _ (List.mem_append_left _ (List.mem_append_right _ h))) (by decide +kernel))) (goodIn_sub (fun _ h => List.mem_append_left _ (List.mem_append_right _ h)) (by decide +kernel))
set_option maxRecDepth 20000 in
theorem gL_law_L_addStranger : GoodIn wsL_law (va_wsS RL 89 yL_addStranger wsL_addStranger) := goodIn_app (goodIn_of _ (by decide +kernel)) ggL_law_L_addStranger
set_option maxRecDepth 20000 in
theorem ggL_law_X1_addStranger : GoodIn wsL_law wsX1_addStranger := goodIn_r _ [61, 62, 63, 27, 28, 29, 30, 64, 65, 5, 66, 67, 68, 69, 70, 71, 72, 73, 585, 586, 587, 588, 589, 590, 591, 592, 593, 594] (by decide +kernel) (by decide +kernel)
set_option maxRecDepth 20000 in
theorem gL_law_X1_addStranger : GoodIn wsL_law (wsV RL 94 RX1 yX1_addStranger wsX1_addStranger) := goodIn_app (goodIn_of _ (by decide +kernel)) ggL_law_X1_addStranger
set_option maxRecDepth 20000 in
theorem ggL_law_X1_thrown : GoodIn wsL_law wsX1_thrown := goodIn_r _ [77, 62, 585, 586, 587, 588, 589, 590, 591, 592, 593, 594] (by decide +kernel) (by decide +kernel)
set_option maxRecDepth 20000 in
theorem gL_law_X1_thrown : GoodIn wsL_law (wsV RL 95 RX1 yX1_thrown wsX1_thrown) := goodIn_app (goodIn_of _ (by decide +kernel)) ggL_law_X1_thrown
set_option maxRecDepth 20000 in
theorem ggL_law_L_setWalk : GoodIn wsL_law wsL_setWalk := goodIn_ca (goodIn_ca (goodIn_r _ [80, 81, 36, 82, 83, 84, 2, 85, 42, 43, 17, 86, 87, 88, 89, 90, 91, 18, 55, 56, 57, 576, 577, 578, 579, 580, 581, 582, 583, 584] (by decide +kernel) (by decide +kernel)) (goodIn_sub (fun _ h => List.mem_append_left _ (List.mem_append_left _ (List.mem_append_right _ h))) (by decide +kernel))) (goodIn_sub (fun _ h => List.mem_append_right _ h) (by decide +kernel))
set_option maxRecDepth 20000 in
theorem gL_law_L_setWalk : GoodIn wsL_law (va_wsS RL 99 yL_setWalk wsL_setWalk) := goodIn_app (goodIn_of _ (by decide +kernel)) ggL_law_L_setWalk
set_option maxRecDepth 20000 in
theorem ggL_law_X1_setWalk : GoodIn wsL_law wsX1_setWalk := goodIn_r _ [95, 62, 30, 96, 97, 98, 5, 99, 63, 64, 65, 66, 70, 71, 72, 73, 67, 68, 69, 585, 586, 587, 588, 589, 590, 591, 592, 593, 594] (by decide +kernel) (by decide +kernel)
set_option maxRecDepth 20000 in
theorem gL_law_X1_setWalk : GoodIn wsL_law (wsV RL 102 RX1 yX1_setWalk wsX1_setWalk) := goodIn_app (goodIn_of _ (by decide +kernel)) ggL_law_X1_setWalk
set_option maxRecDepth 20000 in
theorem ggL_law_L_move : GoodIn wsL_law wsL_move := goodIn_ca (goodIn_ca (goodIn_ca (goodIn_r _ [102, 81, 36, 37, 103, 104, 105, 2, 106, 42, 43, 44, 45, 16, 86, 87, 88, 89, 90, 91, 18, 52, 53, 54, 107, 108, 109, 110, 111, 112, 113, 114, 115, 116, 117, 118, 119, 120, 20, 22, 576, 577, 578, 579, 580, 581, 582, 583, 584] (by decide +kernel) (by decide +kernel)) (goodIn_sub (fun _ h => List.mem_append_left _ (List.mem_append_left _ (List.mem_append_right _ h))) (by decide +kernel))) (goodIn_sub (fun _ h => List.mem_append_left _ (List.mem_append_right _ h)) (by decide +kernel))) (goodIn_sub (fun _ h => List.mem_append_right _ h) (by decide +kernel))
set_option maxRecDepth 20000 in
theorem gL_law_L_move : GoodIn wsL_law (va_wsS RL 103 yL_move wsL_move) := goodIn_app (goodIn_of _ (by decide +kernel)) ggL_law_L_move
set_option maxRecDepth 20000 in
theorem ggL_law_X1_move : GoodIn wsL_law wsX1_move := goodIn_r _ [124, 62, 29, 31, 96, 97, 98, 5, 99, 63, 64, 65, 66, 70, 71, 72, 73, 67, 68, 69, 125, 126, 127, 128, 111, 112, 113, 129, 115, 116, 130, 131, 132, 133, 134, 585, 586, 587, 588, 589, 590, 591, 592, 593, 594] (by decide +kernel) (by decide +kernel)
set_option maxRecDepth 20000 in
theorem gL_law_X1_move : GoodIn wsL_law (wsV RL 105 RX1 yX1_move wsX1_move) := goodIn_app (goodIn_of _ (by decide +kernel)) ggL_law_X1_move
set_option maxRecDepth 20000 in
theorem ggL_law_L_swapUmbrellas : GoodIn wsL_law wsL_swapUmbrellas := goodIn_ca (goodIn_ca (goodIn_ca (goodIn_r _ [137, 81, 36, 37, 138, 139, 140, 2, 141, 44, 45, 16, 15, 142, 143, 144, 145, 42, 43, 86, 87, 88, 89, 90, 91, 18, 117, 118, 119, 120, 20, 22, 146, 147, 148, 149, 150, 151, 152, 153, 17, 154, 155, 156, 157, 14, 158, 159, 160, 110, 111, 112, 113, 161, 162, 163, 164, 165, 166, 167, 168, 169, 170, 171, 172, 576, 577, 578, 579, 580, 581, 582, 583, 584] (by decide +kernel) (by decide +kernel)) (goodIn_sub (fun _ h => List.mem_append_left _ (List.mem_append_right _ h)) (by decide +kernel))) (goodIn_sub (fun _ h => List.mem_append_left _ (List.mem_append_left _ (List.mem_append_right _ h))) (by decide +kernel))) (goodIn_sub (fun _ h => List.mem_append_right _ h) (by decide +kernel))
set_option maxRecDepth 20000 in
theorem gL_law_L_swapUmbrellas : GoodIn wsL_law (va_wsS RL 106 yL_swapUmbrellas wsL_swapUmbrellas) := goodIn_app (goodIn_of _ (by decide +kernel)) ggL_law_L_swapUmbrellas
set_option maxRecDepth 20000 in
theorem ggL_law_X1_swapUmbrellas : GoodIn wsL_law wsX1_swapUmbrellas := goodIn_r _ [176, 62, 29, 31, 28, 177, 178, 179, 5, 180, 96, 97, 98, 99, 63, 64, 65, 66, 70, 71, 72, 73, 130, 131, 132, 133, 134, 181, 182, 183, 184, 185, 186, 187, 188, 189, 190, 191, 192, 193, 194, 195, 196, 30, 197, 198, 199, 200, 27, 201, 202, 203, 204, 205, 206, 585, 586, 587, 588, 589, 590, 591, 592, 593, 594] (by decide +kernel) (by decide +kernel)
set_option maxRecDepth 20000 in
theorem gL_law_X1_swapUmbrellas : GoodIn wsL_law (wsV RL 108 RX1 yX1_swapUmbrellas wsX1_swapUmbrellas) := goodIn_app (goodIn_of _ (by decide +kernel)) ggL_law_X1_swapUmbrellas
set_option maxRecDepth 20000 in
theorem ggL_law_L_swapTickets : GoodIn wsL_law wsL_swapTickets := goodIn_ca (goodIn_ca (goodIn_ca (goodIn_r _ [209, 81, 36, 37, 210, 211, 212, 2, 213, 14, 142, 143, 144, 145, 42, 43, 86, 87, 88, 89, 90, 91, 18, 117, 118, 119, 120, 44, 45, 20, 22, 146, 147, 148, 149, 150, 151, 152, 153, 16, 17, 154, 155, 156, 157, 15, 158, 159, 160, 110, 111, 112, 113, 161, 162, 163, 164, 165, 166, 167, 168, 169, 170, 171, 172, 576, 577, 578, 579, 580, 581, 582, 583, 584] (by decide +kernel) (by decide +kernel)) (goodIn_sub (fun _ h => List.mem_append_left _ (List.mem_append_left _ (List.mem_append_right _ h))) (by decide +kernel))) (goodIn_sub (fun _ h => List.mem_append_right _ h) (by decide +kernel))) (goodIn_sub (fun _ h => List.mem_append_left _ (List.mem_append_right _ h)) (by decide +kernel))
set_option maxRecDepth 20000 in
theorem gL_law_L_swapTickets : GoodIn wsL_law (va_wsS RL 109 yL_swapTickets wsL_swapTickets) := goodIn_app (goodIn_of _ (by decide +kernel)) ggL_law_L_swapTickets
set_option maxRecDepth 20000 in
theorem ggL_law_X1_swapTickets : GoodIn wsL_law wsX1_swapTickets := goodIn_r _ [217, 62, 31, 27, 177, 178, 179, 5, 180, 96, 97, 98, 99, 63, 64, 65, 66, 70, 71, 72, 73, 130, 131, 132, 133, 134, 181, 182, 183, 184, 185, 186, 187, 188, 189, 190, 191, 192, 193, 194, 195, 196, 29, 30, 197, 198, 199, 200, 28, 201, 202, 203, 204, 205, 206, 585, 586, 587, 588, 589, 590, 591, 592, 593, 594] (by decide +kernel) (by decide +kernel)
set_option maxRecDepth 20000 in
theorem gL_law_X1_swapTickets : GoodIn wsL_law (wsV RL 111 RX1 yX1_swapTickets wsX1_swapTickets) := goodIn_app (goodIn_of _ (by decide +kernel)) ggL_law_X1_swapTickets
set_option maxRecDepth 20000 in
theorem ggL_law_L_draw : GoodIn wsL_law wsL_draw := goodIn_ca (goodIn_ca (goodIn_ca (goodIn_r _ [220, 81, 36, 37, 221, 222, 223, 2, 224, 42, 43, 14, 86, 87, 88, 89, 90, 91, 18, 46, 47, 48, 117, 118, 119, 120, 44, 45, 20, 22, 576, 577, 578, 579, 580, 581, 582, 583, 584] (by decide +kernel) (by decide +kernel)) (goodIn_sub (fun _ h => List.mem_append_left _ (List.mem_append_left _ (List.mem_append_right _ h))) (by decide +kernel))) (goodIn_sub (fun _ h => List.mem_append_right _ h) (by decide +kernel))) (goodIn_sub (fun _ h => List.mem_append_left _ (List.mem_append_right _ h)) (by decide +kernel))
set_option maxRecDepth 20000 in
theorem gL_law_L_draw : GoodIn wsL_law (va_wsS RL 112 yL_draw wsL_draw) := goodIn_app (goodIn_of _ (by decide +kernel)) ggL_law_L_draw
set_option maxRecDepth 20000 in
theorem ggL_law_X1_draw : GoodIn wsL_law wsX1_draw := goodIn_r _ [228, 62, 31, 27, 96, 97, 98, 5, 99, 63, 64, 65, 66, 70, 71, 72, 73, 130, 131, 132, 133, 134, 585, 586, 587, 588, 589, 590, 591, 592, 593, 594] (by decide +kernel) (by decide +kernel)
set_option maxRecDepth 20000 in
theorem gL_law_X1_draw : GoodIn wsL_law (wsV RL 114 RX1 yX1_draw wsX1_draw) := goodIn_app (goodIn_of _ (by decide +kernel)) ggL_law_X1_draw
set_option maxRecDepth 20000 in
theorem ggL_law_L_pass : GoodIn wsL_law wsL_pass := goodIn_ca (goodIn_r _ [231, 36, 232, 233, 234, 2, 235, 42, 43, 21, 236, 237, 238, 239, 18, 16, 20, 114, 115, 112, 116, 19, 150, 151, 152, 153, 17, 146, 147, 148, 149, 154, 155, 156, 157, 14, 15, 158, 159, 160, 110, 111, 113, 161, 162, 163, 164, 165, 166, 167, 168, 169, 240, 241, 242, 243, 244, 245, 246, 247, 576, 577, 578, 579, 580, 581, 582, 583, 584] (by decide +kernel) (by decide +kernel)) (goodIn_sub (fun _ h => List.mem_append_left _ (List.mem_append_left _ (List.mem_append_right _ h))) (by decide +kernel))
set_option maxRecDepth 20000 in
theorem gL_law_L_pass : GoodIn wsL_law (va_wsS RL 115 yL_pass wsL_pass) := goodIn_app (goodIn_of _ (by decide +kernel)) ggL_law_L_pass
set_option maxRecDepth 20000 in
theorem ggL_law_X1_pass : GoodIn wsL_law wsX1_pass := goodIn_r _ [251, 62, 252, 64, 65, 5, 66, 70, 71, 72, 73, 253, 254, 255, 256, 63, 29, 31, 257, 193, 194, 195, 196, 30, 185, 186, 187, 188, 189, 190, 191, 192, 197, 198, 199, 200, 27, 28, 201, 202, 203, 258, 259, 260, 261, 585, 586, 587, 588, 589, 590, 591, 592, 593, 594] (by decide +kernel) (by decide +kernel)
set_option maxRecDepth 20000 in
theorem gL_law_X1_pass : GoodIn wsL_law (wsV RL 118 RX1 yX1_pass wsX1_pass) := goodIn_app (goodIn_of _ (by decide +kernel)) ggL_law_X1_pass
set_option maxRecDepth 20000 in
theorem ggL_law_X0_strangers : GoodIn wsL_law wsX0_strangers := goodIn_r _ [265, 18, 576, 577, 578, 579, 580, 581, 582, 583, 584] (by decide +kernel) (by decide +kernel)
set_option maxRecDepth 20000 in
theorem gL_law_X0_strangers : GoodIn wsL_law (wsV RL 119 RX0 yX0_strangers wsX0_strangers) := goodIn_app (goodIn_of _ (by decide +kernel)) ggL_law_X0_strangers
set_option maxRecDepth 20000 in
theorem ggL_law_X1_strangers : GoodIn wsL_law wsX1_strangers := goodIn_r _ [269, 63, 270, 271, 272, 5, 273, 62, 585, 586, 587, 588, 589, 590, 591, 592, 593, 594] (by decide +kernel) (by decide +kernel)
set_option maxRecDepth 20000 in
theorem gL_law_X1_strangers : GoodIn wsL_law (wsV RL 122 RX1 yX1_strangers wsX1_strangers) := goodIn_app (goodIn_of _ (by decide +kernel)) ggL_law_X1_strangers
set_option maxRecDepth 20000 in
theorem ggL_law_X0_hour : GoodIn wsL_law wsX0_hour := goodIn_r _ [277, 19, 576, 577, 578, 579, 580, 581, 582, 583, 584] (by decide +kernel) (by decide +kernel)
set_option maxRecDepth 20000 in
theorem gL_law_X0_hour : GoodIn wsL_law (wsV RL 123 RX0 yX0_hour wsX0_hour) := goodIn_app (goodIn_of _ (by decide +kernel)) ggL_law_X0_hour
set_option maxRecDepth 20000 in
theorem ggL_law_X1_hour : GoodIn wsL_law wsX1_hour := goodIn_r _ [281, 257, 270, 271, 272, 5, 273, 62, 585, 586, 587, 588, 589, 590, 591, 592, 593, 594] (by decide +kernel) (by decide +kernel)
set_option maxRecDepth 20000 in
theorem gL_law_X1_hour : GoodIn wsL_law (wsV RL 126 RX1 yX1_hour wsX1_hour) := goodIn_app (goodIn_of _ (by decide +kernel)) ggL_law_X1_hour
set_option maxRecDepth 20000 in
theorem ggL_law_X0_store : GoodIn wsL_law wsX0_store := goodIn_r _ [285, 20, 576, 577, 578, 579, 580, 581, 582, 583, 584] (by decide +kernel) (by decide +kernel)
set_option maxRecDepth 20000 in
theorem gL_law_X0_store : GoodIn wsL_law (wsV RL 127 RX0 yX0_store wsX0_store) := goodIn_app (goodIn_of _ (by decide +kernel)) ggL_law_X0_store
set_option maxRecDepth 20000 in
theorem ggL_law_X1_store : GoodIn wsL_law wsX1_store := goodIn_r _ [289, 31, 270, 271, 272, 5, 273, 62, 585, 586, 587, 588, 589, 590, 591, 592, 593, 594] (by decide +kernel) (by decide +kernel)
set_option maxRecDepth 20000 in
theorem gL_law_X1_store : GoodIn wsL_law (wsV RL 130 RX1 yX1_store wsX1_store) := goodIn_app (goodIn_of _ (by decide +kernel)) ggL_law_X1_store
set_option maxRecDepth 20000 in
theorem ggL_law_X0_counted : GoodIn wsL_law wsX0_counted := goodIn_r _ [293, 21, 576, 577, 578, 579, 580, 581, 582, 583, 584] (by decide +kernel) (by decide +kernel)
set_option maxRecDepth 20000 in
theorem gL_law_X0_counted : GoodIn wsL_law (wsV RL 131 RX0 yX0_counted wsX0_counted) := goodIn_app (goodIn_of _ (by decide +kernel)) ggL_law_X0_counted
set_option maxRecDepth 20000 in
theorem ggL_law_X1_counted : GoodIn wsL_law wsX1_counted := goodIn_r _ [297, 252, 270, 271, 272, 5, 273, 62, 585, 586, 587, 588, 589, 590, 591, 592, 593, 594] (by decide +kernel) (by decide +kernel)
set_option maxRecDepth 20000 in
theorem gL_law_X1_counted : GoodIn wsL_law (wsV RL 134 RX1 yX1_counted wsX1_counted) := goodIn_app (goodIn_of _ (by decide +kernel)) ggL_law_X1_counted
set_option maxRecDepth 20000 in
theorem ggL_law_X0_spent : GoodIn wsL_law wsX0_spent := goodIn_r _ [301, 22, 576, 577, 578, 579, 580, 581, 582, 583, 584] (by decide +kernel) (by decide +kernel)
set_option maxRecDepth 20000 in
theorem gL_law_X0_spent : GoodIn wsL_law (wsV RL 135 RX0 yX0_spent wsX0_spent) := goodIn_app (goodIn_of _ (by decide +kernel)) ggL_law_X0_spent
set_option maxRecDepth 20000 in
theorem ggL_law_X1_spent : GoodIn wsL_law wsX1_spent := goodIn_r _ [305, 134, 270, 271, 272, 5, 273, 62, 585, 586, 587, 588, 589, 590, 591, 592, 593, 594] (by decide +kernel) (by decide +kernel)
set_option maxRecDepth 20000 in
theorem gL_law_X1_spent : GoodIn wsL_law (wsV RL 138 RX1 yX1_spent wsX1_spent) := goodIn_app (goodIn_of _ (by decide +kernel)) ggL_law_X1_spent
set_option maxRecDepth 20000 in
theorem ggL_law_L_ticketOf : GoodIn wsL_law wsL_ticketOf := goodIn_ca (goodIn_r _ [308, 81, 309, 310, 311, 2, 312, 14, 86, 87, 88, 89, 90, 91, 18, 576, 577, 578, 579, 580, 581, 582, 583, 584] (by decide +kernel) (by decide +kernel)) (goodIn_sub (fun _ h => List.mem_append_right _ h) (by decide +kernel))
set_option maxRecDepth 20000 in
theorem gL_law_L_ticketOf : GoodIn wsL_law (va_wsS RL 139 yL_ticketOf wsL_ticketOf) := goodIn_app (goodIn_of _ (by decide +kernel)) ggL_law_L_ticketOf
set_option maxRecDepth 20000 in
theorem ggL_law_X1_ticketOf : GoodIn wsL_law wsX1_ticketOf := goodIn_r _ [316, 27, 317, 318, 319, 5, 320, 62, 96, 97, 98, 99, 63, 64, 65, 66, 70, 71, 72, 73, 585, 586, 587, 588, 589, 590, 591, 592, 593, 594] (by decide +kernel) (by decide +kernel)
set_option maxRecDepth 20000 in
theorem gL_law_X1_ticketOf : GoodIn wsL_law (wsV RL 141 RX1 yX1_ticketOf wsX1_ticketOf) := goodIn_app (goodIn_of _ (by decide +kernel)) ggL_law_X1_ticketOf
set_option maxRecDepth 20000 in
theorem ggL_law_L_colourOf : GoodIn wsL_law wsL_colourOf := goodIn_ca (goodIn_r _ [323, 81, 324, 325, 326, 2, 327, 15, 86, 87, 88, 89, 90, 91, 18, 576, 577, 578, 579, 580, 581, 582, 583, 584] (by decide +kernel) (by decide +kernel)) (goodIn_sub (fun _ h => List.mem_append_right _ h) (by decide +kernel))
set_option maxRecDepth 20000 in
theorem gL_law_L_colourOf : GoodIn wsL_law (va_wsS RL 142 yL_colourOf wsL_colourOf) := goodIn_app (goodIn_of _ (by decide +kernel)) ggL_law_L_colourOf
set_option maxRecDepth 20000 in
theorem ggL_law_X1_colourOf : GoodIn wsL_law wsX1_colourOf := goodIn_r _ [331, 28, 317, 318, 319, 5, 320, 62, 96, 97, 98, 99, 63, 64, 65, 66, 70, 71, 72, 73, 585, 586, 587, 588, 589, 590, 591, 592, 593, 594] (by decide +kernel) (by decide +kernel)
set_option maxRecDepth 20000 in
theorem gL_law_X1_colourOf : GoodIn wsL_law (wsV RL 144 RX1 yX1_colourOf wsX1_colourOf) := goodIn_app (goodIn_of _ (by decide +kernel)) ggL_law_X1_colourOf
set_option maxRecDepth 20000 in
theorem ggL_law_L_cornerOf : GoodIn wsL_law wsL_cornerOf := goodIn_ca (goodIn_r _ [334, 81, 335, 336, 337, 2, 338, 16, 86, 87, 88, 89, 90, 91, 18, 576, 577, 578, 579, 580, 581, 582, 583, 584] (by decide +kernel) (by decide +kernel)) (goodIn_sub (fun _ h => List.mem_append_right _ h) (by decide +kernel))
set_option maxRecDepth 20000 in
theorem gL_law_L_cornerOf : GoodIn wsL_law (va_wsS RL 145 yL_cornerOf wsL_cornerOf) := goodIn_app (goodIn_of _ (by decide +kernel)) ggL_law_L_cornerOf
set_option maxRecDepth 20000 in
theorem ggL_law_X1_cornerOf : GoodIn wsL_law wsX1_cornerOf := goodIn_r _ [342, 29, 317, 318, 319, 5, 320, 62, 96, 97, 98, 99, 63, 64, 65, 66, 70, 71, 72, 73, 585, 586, 587, 588, 589, 590, 591, 592, 593, 594] (by decide +kernel) (by decide +kernel)
set_option maxRecDepth 20000 in
theorem gL_law_X1_cornerOf : GoodIn wsL_law (wsV RL 147 RX1 yX1_cornerOf wsX1_cornerOf) := goodIn_app (goodIn_of _ (by decide +kernel)) ggL_law_X1_cornerOf
set_option maxRecDepth 20000 in
theorem ggL_law_L_walkOf : GoodIn wsL_law wsL_walkOf := goodIn_ca (goodIn_r _ [345, 81, 346, 347, 348, 2, 349, 17, 86, 87, 88, 89, 90, 91, 18, 576, 577, 578, 579, 580, 581, 582, 583, 584] (by decide +kernel) (by decide +kernel)) (goodIn_sub (fun _ h => List.mem_append_right _ h) (by decide +kernel))
set_option maxRecDepth 20000 in
theorem gL_law_L_walkOf : GoodIn wsL_law (va_wsS RL 148 yL_walkOf wsL_walkOf) := goodIn_app (goodIn_of _ (by decide +kernel)) ggL_law_L_walkOf
set_option maxRecDepth 20000 in
theorem ggL_law_X1_walkOf : GoodIn wsL_law wsX1_walkOf := goodIn_r _ [353, 30, 317, 318, 319, 5, 320, 62, 96, 97, 98, 99, 63, 64, 65, 66, 70, 71, 72, 73, 585, 586, 587, 588, 589, 590, 591, 592, 593, 594] (by decide +kernel) (by decide +kernel)
set_option maxRecDepth 20000 in
theorem gL_law_X1_walkOf : GoodIn wsL_law (wsV RL 150 RX1 yX1_walkOf wsX1_walkOf) := goodIn_app (goodIn_of _ (by decide +kernel)) ggL_law_X1_walkOf
set_option maxRecDepth 20000 in
theorem ggL_law_L_peopleAt : GoodIn wsL_law wsL_peopleAt := goodIn_ca (goodIn_r _ [356, 81, 357, 358, 359, 2, 360, 361, 362, 363, 90, 91, 52, 53, 54, 244, 245, 246, 247, 18, 16, 576, 577, 578, 579, 580, 581, 582, 583, 584] (by decide +kernel) (by decide +kernel)) (goodIn_sub (fun _ h => List.mem_append_right _ h) (by decide +kernel))
set_option maxRecDepth 20000 in
theorem gL_law_L_peopleAt : GoodIn wsL_law (va_wsS RL 151 yL_peopleAt wsL_peopleAt) := goodIn_app (goodIn_of _ (by decide +kernel)) ggL_law_L_peopleAt
set_option maxRecDepth 20000 in
theorem ggL_law_X1_peopleAt : GoodIn wsL_law wsX1_peopleAt := goodIn_r _ [367, 62, 67, 68, 5, 69, 64, 65, 66, 258, 259, 260, 261, 63, 29, 70, 71, 72, 73, 585, 586, 587, 588, 589, 590, 591, 592, 593, 594] (by decide +kernel) (by decide +kernel)
set_option maxRecDepth 20000 in
theorem gL_law_X1_peopleAt : GoodIn wsL_law (wsV RL 153 RX1 yX1_peopleAt wsX1_peopleAt) := goodIn_app (goodIn_of _ (by decide +kernel)) ggL_law_X1_peopleAt
set_option maxRecDepth 20000 in
theorem ggL_law_L_pointsOf : GoodIn wsL_law wsL_pointsOf := goodIn_ca (goodIn_ca (goodIn_r _ [370, 81, 36, 371, 372, 373, 2, 374, 142, 143, 144, 145, 42, 43, 86, 87, 88, 89, 90, 91, 18, 154, 155, 156, 157, 14, 15, 158, 159, 160, 110, 111, 112, 113, 161, 162, 163, 164, 165, 166, 167, 168, 169, 576, 577, 578, 579, 580, 581, 582, 583, 584] (by decide +kernel) (by decide +kernel)) (goodIn_sub (fun _ h => List.mem_append_left _ (List.mem_append_left _ (List.mem_append_right _ h))) (by decide +kernel))) (goodIn_sub (fun _ h => List.mem_append_right _ h) (by decide +kernel))
set_option maxRecDepth 20000 in
theorem gL_law_L_pointsOf : GoodIn wsL_law (va_wsS RL 154 yL_pointsOf wsL_pointsOf) := goodIn_app (goodIn_of _ (by decide +kernel)) ggL_law_L_pointsOf
set_option maxRecDepth 20000 in
theorem ggL_law_X1_pointsOf : GoodIn wsL_law wsX1_pointsOf := goodIn_r _ [378, 62, 177, 178, 179, 5, 180, 96, 97, 98, 99, 63, 64, 65, 66, 197, 198, 199, 200, 27, 28, 201, 202, 203, 585, 586, 587, 588, 589, 590, 591, 592, 593, 594] (by decide +kernel) (by decide +kernel)
set_option maxRecDepth 20000 in
theorem gL_law_X1_pointsOf : GoodIn wsL_law (wsV RL 156 RX1 yX1_pointsOf wsX1_pointsOf) := goodIn_app (goodIn_of _ (by decide +kernel)) ggL_law_X1_pointsOf
set_option maxRecDepth 20000 in
theorem ggL_law_L_areTogether : GoodIn wsL_law wsL_areTogether := goodIn_ca (goodIn_ca (goodIn_r _ [381, 81, 36, 382, 383, 384, 2, 385, 16, 142, 143, 144, 145, 42, 43, 86, 87, 88, 89, 90, 91, 18, 576, 577, 578, 579, 580, 581, 582, 583, 584] (by decide +kernel) (by decide +kernel)) (goodIn_sub (fun _ h => List.mem_append_left _ (List.mem_append_left _ (List.mem_append_right _ h))) (by decide +kernel))) (goodIn_sub (fun _ h => List.mem_append_right _ h) (by decide +kernel))
set_option maxRecDepth 20000 in
theorem gL_law_L_areTogether : GoodIn wsL_law (va_wsS RL 157 yL_areTogether wsL_areTogether) := goodIn_app (goodIn_of _ (by decide +kernel)) ggL_law_L_areTogether
set_option maxRecDepth 20000 in
theorem ggL_law_X1_areTogether : GoodIn wsL_law wsX1_areTogether := goodIn_r _ [389, 62, 29, 177, 178, 179, 5, 180, 96, 97, 98, 99, 63, 64, 65, 66, 585, 586, 587, 588, 589, 590, 591, 592, 593, 594] (by decide +kernel) (by decide +kernel)
set_option maxRecDepth 20000 in
theorem gL_law_X1_areTogether : GoodIn wsL_law (wsV RL 159 RX1 yX1_areTogether wsX1_areTogether) := goodIn_app (goodIn_of _ (by decide +kernel)) ggL_law_X1_areTogether
set_option maxRecDepth 20000 in
theorem ggL_law_L_areMirrored : GoodIn wsL_law wsL_areMirrored := goodIn_ca (goodIn_ca (goodIn_r _ [392, 81, 36, 393, 394, 395, 2, 396, 14, 142, 143, 144, 145, 42, 43, 86, 87, 88, 89, 90, 91, 18, 164, 165, 166, 576, 577, 578, 579, 580, 581, 582, 583, 584] (by decide +kernel) (by decide +kernel)) (goodIn_sub (fun _ h => List.mem_append_left _ (List.mem_append_left _ (List.mem_append_right _ h))) (by decide +kernel))) (goodIn_sub (fun _ h => List.mem_append_right _ h) (by decide +kernel))
set_option maxRecDepth 20000 in
theorem gL_law_L_areMirrored : GoodIn wsL_law (va_wsS RL 160 yL_areMirrored wsL_areMirrored) := goodIn_app (goodIn_of _ (by decide +kernel)) ggL_law_L_areMirrored
set_option maxRecDepth 20000 in
theorem ggL_law_X1_areMirrored : GoodIn wsL_law wsX1_areMirrored := goodIn_r _ [400, 62, 27, 177, 178, 179, 5, 180, 96, 97, 98, 99, 63, 64, 65, 66, 201, 202, 203, 585, 586, 587, 588, 589, 590, 591, 592, 593, 594] (by decide +kernel) (by decide +kernel)
set_option maxRecDepth 20000 in
theorem gL_law_X1_areMirrored : GoodIn wsL_law (wsV RL 162 RX1 yX1_areMirrored wsX1_areMirrored) := goodIn_app (goodIn_of _ (by decide +kernel)) ggL_law_X1_areMirrored
set_option maxRecDepth 20000 in
theorem ggL_law_X0_coincidences : GoodIn wsL_law wsX0_coincidences := goodIn_r _ [404, 146, 147, 148, 2, 149, 18, 150, 151, 152, 153, 16, 17, 154, 155, 156, 157, 14, 15, 158, 159, 160, 110, 111, 112, 113, 161, 162, 163, 164, 165, 166, 167, 168, 169, 576, 577, 578, 579, 580, 581, 582, 583, 584] (by decide +kernel) (by decide +kernel)
set_option maxRecDepth 20000 in
theorem gL_law_X0_coincidences : GoodIn wsL_law (wsV RL 163 RX0 yX0_coincidences wsX0_coincidences) := goodIn_app (goodIn_of _ (by decide +kernel)) ggL_law_X0_coincidences
set_option maxRecDepth 20000 in
theorem ggL_law_X1_coincidences : GoodIn wsL_law wsX1_coincidences := goodIn_r _ [408, 185, 186, 187, 5, 188, 189, 190, 191, 192, 63, 193, 194, 195, 196, 29, 30, 197, 198, 199, 200, 27, 28, 201, 202, 203, 270, 271, 272, 273, 62, 585, 586, 587, 588, 589, 590, 591, 592, 593, 594] (by decide +kernel) (by decide +kernel)
set_option maxRecDepth 20000 in
theorem gL_law_X1_coincidences : GoodIn wsL_law (wsV RL 166 RX1 yX1_coincidences wsX1_coincidences) := goodIn_app (goodIn_of _ (by decide +kernel)) ggL_law_X1_coincidences
set_option maxRecDepth 20000 in
theorem ggL_law_L_coincidencesAt : GoodIn wsL_law wsL_coincidencesAt := goodIn_ca (goodIn_r _ [411, 81, 412, 413, 414, 2, 415, 18, 16, 361, 362, 363, 90, 91, 52, 53, 54, 154, 155, 156, 157, 14, 15, 158, 159, 160, 110, 111, 112, 113, 161, 162, 163, 164, 165, 166, 167, 168, 169, 576, 577, 578, 579, 580, 581, 582, 583, 584] (by decide +kernel) (by decide +kernel)) (goodIn_sub (fun _ h => List.mem_append_right _ h) (by decide +kernel))
set_option maxRecDepth 20000 in
theorem gL_law_L_coincidencesAt : GoodIn wsL_law (va_wsS RL 167 yL_coincidencesAt wsL_coincidencesAt) := goodIn_app (goodIn_of _ (by decide +kernel)) ggL_law_L_coincidencesAt
set_option maxRecDepth 20000 in
theorem ggL_law_X1_coincidencesAt : GoodIn wsL_law wsX1_coincidencesAt := goodIn_r _ [419, 62, 67, 68, 5, 69, 64, 65, 66, 189, 190, 191, 192, 63, 193, 194, 195, 196, 29, 30, 197, 198, 199, 200, 27, 28, 201, 202, 203, 70, 71, 72, 73, 585, 586, 587, 588, 589, 590, 591, 592, 593, 594] (by decide +kernel) (by decide +kernel)
set_option maxRecDepth 20000 in
theorem gL_law_X1_coincidencesAt : GoodIn wsL_law (wsV RL 169 RX1 yX1_coincidencesAt wsX1_coincidencesAt) := goodIn_app (goodIn_of _ (by decide +kernel)) ggL_law_X1_coincidencesAt
set_option maxRecDepth 20000 in
theorem ggL_law_L_luckOf : GoodIn wsL_law wsL_luckOf := goodIn_ca (goodIn_r _ [422, 81, 423, 424, 425, 2, 426, 86, 87, 88, 89, 90, 91, 18, 427, 428, 429, 430, 14, 16, 431, 432, 433, 434, 15, 158, 159, 160, 110, 111, 112, 113, 161, 162, 163, 164, 165, 166, 167, 168, 169, 576, 577, 578, 579, 580, 581, 582, 583, 584] (by decide +kernel) (by decide +kernel)) (goodIn_sub (fun _ h => List.mem_append_right _ h) (by decide +kernel))
set_option maxRecDepth 20000 in
theorem gL_law_L_luckOf : GoodIn wsL_law (va_wsS RL 170 yL_luckOf wsL_luckOf) := goodIn_app (goodIn_of _ (by decide +kernel)) ggL_law_L_luckOf
set_option maxRecDepth 20000 in
theorem ggL_law_X1_luckOf : GoodIn wsL_law wsX1_luckOf := goodIn_r _ [438, 62, 96, 97, 98, 5, 99, 63, 64, 65, 66, 439, 440, 441, 442, 29, 197, 198, 199, 200, 27, 28, 201, 202, 203, 70, 71, 72, 73, 585, 586, 587, 588, 589, 590, 591, 592, 593, 594] (by decide +kernel) (by decide +kernel)
set_option maxRecDepth 20000 in
theorem gL_law_X1_luckOf : GoodIn wsL_law (wsV RL 172 RX1 yX1_luckOf wsX1_luckOf) := goodIn_app (goodIn_of _ (by decide +kernel)) ggL_law_X1_luckOf
set_option maxRecDepth 20000 in
theorem ggL_law_X0_luckiestPair : GoodIn wsL_law wsX0_luckiestPair := goodIn_r _ [446, 18, 154, 155, 156, 2, 157, 14, 15, 158, 159, 160, 110, 111, 112, 113, 161, 162, 163, 164, 165, 166, 167, 168, 169, 576, 577, 578, 579, 580, 581, 582, 583, 584] (by decide +kernel) (by decide +kernel)
set_option maxRecDepth 20000 in
theorem gL_law_X0_luckiestPair : GoodIn wsL_law (wsV RL 173 RX0 yX0_luckiestPair wsX0_luckiestPair) := goodIn_app (goodIn_of _ (by decide +kernel)) ggL_law_X0_luckiestPair
set_option maxRecDepth 20000 in
theorem ggL_law_X1_luckiestPair : GoodIn wsL_law wsX1_luckiestPair := goodIn_r _ [450, 451, 452, 453, 5, 454, 63, 197, 198, 199, 200, 27, 28, 201, 202, 203, 270, 271, 272, 273, 62, 585, 586, 587, 588, 589, 590, 591, 592, 593, 594] (by decide +kernel) (by decide +kernel)
set_option maxRecDepth 20000 in
theorem gL_law_X1_luckiestPair : GoodIn wsL_law (wsV RL 176 RX1 yX1_luckiestPair wsX1_luckiestPair) := goodIn_app (goodIn_of _ (by decide +kernel)) ggL_law_X1_luckiestPair
set_option maxRecDepth 20000 in
theorem ggL_law_L_coincidencesIn : GoodIn wsL_law wsL_coincidencesIn := goodIn_ca (goodIn_r _ [457, 36, 458, 459, 460, 2, 461, 42, 43, 146, 147, 148, 149, 18, 150, 151, 152, 153, 16, 17, 154, 155, 156, 157, 14, 15, 158, 159, 160, 110, 111, 112, 113, 161, 162, 163, 164, 165, 166, 167, 168, 169, 576, 577, 578, 579, 580, 581, 582, 583, 584] (by decide +kernel) (by decide +kernel)) (goodIn_sub (fun _ h => List.mem_append_left _ (List.mem_append_left _ (List.mem_append_right _ h))) (by decide +kernel))
set_option maxRecDepth 20000 in
theorem gL_law_L_coincidencesIn : GoodIn wsL_law (va_wsS RL 177 yL_coincidencesIn wsL_coincidencesIn) := goodIn_app (goodIn_of _ (by decide +kernel)) ggL_law_L_coincidencesIn
set_option maxRecDepth 20000 in
theorem ggL_law_X1_coincidencesIn : GoodIn wsL_law wsX1_coincidencesIn := goodIn_r _ [465, 62, 64, 65, 5, 66, 189, 190, 191, 192, 63, 193, 194, 195, 196, 29, 30, 197, 198, 199, 200, 27, 28, 201, 202, 203, 70, 71, 72, 73, 585, 586, 587, 588, 589, 590, 591, 592, 593, 594] (by decide +kernel) (by decide +kernel)
set_option maxRecDepth 20000 in
theorem gL_law_X1_coincidencesIn : GoodIn wsL_law (wsV RL 179 RX1 yX1_coincidencesIn wsX1_coincidencesIn) := goodIn_app (goodIn_of _ (by decide +kernel)) ggL_law_X1_coincidencesIn
set_option maxRecDepth 20000 in
theorem ggL_law_L_hoursUntilTogether : GoodIn wsL_law wsL_hoursUntilTogether := goodIn_ca (goodIn_ca (goodIn_r _ [468, 81, 36, 469, 470, 471, 2, 472, 142, 143, 144, 145, 42, 43, 86, 87, 88, 89, 90, 91, 18, 150, 151, 152, 153, 16, 17, 576, 577, 578, 579, 580, 581, 582, 583, 584] (by decide +kernel) (by decide +kernel)) (goodIn_sub (fun _ h => List.mem_append_left _ (List.mem_append_left _ (List.mem_append_right _ h))) (by decide +kernel))) (goodIn_sub (fun _ h => List.mem_append_right _ h) (by decide +kernel))
set_option maxRecDepth 20000 in
theorem gL_law_L_hoursUntilTogether : GoodIn wsL_law (va_wsS RL 180 yL_hoursUntilTogether wsL_hoursUntilTogether) := goodIn_app (goodIn_of _ (by decide +kernel)) ggL_law_L_hoursUntilTogether
set_option maxRecDepth 20000 in
theorem ggL_law_X1_hoursUntilTogether : GoodIn wsL_law wsX1_hoursUntilTogether := goodIn_r _ [476, 62, 177, 178, 179, 5, 180, 96, 97, 98, 99, 63, 64, 65, 66, 477, 478, 479, 480, 193, 194, 195, 196, 29, 30, 585, 586, 587, 588, 589, 590, 591, 592, 593, 594] (by decide +kernel) (by decide +kernel)
set_option maxRecDepth 20000 in
theorem gL_law_X1_hoursUntilTogether : GoodIn wsL_law (wsV RL 182 RX1 yX1_hoursUntilTogether wsX1_hoursUntilTogether) := goodIn_app (goodIn_of _ (by decide +kernel)) ggL_law_X1_hoursUntilTogether
set_option maxRecDepth 20000 in
theorem ggL_law_L_costOfMeeting : GoodIn wsL_law wsL_costOfMeeting := goodIn_ca (goodIn_ca (goodIn_r _ [483, 81, 36, 484, 485, 486, 2, 487, 16, 142, 143, 144, 145, 42, 43, 86, 87, 88, 89, 90, 91, 18, 107, 108, 109, 110, 111, 112, 113, 114, 115, 116, 576, 577, 578, 579, 580, 581, 582, 583, 584] (by decide +kernel) (by decide +kernel)) (goodIn_sub (fun _ h => List.mem_append_left _ (List.mem_append_left _ (List.mem_append_right _ h))) (by decide +kernel))) (goodIn_sub (fun _ h => List.mem_append_right _ h) (by decide +kernel))
set_option maxRecDepth 20000 in
theorem gL_law_L_costOfMeeting : GoodIn wsL_law (va_wsS RL 183 yL_costOfMeeting wsL_costOfMeeting) := goodIn_app (goodIn_of _ (by decide +kernel)) ggL_law_L_costOfMeeting
set_option maxRecDepth 20000 in
theorem ggL_law_X1_costOfMeeting : GoodIn wsL_law wsX1_costOfMeeting := goodIn_r _ [491, 62, 29, 177, 178, 179, 5, 180, 96, 97, 98, 99, 63, 64, 65, 66, 125, 126, 127, 128, 111, 112, 113, 129, 115, 116, 585, 586, 587, 588, 589, 590, 591, 592, 593, 594] (by decide +kernel) (by decide +kernel)
set_option maxRecDepth 20000 in
theorem gL_law_X1_costOfMeeting : GoodIn wsL_law (wsV RL 185 RX1 yX1_costOfMeeting wsX1_costOfMeeting) := goodIn_app (goodIn_of _ (by decide +kernel)) ggL_law_X1_costOfMeeting
set_option maxRecDepth 20000 in
theorem ggL_law_X0_bestHour : GoodIn wsL_law wsX0_bestHour := goodIn_r _ [495, 146, 147, 148, 2, 149, 18, 150, 151, 152, 153, 16, 17, 154, 155, 156, 157, 14, 15, 158, 159, 160, 110, 111, 112, 113, 161, 162, 163, 164, 165, 166, 167, 168, 169, 576, 577, 578, 579, 580, 581, 582, 583, 584] (by decide +kernel) (by decide +kernel)
set_option maxRecDepth 20000 in
theorem gL_law_X0_bestHour : GoodIn wsL_law (wsV RL 186 RX0 yX0_bestHour wsX0_bestHour) := goodIn_app (goodIn_of _ (by decide +kernel)) ggL_law_X0_bestHour
set_option maxRecDepth 20000 in
theorem ggL_law_X1_bestHour : GoodIn wsL_law wsX1_bestHour := goodIn_r _ [499, 500, 501, 502, 5, 503, 189, 190, 191, 192, 63, 193, 194, 195, 196, 29, 30, 197, 198, 199, 200, 27, 28, 201, 202, 203, 270, 271, 272, 273, 62, 585, 586, 587, 588, 589, 590, 591, 592, 593, 594] (by decide +kernel) (by decide +kernel)
set_option maxRecDepth 20000 in
theorem gL_law_X1_bestHour : GoodIn wsL_law (wsV RL 189 RX1 yX1_bestHour wsX1_bestHour) := goodIn_app (goodIn_of _ (by decide +kernel)) ggL_law_X1_bestHour
set_option maxRecDepth 20000 in
theorem ggL_law_L_bestCorner : GoodIn wsL_law wsL_bestCorner := goodIn_ca (goodIn_r _ [506, 81, 507, 508, 509, 2, 510, 14, 86, 87, 88, 89, 90, 91, 18, 431, 432, 433, 434, 16, 15, 158, 159, 160, 110, 111, 112, 113, 161, 162, 163, 164, 165, 166, 167, 168, 169, 576, 577, 578, 579, 580, 581, 582, 583, 584] (by decide +kernel) (by decide +kernel)) (goodIn_sub (fun _ h => List.mem_append_right _ h) (by decide +kernel))
set_option maxRecDepth 20000 in
theorem gL_law_L_bestCorner : GoodIn wsL_law (va_wsS RL 190 yL_bestCorner wsL_bestCorner) := goodIn_app (goodIn_of _ (by decide +kernel)) ggL_law_L_bestCorner
set_option maxRecDepth 20000 in
theorem ggL_law_X1_bestCorner : GoodIn wsL_law wsX1_bestCorner := goodIn_r _ [514, 62, 29, 96, 97, 98, 5, 99, 63, 64, 65, 66, 515, 516, 517, 518, 185, 186, 187, 188, 189, 190, 191, 192, 193, 194, 195, 196, 30, 197, 198, 199, 200, 27, 28, 201, 202, 203, 70, 71, 72, 73, 585, 586, 587, 588, 589, 590, 591, 592, 593, 594] (by decide +kernel) (by decide +kernel)
set_option maxRecDepth 20000 in
theorem gL_law_X1_bestCorner : GoodIn wsL_law (wsV RL 192 RX1 yX1_bestCorner wsX1_bestCorner) := goodIn_app (goodIn_of _ (by decide +kernel)) ggL_law_X1_bestCorner
set_option maxRecDepth 20000 in
theorem ggL_law_X0_bestSwap : GoodIn wsL_law wsX0_bestSwap := goodIn_r _ [522, 18, 146, 147, 148, 2, 149, 150, 151, 152, 153, 16, 17, 154, 155, 156, 157, 14, 15, 158, 159, 160, 110, 111, 112, 113, 161, 162, 163, 164, 165, 166, 167, 168, 169, 523, 524, 525, 526, 170, 171, 172, 576, 577, 578, 579, 580, 581, 582, 583, 584] (by decide +kernel) (by decide +kernel)
set_option maxRecDepth 20000 in
theorem gL_law_X0_bestSwap : GoodIn wsL_law (wsV RL 193 RX0 yX0_bestSwap wsX0_bestSwap) := goodIn_app (goodIn_of _ (by decide +kernel)) ggL_law_X0_bestSwap
set_option maxRecDepth 20000 in
theorem ggL_law_X1_bestSwap : GoodIn wsL_law wsX1_bestSwap := goodIn_r _ [530, 531, 532, 533, 5, 534, 63, 27, 185, 186, 187, 188, 189, 190, 191, 192, 193, 194, 195, 196, 29, 30, 197, 198, 199, 200, 28, 201, 202, 203, 204, 205, 206, 270, 271, 272, 273, 62, 585, 586, 587, 588, 589, 590, 591, 592, 593, 594] (by decide +kernel) (by decide +kernel)
set_option maxRecDepth 20000 in
theorem gL_law_X1_bestSwap : GoodIn wsL_law (wsV RL 196 RX1 yX1_bestSwap wsX1_bestSwap) := goodIn_app (goodIn_of _ (by decide +kernel)) ggL_law_X1_bestSwap
set_option maxRecDepth 20000 in
theorem ggL_law_L_bestTicket : GoodIn wsL_law wsL_bestTicket := goodIn_ca (goodIn_r _ [537, 81, 538, 539, 540, 2, 541, 16, 86, 87, 88, 89, 90, 91, 18, 431, 432, 433, 434, 14, 15, 158, 159, 160, 110, 111, 112, 113, 161, 162, 163, 164, 165, 166, 167, 168, 169, 576, 577, 578, 579, 580, 581, 582, 583, 584] (by decide +kernel) (by decide +kernel)) (goodIn_sub (fun _ h => List.mem_append_right _ h) (by decide +kernel))
set_option maxRecDepth 20000 in
theorem gL_law_L_bestTicket : GoodIn wsL_law (va_wsS RL 197 yL_bestTicket wsL_bestTicket) := goodIn_app (goodIn_of _ (by decide +kernel)) ggL_law_L_bestTicket
set_option maxRecDepth 20000 in
theorem ggL_law_X1_bestTicket : GoodIn wsL_law wsX1_bestTicket := goodIn_r _ [545, 62, 27, 96, 97, 98, 5, 99, 63, 64, 65, 66, 515, 516, 517, 518, 185, 186, 187, 188, 189, 190, 191, 192, 193, 194, 195, 196, 29, 30, 197, 198, 199, 200, 28, 201, 202, 203, 70, 71, 72, 73, 585, 586, 587, 588, 589, 590, 591, 592, 593, 594] (by decide +kernel) (by decide +kernel)
set_option maxRecDepth 20000 in
theorem gL_law_X1_bestTicket : GoodIn wsL_law (wsV RL 199 RX1 yX1_bestTicket wsX1_bestTicket) := goodIn_app (goodIn_of _ (by decide +kernel)) ggL_law_X1_bestTicket
set_option maxRecDepth 20000 in
theorem ggL_law_X0_meanLuck : GoodIn wsL_law wsX0_meanLuck := goodIn_r _ [549, 18, 427, 428, 429, 2, 430, 14, 16, 431, 432, 433, 434, 15, 158, 159, 160, 110, 111, 112, 113, 161, 162, 163, 164, 165, 166, 167, 168, 169, 576, 577, 578, 579, 580, 581, 582, 583, 584] (by decide +kernel) (by decide +kernel)
set_option maxRecDepth 20000 in
theorem gL_law_X0_meanLuck : GoodIn wsL_law (wsV RL 200 RX0 yX0_meanLuck wsX0_meanLuck) := goodIn_app (goodIn_of _ (by decide +kernel)) ggL_law_X0_meanLuck
set_option maxRecDepth 20000 in
theorem ggL_law_X1_meanLuck : GoodIn wsL_law wsX1_meanLuck := goodIn_r _ [553, 62, 63, 185, 186, 187, 5, 188, 189, 190, 191, 192, 193, 194, 195, 196, 29, 30, 197, 198, 199, 200, 27, 28, 201, 202, 203, 585, 586, 587, 588, 589, 590, 591, 592, 593, 594] (by decide +kernel) (by decide +kernel)
set_option maxRecDepth 20000 in
theorem gL_law_X1_meanLuck : GoodIn wsL_law (wsV RL 204 RX1 yX1_meanLuck wsX1_meanLuck) := goodIn_app (goodIn_of _ (by decide +kernel)) ggL_law_X1_meanLuck
set_option maxRecDepth 20000 in
theorem ggL_law_X0_digest : GoodIn wsL_law wsX0_digest := goodIn_ca (goodIn_r _ [557, 558, 18, 19, 20, 21, 22, 14, 15, 16, 17, 559, 560, 2, 561, 562, 563, 402, 403, 404, 146, 147, 148, 149, 150, 151, 152, 153, 154, 155, 156, 157, 158, 159, 160, 110, 111, 112, 113, 161, 162, 163, 164, 165, 166, 167, 168, 169, 564, 444, 445, 446, 565, 493, 494, 495, 566, 520, 521, 522, 523, 524, 525, 526, 170, 171, 172, 567, 358, 359, 360, 361, 362, 363, 90, 91, 52, 53, 54, 244, 245, 246, 247, 568, 413, 414, 415, 427, 428, 429, 430, 431, 432, 433, 434, 569, 508, 509, 510, 86, 87, 88, 89, 576, 577, 578, 579, 580, 581, 582, 583, 584] (by decide +kernel) (by decide +kernel)) (goodIn_sub (fun _ h => List.mem_append_right _ h) (by decide +kernel))
set_option maxRecDepth 20000 in
theorem gL_law_X0_digest : GoodIn wsL_law (wsV RL 205 RX0 yX0_digest wsX0_digest) := goodIn_app (goodIn_of _ (by decide +kernel)) ggL_law_X0_digest
set_option maxRecDepth 20000 in
theorem ggL_law_X1_digest : GoodIn wsL_law wsX1_digest := goodIn_r _ [573, 62, 13, 63, 257, 31, 252, 134, 574, 575, 27, 28, 29, 30, 185, 186, 187, 5, 188, 189, 190, 191, 192, 193, 194, 195, 196, 197, 198, 199, 200, 201, 202, 203, 451, 452, 453, 454, 500, 501, 502, 503, 531, 532, 533, 534, 204, 205, 206, 258, 259, 260, 261, 439, 440, 441, 442, 515, 516, 517, 518, 585, 586, 587, 588, 589, 590, 591, 592, 593, 594] (by decide +kernel) (by decide +kernel)
set_option maxRecDepth 20000 in
theorem gL_law_X1_digest : GoodIn wsL_law (wsV RL 209 RX1 yX1_digest wsX1_digest) := goodIn_app (goodIn_of _ (by decide +kernel)) ggL_law_X1_digest
