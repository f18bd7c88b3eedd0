theorem dX1_init_0 : decode cX1_init 0 = .ok (.aload_n 0, 1) := by decide +kernel
theorem dX1_init_1 : decode cX1_init 1 = .ok (.invokespecial 1, 3) := by decide +kernel
theorem dX1_init_4 : decode cX1_init 4 = .ok (.aload_n 0, 1) := by decide +kernel
theorem dX1_init_5 : decode cX1_init 5 = .ok (.bipush 20, 2) := by decide +kernel
theorem dX1_init_7 : decode cX1_init 7 = .ok (.putfield 7, 3) := by decide +kernel
theorem dX1_init_10 : decode cX1_init 10 = .ok (.aload_n 0, 1) := by decide +kernel
theorem dX1_init_11 : decode cX1_init 11 = .ok (.iconst 0, 1) := by decide +kernel
theorem dX1_init_12 : decode cX1_init 12 = .ok (.anewarray 13, 3) := by decide +kernel
theorem dX1_init_15 : decode cX1_init 15 = .ok (.putfield 15, 3) := by decide +kernel
theorem dX1_init_18 : decode cX1_init 18 = .ok (.return_, 1) := by decide +kernel
theorem dX1_with_0 : decode cX1_with 0 = .ok (.aload_n 0, 1) := by decide +kernel
theorem dX1_with_1 : decode cX1_with 1 = .ok (.arraylength, 1) := by decide +kernel
theorem dX1_with_2 : decode cX1_with 2 = .ok (.iconst 1, 1) := by decide +kernel
theorem dX1_with_3 : decode cX1_with 3 = .ok (.iadd, 1) := by decide +kernel
theorem dX1_with_4 : decode cX1_with 4 = .ok (.anewarray 13, 3) := by decide +kernel
theorem dX1_with_7 : decode cX1_with 7 = .ok (.astore_n 2, 1) := by decide +kernel
theorem dX1_with_8 : decode cX1_with 8 = .ok (.iconst 0, 1) := by decide +kernel
theorem dX1_with_9 : decode cX1_with 9 = .ok (.istore_n 3, 1) := by decide +kernel
theorem dX1_with_10 : decode cX1_with 10 = .ok (.iload_n 3, 1) := by decide +kernel
theorem dX1_with_11 : decode cX1_with 11 = .ok (.aload_n 0, 1) := by decide +kernel
theorem dX1_with_12 : decode cX1_with 12 = .ok (.arraylength, 1) := by decide +kernel
theorem dX1_with_13 : decode cX1_with 13 = .ok (.if_icmp .ge 15, 3) := by decide +kernel
theorem dX1_with_16 : decode cX1_with 16 = .ok (.aload_n 2, 1) := by decide +kernel
theorem dX1_with_17 : decode cX1_with 17 = .ok (.iload_n 3, 1) := by decide +kernel
theorem dX1_with_18 : decode cX1_with 18 = .ok (.aload_n 0, 1) := by decide +kernel
theorem dX1_with_19 : decode cX1_with 19 = .ok (.iload_n 3, 1) := by decide +kernel
theorem dX1_with_20 : decode cX1_with 20 = .ok (.aaload, 1) := by decide +kernel
theorem dX1_with_21 : decode cX1_with 21 = .ok (.aastore, 1) := by decide +kernel
theorem dX1_with_22 : decode cX1_with 22 = .ok (.iinc 3 1, 3) := by decide +kernel
theorem dX1_with_25 : decode cX1_with 25 = .ok (.goto (-15), 3) := by decide +kernel
theorem dX1_with_28 : decode cX1_with 28 = .ok (.aload_n 2, 1) := by decide +kernel
theorem dX1_with_29 : decode cX1_with 29 = .ok (.aload_n 0, 1) := by decide +kernel
theorem dX1_with_30 : decode cX1_with 30 = .ok (.arraylength, 1) := by decide +kernel
theorem dX1_with_31 : decode cX1_with 31 = .ok (.aload_n 1, 1) := by decide +kernel
theorem dX1_with_32 : decode cX1_with 32 = .ok (.aastore, 1) := by decide +kernel
theorem dX1_with_33 : decode cX1_with 33 = .ok (.aload_n 2, 1) := by decide +kernel
theorem dX1_with_34 : decode cX1_with 34 = .ok (.areturn, 1) := by decide +kernel
theorem dX1_ticket_0 : decode cX1_ticket 0 = .ok (.bipush 10, 2) := by decide +kernel
theorem dX1_ticket_2 : decode cX1_ticket 2 = .ok (.aload_n 0, 1) := by decide +kernel
theorem dX1_ticket_3 : decode cX1_ticket 3 = .ok (.getfield 15, 3) := by decide +kernel
theorem dX1_ticket_6 : decode cX1_ticket 6 = .ok (.iload_n 1, 1) := by decide +kernel
theorem dX1_ticket_7 : decode cX1_ticket 7 = .ok (.aaload, 1) := by decide +kernel
theorem dX1_ticket_8 : decode cX1_ticket 8 = .ok (.iconst 0, 1) := by decide +kernel
theorem dX1_ticket_9 : decode cX1_ticket 9 = .ok (.iaload, 1) := by decide +kernel
theorem dX1_ticket_10 : decode cX1_ticket 10 = .ok (.imul, 1) := by decide +kernel
theorem dX1_ticket_11 : decode cX1_ticket 11 = .ok (.aload_n 0, 1) := by decide +kernel
theorem dX1_ticket_12 : decode cX1_ticket 12 = .ok (.getfield 15, 3) := by decide +kernel
theorem dX1_ticket_15 : decode cX1_ticket 15 = .ok (.iload_n 1, 1) := by decide +kernel
theorem dX1_ticket_16 : decode cX1_ticket 16 = .ok (.aaload, 1) := by decide +kernel
theorem dX1_ticket_17 : decode cX1_ticket 17 = .ok (.iconst 1, 1) := by decide +kernel
theorem dX1_ticket_18 : decode cX1_ticket 18 = .ok (.iaload, 1) := by decide +kernel
theorem dX1_ticket_19 : decode cX1_ticket 19 = .ok (.iadd, 1) := by decide +kernel
theorem dX1_ticket_20 : decode cX1_ticket 20 = .ok (.ireturn, 1) := by decide +kernel
theorem dX1_set_0 : decode cX1_set 0 = .ok (.aload_n 0, 1) := by decide +kernel
theorem dX1_set_1 : decode cX1_set 1 = .ok (.getfield 15, 3) := by decide +kernel
theorem dX1_set_4 : decode cX1_set 4 = .ok (.iload_n 1, 1) := by decide +kernel
theorem dX1_set_5 : decode cX1_set 5 = .ok (.aaload, 1) := by decide +kernel
theorem dX1_set_6 : decode cX1_set 6 = .ok (.iconst 0, 1) := by decide +kernel
theorem dX1_set_7 : decode cX1_set 7 = .ok (.iload_n 2, 1) := by decide +kernel
theorem dX1_set_8 : decode cX1_set 8 = .ok (.bipush 10, 2) := by decide +kernel
theorem dX1_set_10 : decode cX1_set 10 = .ok (.idiv, 1) := by decide +kernel
theorem dX1_set_11 : decode cX1_set 11 = .ok (.iastore, 1) := by decide +kernel
theorem dX1_set_12 : decode cX1_set 12 = .ok (.aload_n 0, 1) := by decide +kernel
theorem dX1_set_13 : decode cX1_set 13 = .ok (.getfield 15, 3) := by decide +kernel
theorem dX1_set_16 : decode cX1_set 16 = .ok (.iload_n 1, 1) := by decide +kernel
theorem dX1_set_17 : decode cX1_set 17 = .ok (.aaload, 1) := by decide +kernel
theorem dX1_set_18 : decode cX1_set 18 = .ok (.iconst 1, 1) := by decide +kernel
theorem dX1_set_19 : decode cX1_set 19 = .ok (.iload_n 2, 1) := by decide +kernel
theorem dX1_set_20 : decode cX1_set 20 = .ok (.bipush 10, 2) := by decide +kernel
theorem dX1_set_22 : decode cX1_set 22 = .ok (.irem, 1) := by decide +kernel
theorem dX1_set_23 : decode cX1_set 23 = .ok (.iastore, 1) := by decide +kernel
theorem dX1_set_24 : decode cX1_set 24 = .ok (.return_, 1) := by decide +kernel
theorem dX1_isMirror_0 : decode cX1_isMirror 0 = .ok (.aload_n 0, 1) := by decide +kernel
theorem dX1_isMirror_1 : decode cX1_isMirror 1 = .ok (.iconst 0, 1) := by decide +kernel
theorem dX1_isMirror_2 : decode cX1_isMirror 2 = .ok (.iaload, 1) := by decide +kernel
theorem dX1_isMirror_3 : decode cX1_isMirror 3 = .ok (.aload_n 1, 1) := by decide +kernel
theorem dX1_isMirror_4 : decode cX1_isMirror 4 = .ok (.iconst 1, 1) := by decide +kernel
theorem dX1_isMirror_5 : decode cX1_isMirror 5 = .ok (.iaload, 1) := by decide +kernel
theorem dX1_isMirror_6 : decode cX1_isMirror 6 = .ok (.if_icmp .ne 16, 3) := by decide +kernel
theorem dX1_isMirror_9 : decode cX1_isMirror 9 = .ok (.aload_n 0, 1) := by decide +kernel
theorem dX1_isMirror_10 : decode cX1_isMirror 10 = .ok (.iconst 1, 1) := by decide +kernel
theorem dX1_isMirror_11 : decode cX1_isMirror 11 = .ok (.iaload, 1) := by decide +kernel
theorem dX1_isMirror_12 : decode cX1_isMirror 12 = .ok (.aload_n 1, 1) := by decide +kernel
theorem dX1_isMirror_13 : decode cX1_isMirror 13 = .ok (.iconst 0, 1) := by decide +kernel
theorem dX1_isMirror_14 : decode cX1_isMirror 14 = .ok (.iaload, 1) := by decide +kernel
theorem dX1_isMirror_15 : decode cX1_isMirror 15 = .ok (.if_icmp .ne 7, 3) := by decide +kernel
theorem dX1_isMirror_18 : decode cX1_isMirror 18 = .ok (.iconst 1, 1) := by decide +kernel
theorem dX1_isMirror_19 : decode cX1_isMirror 19 = .ok (.goto 4, 3) := by decide +kernel
theorem dX1_isMirror_22 : decode cX1_isMirror 22 = .ok (.iconst 0, 1) := by decide +kernel
theorem dX1_isMirror_23 : decode cX1_isMirror 23 = .ok (.ireturn, 1) := by decide +kernel
set_option maxRecDepth 20000 in
theorem ggX1_points_X1_isMirror : GoodIn wsX1_points wsX1_isMirror := goodIn_r _ [8] (by decide +kernel) (by decide +kernel)
set_option maxRecDepth 20000 in
theorem gX1_points_X1_isMirror : GoodIn wsX1_points (va_wsS RX1 39 yX1_isMirror wsX1_isMirror) := goodIn_app (goodIn_of _ (by decide +kernel)) ggX1_points_X1_isMirror
theorem dX1_points_0 : decode cX1_points 0 = .ok (.iconst 0, 1) := by decide +kernel
theorem dX1_points_1 : decode cX1_points 1 = .ok (.istore_n 3, 1) := by decide +kernel
theorem dX1_points_2 : decode cX1_points 2 = .ok (.aload_n 1, 1) := by decide +kernel
theorem dX1_points_3 : decode cX1_points 3 = .ok (.iconst 1, 1) := by decide +kernel
theorem dX1_points_4 : decode cX1_points 4 = .ok (.iaload, 1) := by decide +kernel
theorem dX1_points_5 : decode cX1_points 5 = .ok (.aload_n 2, 1) := by decide +kernel
theorem dX1_points_6 : decode cX1_points 6 = .ok (.iconst 1, 1) := by decide +kernel
theorem dX1_points_7 : decode cX1_points 7 = .ok (.iaload, 1) := by decide +kernel
theorem dX1_points_8 : decode cX1_points 8 = .ok (.if_icmp .ne 6, 3) := by decide +kernel
theorem dX1_points_11 : decode cX1_points 11 = .ok (.iinc 3 1, 3) := by decide +kernel
theorem dX1_points_14 : decode cX1_points 14 = .ok (.aload_n 1, 1) := by decide +kernel
theorem dX1_points_15 : decode cX1_points 15 = .ok (.iconst 0, 1) := by decide +kernel
theorem dX1_points_16 : decode cX1_points 16 = .ok (.iaload, 1) := by decide +kernel
theorem dX1_points_17 : decode cX1_points 17 = .ok (.aload_n 1, 1) := by decide +kernel
theorem dX1_points_18 : decode cX1_points 18 = .ok (.iconst 1, 1) := by decide +kernel
theorem dX1_points_19 : decode cX1_points 19 = .ok (.iaload, 1) := by decide +kernel
theorem dX1_points_20 : decode cX1_points 20 = .ok (.iadd, 1) := by decide +kernel
theorem dX1_points_21 : decode cX1_points 21 = .ok (.aload_n 2, 1) := by decide +kernel
theorem dX1_points_22 : decode cX1_points 22 = .ok (.iconst 0, 1) := by decide +kernel
theorem dX1_points_23 : decode cX1_points 23 = .ok (.iaload, 1) := by decide +kernel
theorem dX1_points_24 : decode cX1_points 24 = .ok (.aload_n 2, 1) := by decide +kernel
theorem dX1_points_25 : decode cX1_points 25 = .ok (.iconst 1, 1) := by decide +kernel
theorem dX1_points_26 : decode cX1_points 26 = .ok (.iaload, 1) := by decide +kernel
theorem dX1_points_27 : decode cX1_points 27 = .ok (.iadd, 1) := by decide +kernel
theorem dX1_points_28 : decode cX1_points 28 = .ok (.if_icmp .ne 6, 3) := by decide +kernel
theorem dX1_points_31 : decode cX1_points 31 = .ok (.iinc 3 2, 3) := by decide +kernel
theorem dX1_points_34 : decode cX1_points 34 = .ok (.bipush 10, 2) := by decide +kernel
theorem dX1_points_36 : decode cX1_points 36 = .ok (.aload_n 1, 1) := by decide +kernel
theorem dX1_points_37 : decode cX1_points 37 = .ok (.iconst 0, 1) := by decide +kernel
theorem dX1_points_38 : decode cX1_points 38 = .ok (.iaload, 1) := by decide +kernel
theorem dX1_points_39 : decode cX1_points 39 = .ok (.imul, 1) := by decide +kernel
theorem dX1_points_40 : decode cX1_points 40 = .ok (.aload_n 1, 1) := by decide +kernel
theorem dX1_points_41 : decode cX1_points 41 = .ok (.iconst 1, 1) := by decide +kernel
theorem dX1_points_42 : decode cX1_points 42 = .ok (.iaload, 1) := by decide +kernel
theorem dX1_points_43 : decode cX1_points 43 = .ok (.iadd, 1) := by decide +kernel
theorem dX1_points_44 : decode cX1_points 44 = .ok (.bipush 10, 2) := by decide +kernel
theorem dX1_points_46 : decode cX1_points 46 = .ok (.aload_n 2, 1) := by decide +kernel
theorem dX1_points_47 : decode cX1_points 47 = .ok (.iconst 0, 1) := by decide +kernel
theorem dX1_points_48 : decode cX1_points 48 = .ok (.iaload, 1) := by decide +kernel
theorem dX1_points_49 : decode cX1_points 49 = .ok (.imul, 1) := by decide +kernel
theorem dX1_points_50 : decode cX1_points 50 = .ok (.isub, 1) := by decide +kernel
theorem dX1_points_51 : decode cX1_points 51 = .ok (.aload_n 2, 1) := by decide +kernel
theorem dX1_points_52 : decode cX1_points 52 = .ok (.iconst 1, 1) := by decide +kernel
theorem dX1_points_53 : decode cX1_points 53 = .ok (.iaload, 1) := by decide +kernel
theorem dX1_points_54 : decode cX1_points 54 = .ok (.isub, 1) := by decide +kernel
theorem dX1_points_55 : decode cX1_points 55 = .ok (.invokestatic 33, 3) := by decide +kernel
theorem dX1_points_58 : decode cX1_points 58 = .ok (.iconst 1, 1) := by decide +kernel
theorem dX1_points_59 : decode cX1_points 59 = .ok (.if_icmp .ne 6, 3) := by decide +kernel
theorem dX1_points_62 : decode cX1_points 62 = .ok (.iinc 3 3, 3) := by decide +kernel
theorem dX1_points_65 : decode cX1_points 65 = .ok (.aload_n 1, 1) := by decide +kernel
theorem dX1_points_66 : decode cX1_points 66 = .ok (.aload_n 2, 1) := by decide +kernel
theorem dX1_points_67 : decode cX1_points 67 = .ok (.invokestatic 39, 3) := by decide +kernel
theorem dX1_points_70 : decode cX1_points 70 = .ok (.ifCond .eq 6, 3) := by decide +kernel
theorem dX1_points_73 : decode cX1_points 73 = .ok (.iinc 3 5, 3) := by decide +kernel
theorem dX1_points_76 : decode cX1_points 76 = .ok (.aload_n 1, 1) := by decide +kernel
theorem dX1_points_77 : decode cX1_points 77 = .ok (.iconst 2, 1) := by decide +kernel
theorem dX1_points_78 : decode cX1_points 78 = .ok (.iaload, 1) := by decide +kernel
theorem dX1_points_79 : decode cX1_points 79 = .ok (.aload_n 2, 1) := by decide +kernel
theorem dX1_points_80 : decode cX1_points 80 = .ok (.iconst 2, 1) := by decide +kernel
theorem dX1_points_81 : decode cX1_points 81 = .ok (.iaload, 1) := by decide +kernel
theorem dX1_points_82 : decode cX1_points 82 = .ok (.if_icmp .ne 6, 3) := by decide +kernel
theorem dX1_points_85 : decode cX1_points 85 = .ok (.iinc 3 2, 3) := by decide +kernel
theorem dX1_points_88 : decode cX1_points 88 = .ok (.iload_n 3, 1) := by decide +kernel
theorem dX1_points_89 : decode cX1_points 89 = .ok (.ireturn, 1) := by decide +kernel
set_option maxRecDepth 20000 in
theorem ggX1_luck_X1_points : GoodIn wsX1_luck wsX1_points := goodIn_r _ [6, 7, 8, 9, 10, 11, 12, 5, 13] (by decide +kernel) (by decide +kernel)
set_option maxRecDepth 20000 in
theorem gX1_luck_X1_points : GoodIn wsX1_luck (wsV RX1 43 RX1 yX1_points wsX1_points) := goodIn_app (goodIn_of _ (by decide +kernel)) ggX1_luck_X1_points
theorem dX1_luck_0 : decode cX1_luck 0 = .ok (.iconst 0, 1) := by decide +kernel
theorem dX1_luck_1 : decode cX1_luck 1 = .ok (.istore_n 2, 1) := by decide +kernel
theorem dX1_luck_2 : decode cX1_luck 2 = .ok (.iconst 0, 1) := by decide +kernel
theorem dX1_luck_3 : decode cX1_luck 3 = .ok (.istore_n 3, 1) := by decide +kernel
theorem dX1_luck_4 : decode cX1_luck 4 = .ok (.iload_n 3, 1) := by decide +kernel
theorem dX1_luck_5 : decode cX1_luck 5 = .ok (.aload_n 0, 1) := by decide +kernel
theorem dX1_luck_6 : decode cX1_luck 6 = .ok (.getfield 15, 3) := by decide +kernel
theorem dX1_luck_9 : decode cX1_luck 9 = .ok (.arraylength, 1) := by decide +kernel
theorem dX1_luck_10 : decode cX1_luck 10 = .ok (.if_icmp .ge 52, 3) := by decide +kernel
theorem dX1_luck_13 : decode cX1_luck 13 = .ok (.iload_n 3, 1) := by decide +kernel
theorem dX1_luck_14 : decode cX1_luck 14 = .ok (.iload_n 1, 1) := by decide +kernel
theorem dX1_luck_15 : decode cX1_luck 15 = .ok (.if_icmp .eq 41, 3) := by decide +kernel
theorem dX1_luck_18 : decode cX1_luck 18 = .ok (.aload_n 0, 1) := by decide +kernel
theorem dX1_luck_19 : decode cX1_luck 19 = .ok (.getfield 15, 3) := by decide +kernel
theorem dX1_luck_22 : decode cX1_luck 22 = .ok (.iload_n 3, 1) := by decide +kernel
theorem dX1_luck_23 : decode cX1_luck 23 = .ok (.aaload, 1) := by decide +kernel
theorem dX1_luck_24 : decode cX1_luck 24 = .ok (.iconst 3, 1) := by decide +kernel
theorem dX1_luck_25 : decode cX1_luck 25 = .ok (.iaload, 1) := by decide +kernel
theorem dX1_luck_26 : decode cX1_luck 26 = .ok (.aload_n 0, 1) := by decide +kernel
theorem dX1_luck_27 : decode cX1_luck 27 = .ok (.getfield 15, 3) := by decide +kernel
theorem dX1_luck_30 : decode cX1_luck 30 = .ok (.iload_n 1, 1) := by decide +kernel
theorem dX1_luck_31 : decode cX1_luck 31 = .ok (.aaload, 1) := by decide +kernel
theorem dX1_luck_32 : decode cX1_luck 32 = .ok (.iconst 3, 1) := by decide +kernel
theorem dX1_luck_33 : decode cX1_luck 33 = .ok (.iaload, 1) := by decide +kernel
theorem dX1_luck_34 : decode cX1_luck 34 = .ok (.if_icmp .ne 22, 3) := by decide +kernel
theorem dX1_luck_37 : decode cX1_luck 37 = .ok (.iload_n 2, 1) := by decide +kernel
theorem dX1_luck_38 : decode cX1_luck 38 = .ok (.aload_n 0, 1) := by decide +kernel
theorem dX1_luck_39 : decode cX1_luck 39 = .ok (.aload_n 0, 1) := by decide +kernel
theorem dX1_luck_40 : decode cX1_luck 40 = .ok (.getfield 15, 3) := by decide +kernel
theorem dX1_luck_43 : decode cX1_luck 43 = .ok (.iload_n 1, 1) := by decide +kernel
theorem dX1_luck_44 : decode cX1_luck 44 = .ok (.aaload, 1) := by decide +kernel
theorem dX1_luck_45 : decode cX1_luck 45 = .ok (.aload_n 0, 1) := by decide +kernel
theorem dX1_luck_46 : decode cX1_luck 46 = .ok (.getfield 15, 3) := by decide +kernel
theorem dX1_luck_49 : decode cX1_luck 49 = .ok (.iload_n 3, 1) := by decide +kernel
theorem dX1_luck_50 : decode cX1_luck 50 = .ok (.aaload, 1) := by decide +kernel
theorem dX1_luck_51 : decode cX1_luck 51 = .ok (.invokevirtual 43, 3) := by decide +kernel
theorem dX1_luck_54 : decode cX1_luck 54 = .ok (.iadd, 1) := by decide +kernel
theorem dX1_luck_55 : decode cX1_luck 55 = .ok (.istore_n 2, 1) := by decide +kernel
theorem dX1_luck_56 : decode cX1_luck 56 = .ok (.iinc 3 1, 3) := by decide +kernel
theorem dX1_luck_59 : decode cX1_luck 59 = .ok (.goto (-55), 3) := by decide +kernel
theorem dX1_luck_62 : decode cX1_luck 62 = .ok (.iload_n 2, 1) := by decide +kernel
theorem dX1_luck_63 : decode cX1_luck 63 = .ok (.ireturn, 1) := by decide +kernel
set_option maxRecDepth 20000 in
theorem ggX1_at_X1_luck : GoodIn wsX1_at wsX1_luck := goodIn_r _ [6, 1, 7, 8, 9, 5, 10, 11, 12, 13, 14, 15, 16, 17, 18, 19, 20, 21, 22] (by decide +kernel) (by decide +kernel)
set_option maxRecDepth 20000 in
theorem gX1_at_X1_luck : GoodIn wsX1_at (wsV RX1 47 RX1 yX1_luck wsX1_luck) := goodIn_app (goodIn_of _ (by decide +kernel)) ggX1_at_X1_luck
theorem dX1_at_0 : decode cX1_at 0 = .ok (.iconst 0, 1) := by decide +kernel
theorem dX1_at_1 : decode cX1_at 1 = .ok (.istore_n 2, 1) := by decide +kernel
theorem dX1_at_2 : decode cX1_at 2 = .ok (.iconst 0, 1) := by decide +kernel
theorem dX1_at_3 : decode cX1_at 3 = .ok (.istore_n 3, 1) := by decide +kernel
theorem dX1_at_4 : decode cX1_at 4 = .ok (.iload_n 3, 1) := by decide +kernel
theorem dX1_at_5 : decode cX1_at 5 = .ok (.aload_n 0, 1) := by decide +kernel
theorem dX1_at_6 : decode cX1_at 6 = .ok (.getfield 15, 3) := by decide +kernel
theorem dX1_at_9 : decode cX1_at 9 = .ok (.arraylength, 1) := by decide +kernel
theorem dX1_at_10 : decode cX1_at 10 = .ok (.if_icmp .ge 29, 3) := by decide +kernel
theorem dX1_at_13 : decode cX1_at 13 = .ok (.aload_n 0, 1) := by decide +kernel
theorem dX1_at_14 : decode cX1_at 14 = .ok (.getfield 15, 3) := by decide +kernel
theorem dX1_at_17 : decode cX1_at 17 = .ok (.iload_n 3, 1) := by decide +kernel
theorem dX1_at_18 : decode cX1_at 18 = .ok (.aaload, 1) := by decide +kernel
theorem dX1_at_19 : decode cX1_at 19 = .ok (.iconst 3, 1) := by decide +kernel
theorem dX1_at_20 : decode cX1_at 20 = .ok (.iaload, 1) := by decide +kernel
theorem dX1_at_21 : decode cX1_at 21 = .ok (.iload_n 1, 1) := by decide +kernel
theorem dX1_at_22 : decode cX1_at 22 = .ok (.if_icmp .ne 11, 3) := by decide +kernel
theorem dX1_at_25 : decode cX1_at 25 = .ok (.iload_n 2, 1) := by decide +kernel
theorem dX1_at_26 : decode cX1_at 26 = .ok (.aload_n 0, 1) := by decide +kernel
theorem dX1_at_27 : decode cX1_at 27 = .ok (.iload_n 3, 1) := by decide +kernel
theorem dX1_at_28 : decode cX1_at 28 = .ok (.invokevirtual 47, 3) := by decide +kernel
theorem dX1_at_31 : decode cX1_at 31 = .ok (.iadd, 1) := by decide +kernel
theorem dX1_at_32 : decode cX1_at 32 = .ok (.istore_n 2, 1) := by decide +kernel
theorem dX1_at_33 : decode cX1_at 33 = .ok (.iinc 3 1, 3) := by decide +kernel
theorem dX1_at_36 : decode cX1_at 36 = .ok (.goto (-32), 3) := by decide +kernel
theorem dX1_at_39 : decode cX1_at 39 = .ok (.iload_n 2, 1) := by decide +kernel
theorem dX1_at_40 : decode cX1_at 40 = .ok (.iconst 2, 1) := by decide +kernel
theorem dX1_at_41 : decode cX1_at 41 = .ok (.idiv, 1) := by decide +kernel
theorem dX1_at_42 : decode cX1_at 42 = .ok (.ireturn, 1) := by decide +kernel
set_option maxRecDepth 20000 in
theorem ggX1_town_X1_at : GoodIn wsX1_town wsX1_at := goodIn_r _ [5, 6, 7, 8, 9, 4, 10, 11, 12, 13, 14, 15, 16, 17, 18, 19, 20, 21, 22, 23, 24, 25, 26] (by decide +kernel) (by decide +kernel)
set_option maxRecDepth 20000 in
theorem gX1_town_X1_at : GoodIn wsX1_town (wsV RX1 50 RX1 yX1_at wsX1_at) := goodIn_app (goodIn_of _ (by decide +kernel)) ggX1_town_X1_at
theorem dX1_town_0 : decode cX1_town 0 = .ok (.iconst 0, 1) := by decide +kernel
theorem dX1_town_1 : decode cX1_town 1 = .ok (.istore_n 1, 1) := by decide +kernel
theorem dX1_town_2 : decode cX1_town 2 = .ok (.iconst 0, 1) := by decide +kernel
theorem dX1_town_3 : decode cX1_town 3 = .ok (.istore_n 2, 1) := by decide +kernel
theorem dX1_town_4 : decode cX1_town 4 = .ok (.iload_n 2, 1) := by decide +kernel
theorem dX1_town_5 : decode cX1_town 5 = .ok (.bipush 6, 2) := by decide +kernel
theorem dX1_town_7 : decode cX1_town 7 = .ok (.if_icmp .ge 17, 3) := by decide +kernel
theorem dX1_town_10 : decode cX1_town 10 = .ok (.iload_n 1, 1) := by decide +kernel
theorem dX1_town_11 : decode cX1_town 11 = .ok (.aload_n 0, 1) := by decide +kernel
theorem dX1_town_12 : decode cX1_town 12 = .ok (.iload_n 2, 1) := by decide +kernel
theorem dX1_town_13 : decode cX1_town 13 = .ok (.invokevirtual 50, 3) := by decide +kernel
theorem dX1_town_16 : decode cX1_town 16 = .ok (.iadd, 1) := by decide +kernel
theorem dX1_town_17 : decode cX1_town 17 = .ok (.istore_n 1, 1) := by decide +kernel
theorem dX1_town_18 : decode cX1_town 18 = .ok (.iinc 2 1, 3) := by decide +kernel
theorem dX1_town_21 : decode cX1_town 21 = .ok (.goto (-17), 3) := by decide +kernel
theorem dX1_town_24 : decode cX1_town 24 = .ok (.iload_n 1, 1) := by decide +kernel
theorem dX1_town_25 : decode cX1_town 25 = .ok (.ireturn, 1) := by decide +kernel
theorem dX1_people_0 : decode cX1_people 0 = .ok (.iconst 0, 1) := by decide +kernel
theorem dX1_people_1 : decode cX1_people 1 = .ok (.istore_n 2, 1) := by decide +kernel
theorem dX1_people_2 : decode cX1_people 2 = .ok (.aload_n 0, 1) := by decide +kernel
theorem dX1_people_3 : decode cX1_people 3 = .ok (.getfield 15, 3) := by decide +kernel
theorem dX1_people_6 : decode cX1_people 6 = .ok (.astore_n 3, 1) := by decide +kernel
theorem dX1_people_7 : decode cX1_people 7 = .ok (.aload_n 3, 1) := by decide +kernel
theorem dX1_people_8 : decode cX1_people 8 = .ok (.arraylength, 1) := by decide +kernel
theorem dX1_people_9 : decode cX1_people 9 = .ok (.istore 4, 2) := by decide +kernel
theorem dX1_people_11 : decode cX1_people 11 = .ok (.iconst 0, 1) := by decide +kernel
theorem dX1_people_12 : decode cX1_people 12 = .ok (.istore 5, 2) := by decide +kernel
theorem dX1_people_14 : decode cX1_people 14 = .ok (.iload 5, 2) := by decide +kernel
theorem dX1_people_16 : decode cX1_people 16 = .ok (.iload 4, 2) := by decide +kernel
theorem dX1_people_18 : decode cX1_people 18 = .ok (.if_icmp .ge 31, 3) := by decide +kernel
theorem dX1_people_21 : decode cX1_people 21 = .ok (.aload_n 3, 1) := by decide +kernel
theorem dX1_people_22 : decode cX1_people 22 = .ok (.iload 5, 2) := by decide +kernel
theorem dX1_people_24 : decode cX1_people 24 = .ok (.aaload, 1) := by decide +kernel
theorem dX1_people_25 : decode cX1_people 25 = .ok (.astore 6, 2) := by decide +kernel
theorem dX1_people_27 : decode cX1_people 27 = .ok (.iload_n 2, 1) := by decide +kernel
theorem dX1_people_28 : decode cX1_people 28 = .ok (.aload 6, 2) := by decide +kernel
theorem dX1_people_30 : decode cX1_people 30 = .ok (.iconst 3, 1) := by decide +kernel
theorem dX1_people_31 : decode cX1_people 31 = .ok (.iaload, 1) := by decide +kernel
theorem dX1_people_32 : decode cX1_people 32 = .ok (.iload_n 1, 1) := by decide +kernel
theorem dX1_people_33 : decode cX1_people 33 = .ok (.if_icmp .ne 7, 3) := by decide +kernel
theorem dX1_people_36 : decode cX1_people 36 = .ok (.iconst 1, 1) := by decide +kernel
theorem dX1_people_37 : decode cX1_people 37 = .ok (.goto 4, 3) := by decide +kernel
theorem dX1_people_40 : decode cX1_people 40 = .ok (.iconst 0, 1) := by decide +kernel
theorem dX1_people_41 : decode cX1_people 41 = .ok (.iadd, 1) := by decide +kernel
theorem dX1_people_42 : decode cX1_people 42 = .ok (.istore_n 2, 1) := by decide +kernel
theorem dX1_people_43 : decode cX1_people 43 = .ok (.iinc 5 1, 3) := by decide +kernel
theorem dX1_people_46 : decode cX1_people 46 = .ok (.goto (-32), 3) := by decide +kernel
theorem dX1_people_49 : decode cX1_people 49 = .ok (.iload_n 2, 1) := by decide +kernel
theorem dX1_people_50 : decode cX1_people 50 = .ok (.ireturn, 1) := by decide +kernel
theorem dX1_cost_0 : decode cX1_cost 0 = .ok (.iconst 0, 1) := by decide +kernel
theorem dX1_cost_1 : decode cX1_cost 1 = .ok (.istore_n 2, 1) := by decide +kernel
theorem dX1_cost_2 : decode cX1_cost 2 = .ok (.iload_n 0, 1) := by decide +kernel
theorem dX1_cost_3 : decode cX1_cost 3 = .ok (.iload_n 2, 1) := by decide +kernel
theorem dX1_cost_4 : decode cX1_cost 4 = .ok (.iadd, 1) := by decide +kernel
theorem dX1_cost_5 : decode cX1_cost 5 = .ok (.bipush 6, 2) := by decide +kernel
theorem dX1_cost_7 : decode cX1_cost 7 = .ok (.irem, 1) := by decide +kernel
theorem dX1_cost_8 : decode cX1_cost 8 = .ok (.iload_n 1, 1) := by decide +kernel
theorem dX1_cost_9 : decode cX1_cost 9 = .ok (.if_icmp .eq 19, 3) := by decide +kernel
theorem dX1_cost_12 : decode cX1_cost 12 = .ok (.iload_n 1, 1) := by decide +kernel
theorem dX1_cost_13 : decode cX1_cost 13 = .ok (.iload_n 2, 1) := by decide +kernel
theorem dX1_cost_14 : decode cX1_cost 14 = .ok (.iadd, 1) := by decide +kernel
theorem dX1_cost_15 : decode cX1_cost 15 = .ok (.bipush 6, 2) := by decide +kernel
theorem dX1_cost_17 : decode cX1_cost 17 = .ok (.irem, 1) := by decide +kernel
theorem dX1_cost_18 : decode cX1_cost 18 = .ok (.iload_n 0, 1) := by decide +kernel
theorem dX1_cost_19 : decode cX1_cost 19 = .ok (.if_icmp .eq 9, 3) := by decide +kernel
theorem dX1_cost_22 : decode cX1_cost 22 = .ok (.iinc 2 1, 3) := by decide +kernel
theorem dX1_cost_25 : decode cX1_cost 25 = .ok (.goto (-23), 3) := by decide +kernel
theorem dX1_cost_28 : decode cX1_cost 28 = .ok (.iconst 2, 1) := by decide +kernel
theorem dX1_cost_29 : decode cX1_cost 29 = .ok (.iload_n 2, 1) := by decide +kernel
theorem dX1_cost_30 : decode cX1_cost 30 = .ok (.imul, 1) := by decide +kernel
theorem dX1_cost_31 : decode cX1_cost 31 = .ok (.ireturn, 1) := by decide +kernel
theorem dX1_pay_0 : decode cX1_pay 0 = .ok (.aload_n 0, 1) := by decide +kernel
theorem dX1_pay_1 : decode cX1_pay 1 = .ok (.dup, 1) := by decide +kernel
theorem dX1_pay_2 : decode cX1_pay 2 = .ok (.getfield 7, 3) := by decide +kernel
theorem dX1_pay_5 : decode cX1_pay 5 = .ok (.iload_n 1, 1) := by decide +kernel
theorem dX1_pay_6 : decode cX1_pay 6 = .ok (.isub, 1) := by decide +kernel
theorem dX1_pay_7 : decode cX1_pay 7 = .ok (.putfield 7, 3) := by decide +kernel
theorem dX1_pay_10 : decode cX1_pay 10 = .ok (.aload_n 0, 1) := by decide +kernel
theorem dX1_pay_11 : decode cX1_pay 11 = .ok (.dup, 1) := by decide +kernel
theorem dX1_pay_12 : decode cX1_pay 12 = .ok (.getfield 26, 3) := by decide +kernel
theorem dX1_pay_15 : decode cX1_pay 15 = .ok (.iload_n 1, 1) := by decide +kernel
theorem dX1_pay_16 : decode cX1_pay 16 = .ok (.iadd, 1) := by decide +kernel
theorem dX1_pay_17 : decode cX1_pay 17 = .ok (.putfield 26, 3) := by decide +kernel
theorem dX1_pay_20 : decode cX1_pay 20 = .ok (.return_, 1) := by decide +kernel
set_option maxRecDepth 20000 in
theorem ggX1_pass_X1_town : GoodIn wsX1_pass wsX1_town := goodIn_r _ [13, 14, 15, 16, 12, 17, 2, 18, 19, 20, 21, 22, 23, 24, 25, 26, 27, 6, 28, 29, 30, 31, 36, 37, 38, 39, 40] (by decide +kernel) (by decide +kernel)
set_option maxRecDepth 20000 in
theorem gX1_pass_X1_town : GoodIn wsX1_pass (wsV RX1 53 RX1 yX1_town wsX1_town) := goodIn_app (goodIn_of _ (by decide +kernel)) ggX1_pass_X1_town
set_option maxRecDepth 20000 in
theorem ggX1_pass_X1_people : GoodIn wsX1_pass wsX1_people := goodIn_r _ [35, 2, 36, 37, 38, 39, 40] (by decide +kernel) (by decide +kernel)
set_option maxRecDepth 20000 in
theorem gX1_pass_X1_people : GoodIn wsX1_pass (wsV RX1 57 RX1 yX1_people wsX1_people) := goodIn_app (goodIn_of _ (by decide +kernel)) ggX1_pass_X1_people
theorem dX1_pass_0 : decode cX1_pass 0 = .ok (.aload_n 0, 1) := by decide +kernel
theorem dX1_pass_1 : decode cX1_pass 1 = .ok (.getfield 23, 3) := by decide +kernel
theorem dX1_pass_4 : decode cX1_pass 4 = .ok (.istore_n 2, 1) := by decide +kernel
theorem dX1_pass_5 : decode cX1_pass 5 = .ok (.iconst 0, 1) := by decide +kernel
theorem dX1_pass_6 : decode cX1_pass 6 = .ok (.istore_n 3, 1) := by decide +kernel
theorem dX1_pass_7 : decode cX1_pass 7 = .ok (.iload_n 3, 1) := by decide +kernel
theorem dX1_pass_8 : decode cX1_pass 8 = .ok (.iload_n 1, 1) := by decide +kernel
theorem dX1_pass_9 : decode cX1_pass 9 = .ok (.if_icmp .ge 160, 3) := by decide +kernel
theorem dX1_pass_12 : decode cX1_pass 12 = .ok (.aload_n 0, 1) := by decide +kernel
theorem dX1_pass_13 : decode cX1_pass 13 = .ok (.getfield 15, 3) := by decide +kernel
theorem dX1_pass_16 : decode cX1_pass 16 = .ok (.astore 4, 2) := by decide +kernel
theorem dX1_pass_18 : decode cX1_pass 18 = .ok (.aload 4, 2) := by decide +kernel
theorem dX1_pass_20 : decode cX1_pass 20 = .ok (.arraylength, 1) := by decide +kernel
theorem dX1_pass_21 : decode cX1_pass 21 = .ok (.istore 5, 2) := by decide +kernel
theorem dX1_pass_23 : decode cX1_pass 23 = .ok (.iconst 0, 1) := by decide +kernel
theorem dX1_pass_24 : decode cX1_pass 24 = .ok (.istore 6, 2) := by decide +kernel
theorem dX1_pass_26 : decode cX1_pass 26 = .ok (.iload 6, 2) := by decide +kernel
theorem dX1_pass_28 : decode cX1_pass 28 = .ok (.iload 5, 2) := by decide +kernel
theorem dX1_pass_30 : decode cX1_pass 30 = .ok (.if_icmp .ge 56, 3) := by decide +kernel
theorem dX1_pass_33 : decode cX1_pass 33 = .ok (.aload 4, 2) := by decide +kernel
theorem dX1_pass_35 : decode cX1_pass 35 = .ok (.iload 6, 2) := by decide +kernel
theorem dX1_pass_37 : decode cX1_pass 37 = .ok (.aaload, 1) := by decide +kernel
theorem dX1_pass_38 : decode cX1_pass 38 = .ok (.astore 7, 2) := by decide +kernel
theorem dX1_pass_40 : decode cX1_pass 40 = .ok (.iconst 0, 1) := by decide +kernel
theorem dX1_pass_41 : decode cX1_pass 41 = .ok (.istore 8, 2) := by decide +kernel
theorem dX1_pass_43 : decode cX1_pass 43 = .ok (.iload 8, 2) := by decide +kernel
theorem dX1_pass_45 : decode cX1_pass 45 = .ok (.aload 7, 2) := by decide +kernel
theorem dX1_pass_47 : decode cX1_pass 47 = .ok (.iconst 4, 1) := by decide +kernel
theorem dX1_pass_48 : decode cX1_pass 48 = .ok (.iaload, 1) := by decide +kernel
theorem dX1_pass_49 : decode cX1_pass 49 = .ok (.if_icmp .ge 31, 3) := by decide +kernel
theorem dX1_pass_52 : decode cX1_pass 52 = .ok (.aload 7, 2) := by decide +kernel
theorem dX1_pass_54 : decode cX1_pass 54 = .ok (.iconst 3, 1) := by decide +kernel
theorem dX1_pass_55 : decode cX1_pass 55 = .ok (.aload 7, 2) := by decide +kernel
theorem dX1_pass_57 : decode cX1_pass 57 = .ok (.iconst 3, 1) := by decide +kernel
theorem dX1_pass_58 : decode cX1_pass 58 = .ok (.iaload, 1) := by decide +kernel
theorem dX1_pass_59 : decode cX1_pass 59 = .ok (.iconst 5, 1) := by decide +kernel
theorem dX1_pass_60 : decode cX1_pass 60 = .ok (.if_icmp .ne 7, 3) := by decide +kernel
theorem dX1_pass_63 : decode cX1_pass 63 = .ok (.iconst 0, 1) := by decide +kernel
theorem dX1_pass_64 : decode cX1_pass 64 = .ok (.goto 9, 3) := by decide +kernel
theorem dX1_pass_67 : decode cX1_pass 67 = .ok (.aload 7, 2) := by decide +kernel
theorem dX1_pass_69 : decode cX1_pass 69 = .ok (.iconst 3, 1) := by decide +kernel
theorem dX1_pass_70 : decode cX1_pass 70 = .ok (.iaload, 1) := by decide +kernel
theorem dX1_pass_71 : decode cX1_pass 71 = .ok (.iconst 1, 1) := by decide +kernel
theorem dX1_pass_72 : decode cX1_pass 72 = .ok (.iadd, 1) := by decide +kernel
theorem dX1_pass_73 : decode cX1_pass 73 = .ok (.iastore, 1) := by decide +kernel
theorem dX1_pass_74 : decode cX1_pass 74 = .ok (.iinc 8 1, 3) := by decide +kernel
theorem dX1_pass_77 : decode cX1_pass 77 = .ok (.goto (-34), 3) := by decide +kernel
theorem dX1_pass_80 : decode cX1_pass 80 = .ok (.iinc 6 1, 3) := by decide +kernel
theorem dX1_pass_83 : decode cX1_pass 83 = .ok (.goto (-57), 3) := by decide +kernel
theorem dX1_pass_86 : decode cX1_pass 86 = .ok (.aload_n 0, 1) := by decide +kernel
theorem dX1_pass_87 : decode cX1_pass 87 = .ok (.dup, 1) := by decide +kernel
theorem dX1_pass_88 : decode cX1_pass 88 = .ok (.getfield 23, 3) := by decide +kernel
theorem dX1_pass_91 : decode cX1_pass 91 = .ok (.aload_n 0, 1) := by decide +kernel
theorem dX1_pass_92 : decode cX1_pass 92 = .ok (.invokevirtual 53, 3) := by decide +kernel
theorem dX1_pass_95 : decode cX1_pass 95 = .ok (.iadd, 1) := by decide +kernel
theorem dX1_pass_96 : decode cX1_pass 96 = .ok (.putfield 23, 3) := by decide +kernel
theorem dX1_pass_99 : decode cX1_pass 99 = .ok (.iconst 0, 1) := by decide +kernel
theorem dX1_pass_100 : decode cX1_pass 100 = .ok (.istore 4, 2) := by decide +kernel
theorem dX1_pass_102 : decode cX1_pass 102 = .ok (.iconst 0, 1) := by decide +kernel
theorem dX1_pass_103 : decode cX1_pass 103 = .ok (.istore 5, 2) := by decide +kernel
theorem dX1_pass_105 : decode cX1_pass 105 = .ok (.iload 5, 2) := by decide +kernel
theorem dX1_pass_107 : decode cX1_pass 107 = .ok (.bipush 6, 2) := by decide +kernel
theorem dX1_pass_109 : decode cX1_pass 109 = .ok (.if_icmp .ge 28, 3) := by decide +kernel
theorem dX1_pass_112 : decode cX1_pass 112 = .ok (.iload 4, 2) := by decide +kernel
theorem dX1_pass_114 : decode cX1_pass 114 = .ok (.aload_n 0, 1) := by decide +kernel
theorem dX1_pass_115 : decode cX1_pass 115 = .ok (.iload 5, 2) := by decide +kernel
theorem dX1_pass_117 : decode cX1_pass 117 = .ok (.invokevirtual 57, 3) := by decide +kernel
theorem dX1_pass_120 : decode cX1_pass 120 = .ok (.ifCond .ne 7, 3) := by decide +kernel
theorem dX1_pass_123 : decode cX1_pass 123 = .ok (.iconst 1, 1) := by decide +kernel
theorem dX1_pass_124 : decode cX1_pass 124 = .ok (.goto 4, 3) := by decide +kernel
theorem dX1_pass_127 : decode cX1_pass 127 = .ok (.iconst 0, 1) := by decide +kernel
theorem dX1_pass_128 : decode cX1_pass 128 = .ok (.iadd, 1) := by decide +kernel
theorem dX1_pass_129 : decode cX1_pass 129 = .ok (.istore 4, 2) := by decide +kernel
theorem dX1_pass_131 : decode cX1_pass 131 = .ok (.iinc 5 1, 3) := by decide +kernel
theorem dX1_pass_134 : decode cX1_pass 134 = .ok (.goto (-29), 3) := by decide +kernel
theorem dX1_pass_137 : decode cX1_pass 137 = .ok (.aload_n 0, 1) := by decide +kernel
theorem dX1_pass_138 : decode cX1_pass 138 = .ok (.bipush 100, 2) := by decide +kernel
theorem dX1_pass_140 : decode cX1_pass 140 = .ok (.aload_n 0, 1) := by decide +kernel
theorem dX1_pass_141 : decode cX1_pass 141 = .ok (.getfield 7, 3) := by decide +kernel
theorem dX1_pass_144 : decode cX1_pass 144 = .ok (.iload 4, 2) := by decide +kernel
theorem dX1_pass_146 : decode cX1_pass 146 = .ok (.iadd, 1) := by decide +kernel
theorem dX1_pass_147 : decode cX1_pass 147 = .ok (.invokestatic 60, 3) := by decide +kernel
theorem dX1_pass_150 : decode cX1_pass 150 = .ok (.putfield 7, 3) := by decide +kernel
theorem dX1_pass_153 : decode cX1_pass 153 = .ok (.aload_n 0, 1) := by decide +kernel
theorem dX1_pass_154 : decode cX1_pass 154 = .ok (.dup, 1) := by decide +kernel
theorem dX1_pass_155 : decode cX1_pass 155 = .ok (.getfield 20, 3) := by decide +kernel
theorem dX1_pass_158 : decode cX1_pass 158 = .ok (.iconst 1, 1) := by decide +kernel
theorem dX1_pass_159 : decode cX1_pass 159 = .ok (.iadd, 1) := by decide +kernel
theorem dX1_pass_160 : decode cX1_pass 160 = .ok (.putfield 20, 3) := by decide +kernel
theorem dX1_pass_163 : decode cX1_pass 163 = .ok (.iinc 3 1, 3) := by decide +kernel
theorem dX1_pass_166 : decode cX1_pass 166 = .ok (.goto (-159), 3) := by decide +kernel
theorem dX1_pass_169 : decode cX1_pass 169 = .ok (.aload_n 0, 1) := by decide +kernel
theorem dX1_pass_170 : decode cX1_pass 170 = .ok (.getfield 23, 3) := by decide +kernel
theorem dX1_pass_173 : decode cX1_pass 173 = .ok (.iload_n 2, 1) := by decide +kernel
theorem dX1_pass_174 : decode cX1_pass 174 = .ok (.isub, 1) := by decide +kernel
theorem dX1_pass_175 : decode cX1_pass 175 = .ok (.ireturn, 1) := by decide +kernel
set_option maxRecDepth 20000 in
theorem ggX1_isSame_X0_strangers : GoodIn wsX1_isSame wsX0_strangers := goodIn_r _ [10, 11, 193, 194, 195, 196, 197, 198, 199, 200, 201] (by decide +kernel) (by decide +kernel)
set_option maxRecDepth 20000 in
theorem gX1_isSame_X0_strangers : GoodIn wsX1_isSame (wsV RX1 64 RX0 yX0_strangers wsX0_strangers) := goodIn_app (goodIn_of _ (by decide +kernel)) ggX1_isSame_X0_strangers
set_option maxRecDepth 20000 in
theorem ggX1_isSame_X0_hour : GoodIn wsX1_isSame wsX0_hour := goodIn_r _ [15, 16, 193, 194, 195, 196, 197, 198, 199, 200, 201] (by decide +kernel) (by decide +kernel)
set_option maxRecDepth 20000 in
theorem gX1_isSame_X0_hour : GoodIn wsX1_isSame (wsV RX1 69 RX0 yX0_hour wsX0_hour) := goodIn_app (goodIn_of _ (by decide +kernel)) ggX1_isSame_X0_hour
set_option maxRecDepth 20000 in
theorem ggX1_isSame_X0_store : GoodIn wsX1_isSame wsX0_store := goodIn_r _ [20, 21, 193, 194, 195, 196, 197, 198, 199, 200, 201] (by decide +kernel) (by decide +kernel)
set_option maxRecDepth 20000 in
theorem gX1_isSame_X0_store : GoodIn wsX1_isSame (wsV RX1 71 RX0 yX0_store wsX0_store) := goodIn_app (goodIn_of _ (by decide +kernel)) ggX1_isSame_X0_store
set_option maxRecDepth 20000 in
theorem ggX1_isSame_X0_counted : GoodIn wsX1_isSame wsX0_counted := goodIn_r _ [25, 26, 193, 194, 195, 196, 197, 198, 199, 200, 201] (by decide +kernel) (by decide +kernel)
set_option maxRecDepth 20000 in
theorem gX1_isSame_X0_counted : GoodIn wsX1_isSame (wsV RX1 73 RX0 yX0_counted wsX0_counted) := goodIn_app (goodIn_of _ (by decide +kernel)) ggX1_isSame_X0_counted
set_option maxRecDepth 20000 in
theorem ggX1_isSame_X0_spent : GoodIn wsX1_isSame wsX0_spent := goodIn_r _ [30, 31, 193, 194, 195, 196, 197, 198, 199, 200, 201] (by decide +kernel) (by decide +kernel)
set_option maxRecDepth 20000 in
theorem gX1_isSame_X0_spent : GoodIn wsX1_isSame (wsV RX1 75 RX0 yX0_spent wsX0_spent) := goodIn_app (goodIn_of _ (by decide +kernel)) ggX1_isSame_X0_spent
set_option maxRecDepth 20000 in
theorem ggX1_isSame_X0_coincidences : GoodIn wsX1_isSame wsX0_coincidences := goodIn_r _ [35, 36, 37, 38, 9, 39, 11, 40, 41, 42, 43, 44, 45, 46, 47, 48, 49, 50, 51, 52, 53, 54, 55, 56, 57, 58, 59, 60, 61, 62, 63, 64, 65, 66, 67, 193, 194, 195, 196, 197, 198, 199, 200, 201] (by decide +kernel) (by decide +kernel)
set_option maxRecDepth 20000 in
theorem gX1_isSame_X0_coincidences : GoodIn wsX1_isSame (wsV RX1 77 RX0 yX0_coincidences wsX0_coincidences) := goodIn_app (goodIn_of _ (by decide +kernel)) ggX1_isSame_X0_coincidences
set_option maxRecDepth 20000 in
theorem ggX1_isSame_X1_town : GoodIn wsX1_isSame wsX1_town := goodIn_r _ [72, 73, 74, 75, 71, 76, 1, 77, 78, 79, 80, 81, 82, 83, 84, 85, 56, 57, 58, 86, 87, 88, 188, 189, 190, 191, 192] (by decide +kernel) (by decide +kernel)
set_option maxRecDepth 20000 in
theorem gX1_isSame_X1_town : GoodIn wsX1_isSame (wsV RX1 53 RX1 yX1_town wsX1_town) := goodIn_app (goodIn_of _ (by decide +kernel)) ggX1_isSame_X1_town
set_option maxRecDepth 20000 in
theorem ggX1_isSame_X0_peopleAt : GoodIn wsX1_isSame wsX0_peopleAt := goodIn_ca (goodIn_r _ [92, 93, 94, 9, 95, 96, 97, 98, 99, 100, 101, 102, 103, 104, 11, 44, 193, 194, 195, 196, 197, 198, 199, 200, 201] (by decide +kernel) (by decide +kernel)) (goodIn_sub (fun _ h => List.mem_cons_of_mem _ (List.mem_append_left _ (List.mem_append_right _ h))) (by decide +kernel))
set_option maxRecDepth 20000 in
theorem gX1_isSame_X0_peopleAt : GoodIn wsX1_isSame (wsV RX1 80 RX0 yX0_peopleAt wsX0_peopleAt) := goodIn_app (goodIn_of _ (by decide +kernel)) ggX1_isSame_X0_peopleAt
set_option maxRecDepth 20000 in
theorem ggX1_isSame_X1_people : GoodIn wsX1_isSame wsX1_people := goodIn_r _ [108, 1, 188, 189, 190, 191, 192] (by decide +kernel) (by decide +kernel)
set_option maxRecDepth 20000 in
theorem gX1_isSame_X1_people : GoodIn wsX1_isSame (wsV RX1 57 RX1 yX1_people wsX1_people) := goodIn_app (goodIn_of _ (by decide +kernel)) ggX1_isSame_X1_people
set_option maxRecDepth 20000 in
theorem ggX1_isSame_X0_coincidencesAt : GoodIn wsX1_isSame wsX0_coincidencesAt := goodIn_ca (goodIn_r _ [112, 11, 44, 93, 94, 9, 95, 96, 97, 98, 99, 100, 46, 47, 48, 49, 50, 51, 52, 53, 54, 55, 56, 57, 58, 59, 60, 61, 62, 63, 64, 65, 66, 67, 193, 194, 195, 196, 197, 198, 199, 200, 201] (by decide +kernel) (by decide +kernel)) (goodIn_sub (fun _ h => List.mem_cons_of_mem _ (List.mem_append_left _ (List.mem_append_right _ h))) (by decide +kernel))
set_option maxRecDepth 20000 in
theorem gX1_isSame_X0_coincidencesAt : GoodIn wsX1_isSame (wsV RX1 83 RX0 yX0_coincidencesAt wsX0_coincidencesAt) := goodIn_app (goodIn_of _ (by decide +kernel)) ggX1_isSame_X0_coincidencesAt
set_option maxRecDepth 20000 in
theorem ggX1_isSame_X1_at : GoodIn wsX1_isSame wsX1_at := goodIn_r _ [76, 1, 77, 78, 79, 71, 80, 81, 82, 83, 84, 85, 56, 57, 58, 86, 87, 88, 188, 189, 190, 191, 192] (by decide +kernel) (by decide +kernel)
set_option maxRecDepth 20000 in
theorem gX1_isSame_X1_at : GoodIn wsX1_isSame (wsV RX1 50 RX1 yX1_at wsX1_at) := goodIn_app (goodIn_of _ (by decide +kernel)) ggX1_isSame_X1_at
set_option maxRecDepth 20000 in
theorem ggX1_isSame_X1_luck : GoodIn wsX1_isSame wsX1_luck := goodIn_r _ [80, 1, 81, 82, 83, 71, 84, 85, 56, 57, 58, 86, 87, 88, 188, 189, 190, 191, 192] (by decide +kernel) (by decide +kernel)
set_option maxRecDepth 20000 in
theorem gX1_isSame_X1_luck : GoodIn wsX1_isSame (wsV RX1 47 RX1 yX1_luck wsX1_luck) := goodIn_app (goodIn_of _ (by decide +kernel)) ggX1_isSame_X1_luck
set_option maxRecDepth 20000 in
theorem ggX1_isSame_X0_ticketOf : GoodIn wsX1_isSame wsX0_ticketOf := goodIn_ca (goodIn_r _ [116, 50, 117, 118, 119, 9, 120, 96, 97, 11, 193, 194, 195, 196, 197, 198, 199, 200, 201] (by decide +kernel) (by decide +kernel)) (goodIn_sub (fun _ h => List.mem_cons_of_mem _ (List.mem_append_left _ (List.mem_append_right _ h))) (by decide +kernel))
set_option maxRecDepth 20000 in
theorem gX1_isSame_X0_ticketOf : GoodIn wsX1_isSame (wsV RX1 86 RX0 yX0_ticketOf wsX0_ticketOf) := goodIn_app (goodIn_of _ (by decide +kernel)) ggX1_isSame_X0_ticketOf
set_option maxRecDepth 20000 in
theorem ggX1_isSame_X1_ticket : GoodIn wsX1_isSame wsX1_ticket := goodIn_r _ [124, 1, 188, 189, 190, 191, 192] (by decide +kernel) (by decide +kernel)
set_option maxRecDepth 20000 in
theorem gX1_isSame_X1_ticket : GoodIn wsX1_isSame (wsV RX1 89 RX1 yX1_ticket wsX1_ticket) := goodIn_app (goodIn_of _ (by decide +kernel)) ggX1_isSame_X1_ticket
set_option maxRecDepth 20000 in
theorem ggX1_isSame_X0_colourOf : GoodIn wsX1_isSame wsX0_colourOf := goodIn_ca (goodIn_r _ [128, 51, 117, 118, 119, 9, 120, 96, 97, 11, 193, 194, 195, 196, 197, 198, 199, 200, 201] (by decide +kernel) (by decide +kernel)) (goodIn_sub (fun _ h => List.mem_cons_of_mem _ (List.mem_append_left _ (List.mem_append_right _ h))) (by decide +kernel))
set_option maxRecDepth 20000 in
theorem gX1_isSame_X0_colourOf : GoodIn wsX1_isSame (wsV RX1 92 RX0 yX0_colourOf wsX0_colourOf) := goodIn_app (goodIn_of _ (by decide +kernel)) ggX1_isSame_X0_colourOf
set_option maxRecDepth 20000 in
theorem ggX1_isSame_X0_cornerOf : GoodIn wsX1_isSame wsX0_cornerOf := goodIn_ca (goodIn_r _ [132, 44, 117, 118, 119, 9, 120, 96, 97, 11, 193, 194, 195, 196, 197, 198, 199, 200, 201] (by decide +kernel) (by decide +kernel)) (goodIn_sub (fun _ h => List.mem_cons_of_mem _ (List.mem_append_left _ (List.mem_append_right _ h))) (by decide +kernel))
set_option maxRecDepth 20000 in
theorem gX1_isSame_X0_cornerOf : GoodIn wsX1_isSame (wsV RX1 95 RX0 yX0_cornerOf wsX0_cornerOf) := goodIn_app (goodIn_of _ (by decide +kernel)) ggX1_isSame_X0_cornerOf
set_option maxRecDepth 20000 in
theorem ggX1_isSame_X0_walkOf : GoodIn wsX1_isSame wsX0_walkOf := goodIn_ca (goodIn_r _ [136, 45, 117, 118, 119, 9, 120, 96, 97, 11, 193, 194, 195, 196, 197, 198, 199, 200, 201] (by decide +kernel) (by decide +kernel)) (goodIn_sub (fun _ h => List.mem_cons_of_mem _ (List.mem_append_left _ (List.mem_append_right _ h))) (by decide +kernel))
set_option maxRecDepth 20000 in
theorem gX1_isSame_X0_walkOf : GoodIn wsX1_isSame (wsV RX1 98 RX0 yX0_walkOf wsX0_walkOf) := goodIn_app (goodIn_of _ (by decide +kernel)) ggX1_isSame_X0_walkOf
set_option maxRecDepth 20000 in
theorem ggX1_isSame_X0_luckOf : GoodIn wsX1_isSame wsX0_luckOf := goodIn_ca (goodIn_r _ [140, 117, 118, 119, 9, 120, 96, 97, 11, 141, 142, 143, 144, 50, 44, 145, 146, 147, 148, 51, 52, 53, 54, 55, 56, 57, 58, 59, 60, 61, 62, 63, 64, 65, 66, 67, 193, 194, 195, 196, 197, 198, 199, 200, 201] (by decide +kernel) (by decide +kernel)) (goodIn_sub (fun _ h => List.mem_cons_of_mem _ (List.mem_append_left _ (List.mem_append_right _ h))) (by decide +kernel))
set_option maxRecDepth 20000 in
theorem gX1_isSame_X0_luckOf : GoodIn wsX1_isSame (wsV RX1 101 RX0 yX0_luckOf wsX0_luckOf) := goodIn_app (goodIn_of _ (by decide +kernel)) ggX1_isSame_X0_luckOf
set_option maxRecDepth 20000 in
theorem ggX1_isSame_X1_points : GoodIn wsX1_isSame wsX1_points := goodIn_r _ [84, 85, 56, 57, 58, 86, 87, 71, 88] (by decide +kernel) (by decide +kernel)
set_option maxRecDepth 20000 in
theorem gX1_isSame_X1_points : GoodIn wsX1_isSame (wsV RX1 43 RX1 yX1_points wsX1_points) := goodIn_app (goodIn_of _ (by decide +kernel)) ggX1_isSame_X1_points
set_option maxRecDepth 20000 in
theorem ggX1_isSame_X0_pointsOf : GoodIn wsX1_isSame wsX0_pointsOf := goodIn_ca (goodIn_ca (goodIn_r _ [152, 153, 154, 155, 9, 156, 157, 158, 117, 118, 119, 120, 96, 97, 11, 46, 47, 48, 49, 50, 51, 52, 53, 54, 55, 56, 57, 58, 59, 60, 61, 62, 63, 64, 65, 66, 67, 193, 194, 195, 196, 197, 198, 199, 200, 201] (by decide +kernel) (by decide +kernel)) (goodIn_sub (fun _ h => List.mem_cons_of_mem _ (List.mem_append_right _ h)) (by decide +kernel))) (goodIn_sub (fun _ h => List.mem_cons_of_mem _ (List.mem_append_left _ (List.mem_append_right _ h))) (by decide +kernel))
set_option maxRecDepth 20000 in
theorem gX1_isSame_X0_pointsOf : GoodIn wsX1_isSame (wsV RX1 104 RX0 yX0_pointsOf wsX0_pointsOf) := goodIn_app (goodIn_of _ (by decide +kernel)) ggX1_isSame_X0_pointsOf
set_option maxRecDepth 20000 in
theorem ggX1_isSame_X0_areTogether : GoodIn wsX1_isSame wsX0_areTogether := goodIn_ca (goodIn_ca (goodIn_r _ [162, 44, 153, 154, 155, 9, 156, 157, 158, 117, 118, 119, 120, 96, 97, 11, 193, 194, 195, 196, 197, 198, 199, 200, 201] (by decide +kernel) (by decide +kernel)) (goodIn_sub (fun _ h => List.mem_cons_of_mem _ (List.mem_append_right _ h)) (by decide +kernel))) (goodIn_sub (fun _ h => List.mem_cons_of_mem _ (List.mem_append_left _ (List.mem_append_right _ h))) (by decide +kernel))
set_option maxRecDepth 20000 in
theorem gX1_isSame_X0_areTogether : GoodIn wsX1_isSame (wsV RX1 107 RX0 yX0_areTogether wsX0_areTogether) := goodIn_app (goodIn_of _ (by decide +kernel)) ggX1_isSame_X0_areTogether
set_option maxRecDepth 20000 in
theorem ggX1_isSame_X0_areMirrored : GoodIn wsX1_isSame wsX0_areMirrored := goodIn_ca (goodIn_ca (goodIn_r _ [166, 50, 153, 154, 155, 9, 156, 157, 158, 117, 118, 119, 120, 96, 97, 11, 62, 63, 64, 193, 194, 195, 196, 197, 198, 199, 200, 201] (by decide +kernel) (by decide +kernel)) (goodIn_sub (fun _ h => List.mem_cons_of_mem _ (List.mem_append_right _ h)) (by decide +kernel))) (goodIn_sub (fun _ h => List.mem_cons_of_mem _ (List.mem_append_left _ (List.mem_append_right _ h))) (by decide +kernel))
set_option maxRecDepth 20000 in
theorem gX1_isSame_X0_areMirrored : GoodIn wsX1_isSame (wsV RX1 111 RX0 yX0_areMirrored wsX0_areMirrored) := goodIn_app (goodIn_of _ (by decide +kernel)) ggX1_isSame_X0_areMirrored
set_option maxRecDepth 20000 in
theorem ggX1_isSame_X1_isMirror : GoodIn wsX1_isSame wsX1_isMirror := goodIn_r _ [88] (by decide +kernel) (by decide +kernel)
set_option maxRecDepth 20000 in
theorem gX1_isSame_X1_isMirror : GoodIn wsX1_isSame (va_wsS RX1 39 yX1_isMirror wsX1_isMirror) := goodIn_app (goodIn_of _ (by decide +kernel)) ggX1_isSame_X1_isMirror
set_option maxRecDepth 20000 in
theorem ggX1_isSame_X0_costOfMeeting : GoodIn wsX1_isSame wsX0_costOfMeeting := goodIn_ca (goodIn_ca (goodIn_r _ [170, 44, 153, 154, 155, 9, 156, 157, 158, 117, 118, 119, 120, 96, 97, 11, 171, 172, 173, 55, 56, 57, 58, 174, 175, 176, 193, 194, 195, 196, 197, 198, 199, 200, 201] (by decide +kernel) (by decide +kernel)) (goodIn_sub (fun _ h => List.mem_cons_of_mem _ (List.mem_append_right _ h)) (by decide +kernel))) (goodIn_sub (fun _ h => List.mem_cons_of_mem _ (List.mem_append_left _ (List.mem_append_right _ h))) (by decide +kernel))
set_option maxRecDepth 20000 in
theorem gX1_isSame_X0_costOfMeeting : GoodIn wsX1_isSame (wsV RX1 114 RX0 yX0_costOfMeeting wsX0_costOfMeeting) := goodIn_app (goodIn_of _ (by decide +kernel)) ggX1_isSame_X0_costOfMeeting
set_option maxRecDepth 20000 in
theorem ggX1_isSame_X1_cost : GoodIn wsX1_isSame wsX1_cost := goodIn_r _ [179] (by decide +kernel) (by decide +kernel)
set_option maxRecDepth 20000 in
theorem gX1_isSame_X1_cost : GoodIn wsX1_isSame (va_wsS RX1 117 yX1_cost wsX1_cost) := goodIn_app (goodIn_of _ (by decide +kernel)) ggX1_isSame_X1_cost
set_option maxRecDepth 20000 in
theorem ggX1_isSame_X0_luckiestPair : GoodIn wsX1_isSame wsX0_luckiestPair := goodIn_r _ [183, 11, 46, 47, 48, 9, 49, 50, 51, 52, 53, 54, 55, 56, 57, 58, 59, 60, 61, 62, 63, 64, 65, 66, 67, 193, 194, 195, 196, 197, 198, 199, 200, 201] (by decide +kernel) (by decide +kernel)
set_option maxRecDepth 20000 in
theorem gX1_isSame_X0_luckiestPair : GoodIn wsX1_isSame (wsV RX1 120 RX0 yX0_luckiestPair wsX0_luckiestPair) := goodIn_app (goodIn_of _ (by decide +kernel)) ggX1_isSame_X0_luckiestPair
set_option maxRecDepth 20000 in
theorem ggX1_isSame_X0_meanLuck : GoodIn wsX1_isSame wsX0_meanLuck := goodIn_r _ [187, 11, 141, 142, 143, 9, 144, 50, 44, 145, 146, 147, 148, 51, 52, 53, 54, 55, 56, 57, 58, 59, 60, 61, 62, 63, 64, 65, 66, 67, 193, 194, 195, 196, 197, 198, 199, 200, 201] (by decide +kernel) (by decide +kernel)
set_option maxRecDepth 20000 in
theorem gX1_isSame_X0_meanLuck : GoodIn wsX1_isSame (wsV RX1 123 RX0 yX0_meanLuck wsX0_meanLuck) := goodIn_app (goodIn_of _ (by decide +kernel)) ggX1_isSame_X0_meanLuck
theorem dX1_isSame_0 : decode cX1_isSame 0 = .ok (.aload_n 0, 1) := by decide +kernel
theorem dX1_isSame_1 : decode cX1_isSame 1 = .ok (.getfield 15, 3) := by decide +kernel
theorem dX1_isSame_4 : decode cX1_isSame 4 = .ok (.arraylength, 1) := by decide +kernel
theorem dX1_isSame_5 : decode cX1_isSame 5 = .ok (.istore_n 2, 1) := by decide +kernel
theorem dX1_isSame_6 : decode cX1_isSame 6 = .ok (.aload_n 1, 1) := by decide +kernel
theorem dX1_isSame_7 : decode cX1_isSame 7 = .ok (.invokevirtual 64, 3) := by decide +kernel
theorem dX1_isSame_10 : decode cX1_isSame 10 = .ok (.iload_n 2, 1) := by decide +kernel
theorem dX1_isSame_11 : decode cX1_isSame 11 = .ok (.if_icmp .ne 58, 3) := by decide +kernel
theorem dX1_isSame_14 : decode cX1_isSame 14 = .ok (.aload_n 1, 1) := by decide +kernel
theorem dX1_isSame_15 : decode cX1_isSame 15 = .ok (.invokevirtual 69, 3) := by decide +kernel
theorem dX1_isSame_18 : decode cX1_isSame 18 = .ok (.aload_n 0, 1) := by decide +kernel
theorem dX1_isSame_19 : decode cX1_isSame 19 = .ok (.getfield 20, 3) := by decide +kernel
theorem dX1_isSame_22 : decode cX1_isSame 22 = .ok (.if_icmp .ne 47, 3) := by decide +kernel
theorem dX1_isSame_25 : decode cX1_isSame 25 = .ok (.aload_n 1, 1) := by decide +kernel
theorem dX1_isSame_26 : decode cX1_isSame 26 = .ok (.invokevirtual 71, 3) := by decide +kernel
theorem dX1_isSame_29 : decode cX1_isSame 29 = .ok (.aload_n 0, 1) := by decide +kernel
theorem dX1_isSame_30 : decode cX1_isSame 30 = .ok (.getfield 7, 3) := by decide +kernel
theorem dX1_isSame_33 : decode cX1_isSame 33 = .ok (.if_icmp .ne 36, 3) := by decide +kernel
theorem dX1_isSame_36 : decode cX1_isSame 36 = .ok (.aload_n 1, 1) := by decide +kernel
theorem dX1_isSame_37 : decode cX1_isSame 37 = .ok (.invokevirtual 73, 3) := by decide +kernel
theorem dX1_isSame_40 : decode cX1_isSame 40 = .ok (.aload_n 0, 1) := by decide +kernel
theorem dX1_isSame_41 : decode cX1_isSame 41 = .ok (.getfield 23, 3) := by decide +kernel
theorem dX1_isSame_44 : decode cX1_isSame 44 = .ok (.if_icmp .ne 25, 3) := by decide +kernel
theorem dX1_isSame_47 : decode cX1_isSame 47 = .ok (.aload_n 1, 1) := by decide +kernel
theorem dX1_isSame_48 : decode cX1_isSame 48 = .ok (.invokevirtual 75, 3) := by decide +kernel
theorem dX1_isSame_51 : decode cX1_isSame 51 = .ok (.aload_n 0, 1) := by decide +kernel
theorem dX1_isSame_52 : decode cX1_isSame 52 = .ok (.getfield 26, 3) := by decide +kernel
theorem dX1_isSame_55 : decode cX1_isSame 55 = .ok (.if_icmp .ne 14, 3) := by decide +kernel
theorem dX1_isSame_58 : decode cX1_isSame 58 = .ok (.aload_n 1, 1) := by decide +kernel
theorem dX1_isSame_59 : decode cX1_isSame 59 = .ok (.invokevirtual 77, 3) := by decide +kernel
theorem dX1_isSame_62 : decode cX1_isSame 62 = .ok (.aload_n 0, 1) := by decide +kernel
theorem dX1_isSame_63 : decode cX1_isSame 63 = .ok (.invokevirtual 53, 3) := by decide +kernel
theorem dX1_isSame_66 : decode cX1_isSame 66 = .ok (.if_icmp .eq 5, 3) := by decide +kernel
theorem dX1_isSame_69 : decode cX1_isSame 69 = .ok (.iconst 0, 1) := by decide +kernel
theorem dX1_isSame_70 : decode cX1_isSame 70 = .ok (.ireturn, 1) := by decide +kernel
theorem dX1_isSame_71 : decode cX1_isSame 71 = .ok (.iconst 0, 1) := by decide +kernel
theorem dX1_isSame_72 : decode cX1_isSame 72 = .ok (.istore_n 3, 1) := by decide +kernel
theorem dX1_isSame_73 : decode cX1_isSame 73 = .ok (.iload_n 3, 1) := by decide +kernel
theorem dX1_isSame_74 : decode cX1_isSame 74 = .ok (.bipush 6, 2) := by decide +kernel
theorem dX1_isSame_76 : decode cX1_isSame 76 = .ok (.if_icmp .ge 37, 3) := by decide +kernel
theorem dX1_isSame_79 : decode cX1_isSame 79 = .ok (.aload_n 1, 1) := by decide +kernel
theorem dX1_isSame_80 : decode cX1_isSame 80 = .ok (.iload_n 3, 1) := by decide +kernel
theorem dX1_isSame_81 : decode cX1_isSame 81 = .ok (.invokevirtual 80, 3) := by decide +kernel
theorem dX1_isSame_84 : decode cX1_isSame 84 = .ok (.aload_n 0, 1) := by decide +kernel
theorem dX1_isSame_85 : decode cX1_isSame 85 = .ok (.iload_n 3, 1) := by decide +kernel
theorem dX1_isSame_86 : decode cX1_isSame 86 = .ok (.invokevirtual 57, 3) := by decide +kernel
theorem dX1_isSame_89 : decode cX1_isSame 89 = .ok (.if_icmp .ne 16, 3) := by decide +kernel
theorem dX1_isSame_92 : decode cX1_isSame 92 = .ok (.aload_n 1, 1) := by decide +kernel
theorem dX1_isSame_93 : decode cX1_isSame 93 = .ok (.iload_n 3, 1) := by decide +kernel
theorem dX1_isSame_94 : decode cX1_isSame 94 = .ok (.invokevirtual 83, 3) := by decide +kernel
theorem dX1_isSame_97 : decode cX1_isSame 97 = .ok (.aload_n 0, 1) := by decide +kernel
theorem dX1_isSame_98 : decode cX1_isSame 98 = .ok (.iload_n 3, 1) := by decide +kernel
theorem dX1_isSame_99 : decode cX1_isSame 99 = .ok (.invokevirtual 50, 3) := by decide +kernel
theorem dX1_isSame_102 : decode cX1_isSame 102 = .ok (.if_icmp .eq 5, 3) := by decide +kernel
theorem dX1_isSame_105 : decode cX1_isSame 105 = .ok (.iconst 0, 1) := by decide +kernel
theorem dX1_isSame_106 : decode cX1_isSame 106 = .ok (.ireturn, 1) := by decide +kernel
theorem dX1_isSame_107 : decode cX1_isSame 107 = .ok (.iinc 3 1, 3) := by decide +kernel
theorem dX1_isSame_110 : decode cX1_isSame 110 = .ok (.goto (-37), 3) := by decide +kernel
theorem dX1_isSame_113 : decode cX1_isSame 113 = .ok (.iconst (-1), 1) := by decide +kernel
theorem dX1_isSame_114 : decode cX1_isSame 114 = .ok (.istore_n 3, 1) := by decide +kernel
theorem dX1_isSame_115 : decode cX1_isSame 115 = .ok (.iconst (-1), 1) := by decide +kernel
theorem dX1_isSame_116 : decode cX1_isSame 116 = .ok (.istore 4, 2) := by decide +kernel
theorem dX1_isSame_118 : decode cX1_isSame 118 = .ok (.iconst 0, 1) := by decide +kernel
theorem dX1_isSame_119 : decode cX1_isSame 119 = .ok (.istore 5, 2) := by decide +kernel
theorem dX1_isSame_121 : decode cX1_isSame 121 = .ok (.iload_n 2, 1) := by decide +kernel
theorem dX1_isSame_122 : decode cX1_isSame 122 = .ok (.iconst 1, 1) := by decide +kernel
theorem dX1_isSame_123 : decode cX1_isSame 123 = .ok (.isub, 1) := by decide +kernel
theorem dX1_isSame_124 : decode cX1_isSame 124 = .ok (.istore 6, 2) := by decide +kernel
theorem dX1_isSame_126 : decode cX1_isSame 126 = .ok (.iload 6, 2) := by decide +kernel
theorem dX1_isSame_128 : decode cX1_isSame 128 = .ok (.ifCond .lt 292, 3) := by decide +kernel
theorem dX1_isSame_131 : decode cX1_isSame 131 = .ok (.iload 5, 2) := by decide +kernel
theorem dX1_isSame_133 : decode cX1_isSame 133 = .ok (.aload_n 0, 1) := by decide +kernel
theorem dX1_isSame_134 : decode cX1_isSame 134 = .ok (.iload 6, 2) := by decide +kernel
theorem dX1_isSame_136 : decode cX1_isSame 136 = .ok (.invokevirtual 47, 3) := by decide +kernel
theorem dX1_isSame_139 : decode cX1_isSame 139 = .ok (.iadd, 1) := by decide +kernel
theorem dX1_isSame_140 : decode cX1_isSame 140 = .ok (.istore 5, 2) := by decide +kernel
theorem dX1_isSame_142 : decode cX1_isSame 142 = .ok (.aload_n 1, 1) := by decide +kernel
theorem dX1_isSame_143 : decode cX1_isSame 143 = .ok (.iload 6, 2) := by decide +kernel
theorem dX1_isSame_145 : decode cX1_isSame 145 = .ok (.invokevirtual 86, 3) := by decide +kernel
theorem dX1_isSame_148 : decode cX1_isSame 148 = .ok (.aload_n 0, 1) := by decide +kernel
theorem dX1_isSame_149 : decode cX1_isSame 149 = .ok (.iload 6, 2) := by decide +kernel
theorem dX1_isSame_151 : decode cX1_isSame 151 = .ok (.invokevirtual 89, 3) := by decide +kernel
theorem dX1_isSame_154 : decode cX1_isSame 154 = .ok (.if_icmp .ne 72, 3) := by decide +kernel
theorem dX1_isSame_157 : decode cX1_isSame 157 = .ok (.aload_n 1, 1) := by decide +kernel
theorem dX1_isSame_158 : decode cX1_isSame 158 = .ok (.iload 6, 2) := by decide +kernel
theorem dX1_isSame_160 : decode cX1_isSame 160 = .ok (.invokevirtual 92, 3) := by decide +kernel
theorem dX1_isSame_163 : decode cX1_isSame 163 = .ok (.aload_n 0, 1) := by decide +kernel
theorem dX1_isSame_164 : decode cX1_isSame 164 = .ok (.getfield 15, 3) := by decide +kernel
theorem dX1_isSame_167 : decode cX1_isSame 167 = .ok (.iload 6, 2) := by decide +kernel
theorem dX1_isSame_169 : decode cX1_isSame 169 = .ok (.aaload, 1) := by decide +kernel
theorem dX1_isSame_170 : decode cX1_isSame 170 = .ok (.iconst 2, 1) := by decide +kernel
theorem dX1_isSame_171 : decode cX1_isSame 171 = .ok (.iaload, 1) := by decide +kernel
theorem dX1_isSame_172 : decode cX1_isSame 172 = .ok (.if_icmp .ne 54, 3) := by decide +kernel
theorem dX1_isSame_175 : decode cX1_isSame 175 = .ok (.aload_n 1, 1) := by decide +kernel
theorem dX1_isSame_176 : decode cX1_isSame 176 = .ok (.iload 6, 2) := by decide +kernel
theorem dX1_isSame_178 : decode cX1_isSame 178 = .ok (.invokevirtual 95, 3) := by decide +kernel
theorem dX1_isSame_181 : decode cX1_isSame 181 = .ok (.aload_n 0, 1) := by decide +kernel
theorem dX1_isSame_182 : decode cX1_isSame 182 = .ok (.getfield 15, 3) := by decide +kernel
theorem dX1_isSame_185 : decode cX1_isSame 185 = .ok (.iload 6, 2) := by decide +kernel
theorem dX1_isSame_187 : decode cX1_isSame 187 = .ok (.aaload, 1) := by decide +kernel
theorem dX1_isSame_188 : decode cX1_isSame 188 = .ok (.iconst 3, 1) := by decide +kernel
theorem dX1_isSame_189 : decode cX1_isSame 189 = .ok (.iaload, 1) := by decide +kernel
theorem dX1_isSame_190 : decode cX1_isSame 190 = .ok (.if_icmp .ne 36, 3) := by decide +kernel
theorem dX1_isSame_193 : decode cX1_isSame 193 = .ok (.aload_n 1, 1) := by decide +kernel
theorem dX1_isSame_194 : decode cX1_isSame 194 = .ok (.iload 6, 2) := by decide +kernel
theorem dX1_isSame_196 : decode cX1_isSame 196 = .ok (.invokevirtual 98, 3) := by decide +kernel
theorem dX1_isSame_199 : decode cX1_isSame 199 = .ok (.aload_n 0, 1) := by decide +kernel
theorem dX1_isSame_200 : decode cX1_isSame 200 = .ok (.getfield 15, 3) := by decide +kernel
theorem dX1_isSame_203 : decode cX1_isSame 203 = .ok (.iload 6, 2) := by decide +kernel
theorem dX1_isSame_205 : decode cX1_isSame 205 = .ok (.aaload, 1) := by decide +kernel
theorem dX1_isSame_206 : decode cX1_isSame 206 = .ok (.iconst 4, 1) := by decide +kernel
theorem dX1_isSame_207 : decode cX1_isSame 207 = .ok (.iaload, 1) := by decide +kernel
theorem dX1_isSame_208 : decode cX1_isSame 208 = .ok (.if_icmp .ne 18, 3) := by decide +kernel
theorem dX1_isSame_211 : decode cX1_isSame 211 = .ok (.aload_n 1, 1) := by decide +kernel
theorem dX1_isSame_212 : decode cX1_isSame 212 = .ok (.iload 6, 2) := by decide +kernel
theorem dX1_isSame_214 : decode cX1_isSame 214 = .ok (.invokevirtual 101, 3) := by decide +kernel
theorem dX1_isSame_217 : decode cX1_isSame 217 = .ok (.aload_n 0, 1) := by decide +kernel
theorem dX1_isSame_218 : decode cX1_isSame 218 = .ok (.iload 6, 2) := by decide +kernel
theorem dX1_isSame_220 : decode cX1_isSame 220 = .ok (.invokevirtual 47, 3) := by decide +kernel
theorem dX1_isSame_223 : decode cX1_isSame 223 = .ok (.if_icmp .eq 5, 3) := by decide +kernel
theorem dX1_isSame_226 : decode cX1_isSame 226 = .ok (.iconst 0, 1) := by decide +kernel
theorem dX1_isSame_227 : decode cX1_isSame 227 = .ok (.ireturn, 1) := by decide +kernel
theorem dX1_isSame_228 : decode cX1_isSame 228 = .ok (.iload_n 2, 1) := by decide +kernel
theorem dX1_isSame_229 : decode cX1_isSame 229 = .ok (.iconst 1, 1) := by decide +kernel
theorem dX1_isSame_230 : decode cX1_isSame 230 = .ok (.isub, 1) := by decide +kernel
theorem dX1_isSame_231 : decode cX1_isSame 231 = .ok (.istore 7, 2) := by decide +kernel
theorem dX1_isSame_233 : decode cX1_isSame 233 = .ok (.iload 7, 2) := by decide +kernel
theorem dX1_isSame_235 : decode cX1_isSame 235 = .ok (.iload 6, 2) := by decide +kernel
theorem dX1_isSame_237 : decode cX1_isSame 237 = .ok (.if_icmp .le 177, 3) := by decide +kernel
theorem dX1_isSame_240 : decode cX1_isSame 240 = .ok (.aload_n 0, 1) := by decide +kernel
theorem dX1_isSame_241 : decode cX1_isSame 241 = .ok (.aload_n 0, 1) := by decide +kernel
theorem dX1_isSame_242 : decode cX1_isSame 242 = .ok (.getfield 15, 3) := by decide +kernel
theorem dX1_isSame_245 : decode cX1_isSame 245 = .ok (.iload 6, 2) := by decide +kernel
theorem dX1_isSame_247 : decode cX1_isSame 247 = .ok (.aaload, 1) := by decide +kernel
theorem dX1_isSame_248 : decode cX1_isSame 248 = .ok (.aload_n 0, 1) := by decide +kernel
theorem dX1_isSame_249 : decode cX1_isSame 249 = .ok (.getfield 15, 3) := by decide +kernel
theorem dX1_isSame_252 : decode cX1_isSame 252 = .ok (.iload 7, 2) := by decide +kernel
theorem dX1_isSame_254 : decode cX1_isSame 254 = .ok (.aaload, 1) := by decide +kernel
theorem dX1_isSame_255 : decode cX1_isSame 255 = .ok (.invokevirtual 43, 3) := by decide +kernel
theorem dX1_isSame_258 : decode cX1_isSame 258 = .ok (.istore 8, 2) := by decide +kernel
theorem dX1_isSame_260 : decode cX1_isSame 260 = .ok (.aload_n 1, 1) := by decide +kernel
theorem dX1_isSame_261 : decode cX1_isSame 261 = .ok (.iload 6, 2) := by decide +kernel
theorem dX1_isSame_263 : decode cX1_isSame 263 = .ok (.iload 7, 2) := by decide +kernel
theorem dX1_isSame_265 : decode cX1_isSame 265 = .ok (.invokevirtual 104, 3) := by decide +kernel
theorem dX1_isSame_268 : decode cX1_isSame 268 = .ok (.iload 8, 2) := by decide +kernel
theorem dX1_isSame_270 : decode cX1_isSame 270 = .ok (.if_icmp .ne 113, 3) := by decide +kernel
theorem dX1_isSame_273 : decode cX1_isSame 273 = .ok (.aload_n 1, 1) := by decide +kernel
theorem dX1_isSame_274 : decode cX1_isSame 274 = .ok (.iload 7, 2) := by decide +kernel
theorem dX1_isSame_276 : decode cX1_isSame 276 = .ok (.iload 6, 2) := by decide +kernel
theorem dX1_isSame_278 : decode cX1_isSame 278 = .ok (.invokevirtual 104, 3) := by decide +kernel
theorem dX1_isSame_281 : decode cX1_isSame 281 = .ok (.iload 8, 2) := by decide +kernel
theorem dX1_isSame_283 : decode cX1_isSame 283 = .ok (.if_icmp .ne 100, 3) := by decide +kernel
theorem dX1_isSame_286 : decode cX1_isSame 286 = .ok (.aload_n 1, 1) := by decide +kernel
theorem dX1_isSame_287 : decode cX1_isSame 287 = .ok (.iload 7, 2) := by decide +kernel
theorem dX1_isSame_289 : decode cX1_isSame 289 = .ok (.iload 6, 2) := by decide +kernel
theorem dX1_isSame_291 : decode cX1_isSame 291 = .ok (.invokevirtual 107, 3) := by decide +kernel
theorem dX1_isSame_294 : decode cX1_isSame 294 = .ok (.aload_n 0, 1) := by decide +kernel
theorem dX1_isSame_295 : decode cX1_isSame 295 = .ok (.getfield 15, 3) := by decide +kernel
theorem dX1_isSame_298 : decode cX1_isSame 298 = .ok (.iload 6, 2) := by decide +kernel
theorem dX1_isSame_300 : decode cX1_isSame 300 = .ok (.aaload, 1) := by decide +kernel
theorem dX1_isSame_301 : decode cX1_isSame 301 = .ok (.iconst 3, 1) := by decide +kernel
theorem dX1_isSame_302 : decode cX1_isSame 302 = .ok (.iaload, 1) := by decide +kernel
theorem dX1_isSame_303 : decode cX1_isSame 303 = .ok (.aload_n 0, 1) := by decide +kernel
theorem dX1_isSame_304 : decode cX1_isSame 304 = .ok (.getfield 15, 3) := by decide +kernel
theorem dX1_isSame_307 : decode cX1_isSame 307 = .ok (.iload 7, 2) := by decide +kernel
theorem dX1_isSame_309 : decode cX1_isSame 309 = .ok (.aaload, 1) := by decide +kernel
theorem dX1_isSame_310 : decode cX1_isSame 310 = .ok (.iconst 3, 1) := by decide +kernel
theorem dX1_isSame_311 : decode cX1_isSame 311 = .ok (.iaload, 1) := by decide +kernel
theorem dX1_isSame_312 : decode cX1_isSame 312 = .ok (.if_icmp .ne 7, 3) := by decide +kernel
theorem dX1_isSame_315 : decode cX1_isSame 315 = .ok (.iconst 1, 1) := by decide +kernel
theorem dX1_isSame_316 : decode cX1_isSame 316 = .ok (.goto 4, 3) := by decide +kernel
theorem dX1_isSame_319 : decode cX1_isSame 319 = .ok (.iconst 0, 1) := by decide +kernel
theorem dX1_isSame_320 : decode cX1_isSame 320 = .ok (.if_icmp .ne 63, 3) := by decide +kernel
theorem dX1_isSame_323 : decode cX1_isSame 323 = .ok (.aload_n 1, 1) := by decide +kernel
theorem dX1_isSame_324 : decode cX1_isSame 324 = .ok (.iload 6, 2) := by decide +kernel
theorem dX1_isSame_326 : decode cX1_isSame 326 = .ok (.iload 7, 2) := by decide +kernel
theorem dX1_isSame_328 : decode cX1_isSame 328 = .ok (.invokevirtual 111, 3) := by decide +kernel
theorem dX1_isSame_331 : decode cX1_isSame 331 = .ok (.aload_n 0, 1) := by decide +kernel
theorem dX1_isSame_332 : decode cX1_isSame 332 = .ok (.getfield 15, 3) := by decide +kernel
theorem dX1_isSame_335 : decode cX1_isSame 335 = .ok (.iload 7, 2) := by decide +kernel
theorem dX1_isSame_337 : decode cX1_isSame 337 = .ok (.aaload, 1) := by decide +kernel
theorem dX1_isSame_338 : decode cX1_isSame 338 = .ok (.aload_n 0, 1) := by decide +kernel
theorem dX1_isSame_339 : decode cX1_isSame 339 = .ok (.getfield 15, 3) := by decide +kernel
theorem dX1_isSame_342 : decode cX1_isSame 342 = .ok (.iload 6, 2) := by decide +kernel
theorem dX1_isSame_344 : decode cX1_isSame 344 = .ok (.aaload, 1) := by decide +kernel
theorem dX1_isSame_345 : decode cX1_isSame 345 = .ok (.invokestatic 39, 3) := by decide +kernel
theorem dX1_isSame_348 : decode cX1_isSame 348 = .ok (.if_icmp .ne 35, 3) := by decide +kernel
theorem dX1_isSame_351 : decode cX1_isSame 351 = .ok (.aload_n 1, 1) := by decide +kernel
theorem dX1_isSame_352 : decode cX1_isSame 352 = .ok (.iload 6, 2) := by decide +kernel
theorem dX1_isSame_354 : decode cX1_isSame 354 = .ok (.iload 7, 2) := by decide +kernel
theorem dX1_isSame_356 : decode cX1_isSame 356 = .ok (.invokevirtual 114, 3) := by decide +kernel
theorem dX1_isSame_359 : decode cX1_isSame 359 = .ok (.aload_n 0, 1) := by decide +kernel
theorem dX1_isSame_360 : decode cX1_isSame 360 = .ok (.getfield 15, 3) := by decide +kernel
theorem dX1_isSame_363 : decode cX1_isSame 363 = .ok (.iload 6, 2) := by decide +kernel
theorem dX1_isSame_365 : decode cX1_isSame 365 = .ok (.aaload, 1) := by decide +kernel
theorem dX1_isSame_366 : decode cX1_isSame 366 = .ok (.iconst 3, 1) := by decide +kernel
theorem dX1_isSame_367 : decode cX1_isSame 367 = .ok (.iaload, 1) := by decide +kernel
theorem dX1_isSame_368 : decode cX1_isSame 368 = .ok (.aload_n 0, 1) := by decide +kernel
theorem dX1_isSame_369 : decode cX1_isSame 369 = .ok (.getfield 15, 3) := by decide +kernel
theorem dX1_isSame_372 : decode cX1_isSame 372 = .ok (.iload 7, 2) := by decide +kernel
theorem dX1_isSame_374 : decode cX1_isSame 374 = .ok (.aaload, 1) := by decide +kernel
theorem dX1_isSame_375 : decode cX1_isSame 375 = .ok (.iconst 3, 1) := by decide +kernel
theorem dX1_isSame_376 : decode cX1_isSame 376 = .ok (.iaload, 1) := by decide +kernel
theorem dX1_isSame_377 : decode cX1_isSame 377 = .ok (.invokestatic 117, 3) := by decide +kernel
theorem dX1_isSame_380 : decode cX1_isSame 380 = .ok (.if_icmp .eq 5, 3) := by decide +kernel
theorem dX1_isSame_383 : decode cX1_isSame 383 = .ok (.iconst 0, 1) := by decide +kernel
theorem dX1_isSame_384 : decode cX1_isSame 384 = .ok (.ireturn, 1) := by decide +kernel
theorem dX1_isSame_385 : decode cX1_isSame 385 = .ok (.iload 8, 2) := by decide +kernel
theorem dX1_isSame_387 : decode cX1_isSame 387 = .ok (.iload 4, 2) := by decide +kernel
theorem dX1_isSame_389 : decode cX1_isSame 389 = .ok (.if_icmp .ge 6, 3) := by decide +kernel
theorem dX1_isSame_392 : decode cX1_isSame 392 = .ok (.goto 16, 3) := by decide +kernel
theorem dX1_isSame_395 : decode cX1_isSame 395 = .ok (.iload 8, 2) := by decide +kernel
theorem dX1_isSame_397 : decode cX1_isSame 397 = .ok (.istore 4, 2) := by decide +kernel
theorem dX1_isSame_399 : decode cX1_isSame 399 = .ok (.bipush 100, 2) := by decide +kernel
theorem dX1_isSame_401 : decode cX1_isSame 401 = .ok (.iload 6, 2) := by decide +kernel
theorem dX1_isSame_403 : decode cX1_isSame 403 = .ok (.imul, 1) := by decide +kernel
theorem dX1_isSame_404 : decode cX1_isSame 404 = .ok (.iload 7, 2) := by decide +kernel
theorem dX1_isSame_406 : decode cX1_isSame 406 = .ok (.iadd, 1) := by decide +kernel
theorem dX1_isSame_407 : decode cX1_isSame 407 = .ok (.istore_n 3, 1) := by decide +kernel
theorem dX1_isSame_408 : decode cX1_isSame 408 = .ok (.iinc 7 (-1), 3) := by decide +kernel
theorem dX1_isSame_411 : decode cX1_isSame 411 = .ok (.goto (-178), 3) := by decide +kernel
theorem dX1_isSame_414 : decode cX1_isSame 414 = .ok (.iinc 6 (-1), 3) := by decide +kernel
theorem dX1_isSame_417 : decode cX1_isSame 417 = .ok (.goto (-291), 3) := by decide +kernel
theorem dX1_isSame_420 : decode cX1_isSame 420 = .ok (.aload_n 1, 1) := by decide +kernel
theorem dX1_isSame_421 : decode cX1_isSame 421 = .ok (.invokevirtual 120, 3) := by decide +kernel
theorem dX1_isSame_424 : decode cX1_isSame 424 = .ok (.iload_n 3, 1) := by decide +kernel
theorem dX1_isSame_425 : decode cX1_isSame 425 = .ok (.if_icmp .ne 29, 3) := by decide +kernel
theorem dX1_isSame_428 : decode cX1_isSame 428 = .ok (.aload_n 1, 1) := by decide +kernel
theorem dX1_isSame_429 : decode cX1_isSame 429 = .ok (.invokevirtual 123, 3) := by decide +kernel
theorem dX1_isSame_432 : decode cX1_isSame 432 = .ok (.iload_n 2, 1) := by decide +kernel
theorem dX1_isSame_433 : decode cX1_isSame 433 = .ok (.ifCond .ne 7, 3) := by decide +kernel
theorem dX1_isSame_436 : decode cX1_isSame 436 = .ok (.dconst 0, 1) := by decide +kernel
theorem dX1_isSame_437 : decode cX1_isSame 437 = .ok (.goto 9, 3) := by decide +kernel
theorem dX1_isSame_440 : decode cX1_isSame 440 = .ok (.iload 5, 2) := by decide +kernel
theorem dX1_isSame_442 : decode cX1_isSame 442 = .ok (.i2d, 1) := by decide +kernel
theorem dX1_isSame_443 : decode cX1_isSame 443 = .ok (.iload_n 2, 1) := by decide +kernel
theorem dX1_isSame_444 : decode cX1_isSame 444 = .ok (.i2d, 1) := by decide +kernel
theorem dX1_isSame_445 : decode cX1_isSame 445 = .ok (.ddiv, 1) := by decide +kernel
theorem dX1_isSame_446 : decode cX1_isSame 446 = .ok (.dcmp .l, 1) := by decide +kernel
theorem dX1_isSame_447 : decode cX1_isSame 447 = .ok (.ifCond .ne 7, 3) := by decide +kernel
theorem dX1_isSame_450 : decode cX1_isSame 450 = .ok (.iconst 1, 1) := by decide +kernel
theorem dX1_isSame_451 : decode cX1_isSame 451 = .ok (.goto 4, 3) := by decide +kernel
theorem dX1_isSame_454 : decode cX1_isSame 454 = .ok (.iconst 0, 1) := by decide +kernel
theorem dX1_isSame_455 : decode cX1_isSame 455 = .ok (.ireturn, 1) := by decide +kernel
theorem dJ9_abs_0f7a4_0 : decode cJ9_abs_0f7a4 0 = .ok (.iload_n 0, 1) := by decide +kernel
theorem dJ9_abs_0f7a4_1 : decode cJ9_abs_0f7a4 1 = .ok (.ifCond .ge 8, 3) := by decide +kernel
theorem dJ9_abs_0f7a4_4 : decode cJ9_abs_0f7a4 4 = .ok (.iload_n 0, 1) := by decide +kernel
theorem dJ9_abs_0f7a4_5 : decode cJ9_abs_0f7a4 5 = .ok (.ineg, 1) := by decide +kernel
theorem dJ9_abs_0f7a4_6 : decode cJ9_abs_0f7a4 6 = .ok (.goto 4, 3) := by decide +kernel
theorem dJ9_abs_0f7a4_9 : decode cJ9_abs_0f7a4 9 = .ok (.iload_n 0, 1) := by decide +kernel
theorem dJ9_abs_0f7a4_10 : decode cJ9_abs_0f7a4 10 = .ok (.ireturn, 1) := by decide +kernel
theorem dJ9_min_7cf53_0 : decode cJ9_min_7cf53 0 = .ok (.iload_n 0, 1) := by decide +kernel
theorem dJ9_min_7cf53_1 : decode cJ9_min_7cf53 1 = .ok (.iload_n 1, 1) := by decide +kernel
theorem dJ9_min_7cf53_2 : decode cJ9_min_7cf53 2 = .ok (.if_icmp .gt 7, 3) := by decide +kernel
theorem dJ9_min_7cf53_5 : decode cJ9_min_7cf53 5 = .ok (.iload_n 0, 1) := by decide +kernel
theorem dJ9_min_7cf53_6 : decode cJ9_min_7cf53 6 = .ok (.goto 4, 3) := by decide +kernel
theorem dJ9_min_7cf53_9 : decode cJ9_min_7cf53 9 = .ok (.iload_n 1, 1) := by decide +kernel
theorem dJ9_min_7cf53_10 : decode cJ9_min_7cf53 10 = .ok (.ireturn, 1) := by decide +kernel
