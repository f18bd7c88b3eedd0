theorem dX1_init_0 : decode cX1_init 0 = .ok (.aload_n 0, 1) := by decide +kernel
theorem dX1_init_1 : decode cX1_init 1 = .ok (.invokespecial 1, 3) := by decide +kernel
theorem dX1_init_4 : decode cX1_init 4 = .ok (.aload_n 0, 1) := by decide +kernel
theorem dX1_init_5 : decode cX1_init 5 = .ok (.bipush 12, 2) := by decide +kernel
theorem dX1_init_7 : decode cX1_init 7 = .ok (.newarray .int, 2) := by decide +kernel
theorem dX1_init_9 : decode cX1_init 9 = .ok (.putfield 9, 3) := by decide +kernel
theorem dX1_init_12 : decode cX1_init 12 = .ok (.aload_n 0, 1) := by decide +kernel
theorem dX1_init_13 : decode cX1_init 13 = .ok (.bipush 12, 2) := by decide +kernel
theorem dX1_init_15 : decode cX1_init 15 = .ok (.newarray .int, 2) := by decide +kernel
theorem dX1_init_17 : decode cX1_init 17 = .ok (.putfield 13, 3) := by decide +kernel
theorem dX1_init_20 : decode cX1_init 20 = .ok (.aload_n 0, 1) := by decide +kernel
theorem dX1_init_21 : decode cX1_init 21 = .ok (.bipush 12, 2) := by decide +kernel
theorem dX1_init_23 : decode cX1_init 23 = .ok (.newarray .int, 2) := by decide +kernel
theorem dX1_init_25 : decode cX1_init 25 = .ok (.putfield 16, 3) := by decide +kernel
theorem dX1_init_28 : decode cX1_init 28 = .ok (.aload_n 0, 1) := by decide +kernel
theorem dX1_init_29 : decode cX1_init 29 = .ok (.bipush 12, 2) := by decide +kernel
theorem dX1_init_31 : decode cX1_init 31 = .ok (.newarray .int, 2) := by decide +kernel
theorem dX1_init_33 : decode cX1_init 33 = .ok (.putfield 19, 3) := by decide +kernel
theorem dX1_init_36 : decode cX1_init 36 = .ok (.aload_n 0, 1) := by decide +kernel
theorem dX1_init_37 : decode cX1_init 37 = .ok (.bipush 20, 2) := by decide +kernel
theorem dX1_init_39 : decode cX1_init 39 = .ok (.putfield 22, 3) := by decide +kernel
theorem dX1_init_42 : decode cX1_init 42 = .ok (.return_, 1) := by decide +kernel
theorem dX1_thrown_0 : decode cX1_thrown 0 = .ok (.aload_n 0, 1) := by decide +kernel
theorem dX1_thrown_1 : decode cX1_thrown 1 = .ok (.getfield 26, 3) := by decide +kernel
theorem dX1_thrown_4 : decode cX1_thrown 4 = .ok (.ireturn, 1) := by decide +kernel
theorem dX1_no_0 : decode cX1_no 0 = .ok (.aload_n 0, 1) := by decide +kernel
theorem dX1_no_1 : decode cX1_no 1 = .ok (.iload_n 1, 1) := by decide +kernel
theorem dX1_no_2 : decode cX1_no 2 = .ok (.putfield 26, 3) := by decide +kernel
theorem dX1_no_5 : decode cX1_no 5 = .ok (.iconst 0, 1) := by decide +kernel
theorem dX1_no_6 : decode cX1_no 6 = .ok (.ireturn, 1) := by decide +kernel
theorem dX1_ok_0 : decode cX1_ok 0 = .ok (.aload_n 0, 1) := by decide +kernel
theorem dX1_ok_1 : decode cX1_ok 1 = .ok (.iconst 0, 1) := by decide +kernel
theorem dX1_ok_2 : decode cX1_ok 2 = .ok (.putfield 26, 3) := by decide +kernel
theorem dX1_ok_5 : decode cX1_ok 5 = .ok (.iload_n 1, 1) := by decide +kernel
theorem dX1_ok_6 : decode cX1_ok 6 = .ok (.ireturn, 1) := by decide +kernel
theorem dX1_isIn_0 : decode cX1_isIn 0 = .ok (.iload_n 0, 1) := by decide +kernel
theorem dX1_isIn_1 : decode cX1_isIn 1 = .ok (.iload_n 1, 1) := by decide +kernel
theorem dX1_isIn_2 : decode cX1_isIn 2 = .ok (.if_icmp .lt 12, 3) := by decide +kernel
theorem dX1_isIn_5 : decode cX1_isIn 5 = .ok (.iload_n 0, 1) := by decide +kernel
theorem dX1_isIn_6 : decode cX1_isIn 6 = .ok (.iload_n 2, 1) := by decide +kernel
theorem dX1_isIn_7 : decode cX1_isIn 7 = .ok (.if_icmp .gt 7, 3) := by decide +kernel
theorem dX1_isIn_10 : decode cX1_isIn 10 = .ok (.iconst 1, 1) := by decide +kernel
theorem dX1_isIn_11 : decode cX1_isIn 11 = .ok (.goto 4, 3) := by decide +kernel
theorem dX1_isIn_14 : decode cX1_isIn 14 = .ok (.iconst 0, 1) := by decide +kernel
theorem dX1_isIn_15 : decode cX1_isIn 15 = .ok (.ireturn, 1) := by decide +kernel
set_option maxRecDepth 20000 in
theorem ggX1_isOne_X1_isIn : GoodIn wsX1_isOne wsX1_isIn := goodIn_r _ [5] (by decide +kernel) (by decide +kernel)
set_option maxRecDepth 20000 in
theorem gX1_isOne_X1_isIn : GoodIn wsX1_isOne (va_wsS RX1 32 yX1_isIn wsX1_isIn) := goodIn_app (goodIn_of _ (by decide +kernel)) ggX1_isOne_X1_isIn
theorem dX1_isOne_0 : decode cX1_isOne 0 = .ok (.iload_n 1, 1) := by decide +kernel
theorem dX1_isOne_1 : decode cX1_isOne 1 = .ok (.iconst 0, 1) := by decide +kernel
theorem dX1_isOne_2 : decode cX1_isOne 2 = .ok (.aload_n 0, 1) := by decide +kernel
theorem dX1_isOne_3 : decode cX1_isOne 3 = .ok (.getfield 29, 3) := by decide +kernel
theorem dX1_isOne_6 : decode cX1_isOne 6 = .ok (.iconst 1, 1) := by decide +kernel
theorem dX1_isOne_7 : decode cX1_isOne 7 = .ok (.isub, 1) := by decide +kernel
theorem dX1_isOne_8 : decode cX1_isOne 8 = .ok (.invokestatic 32, 3) := by decide +kernel
theorem dX1_isOne_11 : decode cX1_isOne 11 = .ok (.ireturn, 1) := by decide +kernel
set_option maxRecDepth 20000 in
theorem ggX1_isCorner_X1_isIn : GoodIn wsX1_isCorner wsX1_isIn := goodIn_r _ [4] (by decide +kernel) (by decide +kernel)
set_option maxRecDepth 20000 in
theorem gX1_isCorner_X1_isIn : GoodIn wsX1_isCorner (va_wsS RX1 32 yX1_isIn wsX1_isIn) := goodIn_app (goodIn_of _ (by decide +kernel)) ggX1_isCorner_X1_isIn
theorem dX1_isCorner_0 : decode cX1_isCorner 0 = .ok (.iload_n 0, 1) := by decide +kernel
theorem dX1_isCorner_1 : decode cX1_isCorner 1 = .ok (.iconst 0, 1) := by decide +kernel
theorem dX1_isCorner_2 : decode cX1_isCorner 2 = .ok (.iconst 5, 1) := by decide +kernel
theorem dX1_isCorner_3 : decode cX1_isCorner 3 = .ok (.invokestatic 32, 3) := by decide +kernel
theorem dX1_isCorner_6 : decode cX1_isCorner 6 = .ok (.ireturn, 1) := by decide +kernel
theorem dX1_isMirror_0 : decode cX1_isMirror 0 = .ok (.iload_n 0, 1) := by decide +kernel
theorem dX1_isMirror_1 : decode cX1_isMirror 1 = .ok (.bipush 10, 2) := by decide +kernel
theorem dX1_isMirror_3 : decode cX1_isMirror 3 = .ok (.idiv, 1) := by decide +kernel
theorem dX1_isMirror_4 : decode cX1_isMirror 4 = .ok (.iload_n 1, 1) := by decide +kernel
theorem dX1_isMirror_5 : decode cX1_isMirror 5 = .ok (.bipush 10, 2) := by decide +kernel
theorem dX1_isMirror_7 : decode cX1_isMirror 7 = .ok (.irem, 1) := by decide +kernel
theorem dX1_isMirror_8 : decode cX1_isMirror 8 = .ok (.if_icmp .ne 18, 3) := by decide +kernel
theorem dX1_isMirror_11 : decode cX1_isMirror 11 = .ok (.iload_n 0, 1) := by decide +kernel
theorem dX1_isMirror_12 : decode cX1_isMirror 12 = .ok (.bipush 10, 2) := by decide +kernel
theorem dX1_isMirror_14 : decode cX1_isMirror 14 = .ok (.irem, 1) := by decide +kernel
theorem dX1_isMirror_15 : decode cX1_isMirror 15 = .ok (.iload_n 1, 1) := by decide +kernel
theorem dX1_isMirror_16 : decode cX1_isMirror 16 = .ok (.bipush 10, 2) := by decide +kernel
theorem dX1_isMirror_18 : decode cX1_isMirror 18 = .ok (.idiv, 1) := by decide +kernel
theorem dX1_isMirror_19 : decode cX1_isMirror 19 = .ok (.if_icmp .ne 7, 3) := by decide +kernel
theorem dX1_isMirror_22 : decode cX1_isMirror 22 = .ok (.iconst 1, 1) := by decide +kernel
theorem dX1_isMirror_23 : decode cX1_isMirror 23 = .ok (.goto 4, 3) := by decide +kernel
theorem dX1_isMirror_26 : decode cX1_isMirror 26 = .ok (.iconst 0, 1) := by decide +kernel
theorem dX1_isMirror_27 : decode cX1_isMirror 27 = .ok (.ireturn, 1) := by decide +kernel
set_option maxRecDepth 20000 in
theorem ggX1_points_X1_isMirror : GoodIn wsX1_points wsX1_isMirror := goodIn_r _ [6] (by decide +kernel) (by decide +kernel)
set_option maxRecDepth 20000 in
theorem gX1_points_X1_isMirror : GoodIn wsX1_points (va_wsS RX1 36 yX1_isMirror wsX1_isMirror) := goodIn_app (goodIn_of _ (by decide +kernel)) ggX1_points_X1_isMirror
theorem dX1_points_0 : decode cX1_points 0 = .ok (.aload_n 0, 1) := by decide +kernel
theorem dX1_points_1 : decode cX1_points 1 = .ok (.getfield 9, 3) := by decide +kernel
theorem dX1_points_4 : decode cX1_points 4 = .ok (.iload_n 1, 1) := by decide +kernel
theorem dX1_points_5 : decode cX1_points 5 = .ok (.iaload, 1) := by decide +kernel
theorem dX1_points_6 : decode cX1_points 6 = .ok (.istore_n 3, 1) := by decide +kernel
theorem dX1_points_7 : decode cX1_points 7 = .ok (.aload_n 0, 1) := by decide +kernel
theorem dX1_points_8 : decode cX1_points 8 = .ok (.getfield 9, 3) := by decide +kernel
theorem dX1_points_11 : decode cX1_points 11 = .ok (.iload_n 2, 1) := by decide +kernel
theorem dX1_points_12 : decode cX1_points 12 = .ok (.iaload, 1) := by decide +kernel
theorem dX1_points_13 : decode cX1_points 13 = .ok (.istore 4, 2) := by decide +kernel
theorem dX1_points_15 : decode cX1_points 15 = .ok (.iload_n 3, 1) := by decide +kernel
theorem dX1_points_16 : decode cX1_points 16 = .ok (.bipush 10, 2) := by decide +kernel
theorem dX1_points_18 : decode cX1_points 18 = .ok (.irem, 1) := by decide +kernel
theorem dX1_points_19 : decode cX1_points 19 = .ok (.iload 4, 2) := by decide +kernel
theorem dX1_points_21 : decode cX1_points 21 = .ok (.bipush 10, 2) := by decide +kernel
theorem dX1_points_23 : decode cX1_points 23 = .ok (.irem, 1) := by decide +kernel
theorem dX1_points_24 : decode cX1_points 24 = .ok (.if_icmp .ne 7, 3) := by decide +kernel
theorem dX1_points_27 : decode cX1_points 27 = .ok (.iconst 1, 1) := by decide +kernel
theorem dX1_points_28 : decode cX1_points 28 = .ok (.goto 4, 3) := by decide +kernel
theorem dX1_points_31 : decode cX1_points 31 = .ok (.iconst 0, 1) := by decide +kernel
theorem dX1_points_32 : decode cX1_points 32 = .ok (.istore 5, 2) := by decide +kernel
theorem dX1_points_34 : decode cX1_points 34 = .ok (.iload_n 3, 1) := by decide +kernel
theorem dX1_points_35 : decode cX1_points 35 = .ok (.bipush 10, 2) := by decide +kernel
theorem dX1_points_37 : decode cX1_points 37 = .ok (.idiv, 1) := by decide +kernel
theorem dX1_points_38 : decode cX1_points 38 = .ok (.iload_n 3, 1) := by decide +kernel
theorem dX1_points_39 : decode cX1_points 39 = .ok (.bipush 10, 2) := by decide +kernel
theorem dX1_points_41 : decode cX1_points 41 = .ok (.irem, 1) := by decide +kernel
theorem dX1_points_42 : decode cX1_points 42 = .ok (.iadd, 1) := by decide +kernel
theorem dX1_points_43 : decode cX1_points 43 = .ok (.iload 4, 2) := by decide +kernel
theorem dX1_points_45 : decode cX1_points 45 = .ok (.bipush 10, 2) := by decide +kernel
theorem dX1_points_47 : decode cX1_points 47 = .ok (.idiv, 1) := by decide +kernel
theorem dX1_points_48 : decode cX1_points 48 = .ok (.iload 4, 2) := by decide +kernel
theorem dX1_points_50 : decode cX1_points 50 = .ok (.bipush 10, 2) := by decide +kernel
theorem dX1_points_52 : decode cX1_points 52 = .ok (.irem, 1) := by decide +kernel
theorem dX1_points_53 : decode cX1_points 53 = .ok (.iadd, 1) := by decide +kernel
theorem dX1_points_54 : decode cX1_points 54 = .ok (.if_icmp .ne 6, 3) := by decide +kernel
theorem dX1_points_57 : decode cX1_points 57 = .ok (.iinc 5 2, 3) := by decide +kernel
theorem dX1_points_60 : decode cX1_points 60 = .ok (.iload_n 3, 1) := by decide +kernel
theorem dX1_points_61 : decode cX1_points 61 = .ok (.iload 4, 2) := by decide +kernel
theorem dX1_points_63 : decode cX1_points 63 = .ok (.isub, 1) := by decide +kernel
theorem dX1_points_64 : decode cX1_points 64 = .ok (.iconst 1, 1) := by decide +kernel
theorem dX1_points_65 : decode cX1_points 65 = .ok (.if_icmp .eq 11, 3) := by decide +kernel
theorem dX1_points_68 : decode cX1_points 68 = .ok (.iload 4, 2) := by decide +kernel
theorem dX1_points_70 : decode cX1_points 70 = .ok (.iload_n 3, 1) := by decide +kernel
theorem dX1_points_71 : decode cX1_points 71 = .ok (.isub, 1) := by decide +kernel
theorem dX1_points_72 : decode cX1_points 72 = .ok (.iconst 1, 1) := by decide +kernel
theorem dX1_points_73 : decode cX1_points 73 = .ok (.if_icmp .ne 6, 3) := by decide +kernel
theorem dX1_points_76 : decode cX1_points 76 = .ok (.iinc 5 3, 3) := by decide +kernel
theorem dX1_points_79 : decode cX1_points 79 = .ok (.iload_n 3, 1) := by decide +kernel
theorem dX1_points_80 : decode cX1_points 80 = .ok (.iload 4, 2) := by decide +kernel
theorem dX1_points_82 : decode cX1_points 82 = .ok (.invokestatic 36, 3) := by decide +kernel
theorem dX1_points_85 : decode cX1_points 85 = .ok (.ifCond .eq 6, 3) := by decide +kernel
theorem dX1_points_88 : decode cX1_points 88 = .ok (.iinc 5 5, 3) := by decide +kernel
theorem dX1_points_91 : decode cX1_points 91 = .ok (.aload_n 0, 1) := by decide +kernel
theorem dX1_points_92 : decode cX1_points 92 = .ok (.getfield 13, 3) := by decide +kernel
theorem dX1_points_95 : decode cX1_points 95 = .ok (.iload_n 1, 1) := by decide +kernel
theorem dX1_points_96 : decode cX1_points 96 = .ok (.iaload, 1) := by decide +kernel
theorem dX1_points_97 : decode cX1_points 97 = .ok (.aload_n 0, 1) := by decide +kernel
theorem dX1_points_98 : decode cX1_points 98 = .ok (.getfield 13, 3) := by decide +kernel
theorem dX1_points_101 : decode cX1_points 101 = .ok (.iload_n 2, 1) := by decide +kernel
theorem dX1_points_102 : decode cX1_points 102 = .ok (.iaload, 1) := by decide +kernel
theorem dX1_points_103 : decode cX1_points 103 = .ok (.if_icmp .ne 10, 3) := by decide +kernel
theorem dX1_points_106 : decode cX1_points 106 = .ok (.iload 5, 2) := by decide +kernel
theorem dX1_points_108 : decode cX1_points 108 = .ok (.iconst 2, 1) := by decide +kernel
theorem dX1_points_109 : decode cX1_points 109 = .ok (.iadd, 1) := by decide +kernel
theorem dX1_points_110 : decode cX1_points 110 = .ok (.goto 5, 3) := by decide +kernel
theorem dX1_points_113 : decode cX1_points 113 = .ok (.iload 5, 2) := by decide +kernel
theorem dX1_points_115 : decode cX1_points 115 = .ok (.ireturn, 1) := by decide +kernel
theorem dX1_cornerIn_0 : decode cX1_cornerIn 0 = .ok (.aload_n 0, 1) := by decide +kernel
theorem dX1_cornerIn_1 : decode cX1_cornerIn 1 = .ok (.getfield 16, 3) := by decide +kernel
theorem dX1_cornerIn_4 : decode cX1_cornerIn 4 = .ok (.iload_n 1, 1) := by decide +kernel
theorem dX1_cornerIn_5 : decode cX1_cornerIn 5 = .ok (.iaload, 1) := by decide +kernel
theorem dX1_cornerIn_6 : decode cX1_cornerIn 6 = .ok (.aload_n 0, 1) := by decide +kernel
theorem dX1_cornerIn_7 : decode cX1_cornerIn 7 = .ok (.getfield 19, 3) := by decide +kernel
theorem dX1_cornerIn_10 : decode cX1_cornerIn 10 = .ok (.iload_n 1, 1) := by decide +kernel
theorem dX1_cornerIn_11 : decode cX1_cornerIn 11 = .ok (.iaload, 1) := by decide +kernel
theorem dX1_cornerIn_12 : decode cX1_cornerIn 12 = .ok (.iload_n 2, 1) := by decide +kernel
theorem dX1_cornerIn_13 : decode cX1_cornerIn 13 = .ok (.imul, 1) := by decide +kernel
theorem dX1_cornerIn_14 : decode cX1_cornerIn 14 = .ok (.iadd, 1) := by decide +kernel
theorem dX1_cornerIn_15 : decode cX1_cornerIn 15 = .ok (.bipush 6, 2) := by decide +kernel
theorem dX1_cornerIn_17 : decode cX1_cornerIn 17 = .ok (.irem, 1) := by decide +kernel
theorem dX1_cornerIn_18 : decode cX1_cornerIn 18 = .ok (.ireturn, 1) := by decide +kernel
set_option maxRecDepth 20000 in
theorem ggX1_town_X1_cornerIn : GoodIn wsX1_town wsX1_cornerIn := goodIn_r _ [6, 7, 8, 18, 19, 20, 21, 22, 23, 24, 25, 26, 27] (by decide +kernel) (by decide +kernel)
set_option maxRecDepth 20000 in
theorem gX1_town_X1_cornerIn : GoodIn wsX1_town (wsV RX1 40 RX1 yX1_cornerIn wsX1_cornerIn) := goodIn_app (goodIn_of _ (by decide +kernel)) ggX1_town_X1_cornerIn
set_option maxRecDepth 20000 in
theorem ggX1_town_X1_points : GoodIn wsX1_town wsX1_points := goodIn_r _ [12, 13, 14, 15, 16, 5, 17, 18, 19, 20, 21, 22, 23, 24, 25, 26, 27] (by decide +kernel) (by decide +kernel)
set_option maxRecDepth 20000 in
theorem gX1_town_X1_points : GoodIn wsX1_town (wsV RX1 44 RX1 yX1_points wsX1_points) := goodIn_app (goodIn_of _ (by decide +kernel)) ggX1_town_X1_points
theorem dX1_town_0 : decode cX1_town 0 = .ok (.iconst 0, 1) := by decide +kernel
theorem dX1_town_1 : decode cX1_town 1 = .ok (.istore_n 3, 1) := by decide +kernel
theorem dX1_town_2 : decode cX1_town 2 = .ok (.iconst 0, 1) := by decide +kernel
theorem dX1_town_3 : decode cX1_town 3 = .ok (.istore 4, 2) := by decide +kernel
theorem dX1_town_5 : decode cX1_town 5 = .ok (.iload 4, 2) := by decide +kernel
theorem dX1_town_7 : decode cX1_town 7 = .ok (.aload_n 0, 1) := by decide +kernel
theorem dX1_town_8 : decode cX1_town 8 = .ok (.getfield 29, 3) := by decide +kernel
theorem dX1_town_11 : decode cX1_town 11 = .ok (.if_icmp .ge 72, 3) := by decide +kernel
theorem dX1_town_14 : decode cX1_town 14 = .ok (.iload_n 2, 1) := by decide +kernel
theorem dX1_town_15 : decode cX1_town 15 = .ok (.iconst (-1), 1) := by decide +kernel
theorem dX1_town_16 : decode cX1_town 16 = .ok (.if_icmp .eq 17, 3) := by decide +kernel
theorem dX1_town_19 : decode cX1_town 19 = .ok (.aload_n 0, 1) := by decide +kernel
theorem dX1_town_20 : decode cX1_town 20 = .ok (.iload 4, 2) := by decide +kernel
theorem dX1_town_22 : decode cX1_town 22 = .ok (.iload_n 1, 1) := by decide +kernel
theorem dX1_town_23 : decode cX1_town 23 = .ok (.invokevirtual 40, 3) := by decide +kernel
theorem dX1_town_26 : decode cX1_town 26 = .ok (.iload_n 2, 1) := by decide +kernel
theorem dX1_town_27 : decode cX1_town 27 = .ok (.if_icmp .eq 6, 3) := by decide +kernel
theorem dX1_town_30 : decode cX1_town 30 = .ok (.goto 47, 3) := by decide +kernel
theorem dX1_town_33 : decode cX1_town 33 = .ok (.iconst 0, 1) := by decide +kernel
theorem dX1_town_34 : decode cX1_town 34 = .ok (.istore 5, 2) := by decide +kernel
theorem dX1_town_36 : decode cX1_town 36 = .ok (.iload 5, 2) := by decide +kernel
theorem dX1_town_38 : decode cX1_town 38 = .ok (.iload 4, 2) := by decide +kernel
theorem dX1_town_40 : decode cX1_town 40 = .ok (.if_icmp .ge 37, 3) := by decide +kernel
theorem dX1_town_43 : decode cX1_town 43 = .ok (.aload_n 0, 1) := by decide +kernel
theorem dX1_town_44 : decode cX1_town 44 = .ok (.iload 4, 2) := by decide +kernel
theorem dX1_town_46 : decode cX1_town 46 = .ok (.iload_n 1, 1) := by decide +kernel
theorem dX1_town_47 : decode cX1_town 47 = .ok (.invokevirtual 40, 3) := by decide +kernel
theorem dX1_town_50 : decode cX1_town 50 = .ok (.aload_n 0, 1) := by decide +kernel
theorem dX1_town_51 : decode cX1_town 51 = .ok (.iload 5, 2) := by decide +kernel
theorem dX1_town_53 : decode cX1_town 53 = .ok (.iload_n 1, 1) := by decide +kernel
theorem dX1_town_54 : decode cX1_town 54 = .ok (.invokevirtual 40, 3) := by decide +kernel
theorem dX1_town_57 : decode cX1_town 57 = .ok (.if_icmp .ne 14, 3) := by decide +kernel
theorem dX1_town_60 : decode cX1_town 60 = .ok (.iload_n 3, 1) := by decide +kernel
theorem dX1_town_61 : decode cX1_town 61 = .ok (.aload_n 0, 1) := by decide +kernel
theorem dX1_town_62 : decode cX1_town 62 = .ok (.iload 4, 2) := by decide +kernel
theorem dX1_town_64 : decode cX1_town 64 = .ok (.iload 5, 2) := by decide +kernel
theorem dX1_town_66 : decode cX1_town 66 = .ok (.invokevirtual 44, 3) := by decide +kernel
theorem dX1_town_69 : decode cX1_town 69 = .ok (.iadd, 1) := by decide +kernel
theorem dX1_town_70 : decode cX1_town 70 = .ok (.istore_n 3, 1) := by decide +kernel
theorem dX1_town_71 : decode cX1_town 71 = .ok (.iinc 5 1, 3) := by decide +kernel
theorem dX1_town_74 : decode cX1_town 74 = .ok (.goto (-38), 3) := by decide +kernel
theorem dX1_town_77 : decode cX1_town 77 = .ok (.iinc 4 1, 3) := by decide +kernel
theorem dX1_town_80 : decode cX1_town 80 = .ok (.goto (-75), 3) := by decide +kernel
theorem dX1_town_83 : decode cX1_town 83 = .ok (.iload_n 3, 1) := by decide +kernel
theorem dX1_town_84 : decode cX1_town 84 = .ok (.ireturn, 1) := by decide +kernel
set_option maxRecDepth 20000 in
theorem ggX1_here_X1_town : GoodIn wsX1_here wsX1_town := goodIn_r _ [5, 6, 7, 8, 9, 4, 10, 11, 12, 13, 14, 15, 16, 17, 18, 19, 20, 21, 22, 23, 24, 25, 26, 27, 28, 29, 30, 31] (by decide +kernel) (by decide +kernel)
set_option maxRecDepth 20000 in
theorem gX1_here_X1_town : GoodIn wsX1_here (wsV RX1 47 RX1 yX1_town wsX1_town) := goodIn_app (goodIn_of _ (by decide +kernel)) ggX1_here_X1_town
theorem dX1_here_0 : decode cX1_here 0 = .ok (.aload_n 0, 1) := by decide +kernel
theorem dX1_here_1 : decode cX1_here 1 = .ok (.iconst 0, 1) := by decide +kernel
theorem dX1_here_2 : decode cX1_here 2 = .ok (.iconst (-1), 1) := by decide +kernel
theorem dX1_here_3 : decode cX1_here 3 = .ok (.invokevirtual 47, 3) := by decide +kernel
theorem dX1_here_6 : decode cX1_here 6 = .ok (.ireturn, 1) := by decide +kernel
set_option maxRecDepth 20000 in
theorem ggX1_luck_X1_points : GoodIn wsX1_luck wsX1_points := goodIn_r _ [7, 8, 9, 10, 11, 6, 12, 13, 14, 15, 16, 17, 18, 19, 20, 21, 22] (by decide +kernel) (by decide +kernel)
set_option maxRecDepth 20000 in
theorem gX1_luck_X1_points : GoodIn wsX1_luck (wsV RX1 44 RX1 yX1_points wsX1_points) := goodIn_app (goodIn_of _ (by decide +kernel)) ggX1_luck_X1_points
theorem dX1_luck_0 : decode cX1_luck 0 = .ok (.iconst 0, 1) := by decide +kernel
theorem dX1_luck_1 : decode cX1_luck 1 = .ok (.istore_n 2, 1) := by decide +kernel
theorem dX1_luck_2 : decode cX1_luck 2 = .ok (.iconst 0, 1) := by decide +kernel
theorem dX1_luck_3 : decode cX1_luck 3 = .ok (.istore_n 3, 1) := by decide +kernel
theorem dX1_luck_4 : decode cX1_luck 4 = .ok (.iload_n 3, 1) := by decide +kernel
theorem dX1_luck_5 : decode cX1_luck 5 = .ok (.aload_n 0, 1) := by decide +kernel
theorem dX1_luck_6 : decode cX1_luck 6 = .ok (.getfield 29, 3) := by decide +kernel
theorem dX1_luck_9 : decode cX1_luck 9 = .ok (.if_icmp .ge 42, 3) := by decide +kernel
theorem dX1_luck_12 : decode cX1_luck 12 = .ok (.iload_n 2, 1) := by decide +kernel
theorem dX1_luck_13 : decode cX1_luck 13 = .ok (.iload_n 3, 1) := by decide +kernel
theorem dX1_luck_14 : decode cX1_luck 14 = .ok (.iload_n 1, 1) := by decide +kernel
theorem dX1_luck_15 : decode cX1_luck 15 = .ok (.if_icmp .eq 27, 3) := by decide +kernel
theorem dX1_luck_18 : decode cX1_luck 18 = .ok (.aload_n 0, 1) := by decide +kernel
theorem dX1_luck_19 : decode cX1_luck 19 = .ok (.getfield 16, 3) := by decide +kernel
theorem dX1_luck_22 : decode cX1_luck 22 = .ok (.iload_n 3, 1) := by decide +kernel
theorem dX1_luck_23 : decode cX1_luck 23 = .ok (.iaload, 1) := by decide +kernel
theorem dX1_luck_24 : decode cX1_luck 24 = .ok (.aload_n 0, 1) := by decide +kernel
theorem dX1_luck_25 : decode cX1_luck 25 = .ok (.getfield 16, 3) := by decide +kernel
theorem dX1_luck_28 : decode cX1_luck 28 = .ok (.iload_n 1, 1) := by decide +kernel
theorem dX1_luck_29 : decode cX1_luck 29 = .ok (.iaload, 1) := by decide +kernel
theorem dX1_luck_30 : decode cX1_luck 30 = .ok (.if_icmp .ne 12, 3) := by decide +kernel
theorem dX1_luck_33 : decode cX1_luck 33 = .ok (.aload_n 0, 1) := by decide +kernel
theorem dX1_luck_34 : decode cX1_luck 34 = .ok (.iload_n 1, 1) := by decide +kernel
theorem dX1_luck_35 : decode cX1_luck 35 = .ok (.iload_n 3, 1) := by decide +kernel
theorem dX1_luck_36 : decode cX1_luck 36 = .ok (.invokevirtual 44, 3) := by decide +kernel
theorem dX1_luck_39 : decode cX1_luck 39 = .ok (.goto 4, 3) := by decide +kernel
theorem dX1_luck_42 : decode cX1_luck 42 = .ok (.iconst 0, 1) := by decide +kernel
theorem dX1_luck_43 : decode cX1_luck 43 = .ok (.iadd, 1) := by decide +kernel
theorem dX1_luck_44 : decode cX1_luck 44 = .ok (.istore_n 2, 1) := by decide +kernel
theorem dX1_luck_45 : decode cX1_luck 45 = .ok (.iinc 3 1, 3) := by decide +kernel
theorem dX1_luck_48 : decode cX1_luck 48 = .ok (.goto (-44), 3) := by decide +kernel
theorem dX1_luck_51 : decode cX1_luck 51 = .ok (.iload_n 2, 1) := by decide +kernel
theorem dX1_luck_52 : decode cX1_luck 52 = .ok (.ireturn, 1) := by decide +kernel
theorem dX1_at_0 : decode cX1_at 0 = .ok (.iconst 0, 1) := by decide +kernel
theorem dX1_at_1 : decode cX1_at 1 = .ok (.istore_n 2, 1) := by decide +kernel
theorem dX1_at_2 : decode cX1_at 2 = .ok (.iconst 0, 1) := by decide +kernel
theorem dX1_at_3 : decode cX1_at 3 = .ok (.istore_n 3, 1) := by decide +kernel
theorem dX1_at_4 : decode cX1_at 4 = .ok (.iload_n 3, 1) := by decide +kernel
theorem dX1_at_5 : decode cX1_at 5 = .ok (.aload_n 0, 1) := by decide +kernel
theorem dX1_at_6 : decode cX1_at 6 = .ok (.getfield 29, 3) := by decide +kernel
theorem dX1_at_9 : decode cX1_at 9 = .ok (.if_icmp .ge 27, 3) := by decide +kernel
theorem dX1_at_12 : decode cX1_at 12 = .ok (.iload_n 2, 1) := by decide +kernel
theorem dX1_at_13 : decode cX1_at 13 = .ok (.aload_n 0, 1) := by decide +kernel
theorem dX1_at_14 : decode cX1_at 14 = .ok (.getfield 16, 3) := by decide +kernel
theorem dX1_at_17 : decode cX1_at 17 = .ok (.iload_n 3, 1) := by decide +kernel
theorem dX1_at_18 : decode cX1_at 18 = .ok (.iaload, 1) := by decide +kernel
theorem dX1_at_19 : decode cX1_at 19 = .ok (.iload_n 1, 1) := by decide +kernel
theorem dX1_at_20 : decode cX1_at 20 = .ok (.if_icmp .ne 7, 3) := by decide +kernel
theorem dX1_at_23 : decode cX1_at 23 = .ok (.iconst 1, 1) := by decide +kernel
theorem dX1_at_24 : decode cX1_at 24 = .ok (.goto 4, 3) := by decide +kernel
theorem dX1_at_27 : decode cX1_at 27 = .ok (.iconst 0, 1) := by decide +kernel
theorem dX1_at_28 : decode cX1_at 28 = .ok (.iadd, 1) := by decide +kernel
theorem dX1_at_29 : decode cX1_at 29 = .ok (.istore_n 2, 1) := by decide +kernel
theorem dX1_at_30 : decode cX1_at 30 = .ok (.iinc 3 1, 3) := by decide +kernel
theorem dX1_at_33 : decode cX1_at 33 = .ok (.goto (-29), 3) := by decide +kernel
theorem dX1_at_36 : decode cX1_at 36 = .ok (.iload_n 2, 1) := by decide +kernel
theorem dX1_at_37 : decode cX1_at 37 = .ok (.ireturn, 1) := by decide +kernel
theorem dX1_apart_0 : decode cX1_apart 0 = .ok (.iload_n 0, 1) := by decide +kernel
theorem dX1_apart_1 : decode cX1_apart 1 = .ok (.iload_n 1, 1) := by decide +kernel
theorem dX1_apart_2 : decode cX1_apart 2 = .ok (.isub, 1) := by decide +kernel
theorem dX1_apart_3 : decode cX1_apart 3 = .ok (.invokestatic 50, 3) := by decide +kernel
theorem dX1_apart_6 : decode cX1_apart 6 = .ok (.istore_n 2, 1) := by decide +kernel
theorem dX1_apart_7 : decode cX1_apart 7 = .ok (.iload_n 2, 1) := by decide +kernel
theorem dX1_apart_8 : decode cX1_apart 8 = .ok (.bipush 6, 2) := by decide +kernel
theorem dX1_apart_10 : decode cX1_apart 10 = .ok (.iload_n 2, 1) := by decide +kernel
theorem dX1_apart_11 : decode cX1_apart 11 = .ok (.isub, 1) := by decide +kernel
theorem dX1_apart_12 : decode cX1_apart 12 = .ok (.invokestatic 56, 3) := by decide +kernel
theorem dX1_apart_15 : decode cX1_apart 15 = .ok (.ireturn, 1) := by decide +kernel
set_option maxRecDepth 20000 in
theorem ggX1_addStranger_X1_isIn : GoodIn wsX1_addStranger wsX1_isIn := goodIn_r _ [10] (by decide +kernel) (by decide +kernel)
set_option maxRecDepth 20000 in
theorem gX1_addStranger_X1_isIn : GoodIn wsX1_addStranger (va_wsS RX1 32 yX1_isIn wsX1_isIn) := goodIn_app (goodIn_of _ (by decide +kernel)) ggX1_addStranger_X1_isIn
set_option maxRecDepth 20000 in
theorem ggX1_addStranger_X1_isCorner : GoodIn wsX1_addStranger wsX1_isCorner := goodIn_r _ [13, 7, 8, 9, 10] (by decide +kernel) (by decide +kernel)
set_option maxRecDepth 20000 in
theorem gX1_addStranger_X1_isCorner : GoodIn wsX1_addStranger (va_wsS RX1 59 yX1_isCorner wsX1_isCorner) := goodIn_app (goodIn_of _ (by decide +kernel)) ggX1_addStranger_X1_isCorner
set_option maxRecDepth 20000 in
theorem ggX1_addStranger_X1_no : GoodIn wsX1_addStranger wsX1_no := goodIn_r _ [17, 1, 18, 19, 20, 21, 22, 23, 24, 25, 26, 27] (by decide +kernel) (by decide +kernel)
set_option maxRecDepth 20000 in
theorem gX1_addStranger_X1_no : GoodIn wsX1_addStranger (wsV RX1 63 RX1 yX1_no wsX1_no) := goodIn_app (goodIn_of _ (by decide +kernel)) ggX1_addStranger_X1_no
theorem dX1_addStranger_0 : decode cX1_addStranger 0 = .ok (.aload_n 0, 1) := by decide +kernel
theorem dX1_addStranger_1 : decode cX1_addStranger 1 = .ok (.iconst 0, 1) := by decide +kernel
theorem dX1_addStranger_2 : decode cX1_addStranger 2 = .ok (.putfield 26, 3) := by decide +kernel
theorem dX1_addStranger_5 : decode cX1_addStranger 5 = .ok (.iload_n 1, 1) := by decide +kernel
theorem dX1_addStranger_6 : decode cX1_addStranger 6 = .ok (.iconst 0, 1) := by decide +kernel
theorem dX1_addStranger_7 : decode cX1_addStranger 7 = .ok (.bipush 99, 2) := by decide +kernel
theorem dX1_addStranger_9 : decode cX1_addStranger 9 = .ok (.invokestatic 32, 3) := by decide +kernel
theorem dX1_addStranger_12 : decode cX1_addStranger 12 = .ok (.ifCond .eq 27, 3) := by decide +kernel
theorem dX1_addStranger_15 : decode cX1_addStranger 15 = .ok (.iload_n 2, 1) := by decide +kernel
theorem dX1_addStranger_16 : decode cX1_addStranger 16 = .ok (.iconst 0, 1) := by decide +kernel
theorem dX1_addStranger_17 : decode cX1_addStranger 17 = .ok (.iconst 4, 1) := by decide +kernel
theorem dX1_addStranger_18 : decode cX1_addStranger 18 = .ok (.invokestatic 32, 3) := by decide +kernel
theorem dX1_addStranger_21 : decode cX1_addStranger 21 = .ok (.ifCond .eq 18, 3) := by decide +kernel
theorem dX1_addStranger_24 : decode cX1_addStranger 24 = .ok (.iload_n 3, 1) := by decide +kernel
theorem dX1_addStranger_25 : decode cX1_addStranger 25 = .ok (.invokestatic 59, 3) := by decide +kernel
theorem dX1_addStranger_28 : decode cX1_addStranger 28 = .ok (.ifCond .eq 11, 3) := by decide +kernel
theorem dX1_addStranger_31 : decode cX1_addStranger 31 = .ok (.iload 4, 2) := by decide +kernel
theorem dX1_addStranger_33 : decode cX1_addStranger 33 = .ok (.invokestatic 59, 3) := by decide +kernel
theorem dX1_addStranger_36 : decode cX1_addStranger 36 = .ok (.ifCond .ne 9, 3) := by decide +kernel
theorem dX1_addStranger_39 : decode cX1_addStranger 39 = .ok (.aload_n 0, 1) := by decide +kernel
theorem dX1_addStranger_40 : decode cX1_addStranger 40 = .ok (.iconst 1, 1) := by decide +kernel
theorem dX1_addStranger_41 : decode cX1_addStranger 41 = .ok (.invokevirtual 63, 3) := by decide +kernel
theorem dX1_addStranger_44 : decode cX1_addStranger 44 = .ok (.ireturn, 1) := by decide +kernel
theorem dX1_addStranger_45 : decode cX1_addStranger 45 = .ok (.aload_n 0, 1) := by decide +kernel
theorem dX1_addStranger_46 : decode cX1_addStranger 46 = .ok (.getfield 29, 3) := by decide +kernel
theorem dX1_addStranger_49 : decode cX1_addStranger 49 = .ok (.bipush 12, 2) := by decide +kernel
theorem dX1_addStranger_51 : decode cX1_addStranger 51 = .ok (.if_icmp .ne 9, 3) := by decide +kernel
theorem dX1_addStranger_54 : decode cX1_addStranger 54 = .ok (.aload_n 0, 1) := by decide +kernel
theorem dX1_addStranger_55 : decode cX1_addStranger 55 = .ok (.iconst 2, 1) := by decide +kernel
theorem dX1_addStranger_56 : decode cX1_addStranger 56 = .ok (.invokevirtual 63, 3) := by decide +kernel
theorem dX1_addStranger_59 : decode cX1_addStranger 59 = .ok (.ireturn, 1) := by decide +kernel
theorem dX1_addStranger_60 : decode cX1_addStranger 60 = .ok (.aload_n 0, 1) := by decide +kernel
theorem dX1_addStranger_61 : decode cX1_addStranger 61 = .ok (.getfield 9, 3) := by decide +kernel
theorem dX1_addStranger_64 : decode cX1_addStranger 64 = .ok (.aload_n 0, 1) := by decide +kernel
theorem dX1_addStranger_65 : decode cX1_addStranger 65 = .ok (.getfield 29, 3) := by decide +kernel
theorem dX1_addStranger_68 : decode cX1_addStranger 68 = .ok (.iload_n 1, 1) := by decide +kernel
theorem dX1_addStranger_69 : decode cX1_addStranger 69 = .ok (.iastore, 1) := by decide +kernel
theorem dX1_addStranger_70 : decode cX1_addStranger 70 = .ok (.aload_n 0, 1) := by decide +kernel
theorem dX1_addStranger_71 : decode cX1_addStranger 71 = .ok (.getfield 13, 3) := by decide +kernel
theorem dX1_addStranger_74 : decode cX1_addStranger 74 = .ok (.aload_n 0, 1) := by decide +kernel
theorem dX1_addStranger_75 : decode cX1_addStranger 75 = .ok (.getfield 29, 3) := by decide +kernel
theorem dX1_addStranger_78 : decode cX1_addStranger 78 = .ok (.iload_n 2, 1) := by decide +kernel
theorem dX1_addStranger_79 : decode cX1_addStranger 79 = .ok (.iastore, 1) := by decide +kernel
theorem dX1_addStranger_80 : decode cX1_addStranger 80 = .ok (.aload_n 0, 1) := by decide +kernel
theorem dX1_addStranger_81 : decode cX1_addStranger 81 = .ok (.getfield 16, 3) := by decide +kernel
theorem dX1_addStranger_84 : decode cX1_addStranger 84 = .ok (.aload_n 0, 1) := by decide +kernel
theorem dX1_addStranger_85 : decode cX1_addStranger 85 = .ok (.getfield 29, 3) := by decide +kernel
theorem dX1_addStranger_88 : decode cX1_addStranger 88 = .ok (.iload_n 3, 1) := by decide +kernel
theorem dX1_addStranger_89 : decode cX1_addStranger 89 = .ok (.iastore, 1) := by decide +kernel
theorem dX1_addStranger_90 : decode cX1_addStranger 90 = .ok (.aload_n 0, 1) := by decide +kernel
theorem dX1_addStranger_91 : decode cX1_addStranger 91 = .ok (.getfield 19, 3) := by decide +kernel
theorem dX1_addStranger_94 : decode cX1_addStranger 94 = .ok (.aload_n 0, 1) := by decide +kernel
theorem dX1_addStranger_95 : decode cX1_addStranger 95 = .ok (.getfield 29, 3) := by decide +kernel
theorem dX1_addStranger_98 : decode cX1_addStranger 98 = .ok (.iload 4, 2) := by decide +kernel
theorem dX1_addStranger_100 : decode cX1_addStranger 100 = .ok (.iastore, 1) := by decide +kernel
theorem dX1_addStranger_101 : decode cX1_addStranger 101 = .ok (.aload_n 0, 1) := by decide +kernel
theorem dX1_addStranger_102 : decode cX1_addStranger 102 = .ok (.dup, 1) := by decide +kernel
theorem dX1_addStranger_103 : decode cX1_addStranger 103 = .ok (.getfield 29, 3) := by decide +kernel
theorem dX1_addStranger_106 : decode cX1_addStranger 106 = .ok (.iconst 1, 1) := by decide +kernel
theorem dX1_addStranger_107 : decode cX1_addStranger 107 = .ok (.iadd, 1) := by decide +kernel
theorem dX1_addStranger_108 : decode cX1_addStranger 108 = .ok (.putfield 29, 3) := by decide +kernel
theorem dX1_addStranger_111 : decode cX1_addStranger 111 = .ok (.aload_n 0, 1) := by decide +kernel
theorem dX1_addStranger_112 : decode cX1_addStranger 112 = .ok (.getfield 29, 3) := by decide +kernel
theorem dX1_addStranger_115 : decode cX1_addStranger 115 = .ok (.iconst 1, 1) := by decide +kernel
theorem dX1_addStranger_116 : decode cX1_addStranger 116 = .ok (.isub, 1) := by decide +kernel
theorem dX1_addStranger_117 : decode cX1_addStranger 117 = .ok (.ireturn, 1) := by decide +kernel
set_option maxRecDepth 20000 in
theorem ggX1_setWalk_X1_isOne : GoodIn wsX1_setWalk wsX1_isOne := goodIn_r _ [7, 8, 9, 10, 6, 11, 19, 20, 21, 22, 23, 24, 25, 26, 27, 28] (by decide +kernel) (by decide +kernel)
set_option maxRecDepth 20000 in
theorem gX1_setWalk_X1_isOne : GoodIn wsX1_setWalk (wsV RX1 66 RX1 yX1_isOne wsX1_isOne) := goodIn_app (goodIn_of _ (by decide +kernel)) ggX1_setWalk_X1_isOne
set_option maxRecDepth 20000 in
theorem ggX1_setWalk_X1_no : GoodIn wsX1_setWalk wsX1_no := goodIn_r _ [15, 1, 19, 20, 21, 22, 23, 24, 25, 26, 27, 28] (by decide +kernel) (by decide +kernel)
set_option maxRecDepth 20000 in
theorem gX1_setWalk_X1_no : GoodIn wsX1_setWalk (wsV RX1 63 RX1 yX1_no wsX1_no) := goodIn_app (goodIn_of _ (by decide +kernel)) ggX1_setWalk_X1_no
set_option maxRecDepth 20000 in
theorem ggX1_setWalk_X1_isCorner : GoodIn wsX1_setWalk wsX1_isCorner := goodIn_r _ [18, 9, 10, 6, 11] (by decide +kernel) (by decide +kernel)
set_option maxRecDepth 20000 in
theorem gX1_setWalk_X1_isCorner : GoodIn wsX1_setWalk (va_wsS RX1 59 yX1_isCorner wsX1_isCorner) := goodIn_app (goodIn_of _ (by decide +kernel)) ggX1_setWalk_X1_isCorner
theorem dX1_setWalk_0 : decode cX1_setWalk 0 = .ok (.aload_n 0, 1) := by decide +kernel
theorem dX1_setWalk_1 : decode cX1_setWalk 1 = .ok (.iconst 0, 1) := by decide +kernel
theorem dX1_setWalk_2 : decode cX1_setWalk 2 = .ok (.putfield 26, 3) := by decide +kernel
theorem dX1_setWalk_5 : decode cX1_setWalk 5 = .ok (.aload_n 0, 1) := by decide +kernel
theorem dX1_setWalk_6 : decode cX1_setWalk 6 = .ok (.iload_n 1, 1) := by decide +kernel
theorem dX1_setWalk_7 : decode cX1_setWalk 7 = .ok (.invokevirtual 66, 3) := by decide +kernel
theorem dX1_setWalk_10 : decode cX1_setWalk 10 = .ok (.ifCond .ne 9, 3) := by decide +kernel
theorem dX1_setWalk_13 : decode cX1_setWalk 13 = .ok (.aload_n 0, 1) := by decide +kernel
theorem dX1_setWalk_14 : decode cX1_setWalk 14 = .ok (.iconst 1, 1) := by decide +kernel
theorem dX1_setWalk_15 : decode cX1_setWalk 15 = .ok (.invokevirtual 63, 3) := by decide +kernel
theorem dX1_setWalk_18 : decode cX1_setWalk 18 = .ok (.ireturn, 1) := by decide +kernel
theorem dX1_setWalk_19 : decode cX1_setWalk 19 = .ok (.iload_n 2, 1) := by decide +kernel
theorem dX1_setWalk_20 : decode cX1_setWalk 20 = .ok (.invokestatic 59, 3) := by decide +kernel
theorem dX1_setWalk_23 : decode cX1_setWalk 23 = .ok (.ifCond .ne 9, 3) := by decide +kernel
theorem dX1_setWalk_26 : decode cX1_setWalk 26 = .ok (.aload_n 0, 1) := by decide +kernel
theorem dX1_setWalk_27 : decode cX1_setWalk 27 = .ok (.iconst 2, 1) := by decide +kernel
theorem dX1_setWalk_28 : decode cX1_setWalk 28 = .ok (.invokevirtual 63, 3) := by decide +kernel
theorem dX1_setWalk_31 : decode cX1_setWalk 31 = .ok (.ireturn, 1) := by decide +kernel
theorem dX1_setWalk_32 : decode cX1_setWalk 32 = .ok (.aload_n 0, 1) := by decide +kernel
theorem dX1_setWalk_33 : decode cX1_setWalk 33 = .ok (.getfield 19, 3) := by decide +kernel
theorem dX1_setWalk_36 : decode cX1_setWalk 36 = .ok (.iload_n 1, 1) := by decide +kernel
theorem dX1_setWalk_37 : decode cX1_setWalk 37 = .ok (.iaload, 1) := by decide +kernel
theorem dX1_setWalk_38 : decode cX1_setWalk 38 = .ok (.istore_n 3, 1) := by decide +kernel
theorem dX1_setWalk_39 : decode cX1_setWalk 39 = .ok (.aload_n 0, 1) := by decide +kernel
theorem dX1_setWalk_40 : decode cX1_setWalk 40 = .ok (.getfield 19, 3) := by decide +kernel
theorem dX1_setWalk_43 : decode cX1_setWalk 43 = .ok (.iload_n 1, 1) := by decide +kernel
theorem dX1_setWalk_44 : decode cX1_setWalk 44 = .ok (.iload_n 2, 1) := by decide +kernel
theorem dX1_setWalk_45 : decode cX1_setWalk 45 = .ok (.iastore, 1) := by decide +kernel
theorem dX1_setWalk_46 : decode cX1_setWalk 46 = .ok (.iload_n 3, 1) := by decide +kernel
theorem dX1_setWalk_47 : decode cX1_setWalk 47 = .ok (.ireturn, 1) := by decide +kernel
theorem dX1_pay_0 : decode cX1_pay 0 = .ok (.aload_n 0, 1) := by decide +kernel
theorem dX1_pay_1 : decode cX1_pay 1 = .ok (.dup, 1) := by decide +kernel
theorem dX1_pay_2 : decode cX1_pay 2 = .ok (.getfield 22, 3) := by decide +kernel
theorem dX1_pay_5 : decode cX1_pay 5 = .ok (.iload_n 1, 1) := by decide +kernel
theorem dX1_pay_6 : decode cX1_pay 6 = .ok (.isub, 1) := by decide +kernel
theorem dX1_pay_7 : decode cX1_pay 7 = .ok (.putfield 22, 3) := by decide +kernel
theorem dX1_pay_10 : decode cX1_pay 10 = .ok (.aload_n 0, 1) := by decide +kernel
theorem dX1_pay_11 : decode cX1_pay 11 = .ok (.dup, 1) := by decide +kernel
theorem dX1_pay_12 : decode cX1_pay 12 = .ok (.getfield 69, 3) := by decide +kernel
theorem dX1_pay_15 : decode cX1_pay 15 = .ok (.iload_n 1, 1) := by decide +kernel
theorem dX1_pay_16 : decode cX1_pay 16 = .ok (.iadd, 1) := by decide +kernel
theorem dX1_pay_17 : decode cX1_pay 17 = .ok (.putfield 69, 3) := by decide +kernel
theorem dX1_pay_20 : decode cX1_pay 20 = .ok (.iload_n 1, 1) := by decide +kernel
theorem dX1_pay_21 : decode cX1_pay 21 = .ok (.ireturn, 1) := by decide +kernel
set_option maxRecDepth 20000 in
theorem ggX1_move_X1_isOne : GoodIn wsX1_move wsX1_isOne := goodIn_r _ [8, 9, 10, 11, 7, 12, 35, 36, 37, 38, 39, 40, 41, 42, 43, 44] (by decide +kernel) (by decide +kernel)
set_option maxRecDepth 20000 in
theorem gX1_move_X1_isOne : GoodIn wsX1_move (wsV RX1 66 RX1 yX1_isOne wsX1_isOne) := goodIn_app (goodIn_of _ (by decide +kernel)) ggX1_move_X1_isOne
set_option maxRecDepth 20000 in
theorem ggX1_move_X1_no : GoodIn wsX1_move wsX1_no := goodIn_r _ [16, 1, 35, 36, 37, 38, 39, 40, 41, 42, 43, 44] (by decide +kernel) (by decide +kernel)
set_option maxRecDepth 20000 in
theorem gX1_move_X1_no : GoodIn wsX1_move (wsV RX1 63 RX1 yX1_no wsX1_no) := goodIn_app (goodIn_of _ (by decide +kernel)) ggX1_move_X1_no
set_option maxRecDepth 20000 in
theorem ggX1_move_X1_isCorner : GoodIn wsX1_move wsX1_isCorner := goodIn_r _ [19, 10, 11, 7, 12] (by decide +kernel) (by decide +kernel)
set_option maxRecDepth 20000 in
theorem gX1_move_X1_isCorner : GoodIn wsX1_move (va_wsS RX1 59 yX1_isCorner wsX1_isCorner) := goodIn_app (goodIn_of _ (by decide +kernel)) ggX1_move_X1_isCorner
set_option maxRecDepth 20000 in
theorem ggX1_move_X1_apart : GoodIn wsX1_move wsX1_apart := goodIn_r _ [22, 23, 24, 25, 26, 27, 28, 29] (by decide +kernel) (by decide +kernel)
set_option maxRecDepth 20000 in
theorem gX1_move_X1_apart : GoodIn wsX1_move (va_wsS RX1 72 yX1_apart wsX1_apart) := goodIn_app (goodIn_of _ (by decide +kernel)) ggX1_move_X1_apart
set_option maxRecDepth 20000 in
theorem ggX1_move_X1_pay : GoodIn wsX1_move wsX1_pay := goodIn_r _ [33, 3, 34, 35, 36, 37, 38, 39, 40, 41, 42, 43, 44] (by decide +kernel) (by decide +kernel)
set_option maxRecDepth 20000 in
theorem gX1_move_X1_pay : GoodIn wsX1_move (wsV RX1 75 RX1 yX1_pay wsX1_pay) := goodIn_app (goodIn_of _ (by decide +kernel)) ggX1_move_X1_pay
theorem dX1_move_0 : decode cX1_move 0 = .ok (.aload_n 0, 1) := by decide +kernel
theorem dX1_move_1 : decode cX1_move 1 = .ok (.iconst 0, 1) := by decide +kernel
theorem dX1_move_2 : decode cX1_move 2 = .ok (.putfield 26, 3) := by decide +kernel
theorem dX1_move_5 : decode cX1_move 5 = .ok (.aload_n 0, 1) := by decide +kernel
theorem dX1_move_6 : decode cX1_move 6 = .ok (.iload_n 1, 1) := by decide +kernel
theorem dX1_move_7 : decode cX1_move 7 = .ok (.invokevirtual 66, 3) := by decide +kernel
theorem dX1_move_10 : decode cX1_move 10 = .ok (.ifCond .ne 9, 3) := by decide +kernel
theorem dX1_move_13 : decode cX1_move 13 = .ok (.aload_n 0, 1) := by decide +kernel
theorem dX1_move_14 : decode cX1_move 14 = .ok (.iconst 1, 1) := by decide +kernel
theorem dX1_move_15 : decode cX1_move 15 = .ok (.invokevirtual 63, 3) := by decide +kernel
theorem dX1_move_18 : decode cX1_move 18 = .ok (.ireturn, 1) := by decide +kernel
theorem dX1_move_19 : decode cX1_move 19 = .ok (.iload_n 2, 1) := by decide +kernel
theorem dX1_move_20 : decode cX1_move 20 = .ok (.invokestatic 59, 3) := by decide +kernel
theorem dX1_move_23 : decode cX1_move 23 = .ok (.ifCond .ne 9, 3) := by decide +kernel
theorem dX1_move_26 : decode cX1_move 26 = .ok (.aload_n 0, 1) := by decide +kernel
theorem dX1_move_27 : decode cX1_move 27 = .ok (.iconst 2, 1) := by decide +kernel
theorem dX1_move_28 : decode cX1_move 28 = .ok (.invokevirtual 63, 3) := by decide +kernel
theorem dX1_move_31 : decode cX1_move 31 = .ok (.ireturn, 1) := by decide +kernel
theorem dX1_move_32 : decode cX1_move 32 = .ok (.iconst 2, 1) := by decide +kernel
theorem dX1_move_33 : decode cX1_move 33 = .ok (.aload_n 0, 1) := by decide +kernel
theorem dX1_move_34 : decode cX1_move 34 = .ok (.getfield 16, 3) := by decide +kernel
theorem dX1_move_37 : decode cX1_move 37 = .ok (.iload_n 1, 1) := by decide +kernel
theorem dX1_move_38 : decode cX1_move 38 = .ok (.iaload, 1) := by decide +kernel
theorem dX1_move_39 : decode cX1_move 39 = .ok (.iload_n 2, 1) := by decide +kernel
theorem dX1_move_40 : decode cX1_move 40 = .ok (.invokestatic 72, 3) := by decide +kernel
theorem dX1_move_43 : decode cX1_move 43 = .ok (.imul, 1) := by decide +kernel
theorem dX1_move_44 : decode cX1_move 44 = .ok (.istore_n 3, 1) := by decide +kernel
theorem dX1_move_45 : decode cX1_move 45 = .ok (.iload_n 3, 1) := by decide +kernel
theorem dX1_move_46 : decode cX1_move 46 = .ok (.ifCond .eq 11, 3) := by decide +kernel
theorem dX1_move_49 : decode cX1_move 49 = .ok (.iload_n 3, 1) := by decide +kernel
theorem dX1_move_50 : decode cX1_move 50 = .ok (.aload_n 0, 1) := by decide +kernel
theorem dX1_move_51 : decode cX1_move 51 = .ok (.getfield 22, 3) := by decide +kernel
theorem dX1_move_54 : decode cX1_move 54 = .ok (.if_icmp .le 9, 3) := by decide +kernel
theorem dX1_move_57 : decode cX1_move 57 = .ok (.aload_n 0, 1) := by decide +kernel
theorem dX1_move_58 : decode cX1_move 58 = .ok (.iconst 3, 1) := by decide +kernel
theorem dX1_move_59 : decode cX1_move 59 = .ok (.invokevirtual 63, 3) := by decide +kernel
theorem dX1_move_62 : decode cX1_move 62 = .ok (.ireturn, 1) := by decide +kernel
theorem dX1_move_63 : decode cX1_move 63 = .ok (.aload_n 0, 1) := by decide +kernel
theorem dX1_move_64 : decode cX1_move 64 = .ok (.getfield 16, 3) := by decide +kernel
theorem dX1_move_67 : decode cX1_move 67 = .ok (.iload_n 1, 1) := by decide +kernel
theorem dX1_move_68 : decode cX1_move 68 = .ok (.iload_n 2, 1) := by decide +kernel
theorem dX1_move_69 : decode cX1_move 69 = .ok (.iastore, 1) := by decide +kernel
theorem dX1_move_70 : decode cX1_move 70 = .ok (.aload_n 0, 1) := by decide +kernel
theorem dX1_move_71 : decode cX1_move 71 = .ok (.iload_n 3, 1) := by decide +kernel
theorem dX1_move_72 : decode cX1_move 72 = .ok (.invokevirtual 75, 3) := by decide +kernel
theorem dX1_move_75 : decode cX1_move 75 = .ok (.ireturn, 1) := by decide +kernel
set_option maxRecDepth 20000 in
theorem ggX1_wrongPair_X1_isOne : GoodIn wsX1_wrongPair wsX1_isOne := goodIn_r _ [5, 6, 7, 8, 4, 9, 10, 11, 12, 13, 14, 15, 16, 17, 18, 19] (by decide +kernel) (by decide +kernel)
set_option maxRecDepth 20000 in
theorem gX1_wrongPair_X1_isOne : GoodIn wsX1_wrongPair (wsV RX1 66 RX1 yX1_isOne wsX1_isOne) := goodIn_app (goodIn_of _ (by decide +kernel)) ggX1_wrongPair_X1_isOne
theorem dX1_wrongPair_0 : decode cX1_wrongPair 0 = .ok (.aload_n 0, 1) := by decide +kernel
theorem dX1_wrongPair_1 : decode cX1_wrongPair 1 = .ok (.iload_n 1, 1) := by decide +kernel
theorem dX1_wrongPair_2 : decode cX1_wrongPair 2 = .ok (.invokevirtual 66, 3) := by decide +kernel
theorem dX1_wrongPair_5 : decode cX1_wrongPair 5 = .ok (.ifCond .eq 11, 3) := by decide +kernel
theorem dX1_wrongPair_8 : decode cX1_wrongPair 8 = .ok (.aload_n 0, 1) := by decide +kernel
theorem dX1_wrongPair_9 : decode cX1_wrongPair 9 = .ok (.iload_n 2, 1) := by decide +kernel
theorem dX1_wrongPair_10 : decode cX1_wrongPair 10 = .ok (.invokevirtual 66, 3) := by decide +kernel
theorem dX1_wrongPair_13 : decode cX1_wrongPair 13 = .ok (.ifCond .ne 7, 3) := by decide +kernel
theorem dX1_wrongPair_16 : decode cX1_wrongPair 16 = .ok (.iconst 1, 1) := by decide +kernel
theorem dX1_wrongPair_17 : decode cX1_wrongPair 17 = .ok (.goto 13, 3) := by decide +kernel
theorem dX1_wrongPair_20 : decode cX1_wrongPair 20 = .ok (.iload_n 1, 1) := by decide +kernel
theorem dX1_wrongPair_21 : decode cX1_wrongPair 21 = .ok (.iload_n 2, 1) := by decide +kernel
theorem dX1_wrongPair_22 : decode cX1_wrongPair 22 = .ok (.if_icmp .ne 7, 3) := by decide +kernel
theorem dX1_wrongPair_25 : decode cX1_wrongPair 25 = .ok (.iconst 2, 1) := by decide +kernel
theorem dX1_wrongPair_26 : decode cX1_wrongPair 26 = .ok (.goto 4, 3) := by decide +kernel
theorem dX1_wrongPair_29 : decode cX1_wrongPair 29 = .ok (.iconst 0, 1) := by decide +kernel
theorem dX1_wrongPair_30 : decode cX1_wrongPair 30 = .ok (.ireturn, 1) := by decide +kernel
theorem dX1_swap_0 : decode cX1_swap 0 = .ok (.aload_n 0, 1) := by decide +kernel
theorem dX1_swap_1 : decode cX1_swap 1 = .ok (.iload_n 1, 1) := by decide +kernel
theorem dX1_swap_2 : decode cX1_swap 2 = .ok (.iaload, 1) := by decide +kernel
theorem dX1_swap_3 : decode cX1_swap 3 = .ok (.istore_n 3, 1) := by decide +kernel
theorem dX1_swap_4 : decode cX1_swap 4 = .ok (.aload_n 0, 1) := by decide +kernel
theorem dX1_swap_5 : decode cX1_swap 5 = .ok (.iload_n 1, 1) := by decide +kernel
theorem dX1_swap_6 : decode cX1_swap 6 = .ok (.aload_n 0, 1) := by decide +kernel
theorem dX1_swap_7 : decode cX1_swap 7 = .ok (.iload_n 2, 1) := by decide +kernel
theorem dX1_swap_8 : decode cX1_swap 8 = .ok (.iaload, 1) := by decide +kernel
theorem dX1_swap_9 : decode cX1_swap 9 = .ok (.iastore, 1) := by decide +kernel
theorem dX1_swap_10 : decode cX1_swap 10 = .ok (.aload_n 0, 1) := by decide +kernel
theorem dX1_swap_11 : decode cX1_swap 11 = .ok (.iload_n 2, 1) := by decide +kernel
theorem dX1_swap_12 : decode cX1_swap 12 = .ok (.iload_n 3, 1) := by decide +kernel
theorem dX1_swap_13 : decode cX1_swap 13 = .ok (.iastore, 1) := by decide +kernel
theorem dX1_swap_14 : decode cX1_swap 14 = .ok (.return_, 1) := by decide +kernel
set_option maxRecDepth 20000 in
theorem ggX1_swapped_X1_here : GoodIn wsX1_swapped wsX1_here := goodIn_r _ [5, 6, 7, 8, 4, 9, 10, 11, 12, 13, 14, 15, 16, 17, 18, 19, 20, 21, 22, 23, 24, 25, 29, 30, 31, 32, 33, 34, 35, 36, 37, 38] (by decide +kernel) (by decide +kernel)
set_option maxRecDepth 20000 in
theorem gX1_swapped_X1_here : GoodIn wsX1_swapped (wsV RX1 78 RX1 yX1_here wsX1_here) := goodIn_app (goodIn_of _ (by decide +kernel)) ggX1_swapped_X1_here
set_option maxRecDepth 20000 in
theorem ggX1_swapped_X1_swap : GoodIn wsX1_swapped wsX1_swap := goodIn_r _ [28] (by decide +kernel) (by decide +kernel)
set_option maxRecDepth 20000 in
theorem gX1_swapped_X1_swap : GoodIn wsX1_swapped (va_wsS RX1 82 yX1_swap wsX1_swap) := goodIn_app (goodIn_of _ (by decide +kernel)) ggX1_swapped_X1_swap
theorem dX1_swapped_0 : decode cX1_swapped 0 = .ok (.aload_n 0, 1) := by decide +kernel
theorem dX1_swapped_1 : decode cX1_swapped 1 = .ok (.invokevirtual 78, 3) := by decide +kernel
theorem dX1_swapped_4 : decode cX1_swapped 4 = .ok (.istore 4, 2) := by decide +kernel
theorem dX1_swapped_6 : decode cX1_swapped 6 = .ok (.aload_n 1, 1) := by decide +kernel
theorem dX1_swapped_7 : decode cX1_swapped 7 = .ok (.iload_n 2, 1) := by decide +kernel
theorem dX1_swapped_8 : decode cX1_swapped 8 = .ok (.iload_n 3, 1) := by decide +kernel
theorem dX1_swapped_9 : decode cX1_swapped 9 = .ok (.invokestatic 82, 3) := by decide +kernel
theorem dX1_swapped_12 : decode cX1_swapped 12 = .ok (.aload_n 0, 1) := by decide +kernel
theorem dX1_swapped_13 : decode cX1_swapped 13 = .ok (.invokevirtual 78, 3) := by decide +kernel
theorem dX1_swapped_16 : decode cX1_swapped 16 = .ok (.iload 4, 2) := by decide +kernel
theorem dX1_swapped_18 : decode cX1_swapped 18 = .ok (.isub, 1) := by decide +kernel
theorem dX1_swapped_19 : decode cX1_swapped 19 = .ok (.ireturn, 1) := by decide +kernel
set_option maxRecDepth 20000 in
theorem ggX1_swapUmbrellas_X1_wrongPair : GoodIn wsX1_swapUmbrellas wsX1_wrongPair := goodIn_r _ [9, 10, 11, 12, 8, 13, 14, 15, 16, 17, 55, 56, 57, 58, 59, 60, 61, 62, 63, 64] (by decide +kernel) (by decide +kernel)
set_option maxRecDepth 20000 in
theorem gX1_swapUmbrellas_X1_wrongPair : GoodIn wsX1_swapUmbrellas (wsV RX1 86 RX1 yX1_wrongPair wsX1_wrongPair) := goodIn_app (goodIn_of _ (by decide +kernel)) ggX1_swapUmbrellas_X1_wrongPair
set_option maxRecDepth 20000 in
theorem ggX1_swapUmbrellas_X1_no : GoodIn wsX1_swapUmbrellas wsX1_no := goodIn_r _ [21, 1, 55, 56, 57, 58, 59, 60, 61, 62, 63, 64] (by decide +kernel) (by decide +kernel)
set_option maxRecDepth 20000 in
theorem gX1_swapUmbrellas_X1_no : GoodIn wsX1_swapUmbrellas (wsV RX1 63 RX1 yX1_no wsX1_no) := goodIn_app (goodIn_of _ (by decide +kernel)) ggX1_swapUmbrellas_X1_no
set_option maxRecDepth 20000 in
theorem ggX1_swapUmbrellas_X1_pay : GoodIn wsX1_swapUmbrellas wsX1_pay := goodIn_r _ [25, 3, 26, 55, 56, 57, 58, 59, 60, 61, 62, 63, 64] (by decide +kernel) (by decide +kernel)
set_option maxRecDepth 20000 in
theorem gX1_swapUmbrellas_X1_pay : GoodIn wsX1_swapUmbrellas (wsV RX1 75 RX1 yX1_pay wsX1_pay) := goodIn_app (goodIn_of _ (by decide +kernel)) ggX1_swapUmbrellas_X1_pay
set_option maxRecDepth 20000 in
theorem ggX1_swapUmbrellas_X1_swapped : GoodIn wsX1_swapUmbrellas wsX1_swapped := goodIn_r _ [30, 31, 32, 33, 8, 34, 35, 36, 37, 38, 14, 39, 40, 41, 42, 2, 43, 44, 45, 46, 47, 48, 4, 49, 50, 51, 52, 53, 54, 55, 56, 57, 58, 59, 60, 61, 62, 63, 64] (by decide +kernel) (by decide +kernel)
set_option maxRecDepth 20000 in
theorem gX1_swapUmbrellas_X1_swapped : GoodIn wsX1_swapUmbrellas (wsV RX1 89 RX1 yX1_swapped wsX1_swapped) := goodIn_app (goodIn_of _ (by decide +kernel)) ggX1_swapUmbrellas_X1_swapped
theorem dX1_swapUmbrellas_0 : decode cX1_swapUmbrellas 0 = .ok (.aload_n 0, 1) := by decide +kernel
theorem dX1_swapUmbrellas_1 : decode cX1_swapUmbrellas 1 = .ok (.aload_n 0, 1) := by decide +kernel
theorem dX1_swapUmbrellas_2 : decode cX1_swapUmbrellas 2 = .ok (.iload_n 1, 1) := by decide +kernel
theorem dX1_swapUmbrellas_3 : decode cX1_swapUmbrellas 3 = .ok (.iload_n 2, 1) := by decide +kernel
theorem dX1_swapUmbrellas_4 : decode cX1_swapUmbrellas 4 = .ok (.invokevirtual 86, 3) := by decide +kernel
theorem dX1_swapUmbrellas_7 : decode cX1_swapUmbrellas 7 = .ok (.putfield 26, 3) := by decide +kernel
theorem dX1_swapUmbrellas_10 : decode cX1_swapUmbrellas 10 = .ok (.aload_n 0, 1) := by decide +kernel
theorem dX1_swapUmbrellas_11 : decode cX1_swapUmbrellas 11 = .ok (.getfield 26, 3) := by decide +kernel
theorem dX1_swapUmbrellas_14 : decode cX1_swapUmbrellas 14 = .ok (.ifCond .le 5, 3) := by decide +kernel
theorem dX1_swapUmbrellas_17 : decode cX1_swapUmbrellas 17 = .ok (.iconst 0, 1) := by decide +kernel
theorem dX1_swapUmbrellas_18 : decode cX1_swapUmbrellas 18 = .ok (.ireturn, 1) := by decide +kernel
theorem dX1_swapUmbrellas_19 : decode cX1_swapUmbrellas 19 = .ok (.aload_n 0, 1) := by decide +kernel
theorem dX1_swapUmbrellas_20 : decode cX1_swapUmbrellas 20 = .ok (.getfield 16, 3) := by decide +kernel
theorem dX1_swapUmbrellas_23 : decode cX1_swapUmbrellas 23 = .ok (.iload_n 1, 1) := by decide +kernel
theorem dX1_swapUmbrellas_24 : decode cX1_swapUmbrellas 24 = .ok (.iaload, 1) := by decide +kernel
theorem dX1_swapUmbrellas_25 : decode cX1_swapUmbrellas 25 = .ok (.aload_n 0, 1) := by decide +kernel
theorem dX1_swapUmbrellas_26 : decode cX1_swapUmbrellas 26 = .ok (.getfield 16, 3) := by decide +kernel
theorem dX1_swapUmbrellas_29 : decode cX1_swapUmbrellas 29 = .ok (.iload_n 2, 1) := by decide +kernel
theorem dX1_swapUmbrellas_30 : decode cX1_swapUmbrellas 30 = .ok (.iaload, 1) := by decide +kernel
theorem dX1_swapUmbrellas_31 : decode cX1_swapUmbrellas 31 = .ok (.if_icmp .ne 11, 3) := by decide +kernel
theorem dX1_swapUmbrellas_34 : decode cX1_swapUmbrellas 34 = .ok (.aload_n 0, 1) := by decide +kernel
theorem dX1_swapUmbrellas_35 : decode cX1_swapUmbrellas 35 = .ok (.getfield 22, 3) := by decide +kernel
theorem dX1_swapUmbrellas_38 : decode cX1_swapUmbrellas 38 = .ok (.iconst 3, 1) := by decide +kernel
theorem dX1_swapUmbrellas_39 : decode cX1_swapUmbrellas 39 = .ok (.if_icmp .ge 9, 3) := by decide +kernel
theorem dX1_swapUmbrellas_42 : decode cX1_swapUmbrellas 42 = .ok (.aload_n 0, 1) := by decide +kernel
theorem dX1_swapUmbrellas_43 : decode cX1_swapUmbrellas 43 = .ok (.iconst 3, 1) := by decide +kernel
theorem dX1_swapUmbrellas_44 : decode cX1_swapUmbrellas 44 = .ok (.invokevirtual 63, 3) := by decide +kernel
theorem dX1_swapUmbrellas_47 : decode cX1_swapUmbrellas 47 = .ok (.ireturn, 1) := by decide +kernel
theorem dX1_swapUmbrellas_48 : decode cX1_swapUmbrellas 48 = .ok (.aload_n 0, 1) := by decide +kernel
theorem dX1_swapUmbrellas_49 : decode cX1_swapUmbrellas 49 = .ok (.iconst 3, 1) := by decide +kernel
theorem dX1_swapUmbrellas_50 : decode cX1_swapUmbrellas 50 = .ok (.invokevirtual 75, 3) := by decide +kernel
theorem dX1_swapUmbrellas_53 : decode cX1_swapUmbrellas 53 = .ok (.pop, 1) := by decide +kernel
theorem dX1_swapUmbrellas_54 : decode cX1_swapUmbrellas 54 = .ok (.aload_n 0, 1) := by decide +kernel
theorem dX1_swapUmbrellas_55 : decode cX1_swapUmbrellas 55 = .ok (.aload_n 0, 1) := by decide +kernel
theorem dX1_swapUmbrellas_56 : decode cX1_swapUmbrellas 56 = .ok (.getfield 13, 3) := by decide +kernel
theorem dX1_swapUmbrellas_59 : decode cX1_swapUmbrellas 59 = .ok (.iload_n 1, 1) := by decide +kernel
theorem dX1_swapUmbrellas_60 : decode cX1_swapUmbrellas 60 = .ok (.iload_n 2, 1) := by decide +kernel
theorem dX1_swapUmbrellas_61 : decode cX1_swapUmbrellas 61 = .ok (.invokevirtual 89, 3) := by decide +kernel
theorem dX1_swapUmbrellas_64 : decode cX1_swapUmbrellas 64 = .ok (.ireturn, 1) := by decide +kernel
set_option maxRecDepth 20000 in
theorem ggX1_swapTickets_X1_wrongPair : GoodIn wsX1_swapTickets wsX1_wrongPair := goodIn_r _ [8, 9, 10, 11, 7, 12, 13, 14, 15, 16, 55, 56, 57, 58, 59, 60, 61, 62, 63, 64] (by decide +kernel) (by decide +kernel)
set_option maxRecDepth 20000 in
theorem gX1_swapTickets_X1_wrongPair : GoodIn wsX1_swapTickets (wsV RX1 86 RX1 yX1_wrongPair wsX1_wrongPair) := goodIn_app (goodIn_of _ (by decide +kernel)) ggX1_swapTickets_X1_wrongPair
set_option maxRecDepth 20000 in
theorem ggX1_swapTickets_X1_no : GoodIn wsX1_swapTickets wsX1_no := goodIn_r _ [20, 1, 55, 56, 57, 58, 59, 60, 61, 62, 63, 64] (by decide +kernel) (by decide +kernel)
set_option maxRecDepth 20000 in
theorem gX1_swapTickets_X1_no : GoodIn wsX1_swapTickets (wsV RX1 63 RX1 yX1_no wsX1_no) := goodIn_app (goodIn_of _ (by decide +kernel)) ggX1_swapTickets_X1_no
set_option maxRecDepth 20000 in
theorem ggX1_swapTickets_X1_pay : GoodIn wsX1_swapTickets wsX1_pay := goodIn_r _ [24, 2, 25, 55, 56, 57, 58, 59, 60, 61, 62, 63, 64] (by decide +kernel) (by decide +kernel)
set_option maxRecDepth 20000 in
theorem gX1_swapTickets_X1_pay : GoodIn wsX1_swapTickets (wsV RX1 75 RX1 yX1_pay wsX1_pay) := goodIn_app (goodIn_of _ (by decide +kernel)) ggX1_swapTickets_X1_pay
set_option maxRecDepth 20000 in
theorem ggX1_swapTickets_X1_swapped : GoodIn wsX1_swapTickets wsX1_swapped := goodIn_r _ [29, 30, 31, 32, 7, 33, 34, 35, 36, 37, 13, 38, 39, 40, 41, 42, 43, 44, 45, 46, 47, 3, 48, 49, 50, 51, 52, 53, 54, 55, 56, 57, 58, 59, 60, 61, 62, 63, 64] (by decide +kernel) (by decide +kernel)
set_option maxRecDepth 20000 in
theorem gX1_swapTickets_X1_swapped : GoodIn wsX1_swapTickets (wsV RX1 89 RX1 yX1_swapped wsX1_swapped) := goodIn_app (goodIn_of _ (by decide +kernel)) ggX1_swapTickets_X1_swapped
theorem dX1_swapTickets_0 : decode cX1_swapTickets 0 = .ok (.aload_n 0, 1) := by decide +kernel
theorem dX1_swapTickets_1 : decode cX1_swapTickets 1 = .ok (.aload_n 0, 1) := by decide +kernel
theorem dX1_swapTickets_2 : decode cX1_swapTickets 2 = .ok (.iload_n 1, 1) := by decide +kernel
theorem dX1_swapTickets_3 : decode cX1_swapTickets 3 = .ok (.iload_n 2, 1) := by decide +kernel
theorem dX1_swapTickets_4 : decode cX1_swapTickets 4 = .ok (.invokevirtual 86, 3) := by decide +kernel
theorem dX1_swapTickets_7 : decode cX1_swapTickets 7 = .ok (.putfield 26, 3) := by decide +kernel
theorem dX1_swapTickets_10 : decode cX1_swapTickets 10 = .ok (.aload_n 0, 1) := by decide +kernel
theorem dX1_swapTickets_11 : decode cX1_swapTickets 11 = .ok (.getfield 26, 3) := by decide +kernel
theorem dX1_swapTickets_14 : decode cX1_swapTickets 14 = .ok (.ifCond .le 5, 3) := by decide +kernel
theorem dX1_swapTickets_17 : decode cX1_swapTickets 17 = .ok (.iconst 0, 1) := by decide +kernel
theorem dX1_swapTickets_18 : decode cX1_swapTickets 18 = .ok (.ireturn, 1) := by decide +kernel
theorem dX1_swapTickets_19 : decode cX1_swapTickets 19 = .ok (.aload_n 0, 1) := by decide +kernel
theorem dX1_swapTickets_20 : decode cX1_swapTickets 20 = .ok (.getfield 22, 3) := by decide +kernel
theorem dX1_swapTickets_23 : decode cX1_swapTickets 23 = .ok (.bipush 8, 2) := by decide +kernel
theorem dX1_swapTickets_25 : decode cX1_swapTickets 25 = .ok (.if_icmp .ge 9, 3) := by decide +kernel
theorem dX1_swapTickets_28 : decode cX1_swapTickets 28 = .ok (.aload_n 0, 1) := by decide +kernel
theorem dX1_swapTickets_29 : decode cX1_swapTickets 29 = .ok (.iconst 3, 1) := by decide +kernel
theorem dX1_swapTickets_30 : decode cX1_swapTickets 30 = .ok (.invokevirtual 63, 3) := by decide +kernel
theorem dX1_swapTickets_33 : decode cX1_swapTickets 33 = .ok (.ireturn, 1) := by decide +kernel
theorem dX1_swapTickets_34 : decode cX1_swapTickets 34 = .ok (.aload_n 0, 1) := by decide +kernel
theorem dX1_swapTickets_35 : decode cX1_swapTickets 35 = .ok (.bipush 8, 2) := by decide +kernel
theorem dX1_swapTickets_37 : decode cX1_swapTickets 37 = .ok (.invokevirtual 75, 3) := by decide +kernel
theorem dX1_swapTickets_40 : decode cX1_swapTickets 40 = .ok (.pop, 1) := by decide +kernel
theorem dX1_swapTickets_41 : decode cX1_swapTickets 41 = .ok (.aload_n 0, 1) := by decide +kernel
theorem dX1_swapTickets_42 : decode cX1_swapTickets 42 = .ok (.aload_n 0, 1) := by decide +kernel
theorem dX1_swapTickets_43 : decode cX1_swapTickets 43 = .ok (.getfield 9, 3) := by decide +kernel
theorem dX1_swapTickets_46 : decode cX1_swapTickets 46 = .ok (.iload_n 1, 1) := by decide +kernel
theorem dX1_swapTickets_47 : decode cX1_swapTickets 47 = .ok (.iload_n 2, 1) := by decide +kernel
theorem dX1_swapTickets_48 : decode cX1_swapTickets 48 = .ok (.invokevirtual 89, 3) := by decide +kernel
theorem dX1_swapTickets_51 : decode cX1_swapTickets 51 = .ok (.ireturn, 1) := by decide +kernel
set_option maxRecDepth 20000 in
theorem ggX1_draw_X1_isOne : GoodIn wsX1_draw wsX1_isOne := goodIn_r _ [8, 9, 10, 11, 7, 12, 22, 23, 24, 25, 26, 27, 28, 29, 30, 31] (by decide +kernel) (by decide +kernel)
set_option maxRecDepth 20000 in
theorem gX1_draw_X1_isOne : GoodIn wsX1_draw (wsV RX1 66 RX1 yX1_isOne wsX1_isOne) := goodIn_app (goodIn_of _ (by decide +kernel)) ggX1_draw_X1_isOne
set_option maxRecDepth 20000 in
theorem ggX1_draw_X1_no : GoodIn wsX1_draw wsX1_no := goodIn_r _ [16, 1, 22, 23, 24, 25, 26, 27, 28, 29, 30, 31] (by decide +kernel) (by decide +kernel)
set_option maxRecDepth 20000 in
theorem gX1_draw_X1_no : GoodIn wsX1_draw (wsV RX1 63 RX1 yX1_no wsX1_no) := goodIn_app (goodIn_of _ (by decide +kernel)) ggX1_draw_X1_no
set_option maxRecDepth 20000 in
theorem ggX1_draw_X1_isIn : GoodIn wsX1_draw wsX1_isIn := goodIn_r _ [12] (by decide +kernel) (by decide +kernel)
set_option maxRecDepth 20000 in
theorem gX1_draw_X1_isIn : GoodIn wsX1_draw (va_wsS RX1 32 yX1_isIn wsX1_isIn) := goodIn_app (goodIn_of _ (by decide +kernel)) ggX1_draw_X1_isIn
set_option maxRecDepth 20000 in
theorem ggX1_draw_X1_pay : GoodIn wsX1_draw wsX1_pay := goodIn_r _ [20, 2, 21, 22, 23, 24, 25, 26, 27, 28, 29, 30, 31] (by decide +kernel) (by decide +kernel)
set_option maxRecDepth 20000 in
theorem gX1_draw_X1_pay : GoodIn wsX1_draw (wsV RX1 75 RX1 yX1_pay wsX1_pay) := goodIn_app (goodIn_of _ (by decide +kernel)) ggX1_draw_X1_pay
theorem dX1_draw_0 : decode cX1_draw 0 = .ok (.aload_n 0, 1) := by decide +kernel
theorem dX1_draw_1 : decode cX1_draw 1 = .ok (.iconst 0, 1) := by decide +kernel
theorem dX1_draw_2 : decode cX1_draw 2 = .ok (.putfield 26, 3) := by decide +kernel
theorem dX1_draw_5 : decode cX1_draw 5 = .ok (.aload_n 0, 1) := by decide +kernel
theorem dX1_draw_6 : decode cX1_draw 6 = .ok (.iload_n 1, 1) := by decide +kernel
theorem dX1_draw_7 : decode cX1_draw 7 = .ok (.invokevirtual 66, 3) := by decide +kernel
theorem dX1_draw_10 : decode cX1_draw 10 = .ok (.ifCond .ne 9, 3) := by decide +kernel
theorem dX1_draw_13 : decode cX1_draw 13 = .ok (.aload_n 0, 1) := by decide +kernel
theorem dX1_draw_14 : decode cX1_draw 14 = .ok (.iconst 1, 1) := by decide +kernel
theorem dX1_draw_15 : decode cX1_draw 15 = .ok (.invokevirtual 63, 3) := by decide +kernel
theorem dX1_draw_18 : decode cX1_draw 18 = .ok (.ireturn, 1) := by decide +kernel
theorem dX1_draw_19 : decode cX1_draw 19 = .ok (.iload_n 2, 1) := by decide +kernel
theorem dX1_draw_20 : decode cX1_draw 20 = .ok (.iconst 0, 1) := by decide +kernel
theorem dX1_draw_21 : decode cX1_draw 21 = .ok (.bipush 99, 2) := by decide +kernel
theorem dX1_draw_23 : decode cX1_draw 23 = .ok (.invokestatic 32, 3) := by decide +kernel
theorem dX1_draw_26 : decode cX1_draw 26 = .ok (.ifCond .ne 9, 3) := by decide +kernel
theorem dX1_draw_29 : decode cX1_draw 29 = .ok (.aload_n 0, 1) := by decide +kernel
theorem dX1_draw_30 : decode cX1_draw 30 = .ok (.iconst 2, 1) := by decide +kernel
theorem dX1_draw_31 : decode cX1_draw 31 = .ok (.invokevirtual 63, 3) := by decide +kernel
theorem dX1_draw_34 : decode cX1_draw 34 = .ok (.ireturn, 1) := by decide +kernel
theorem dX1_draw_35 : decode cX1_draw 35 = .ok (.aload_n 0, 1) := by decide +kernel
theorem dX1_draw_36 : decode cX1_draw 36 = .ok (.getfield 22, 3) := by decide +kernel
theorem dX1_draw_39 : decode cX1_draw 39 = .ok (.bipush 12, 2) := by decide +kernel
theorem dX1_draw_41 : decode cX1_draw 41 = .ok (.if_icmp .ge 9, 3) := by decide +kernel
theorem dX1_draw_44 : decode cX1_draw 44 = .ok (.aload_n 0, 1) := by decide +kernel
theorem dX1_draw_45 : decode cX1_draw 45 = .ok (.iconst 3, 1) := by decide +kernel
theorem dX1_draw_46 : decode cX1_draw 46 = .ok (.invokevirtual 63, 3) := by decide +kernel
theorem dX1_draw_49 : decode cX1_draw 49 = .ok (.ireturn, 1) := by decide +kernel
theorem dX1_draw_50 : decode cX1_draw 50 = .ok (.aload_n 0, 1) := by decide +kernel
theorem dX1_draw_51 : decode cX1_draw 51 = .ok (.bipush 12, 2) := by decide +kernel
theorem dX1_draw_53 : decode cX1_draw 53 = .ok (.invokevirtual 75, 3) := by decide +kernel
theorem dX1_draw_56 : decode cX1_draw 56 = .ok (.pop, 1) := by decide +kernel
theorem dX1_draw_57 : decode cX1_draw 57 = .ok (.aload_n 0, 1) := by decide +kernel
theorem dX1_draw_58 : decode cX1_draw 58 = .ok (.getfield 9, 3) := by decide +kernel
theorem dX1_draw_61 : decode cX1_draw 61 = .ok (.iload_n 1, 1) := by decide +kernel
theorem dX1_draw_62 : decode cX1_draw 62 = .ok (.iaload, 1) := by decide +kernel
theorem dX1_draw_63 : decode cX1_draw 63 = .ok (.istore_n 3, 1) := by decide +kernel
theorem dX1_draw_64 : decode cX1_draw 64 = .ok (.aload_n 0, 1) := by decide +kernel
theorem dX1_draw_65 : decode cX1_draw 65 = .ok (.getfield 9, 3) := by decide +kernel
theorem dX1_draw_68 : decode cX1_draw 68 = .ok (.iload_n 1, 1) := by decide +kernel
theorem dX1_draw_69 : decode cX1_draw 69 = .ok (.iload_n 2, 1) := by decide +kernel
theorem dX1_draw_70 : decode cX1_draw 70 = .ok (.iastore, 1) := by decide +kernel
theorem dX1_draw_71 : decode cX1_draw 71 = .ok (.iload_n 3, 1) := by decide +kernel
theorem dX1_draw_72 : decode cX1_draw 72 = .ok (.ireturn, 1) := by decide +kernel
set_option maxRecDepth 20000 in
theorem ggX1_goOn_X1_cornerIn : GoodIn wsX1_goOn wsX1_cornerIn := goodIn_r _ [10, 2, 11, 33, 34, 35, 36, 37, 38, 39, 40, 41, 42] (by decide +kernel) (by decide +kernel)
set_option maxRecDepth 20000 in
theorem gX1_goOn_X1_cornerIn : GoodIn wsX1_goOn (wsV RX1 40 RX1 yX1_cornerIn wsX1_cornerIn) := goodIn_app (goodIn_of _ (by decide +kernel)) ggX1_goOn_X1_cornerIn
set_option maxRecDepth 20000 in
theorem ggX1_goOn_X1_here : GoodIn wsX1_goOn wsX1_here := goodIn_r _ [15, 16, 17, 18, 9, 19, 1, 6, 7, 8, 10, 2, 11, 20, 21, 22, 23, 24, 25, 26, 27, 28, 33, 34, 35, 36, 37, 38, 39, 40, 41, 42] (by decide +kernel) (by decide +kernel)
set_option maxRecDepth 20000 in
theorem gX1_goOn_X1_here : GoodIn wsX1_goOn (wsV RX1 78 RX1 yX1_here wsX1_here) := goodIn_app (goodIn_of _ (by decide +kernel)) ggX1_goOn_X1_here
set_option maxRecDepth 20000 in
theorem ggX1_goOn_X1_at : GoodIn wsX1_goOn wsX1_at := goodIn_r _ [32, 1, 2, 33, 34, 35, 36, 37, 38, 39, 40, 41, 42] (by decide +kernel) (by decide +kernel)
set_option maxRecDepth 20000 in
theorem gX1_goOn_X1_at : GoodIn wsX1_goOn (wsV RX1 96 RX1 yX1_at wsX1_at) := goodIn_app (goodIn_of _ (by decide +kernel)) ggX1_goOn_X1_at
theorem dX1_goOn_0 : decode cX1_goOn 0 = .ok (.iconst 0, 1) := by decide +kernel
theorem dX1_goOn_1 : decode cX1_goOn 1 = .ok (.istore_n 1, 1) := by decide +kernel
theorem dX1_goOn_2 : decode cX1_goOn 2 = .ok (.iload_n 1, 1) := by decide +kernel
theorem dX1_goOn_3 : decode cX1_goOn 3 = .ok (.aload_n 0, 1) := by decide +kernel
theorem dX1_goOn_4 : decode cX1_goOn 4 = .ok (.getfield 29, 3) := by decide +kernel
theorem dX1_goOn_7 : decode cX1_goOn 7 = .ok (.if_icmp .ge 21, 3) := by decide +kernel
theorem dX1_goOn_10 : decode cX1_goOn 10 = .ok (.aload_n 0, 1) := by decide +kernel
theorem dX1_goOn_11 : decode cX1_goOn 11 = .ok (.getfield 16, 3) := by decide +kernel
theorem dX1_goOn_14 : decode cX1_goOn 14 = .ok (.iload_n 1, 1) := by decide +kernel
theorem dX1_goOn_15 : decode cX1_goOn 15 = .ok (.aload_n 0, 1) := by decide +kernel
theorem dX1_goOn_16 : decode cX1_goOn 16 = .ok (.iload_n 1, 1) := by decide +kernel
theorem dX1_goOn_17 : decode cX1_goOn 17 = .ok (.iconst 1, 1) := by decide +kernel
theorem dX1_goOn_18 : decode cX1_goOn 18 = .ok (.invokevirtual 40, 3) := by decide +kernel
theorem dX1_goOn_21 : decode cX1_goOn 21 = .ok (.iastore, 1) := by decide +kernel
theorem dX1_goOn_22 : decode cX1_goOn 22 = .ok (.iinc 1 1, 3) := by decide +kernel
theorem dX1_goOn_25 : decode cX1_goOn 25 = .ok (.goto (-23), 3) := by decide +kernel
theorem dX1_goOn_28 : decode cX1_goOn 28 = .ok (.aload_n 0, 1) := by decide +kernel
theorem dX1_goOn_29 : decode cX1_goOn 29 = .ok (.dup, 1) := by decide +kernel
theorem dX1_goOn_30 : decode cX1_goOn 30 = .ok (.getfield 93, 3) := by decide +kernel
theorem dX1_goOn_33 : decode cX1_goOn 33 = .ok (.aload_n 0, 1) := by decide +kernel
theorem dX1_goOn_34 : decode cX1_goOn 34 = .ok (.invokevirtual 78, 3) := by decide +kernel
theorem dX1_goOn_37 : decode cX1_goOn 37 = .ok (.iadd, 1) := by decide +kernel
theorem dX1_goOn_38 : decode cX1_goOn 38 = .ok (.putfield 93, 3) := by decide +kernel
theorem dX1_goOn_41 : decode cX1_goOn 41 = .ok (.iconst 0, 1) := by decide +kernel
theorem dX1_goOn_42 : decode cX1_goOn 42 = .ok (.istore_n 1, 1) := by decide +kernel
theorem dX1_goOn_43 : decode cX1_goOn 43 = .ok (.iload_n 1, 1) := by decide +kernel
theorem dX1_goOn_44 : decode cX1_goOn 44 = .ok (.bipush 6, 2) := by decide +kernel
theorem dX1_goOn_46 : decode cX1_goOn 46 = .ok (.if_icmp .ge 40, 3) := by decide +kernel
theorem dX1_goOn_49 : decode cX1_goOn 49 = .ok (.aload_n 0, 1) := by decide +kernel
theorem dX1_goOn_50 : decode cX1_goOn 50 = .ok (.dup, 1) := by decide +kernel
theorem dX1_goOn_51 : decode cX1_goOn 51 = .ok (.getfield 22, 3) := by decide +kernel
theorem dX1_goOn_54 : decode cX1_goOn 54 = .ok (.aload_n 0, 1) := by decide +kernel
theorem dX1_goOn_55 : decode cX1_goOn 55 = .ok (.iload_n 1, 1) := by decide +kernel
theorem dX1_goOn_56 : decode cX1_goOn 56 = .ok (.invokevirtual 96, 3) := by decide +kernel
theorem dX1_goOn_59 : decode cX1_goOn 59 = .ok (.ifCond .ne 16, 3) := by decide +kernel
theorem dX1_goOn_62 : decode cX1_goOn 62 = .ok (.aload_n 0, 1) := by decide +kernel
theorem dX1_goOn_63 : decode cX1_goOn 63 = .ok (.getfield 22, 3) := by decide +kernel
theorem dX1_goOn_66 : decode cX1_goOn 66 = .ok (.bipush 100, 2) := by decide +kernel
theorem dX1_goOn_68 : decode cX1_goOn 68 = .ok (.if_icmp .ge 7, 3) := by decide +kernel
theorem dX1_goOn_71 : decode cX1_goOn 71 = .ok (.iconst 1, 1) := by decide +kernel
theorem dX1_goOn_72 : decode cX1_goOn 72 = .ok (.goto 4, 3) := by decide +kernel
theorem dX1_goOn_75 : decode cX1_goOn 75 = .ok (.iconst 0, 1) := by decide +kernel
theorem dX1_goOn_76 : decode cX1_goOn 76 = .ok (.iadd, 1) := by decide +kernel
theorem dX1_goOn_77 : decode cX1_goOn 77 = .ok (.putfield 22, 3) := by decide +kernel
theorem dX1_goOn_80 : decode cX1_goOn 80 = .ok (.iinc 1 1, 3) := by decide +kernel
theorem dX1_goOn_83 : decode cX1_goOn 83 = .ok (.goto (-40), 3) := by decide +kernel
theorem dX1_goOn_86 : decode cX1_goOn 86 = .ok (.aload_n 0, 1) := by decide +kernel
theorem dX1_goOn_87 : decode cX1_goOn 87 = .ok (.dup, 1) := by decide +kernel
theorem dX1_goOn_88 : decode cX1_goOn 88 = .ok (.getfield 99, 3) := by decide +kernel
theorem dX1_goOn_91 : decode cX1_goOn 91 = .ok (.iconst 1, 1) := by decide +kernel
theorem dX1_goOn_92 : decode cX1_goOn 92 = .ok (.iadd, 1) := by decide +kernel
theorem dX1_goOn_93 : decode cX1_goOn 93 = .ok (.putfield 99, 3) := by decide +kernel
theorem dX1_goOn_96 : decode cX1_goOn 96 = .ok (.return_, 1) := by decide +kernel
set_option maxRecDepth 20000 in
theorem ggX1_pass_X1_isIn : GoodIn wsX1_pass wsX1_isIn := goodIn_r _ [6] (by decide +kernel) (by decide +kernel)
set_option maxRecDepth 20000 in
theorem gX1_pass_X1_isIn : GoodIn wsX1_pass (va_wsS RX1 32 yX1_isIn wsX1_isIn) := goodIn_app (goodIn_of _ (by decide +kernel)) ggX1_pass_X1_isIn
set_option maxRecDepth 20000 in
theorem ggX1_pass_X1_no : GoodIn wsX1_pass wsX1_no := goodIn_r _ [10, 1, 45, 46, 47, 48, 49, 50, 51, 52, 53, 54] (by decide +kernel) (by decide +kernel)
set_option maxRecDepth 20000 in
theorem gX1_pass_X1_no : GoodIn wsX1_pass (wsV RX1 63 RX1 yX1_no wsX1_no) := goodIn_app (goodIn_of _ (by decide +kernel)) ggX1_pass_X1_no
set_option maxRecDepth 20000 in
theorem ggX1_pass_X1_goOn : GoodIn wsX1_pass wsX1_goOn := goodIn_r _ [14, 15, 16, 2, 17, 18, 19, 20, 21, 5, 22, 23, 24, 25, 26, 27, 28, 29, 30, 31, 32, 33, 34, 35, 36, 37, 38, 39, 40, 41, 42, 43, 44, 45, 46, 47, 48, 49, 50, 51, 52, 53, 54] (by decide +kernel) (by decide +kernel)
set_option maxRecDepth 20000 in
theorem gX1_pass_X1_goOn : GoodIn wsX1_pass (wsV RX1 102 RX1 yX1_goOn wsX1_goOn) := goodIn_app (goodIn_of _ (by decide +kernel)) ggX1_pass_X1_goOn
theorem dX1_pass_0 : decode cX1_pass 0 = .ok (.aload_n 0, 1) := by decide +kernel
theorem dX1_pass_1 : decode cX1_pass 1 = .ok (.iconst 0, 1) := by decide +kernel
theorem dX1_pass_2 : decode cX1_pass 2 = .ok (.putfield 26, 3) := by decide +kernel
theorem dX1_pass_5 : decode cX1_pass 5 = .ok (.iload_n 1, 1) := by decide +kernel
theorem dX1_pass_6 : decode cX1_pass 6 = .ok (.iconst 1, 1) := by decide +kernel
theorem dX1_pass_7 : decode cX1_pass 7 = .ok (.bipush 60, 2) := by decide +kernel
theorem dX1_pass_9 : decode cX1_pass 9 = .ok (.invokestatic 32, 3) := by decide +kernel
theorem dX1_pass_12 : decode cX1_pass 12 = .ok (.ifCond .ne 9, 3) := by decide +kernel
theorem dX1_pass_15 : decode cX1_pass 15 = .ok (.aload_n 0, 1) := by decide +kernel
theorem dX1_pass_16 : decode cX1_pass 16 = .ok (.iconst 1, 1) := by decide +kernel
theorem dX1_pass_17 : decode cX1_pass 17 = .ok (.invokevirtual 63, 3) := by decide +kernel
theorem dX1_pass_20 : decode cX1_pass 20 = .ok (.ireturn, 1) := by decide +kernel
theorem dX1_pass_21 : decode cX1_pass 21 = .ok (.aload_n 0, 1) := by decide +kernel
theorem dX1_pass_22 : decode cX1_pass 22 = .ok (.getfield 93, 3) := by decide +kernel
theorem dX1_pass_25 : decode cX1_pass 25 = .ok (.istore_n 2, 1) := by decide +kernel
theorem dX1_pass_26 : decode cX1_pass 26 = .ok (.iconst 0, 1) := by decide +kernel
theorem dX1_pass_27 : decode cX1_pass 27 = .ok (.istore_n 3, 1) := by decide +kernel
theorem dX1_pass_28 : decode cX1_pass 28 = .ok (.iload_n 3, 1) := by decide +kernel
theorem dX1_pass_29 : decode cX1_pass 29 = .ok (.iload_n 1, 1) := by decide +kernel
theorem dX1_pass_30 : decode cX1_pass 30 = .ok (.if_icmp .ge 13, 3) := by decide +kernel
theorem dX1_pass_33 : decode cX1_pass 33 = .ok (.aload_n 0, 1) := by decide +kernel
theorem dX1_pass_34 : decode cX1_pass 34 = .ok (.invokevirtual 102, 3) := by decide +kernel
theorem dX1_pass_37 : decode cX1_pass 37 = .ok (.iinc 3 1, 3) := by decide +kernel
theorem dX1_pass_40 : decode cX1_pass 40 = .ok (.goto (-12), 3) := by decide +kernel
theorem dX1_pass_43 : decode cX1_pass 43 = .ok (.aload_n 0, 1) := by decide +kernel
theorem dX1_pass_44 : decode cX1_pass 44 = .ok (.getfield 93, 3) := by decide +kernel
theorem dX1_pass_47 : decode cX1_pass 47 = .ok (.iload_n 2, 1) := by decide +kernel
theorem dX1_pass_48 : decode cX1_pass 48 = .ok (.isub, 1) := by decide +kernel
theorem dX1_pass_49 : decode cX1_pass 49 = .ok (.ireturn, 1) := by decide +kernel
set_option maxRecDepth 20000 in
theorem ggX1_strangers_X1_ok : GoodIn wsX1_strangers wsX1_ok := goodIn_r _ [6, 7, 8, 9, 10, 11, 12, 13, 14, 15, 16, 17] (by decide +kernel) (by decide +kernel)
set_option maxRecDepth 20000 in
theorem gX1_strangers_X1_ok : GoodIn wsX1_strangers (wsV RX1 105 RX1 yX1_ok wsX1_ok) := goodIn_app (goodIn_of _ (by decide +kernel)) ggX1_strangers_X1_ok
theorem dX1_strangers_0 : decode cX1_strangers 0 = .ok (.aload_n 0, 1) := by decide +kernel
theorem dX1_strangers_1 : decode cX1_strangers 1 = .ok (.aload_n 0, 1) := by decide +kernel
theorem dX1_strangers_2 : decode cX1_strangers 2 = .ok (.getfield 29, 3) := by decide +kernel
theorem dX1_strangers_5 : decode cX1_strangers 5 = .ok (.invokevirtual 105, 3) := by decide +kernel
theorem dX1_strangers_8 : decode cX1_strangers 8 = .ok (.ireturn, 1) := by decide +kernel
set_option maxRecDepth 20000 in
theorem ggX1_hour_X1_ok : GoodIn wsX1_hour wsX1_ok := goodIn_r _ [6, 7, 8, 9, 10, 11, 12, 13, 14, 15, 16, 17] (by decide +kernel) (by decide +kernel)
set_option maxRecDepth 20000 in
theorem gX1_hour_X1_ok : GoodIn wsX1_hour (wsV RX1 105 RX1 yX1_ok wsX1_ok) := goodIn_app (goodIn_of _ (by decide +kernel)) ggX1_hour_X1_ok
theorem dX1_hour_0 : decode cX1_hour 0 = .ok (.aload_n 0, 1) := by decide +kernel
theorem dX1_hour_1 : decode cX1_hour 1 = .ok (.aload_n 0, 1) := by decide +kernel
theorem dX1_hour_2 : decode cX1_hour 2 = .ok (.getfield 99, 3) := by decide +kernel
theorem dX1_hour_5 : decode cX1_hour 5 = .ok (.invokevirtual 105, 3) := by decide +kernel
theorem dX1_hour_8 : decode cX1_hour 8 = .ok (.ireturn, 1) := by decide +kernel
set_option maxRecDepth 20000 in
theorem ggX1_store_X1_ok : GoodIn wsX1_store wsX1_ok := goodIn_r _ [6, 7, 8, 9, 10, 11, 12, 13, 14, 15, 16, 17] (by decide +kernel) (by decide +kernel)
set_option maxRecDepth 20000 in
theorem gX1_store_X1_ok : GoodIn wsX1_store (wsV RX1 105 RX1 yX1_ok wsX1_ok) := goodIn_app (goodIn_of _ (by decide +kernel)) ggX1_store_X1_ok
theorem dX1_store_0 : decode cX1_store 0 = .ok (.aload_n 0, 1) := by decide +kernel
theorem dX1_store_1 : decode cX1_store 1 = .ok (.aload_n 0, 1) := by decide +kernel
theorem dX1_store_2 : decode cX1_store 2 = .ok (.getfield 22, 3) := by decide +kernel
theorem dX1_store_5 : decode cX1_store 5 = .ok (.invokevirtual 105, 3) := by decide +kernel
theorem dX1_store_8 : decode cX1_store 8 = .ok (.ireturn, 1) := by decide +kernel
set_option maxRecDepth 20000 in
theorem ggX1_counted_X1_ok : GoodIn wsX1_counted wsX1_ok := goodIn_r _ [6, 7, 8, 9, 10, 11, 12, 13, 14, 15, 16, 17] (by decide +kernel) (by decide +kernel)
set_option maxRecDepth 20000 in
theorem gX1_counted_X1_ok : GoodIn wsX1_counted (wsV RX1 105 RX1 yX1_ok wsX1_ok) := goodIn_app (goodIn_of _ (by decide +kernel)) ggX1_counted_X1_ok
theorem dX1_counted_0 : decode cX1_counted 0 = .ok (.aload_n 0, 1) := by decide +kernel
theorem dX1_counted_1 : decode cX1_counted 1 = .ok (.aload_n 0, 1) := by decide +kernel
theorem dX1_counted_2 : decode cX1_counted 2 = .ok (.getfield 93, 3) := by decide +kernel
theorem dX1_counted_5 : decode cX1_counted 5 = .ok (.invokevirtual 105, 3) := by decide +kernel
theorem dX1_counted_8 : decode cX1_counted 8 = .ok (.ireturn, 1) := by decide +kernel
set_option maxRecDepth 20000 in
theorem ggX1_spent_X1_ok : GoodIn wsX1_spent wsX1_ok := goodIn_r _ [6, 7, 8, 9, 10, 11, 12, 13, 14, 15, 16, 17] (by decide +kernel) (by decide +kernel)
set_option maxRecDepth 20000 in
theorem gX1_spent_X1_ok : GoodIn wsX1_spent (wsV RX1 105 RX1 yX1_ok wsX1_ok) := goodIn_app (goodIn_of _ (by decide +kernel)) ggX1_spent_X1_ok
theorem dX1_spent_0 : decode cX1_spent 0 = .ok (.aload_n 0, 1) := by decide +kernel
theorem dX1_spent_1 : decode cX1_spent 1 = .ok (.aload_n 0, 1) := by decide +kernel
theorem dX1_spent_2 : decode cX1_spent 2 = .ok (.getfield 69, 3) := by decide +kernel
theorem dX1_spent_5 : decode cX1_spent 5 = .ok (.invokevirtual 105, 3) := by decide +kernel
theorem dX1_spent_8 : decode cX1_spent 8 = .ok (.ireturn, 1) := by decide +kernel
set_option maxRecDepth 20000 in
theorem ggX1_of_X1_isOne : GoodIn wsX1_of wsX1_isOne := goodIn_r _ [6, 7, 8, 9, 5, 10, 15, 16, 17, 18, 19, 20, 21, 22, 23, 24] (by decide +kernel) (by decide +kernel)
set_option maxRecDepth 20000 in
theorem gX1_of_X1_isOne : GoodIn wsX1_of (wsV RX1 66 RX1 yX1_isOne wsX1_isOne) := goodIn_app (goodIn_of _ (by decide +kernel)) ggX1_of_X1_isOne
set_option maxRecDepth 20000 in
theorem ggX1_of_X1_no : GoodIn wsX1_of wsX1_no := goodIn_r _ [14, 1, 15, 16, 17, 18, 19, 20, 21, 22, 23, 24] (by decide +kernel) (by decide +kernel)
set_option maxRecDepth 20000 in
theorem gX1_of_X1_no : GoodIn wsX1_of (wsV RX1 63 RX1 yX1_no wsX1_no) := goodIn_app (goodIn_of _ (by decide +kernel)) ggX1_of_X1_no
theorem dX1_of_0 : decode cX1_of 0 = .ok (.aload_n 0, 1) := by decide +kernel
theorem dX1_of_1 : decode cX1_of 1 = .ok (.iconst 0, 1) := by decide +kernel
theorem dX1_of_2 : decode cX1_of 2 = .ok (.putfield 26, 3) := by decide +kernel
theorem dX1_of_5 : decode cX1_of 5 = .ok (.aload_n 0, 1) := by decide +kernel
theorem dX1_of_6 : decode cX1_of 6 = .ok (.iload_n 1, 1) := by decide +kernel
theorem dX1_of_7 : decode cX1_of 7 = .ok (.invokevirtual 66, 3) := by decide +kernel
theorem dX1_of_10 : decode cX1_of 10 = .ok (.ifCond .eq 9, 3) := by decide +kernel
theorem dX1_of_13 : decode cX1_of 13 = .ok (.aload_n 2, 1) := by decide +kernel
theorem dX1_of_14 : decode cX1_of 14 = .ok (.iload_n 1, 1) := by decide +kernel
theorem dX1_of_15 : decode cX1_of 15 = .ok (.iaload, 1) := by decide +kernel
theorem dX1_of_16 : decode cX1_of 16 = .ok (.goto 8, 3) := by decide +kernel
theorem dX1_of_19 : decode cX1_of 19 = .ok (.aload_n 0, 1) := by decide +kernel
theorem dX1_of_20 : decode cX1_of 20 = .ok (.iconst 1, 1) := by decide +kernel
theorem dX1_of_21 : decode cX1_of 21 = .ok (.invokevirtual 63, 3) := by decide +kernel
theorem dX1_of_24 : decode cX1_of 24 = .ok (.ireturn, 1) := by decide +kernel
set_option maxRecDepth 20000 in
theorem ggX1_ticketOf_X1_of : GoodIn wsX1_ticketOf wsX1_of := goodIn_r _ [6, 7, 8, 9, 10, 5, 11, 12, 13, 14, 15, 16, 17, 18, 19, 20, 21, 22, 23, 24, 25, 26, 27, 28, 29] (by decide +kernel) (by decide +kernel)
set_option maxRecDepth 20000 in
theorem gX1_ticketOf_X1_of : GoodIn wsX1_ticketOf (wsV RX1 108 RX1 yX1_of wsX1_of) := goodIn_app (goodIn_of _ (by decide +kernel)) ggX1_ticketOf_X1_of
theorem dX1_ticketOf_0 : decode cX1_ticketOf 0 = .ok (.aload_n 0, 1) := by decide +kernel
theorem dX1_ticketOf_1 : decode cX1_ticketOf 1 = .ok (.iload_n 1, 1) := by decide +kernel
theorem dX1_ticketOf_2 : decode cX1_ticketOf 2 = .ok (.aload_n 0, 1) := by decide +kernel
theorem dX1_ticketOf_3 : decode cX1_ticketOf 3 = .ok (.getfield 9, 3) := by decide +kernel
theorem dX1_ticketOf_6 : decode cX1_ticketOf 6 = .ok (.invokevirtual 108, 3) := by decide +kernel
theorem dX1_ticketOf_9 : decode cX1_ticketOf 9 = .ok (.ireturn, 1) := by decide +kernel
set_option maxRecDepth 20000 in
theorem ggX1_colourOf_X1_of : GoodIn wsX1_colourOf wsX1_of := goodIn_r _ [6, 7, 8, 9, 10, 5, 11, 12, 13, 14, 15, 16, 17, 18, 19, 20, 21, 22, 23, 24, 25, 26, 27, 28, 29] (by decide +kernel) (by decide +kernel)
set_option maxRecDepth 20000 in
theorem gX1_colourOf_X1_of : GoodIn wsX1_colourOf (wsV RX1 108 RX1 yX1_of wsX1_of) := goodIn_app (goodIn_of _ (by decide +kernel)) ggX1_colourOf_X1_of
theorem dX1_colourOf_0 : decode cX1_colourOf 0 = .ok (.aload_n 0, 1) := by decide +kernel
theorem dX1_colourOf_1 : decode cX1_colourOf 1 = .ok (.iload_n 1, 1) := by decide +kernel
theorem dX1_colourOf_2 : decode cX1_colourOf 2 = .ok (.aload_n 0, 1) := by decide +kernel
theorem dX1_colourOf_3 : decode cX1_colourOf 3 = .ok (.getfield 13, 3) := by decide +kernel
theorem dX1_colourOf_6 : decode cX1_colourOf 6 = .ok (.invokevirtual 108, 3) := by decide +kernel
theorem dX1_colourOf_9 : decode cX1_colourOf 9 = .ok (.ireturn, 1) := by decide +kernel
set_option maxRecDepth 20000 in
theorem ggX1_cornerOf_X1_of : GoodIn wsX1_cornerOf wsX1_of := goodIn_r _ [6, 7, 8, 9, 10, 5, 11, 12, 13, 14, 15, 16, 17, 18, 19, 20, 21, 22, 23, 24, 25, 26, 27, 28, 29] (by decide +kernel) (by decide +kernel)
set_option maxRecDepth 20000 in
theorem gX1_cornerOf_X1_of : GoodIn wsX1_cornerOf (wsV RX1 108 RX1 yX1_of wsX1_of) := goodIn_app (goodIn_of _ (by decide +kernel)) ggX1_cornerOf_X1_of
theorem dX1_cornerOf_0 : decode cX1_cornerOf 0 = .ok (.aload_n 0, 1) := by decide +kernel
theorem dX1_cornerOf_1 : decode cX1_cornerOf 1 = .ok (.iload_n 1, 1) := by decide +kernel
theorem dX1_cornerOf_2 : decode cX1_cornerOf 2 = .ok (.aload_n 0, 1) := by decide +kernel
theorem dX1_cornerOf_3 : decode cX1_cornerOf 3 = .ok (.getfield 16, 3) := by decide +kernel
theorem dX1_cornerOf_6 : decode cX1_cornerOf 6 = .ok (.invokevirtual 108, 3) := by decide +kernel
theorem dX1_cornerOf_9 : decode cX1_cornerOf 9 = .ok (.ireturn, 1) := by decide +kernel
set_option maxRecDepth 20000 in
theorem ggX1_walkOf_X1_of : GoodIn wsX1_walkOf wsX1_of := goodIn_r _ [6, 7, 8, 9, 10, 5, 11, 12, 13, 14, 15, 16, 17, 18, 19, 20, 21, 22, 23, 24, 25, 26, 27, 28, 29] (by decide +kernel) (by decide +kernel)
set_option maxRecDepth 20000 in
theorem gX1_walkOf_X1_of : GoodIn wsX1_walkOf (wsV RX1 108 RX1 yX1_of wsX1_of) := goodIn_app (goodIn_of _ (by decide +kernel)) ggX1_walkOf_X1_of
theorem dX1_walkOf_0 : decode cX1_walkOf 0 = .ok (.aload_n 0, 1) := by decide +kernel
theorem dX1_walkOf_1 : decode cX1_walkOf 1 = .ok (.iload_n 1, 1) := by decide +kernel
theorem dX1_walkOf_2 : decode cX1_walkOf 2 = .ok (.aload_n 0, 1) := by decide +kernel
theorem dX1_walkOf_3 : decode cX1_walkOf 3 = .ok (.getfield 19, 3) := by decide +kernel
theorem dX1_walkOf_6 : decode cX1_walkOf 6 = .ok (.invokevirtual 108, 3) := by decide +kernel
theorem dX1_walkOf_9 : decode cX1_walkOf 9 = .ok (.ireturn, 1) := by decide +kernel
set_option maxRecDepth 20000 in
theorem ggX1_peopleAt_X1_isCorner : GoodIn wsX1_peopleAt wsX1_isCorner := goodIn_r _ [5, 6, 7, 4, 8] (by decide +kernel) (by decide +kernel)
set_option maxRecDepth 20000 in
theorem gX1_peopleAt_X1_isCorner : GoodIn wsX1_peopleAt (va_wsS RX1 59 yX1_isCorner wsX1_isCorner) := goodIn_app (goodIn_of _ (by decide +kernel)) ggX1_peopleAt_X1_isCorner
set_option maxRecDepth 20000 in
theorem ggX1_peopleAt_X1_at : GoodIn wsX1_peopleAt wsX1_at := goodIn_r _ [12, 13, 14, 19, 20, 21, 22, 23, 24, 25, 26, 27, 28] (by decide +kernel) (by decide +kernel)
set_option maxRecDepth 20000 in
theorem gX1_peopleAt_X1_at : GoodIn wsX1_peopleAt (wsV RX1 96 RX1 yX1_at wsX1_at) := goodIn_app (goodIn_of _ (by decide +kernel)) ggX1_peopleAt_X1_at
set_option maxRecDepth 20000 in
theorem ggX1_peopleAt_X1_no : GoodIn wsX1_peopleAt wsX1_no := goodIn_r _ [18, 1, 19, 20, 21, 22, 23, 24, 25, 26, 27, 28] (by decide +kernel) (by decide +kernel)
set_option maxRecDepth 20000 in
theorem gX1_peopleAt_X1_no : GoodIn wsX1_peopleAt (wsV RX1 63 RX1 yX1_no wsX1_no) := goodIn_app (goodIn_of _ (by decide +kernel)) ggX1_peopleAt_X1_no
theorem dX1_peopleAt_0 : decode cX1_peopleAt 0 = .ok (.aload_n 0, 1) := by decide +kernel
theorem dX1_peopleAt_1 : decode cX1_peopleAt 1 = .ok (.iconst 0, 1) := by decide +kernel
theorem dX1_peopleAt_2 : decode cX1_peopleAt 2 = .ok (.putfield 26, 3) := by decide +kernel
theorem dX1_peopleAt_5 : decode cX1_peopleAt 5 = .ok (.iload_n 1, 1) := by decide +kernel
theorem dX1_peopleAt_6 : decode cX1_peopleAt 6 = .ok (.invokestatic 59, 3) := by decide +kernel
theorem dX1_peopleAt_9 : decode cX1_peopleAt 9 = .ok (.ifCond .eq 11, 3) := by decide +kernel
theorem dX1_peopleAt_12 : decode cX1_peopleAt 12 = .ok (.aload_n 0, 1) := by decide +kernel
theorem dX1_peopleAt_13 : decode cX1_peopleAt 13 = .ok (.iload_n 1, 1) := by decide +kernel
theorem dX1_peopleAt_14 : decode cX1_peopleAt 14 = .ok (.invokevirtual 96, 3) := by decide +kernel
theorem dX1_peopleAt_17 : decode cX1_peopleAt 17 = .ok (.goto 8, 3) := by decide +kernel
theorem dX1_peopleAt_20 : decode cX1_peopleAt 20 = .ok (.aload_n 0, 1) := by decide +kernel
theorem dX1_peopleAt_21 : decode cX1_peopleAt 21 = .ok (.iconst 1, 1) := by decide +kernel
theorem dX1_peopleAt_22 : decode cX1_peopleAt 22 = .ok (.invokevirtual 63, 3) := by decide +kernel
theorem dX1_peopleAt_25 : decode cX1_peopleAt 25 = .ok (.ireturn, 1) := by decide +kernel
set_option maxRecDepth 20000 in
theorem ggX1_pointsOf_X1_wrongPair : GoodIn wsX1_pointsOf wsX1_wrongPair := goodIn_r _ [6, 7, 8, 9, 5, 10, 11, 12, 13, 14, 24, 25, 26, 27, 28, 29, 30, 31, 32, 33] (by decide +kernel) (by decide +kernel)
set_option maxRecDepth 20000 in
theorem gX1_pointsOf_X1_wrongPair : GoodIn wsX1_pointsOf (wsV RX1 86 RX1 yX1_wrongPair wsX1_wrongPair) := goodIn_app (goodIn_of _ (by decide +kernel)) ggX1_pointsOf_X1_wrongPair
set_option maxRecDepth 20000 in
theorem ggX1_pointsOf_X1_points : GoodIn wsX1_pointsOf wsX1_points := goodIn_r _ [18, 19, 20, 21, 22, 5, 23, 24, 25, 26, 27, 28, 29, 30, 31, 32, 33] (by decide +kernel) (by decide +kernel)
set_option maxRecDepth 20000 in
theorem gX1_pointsOf_X1_points : GoodIn wsX1_pointsOf (wsV RX1 44 RX1 yX1_points wsX1_points) := goodIn_app (goodIn_of _ (by decide +kernel)) ggX1_pointsOf_X1_points
theorem dX1_pointsOf_0 : decode cX1_pointsOf 0 = .ok (.aload_n 0, 1) := by decide +kernel
theorem dX1_pointsOf_1 : decode cX1_pointsOf 1 = .ok (.aload_n 0, 1) := by decide +kernel
theorem dX1_pointsOf_2 : decode cX1_pointsOf 2 = .ok (.iload_n 1, 1) := by decide +kernel
theorem dX1_pointsOf_3 : decode cX1_pointsOf 3 = .ok (.iload_n 2, 1) := by decide +kernel
theorem dX1_pointsOf_4 : decode cX1_pointsOf 4 = .ok (.invokevirtual 86, 3) := by decide +kernel
theorem dX1_pointsOf_7 : decode cX1_pointsOf 7 = .ok (.putfield 26, 3) := by decide +kernel
theorem dX1_pointsOf_10 : decode cX1_pointsOf 10 = .ok (.aload_n 0, 1) := by decide +kernel
theorem dX1_pointsOf_11 : decode cX1_pointsOf 11 = .ok (.getfield 26, 3) := by decide +kernel
theorem dX1_pointsOf_14 : decode cX1_pointsOf 14 = .ok (.ifCond .le 7, 3) := by decide +kernel
theorem dX1_pointsOf_17 : decode cX1_pointsOf 17 = .ok (.iconst 0, 1) := by decide +kernel
theorem dX1_pointsOf_18 : decode cX1_pointsOf 18 = .ok (.goto 9, 3) := by decide +kernel
theorem dX1_pointsOf_21 : decode cX1_pointsOf 21 = .ok (.aload_n 0, 1) := by decide +kernel
theorem dX1_pointsOf_22 : decode cX1_pointsOf 22 = .ok (.iload_n 1, 1) := by decide +kernel
theorem dX1_pointsOf_23 : decode cX1_pointsOf 23 = .ok (.iload_n 2, 1) := by decide +kernel
theorem dX1_pointsOf_24 : decode cX1_pointsOf 24 = .ok (.invokevirtual 44, 3) := by decide +kernel
theorem dX1_pointsOf_27 : decode cX1_pointsOf 27 = .ok (.ireturn, 1) := by decide +kernel
set_option maxRecDepth 20000 in
theorem ggX1_areTogether_X1_wrongPair : GoodIn wsX1_areTogether wsX1_wrongPair := goodIn_r _ [7, 8, 9, 10, 6, 11, 12, 13, 14, 15, 16, 17, 18, 19, 20, 21, 22, 23, 24, 25] (by decide +kernel) (by decide +kernel)
set_option maxRecDepth 20000 in
theorem gX1_areTogether_X1_wrongPair : GoodIn wsX1_areTogether (wsV RX1 86 RX1 yX1_wrongPair wsX1_wrongPair) := goodIn_app (goodIn_of _ (by decide +kernel)) ggX1_areTogether_X1_wrongPair
theorem dX1_areTogether_0 : decode cX1_areTogether 0 = .ok (.aload_n 0, 1) := by decide +kernel
theorem dX1_areTogether_1 : decode cX1_areTogether 1 = .ok (.aload_n 0, 1) := by decide +kernel
theorem dX1_areTogether_2 : decode cX1_areTogether 2 = .ok (.iload_n 1, 1) := by decide +kernel
theorem dX1_areTogether_3 : decode cX1_areTogether 3 = .ok (.iload_n 2, 1) := by decide +kernel
theorem dX1_areTogether_4 : decode cX1_areTogether 4 = .ok (.invokevirtual 86, 3) := by decide +kernel
theorem dX1_areTogether_7 : decode cX1_areTogether 7 = .ok (.putfield 26, 3) := by decide +kernel
theorem dX1_areTogether_10 : decode cX1_areTogether 10 = .ok (.aload_n 0, 1) := by decide +kernel
theorem dX1_areTogether_11 : decode cX1_areTogether 11 = .ok (.getfield 26, 3) := by decide +kernel
theorem dX1_areTogether_14 : decode cX1_areTogether 14 = .ok (.ifCond .ne 22, 3) := by decide +kernel
theorem dX1_areTogether_17 : decode cX1_areTogether 17 = .ok (.aload_n 0, 1) := by decide +kernel
theorem dX1_areTogether_18 : decode cX1_areTogether 18 = .ok (.getfield 16, 3) := by decide +kernel
theorem dX1_areTogether_21 : decode cX1_areTogether 21 = .ok (.iload_n 1, 1) := by decide +kernel
theorem dX1_areTogether_22 : decode cX1_areTogether 22 = .ok (.iaload, 1) := by decide +kernel
theorem dX1_areTogether_23 : decode cX1_areTogether 23 = .ok (.aload_n 0, 1) := by decide +kernel
theorem dX1_areTogether_24 : decode cX1_areTogether 24 = .ok (.getfield 16, 3) := by decide +kernel
theorem dX1_areTogether_27 : decode cX1_areTogether 27 = .ok (.iload_n 2, 1) := by decide +kernel
theorem dX1_areTogether_28 : decode cX1_areTogether 28 = .ok (.iaload, 1) := by decide +kernel
theorem dX1_areTogether_29 : decode cX1_areTogether 29 = .ok (.if_icmp .ne 7, 3) := by decide +kernel
theorem dX1_areTogether_32 : decode cX1_areTogether 32 = .ok (.iconst 1, 1) := by decide +kernel
theorem dX1_areTogether_33 : decode cX1_areTogether 33 = .ok (.goto 4, 3) := by decide +kernel
theorem dX1_areTogether_36 : decode cX1_areTogether 36 = .ok (.iconst 0, 1) := by decide +kernel
theorem dX1_areTogether_37 : decode cX1_areTogether 37 = .ok (.ireturn, 1) := by decide +kernel
set_option maxRecDepth 20000 in
theorem ggX1_areMirrored_X1_wrongPair : GoodIn wsX1_areMirrored wsX1_wrongPair := goodIn_r _ [7, 8, 9, 10, 6, 11, 12, 13, 14, 15, 19, 20, 21, 22, 23, 24, 25, 26, 27, 28] (by decide +kernel) (by decide +kernel)
set_option maxRecDepth 20000 in
theorem gX1_areMirrored_X1_wrongPair : GoodIn wsX1_areMirrored (wsV RX1 86 RX1 yX1_wrongPair wsX1_wrongPair) := goodIn_app (goodIn_of _ (by decide +kernel)) ggX1_areMirrored_X1_wrongPair
set_option maxRecDepth 20000 in
theorem ggX1_areMirrored_X1_isMirror : GoodIn wsX1_areMirrored wsX1_isMirror := goodIn_r _ [18] (by decide +kernel) (by decide +kernel)
set_option maxRecDepth 20000 in
theorem gX1_areMirrored_X1_isMirror : GoodIn wsX1_areMirrored (va_wsS RX1 36 yX1_isMirror wsX1_isMirror) := goodIn_app (goodIn_of _ (by decide +kernel)) ggX1_areMirrored_X1_isMirror
theorem dX1_areMirrored_0 : decode cX1_areMirrored 0 = .ok (.aload_n 0, 1) := by decide +kernel
theorem dX1_areMirrored_1 : decode cX1_areMirrored 1 = .ok (.aload_n 0, 1) := by decide +kernel
theorem dX1_areMirrored_2 : decode cX1_areMirrored 2 = .ok (.iload_n 1, 1) := by decide +kernel
theorem dX1_areMirrored_3 : decode cX1_areMirrored 3 = .ok (.iload_n 2, 1) := by decide +kernel
theorem dX1_areMirrored_4 : decode cX1_areMirrored 4 = .ok (.invokevirtual 86, 3) := by decide +kernel
theorem dX1_areMirrored_7 : decode cX1_areMirrored 7 = .ok (.putfield 26, 3) := by decide +kernel
theorem dX1_areMirrored_10 : decode cX1_areMirrored 10 = .ok (.aload_n 0, 1) := by decide +kernel
theorem dX1_areMirrored_11 : decode cX1_areMirrored 11 = .ok (.getfield 26, 3) := by decide +kernel
theorem dX1_areMirrored_14 : decode cX1_areMirrored 14 = .ok (.ifCond .ne 25, 3) := by decide +kernel
theorem dX1_areMirrored_17 : decode cX1_areMirrored 17 = .ok (.aload_n 0, 1) := by decide +kernel
theorem dX1_areMirrored_18 : decode cX1_areMirrored 18 = .ok (.getfield 9, 3) := by decide +kernel
theorem dX1_areMirrored_21 : decode cX1_areMirrored 21 = .ok (.iload_n 1, 1) := by decide +kernel
theorem dX1_areMirrored_22 : decode cX1_areMirrored 22 = .ok (.iaload, 1) := by decide +kernel
theorem dX1_areMirrored_23 : decode cX1_areMirrored 23 = .ok (.aload_n 0, 1) := by decide +kernel
theorem dX1_areMirrored_24 : decode cX1_areMirrored 24 = .ok (.getfield 9, 3) := by decide +kernel
theorem dX1_areMirrored_27 : decode cX1_areMirrored 27 = .ok (.iload_n 2, 1) := by decide +kernel
theorem dX1_areMirrored_28 : decode cX1_areMirrored 28 = .ok (.iaload, 1) := by decide +kernel
theorem dX1_areMirrored_29 : decode cX1_areMirrored 29 = .ok (.invokestatic 36, 3) := by decide +kernel
theorem dX1_areMirrored_32 : decode cX1_areMirrored 32 = .ok (.ifCond .eq 7, 3) := by decide +kernel
theorem dX1_areMirrored_35 : decode cX1_areMirrored 35 = .ok (.iconst 1, 1) := by decide +kernel
theorem dX1_areMirrored_36 : decode cX1_areMirrored 36 = .ok (.goto 4, 3) := by decide +kernel
theorem dX1_areMirrored_39 : decode cX1_areMirrored 39 = .ok (.iconst 0, 1) := by decide +kernel
theorem dX1_areMirrored_40 : decode cX1_areMirrored 40 = .ok (.ireturn, 1) := by decide +kernel
set_option maxRecDepth 20000 in
theorem ggX1_coincidences_X1_here : GoodIn wsX1_coincidences wsX1_here := goodIn_r _ [5, 6, 7, 8, 4, 9, 10, 11, 12, 13, 14, 15, 16, 17, 18, 19, 20, 21, 22, 23, 24, 25, 31, 32, 33, 34, 35, 36, 37, 38, 39, 40] (by decide +kernel) (by decide +kernel)
set_option maxRecDepth 20000 in
theorem gX1_coincidences_X1_here : GoodIn wsX1_coincidences (wsV RX1 78 RX1 yX1_here wsX1_here) := goodIn_app (goodIn_of _ (by decide +kernel)) ggX1_coincidences_X1_here
set_option maxRecDepth 20000 in
theorem ggX1_coincidences_X1_ok : GoodIn wsX1_coincidences wsX1_ok := goodIn_r _ [29, 30, 31, 32, 33, 34, 35, 36, 37, 38, 39, 40] (by decide +kernel) (by decide +kernel)
set_option maxRecDepth 20000 in
theorem gX1_coincidences_X1_ok : GoodIn wsX1_coincidences (wsV RX1 105 RX1 yX1_ok wsX1_ok) := goodIn_app (goodIn_of _ (by decide +kernel)) ggX1_coincidences_X1_ok
theorem dX1_coincidences_0 : decode cX1_coincidences 0 = .ok (.aload_n 0, 1) := by decide +kernel
theorem dX1_coincidences_1 : decode cX1_coincidences 1 = .ok (.aload_n 0, 1) := by decide +kernel
theorem dX1_coincidences_2 : decode cX1_coincidences 2 = .ok (.invokevirtual 78, 3) := by decide +kernel
theorem dX1_coincidences_5 : decode cX1_coincidences 5 = .ok (.invokevirtual 105, 3) := by decide +kernel
theorem dX1_coincidences_8 : decode cX1_coincidences 8 = .ok (.ireturn, 1) := by decide +kernel
set_option maxRecDepth 20000 in
theorem ggX1_coincidencesAt_X1_isCorner : GoodIn wsX1_coincidencesAt wsX1_isCorner := goodIn_r _ [5, 6, 7, 4, 8] (by decide +kernel) (by decide +kernel)
set_option maxRecDepth 20000 in
theorem gX1_coincidencesAt_X1_isCorner : GoodIn wsX1_coincidencesAt (va_wsS RX1 59 yX1_isCorner wsX1_isCorner) := goodIn_app (goodIn_of _ (by decide +kernel)) ggX1_coincidencesAt_X1_isCorner
set_option maxRecDepth 20000 in
theorem ggX1_coincidencesAt_X1_town : GoodIn wsX1_coincidencesAt wsX1_town := goodIn_r _ [12, 13, 14, 15, 16, 4, 17, 18, 19, 20, 21, 22, 23, 24, 25, 26, 27, 28, 33, 34, 35, 36, 37, 38, 39, 40, 41, 42] (by decide +kernel) (by decide +kernel)
set_option maxRecDepth 20000 in
theorem gX1_coincidencesAt_X1_town : GoodIn wsX1_coincidencesAt (wsV RX1 47 RX1 yX1_town wsX1_town) := goodIn_app (goodIn_of _ (by decide +kernel)) ggX1_coincidencesAt_X1_town
set_option maxRecDepth 20000 in
theorem ggX1_coincidencesAt_X1_no : GoodIn wsX1_coincidencesAt wsX1_no := goodIn_r _ [32, 1, 33, 34, 35, 36, 37, 38, 39, 40, 41, 42] (by decide +kernel) (by decide +kernel)
set_option maxRecDepth 20000 in
theorem gX1_coincidencesAt_X1_no : GoodIn wsX1_coincidencesAt (wsV RX1 63 RX1 yX1_no wsX1_no) := goodIn_app (goodIn_of _ (by decide +kernel)) ggX1_coincidencesAt_X1_no
theorem dX1_coincidencesAt_0 : decode cX1_coincidencesAt 0 = .ok (.aload_n 0, 1) := by decide +kernel
theorem dX1_coincidencesAt_1 : decode cX1_coincidencesAt 1 = .ok (.iconst 0, 1) := by decide +kernel
theorem dX1_coincidencesAt_2 : decode cX1_coincidencesAt 2 = .ok (.putfield 26, 3) := by decide +kernel
theorem dX1_coincidencesAt_5 : decode cX1_coincidencesAt 5 = .ok (.iload_n 1, 1) := by decide +kernel
theorem dX1_coincidencesAt_6 : decode cX1_coincidencesAt 6 = .ok (.invokestatic 59, 3) := by decide +kernel
theorem dX1_coincidencesAt_9 : decode cX1_coincidencesAt 9 = .ok (.ifCond .eq 12, 3) := by decide +kernel
theorem dX1_coincidencesAt_12 : decode cX1_coincidencesAt 12 = .ok (.aload_n 0, 1) := by decide +kernel
theorem dX1_coincidencesAt_13 : decode cX1_coincidencesAt 13 = .ok (.iconst 0, 1) := by decide +kernel
theorem dX1_coincidencesAt_14 : decode cX1_coincidencesAt 14 = .ok (.iload_n 1, 1) := by decide +kernel
theorem dX1_coincidencesAt_15 : decode cX1_coincidencesAt 15 = .ok (.invokevirtual 47, 3) := by decide +kernel
theorem dX1_coincidencesAt_18 : decode cX1_coincidencesAt 18 = .ok (.goto 8, 3) := by decide +kernel
theorem dX1_coincidencesAt_21 : decode cX1_coincidencesAt 21 = .ok (.aload_n 0, 1) := by decide +kernel
theorem dX1_coincidencesAt_22 : decode cX1_coincidencesAt 22 = .ok (.iconst 1, 1) := by decide +kernel
theorem dX1_coincidencesAt_23 : decode cX1_coincidencesAt 23 = .ok (.invokevirtual 63, 3) := by decide +kernel
theorem dX1_coincidencesAt_26 : decode cX1_coincidencesAt 26 = .ok (.ireturn, 1) := by decide +kernel
set_option maxRecDepth 20000 in
theorem ggX1_luckOf_X1_isOne : GoodIn wsX1_luckOf wsX1_isOne := goodIn_r _ [6, 7, 8, 9, 5, 10, 29, 30, 31, 32, 33, 34, 35, 36, 37, 38] (by decide +kernel) (by decide +kernel)
set_option maxRecDepth 20000 in
theorem gX1_luckOf_X1_isOne : GoodIn wsX1_luckOf (wsV RX1 66 RX1 yX1_isOne wsX1_isOne) := goodIn_app (goodIn_of _ (by decide +kernel)) ggX1_luckOf_X1_isOne
set_option maxRecDepth 20000 in
theorem ggX1_luckOf_X1_luck : GoodIn wsX1_luckOf wsX1_luck := goodIn_r _ [14, 7, 15, 16, 17, 18, 5, 19, 20, 21, 22, 23, 24, 29, 30, 31, 32, 33, 34, 35, 36, 37, 38] (by decide +kernel) (by decide +kernel)
set_option maxRecDepth 20000 in
theorem gX1_luckOf_X1_luck : GoodIn wsX1_luckOf (wsV RX1 112 RX1 yX1_luck wsX1_luck) := goodIn_app (goodIn_of _ (by decide +kernel)) ggX1_luckOf_X1_luck
set_option maxRecDepth 20000 in
theorem ggX1_luckOf_X1_no : GoodIn wsX1_luckOf wsX1_no := goodIn_r _ [28, 1, 29, 30, 31, 32, 33, 34, 35, 36, 37, 38] (by decide +kernel) (by decide +kernel)
set_option maxRecDepth 20000 in
theorem gX1_luckOf_X1_no : GoodIn wsX1_luckOf (wsV RX1 63 RX1 yX1_no wsX1_no) := goodIn_app (goodIn_of _ (by decide +kernel)) ggX1_luckOf_X1_no
theorem dX1_luckOf_0 : decode cX1_luckOf 0 = .ok (.aload_n 0, 1) := by decide +kernel
theorem dX1_luckOf_1 : decode cX1_luckOf 1 = .ok (.iconst 0, 1) := by decide +kernel
theorem dX1_luckOf_2 : decode cX1_luckOf 2 = .ok (.putfield 26, 3) := by decide +kernel
theorem dX1_luckOf_5 : decode cX1_luckOf 5 = .ok (.aload_n 0, 1) := by decide +kernel
theorem dX1_luckOf_6 : decode cX1_luckOf 6 = .ok (.iload_n 1, 1) := by decide +kernel
theorem dX1_luckOf_7 : decode cX1_luckOf 7 = .ok (.invokevirtual 66, 3) := by decide +kernel
theorem dX1_luckOf_10 : decode cX1_luckOf 10 = .ok (.ifCond .eq 11, 3) := by decide +kernel
theorem dX1_luckOf_13 : decode cX1_luckOf 13 = .ok (.aload_n 0, 1) := by decide +kernel
theorem dX1_luckOf_14 : decode cX1_luckOf 14 = .ok (.iload_n 1, 1) := by decide +kernel
theorem dX1_luckOf_15 : decode cX1_luckOf 15 = .ok (.invokevirtual 112, 3) := by decide +kernel
theorem dX1_luckOf_18 : decode cX1_luckOf 18 = .ok (.goto 8, 3) := by decide +kernel
theorem dX1_luckOf_21 : decode cX1_luckOf 21 = .ok (.aload_n 0, 1) := by decide +kernel
theorem dX1_luckOf_22 : decode cX1_luckOf 22 = .ok (.iconst 1, 1) := by decide +kernel
theorem dX1_luckOf_23 : decode cX1_luckOf 23 = .ok (.invokevirtual 63, 3) := by decide +kernel
theorem dX1_luckOf_26 : decode cX1_luckOf 26 = .ok (.ireturn, 1) := by decide +kernel
set_option maxRecDepth 20000 in
theorem ggX1_luckiest_X1_points : GoodIn wsX1_luckiest wsX1_points := goodIn_r _ [6, 7, 8, 9, 10, 5, 11, 12, 13, 14, 15, 16, 17, 18, 19, 20, 21] (by decide +kernel) (by decide +kernel)
set_option maxRecDepth 20000 in
theorem gX1_luckiest_X1_points : GoodIn wsX1_luckiest (wsV RX1 44 RX1 yX1_points wsX1_points) := goodIn_app (goodIn_of _ (by decide +kernel)) ggX1_luckiest_X1_points
theorem dX1_luckiest_0 : decode cX1_luckiest 0 = .ok (.iconst (-1), 1) := by decide +kernel
theorem dX1_luckiest_1 : decode cX1_luckiest 1 = .ok (.istore_n 1, 1) := by decide +kernel
theorem dX1_luckiest_2 : decode cX1_luckiest 2 = .ok (.iconst (-1), 1) := by decide +kernel
theorem dX1_luckiest_3 : decode cX1_luckiest 3 = .ok (.istore_n 2, 1) := by decide +kernel
theorem dX1_luckiest_4 : decode cX1_luckiest 4 = .ok (.iconst 0, 1) := by decide +kernel
theorem dX1_luckiest_5 : decode cX1_luckiest 5 = .ok (.istore_n 3, 1) := by decide +kernel
theorem dX1_luckiest_6 : decode cX1_luckiest 6 = .ok (.iload_n 3, 1) := by decide +kernel
theorem dX1_luckiest_7 : decode cX1_luckiest 7 = .ok (.aload_n 0, 1) := by decide +kernel
theorem dX1_luckiest_8 : decode cX1_luckiest 8 = .ok (.getfield 29, 3) := by decide +kernel
theorem dX1_luckiest_11 : decode cX1_luckiest 11 = .ok (.if_icmp .ge 59, 3) := by decide +kernel
theorem dX1_luckiest_14 : decode cX1_luckiest 14 = .ok (.iload_n 3, 1) := by decide +kernel
theorem dX1_luckiest_15 : decode cX1_luckiest 15 = .ok (.iconst 1, 1) := by decide +kernel
theorem dX1_luckiest_16 : decode cX1_luckiest 16 = .ok (.iadd, 1) := by decide +kernel
theorem dX1_luckiest_17 : decode cX1_luckiest 17 = .ok (.istore 4, 2) := by decide +kernel
theorem dX1_luckiest_19 : decode cX1_luckiest 19 = .ok (.iload 4, 2) := by decide +kernel
theorem dX1_luckiest_21 : decode cX1_luckiest 21 = .ok (.aload_n 0, 1) := by decide +kernel
theorem dX1_luckiest_22 : decode cX1_luckiest 22 = .ok (.getfield 29, 3) := by decide +kernel
theorem dX1_luckiest_25 : decode cX1_luckiest 25 = .ok (.if_icmp .ge 39, 3) := by decide +kernel
theorem dX1_luckiest_28 : decode cX1_luckiest 28 = .ok (.aload_n 0, 1) := by decide +kernel
theorem dX1_luckiest_29 : decode cX1_luckiest 29 = .ok (.iload_n 3, 1) := by decide +kernel
theorem dX1_luckiest_30 : decode cX1_luckiest 30 = .ok (.iload 4, 2) := by decide +kernel
theorem dX1_luckiest_32 : decode cX1_luckiest 32 = .ok (.invokevirtual 44, 3) := by decide +kernel
theorem dX1_luckiest_35 : decode cX1_luckiest 35 = .ok (.iload_n 2, 1) := by decide +kernel
theorem dX1_luckiest_36 : decode cX1_luckiest 36 = .ok (.if_icmp .gt 6, 3) := by decide +kernel
theorem dX1_luckiest_39 : decode cX1_luckiest 39 = .ok (.goto 19, 3) := by decide +kernel
theorem dX1_luckiest_42 : decode cX1_luckiest 42 = .ok (.aload_n 0, 1) := by decide +kernel
theorem dX1_luckiest_43 : decode cX1_luckiest 43 = .ok (.iload_n 3, 1) := by decide +kernel
theorem dX1_luckiest_44 : decode cX1_luckiest 44 = .ok (.iload 4, 2) := by decide +kernel
theorem dX1_luckiest_46 : decode cX1_luckiest 46 = .ok (.invokevirtual 44, 3) := by decide +kernel
theorem dX1_luckiest_49 : decode cX1_luckiest 49 = .ok (.istore_n 2, 1) := by decide +kernel
theorem dX1_luckiest_50 : decode cX1_luckiest 50 = .ok (.bipush 100, 2) := by decide +kernel
theorem dX1_luckiest_52 : decode cX1_luckiest 52 = .ok (.iload_n 3, 1) := by decide +kernel
theorem dX1_luckiest_53 : decode cX1_luckiest 53 = .ok (.imul, 1) := by decide +kernel
theorem dX1_luckiest_54 : decode cX1_luckiest 54 = .ok (.iload 4, 2) := by decide +kernel
theorem dX1_luckiest_56 : decode cX1_luckiest 56 = .ok (.iadd, 1) := by decide +kernel
theorem dX1_luckiest_57 : decode cX1_luckiest 57 = .ok (.istore_n 1, 1) := by decide +kernel
theorem dX1_luckiest_58 : decode cX1_luckiest 58 = .ok (.iinc 4 1, 3) := by decide +kernel
theorem dX1_luckiest_61 : decode cX1_luckiest 61 = .ok (.goto (-42), 3) := by decide +kernel
theorem dX1_luckiest_64 : decode cX1_luckiest 64 = .ok (.iinc 3 1, 3) := by decide +kernel
theorem dX1_luckiest_67 : decode cX1_luckiest 67 = .ok (.goto (-61), 3) := by decide +kernel
theorem dX1_luckiest_70 : decode cX1_luckiest 70 = .ok (.iload_n 1, 1) := by decide +kernel
theorem dX1_luckiest_71 : decode cX1_luckiest 71 = .ok (.ireturn, 1) := by decide +kernel
set_option maxRecDepth 20000 in
theorem ggX1_luckiestPair_X1_luckiest : GoodIn wsX1_luckiestPair wsX1_luckiest := goodIn_r _ [5, 6, 7, 8, 9, 4, 10, 11, 12, 13, 14, 15, 21, 22, 23, 24, 25, 26, 27, 28, 29, 30] (by decide +kernel) (by decide +kernel)
set_option maxRecDepth 20000 in
theorem gX1_luckiestPair_X1_luckiest : GoodIn wsX1_luckiestPair (wsV RX1 115 RX1 yX1_luckiest wsX1_luckiest) := goodIn_app (goodIn_of _ (by decide +kernel)) ggX1_luckiestPair_X1_luckiest
set_option maxRecDepth 20000 in
theorem ggX1_luckiestPair_X1_ok : GoodIn wsX1_luckiestPair wsX1_ok := goodIn_r _ [19, 20, 21, 22, 23, 24, 25, 26, 27, 28, 29, 30] (by decide +kernel) (by decide +kernel)
set_option maxRecDepth 20000 in
theorem gX1_luckiestPair_X1_ok : GoodIn wsX1_luckiestPair (wsV RX1 105 RX1 yX1_ok wsX1_ok) := goodIn_app (goodIn_of _ (by decide +kernel)) ggX1_luckiestPair_X1_ok
theorem dX1_luckiestPair_0 : decode cX1_luckiestPair 0 = .ok (.aload_n 0, 1) := by decide +kernel
theorem dX1_luckiestPair_1 : decode cX1_luckiestPair 1 = .ok (.aload_n 0, 1) := by decide +kernel
theorem dX1_luckiestPair_2 : decode cX1_luckiestPair 2 = .ok (.invokevirtual 115, 3) := by decide +kernel
theorem dX1_luckiestPair_5 : decode cX1_luckiestPair 5 = .ok (.invokevirtual 105, 3) := by decide +kernel
theorem dX1_luckiestPair_8 : decode cX1_luckiestPair 8 = .ok (.ireturn, 1) := by decide +kernel
set_option maxRecDepth 20000 in
theorem ggX1_coincidencesIn_X1_isIn : GoodIn wsX1_coincidencesIn wsX1_isIn := goodIn_r _ [5] (by decide +kernel) (by decide +kernel)
set_option maxRecDepth 20000 in
theorem gX1_coincidencesIn_X1_isIn : GoodIn wsX1_coincidencesIn (va_wsS RX1 32 yX1_isIn wsX1_isIn) := goodIn_app (goodIn_of _ (by decide +kernel)) ggX1_coincidencesIn_X1_isIn
set_option maxRecDepth 20000 in
theorem ggX1_coincidencesIn_X1_town : GoodIn wsX1_coincidencesIn wsX1_town := goodIn_r _ [9, 10, 11, 12, 13, 4, 14, 15, 16, 17, 18, 19, 20, 21, 22, 23, 24, 25, 30, 31, 32, 33, 34, 35, 36, 37, 38, 39] (by decide +kernel) (by decide +kernel)
set_option maxRecDepth 20000 in
theorem gX1_coincidencesIn_X1_town : GoodIn wsX1_coincidencesIn (wsV RX1 47 RX1 yX1_town wsX1_town) := goodIn_app (goodIn_of _ (by decide +kernel)) ggX1_coincidencesIn_X1_town
set_option maxRecDepth 20000 in
theorem ggX1_coincidencesIn_X1_no : GoodIn wsX1_coincidencesIn wsX1_no := goodIn_r _ [29, 1, 30, 31, 32, 33, 34, 35, 36, 37, 38, 39] (by decide +kernel) (by decide +kernel)
set_option maxRecDepth 20000 in
theorem gX1_coincidencesIn_X1_no : GoodIn wsX1_coincidencesIn (wsV RX1 63 RX1 yX1_no wsX1_no) := goodIn_app (goodIn_of _ (by decide +kernel)) ggX1_coincidencesIn_X1_no
theorem dX1_coincidencesIn_0 : decode cX1_coincidencesIn 0 = .ok (.aload_n 0, 1) := by decide +kernel
theorem dX1_coincidencesIn_1 : decode cX1_coincidencesIn 1 = .ok (.iconst 0, 1) := by decide +kernel
theorem dX1_coincidencesIn_2 : decode cX1_coincidencesIn 2 = .ok (.putfield 26, 3) := by decide +kernel
theorem dX1_coincidencesIn_5 : decode cX1_coincidencesIn 5 = .ok (.iload_n 1, 1) := by decide +kernel
theorem dX1_coincidencesIn_6 : decode cX1_coincidencesIn 6 = .ok (.iconst 0, 1) := by decide +kernel
theorem dX1_coincidencesIn_7 : decode cX1_coincidencesIn 7 = .ok (.bipush 60, 2) := by decide +kernel
theorem dX1_coincidencesIn_9 : decode cX1_coincidencesIn 9 = .ok (.invokestatic 32, 3) := by decide +kernel
theorem dX1_coincidencesIn_12 : decode cX1_coincidencesIn 12 = .ok (.ifCond .eq 12, 3) := by decide +kernel
theorem dX1_coincidencesIn_15 : decode cX1_coincidencesIn 15 = .ok (.aload_n 0, 1) := by decide +kernel
theorem dX1_coincidencesIn_16 : decode cX1_coincidencesIn 16 = .ok (.iload_n 1, 1) := by decide +kernel
theorem dX1_coincidencesIn_17 : decode cX1_coincidencesIn 17 = .ok (.iconst (-1), 1) := by decide +kernel
theorem dX1_coincidencesIn_18 : decode cX1_coincidencesIn 18 = .ok (.invokevirtual 47, 3) := by decide +kernel
theorem dX1_coincidencesIn_21 : decode cX1_coincidencesIn 21 = .ok (.goto 8, 3) := by decide +kernel
theorem dX1_coincidencesIn_24 : decode cX1_coincidencesIn 24 = .ok (.aload_n 0, 1) := by decide +kernel
theorem dX1_coincidencesIn_25 : decode cX1_coincidencesIn 25 = .ok (.iconst 1, 1) := by decide +kernel
theorem dX1_coincidencesIn_26 : decode cX1_coincidencesIn 26 = .ok (.invokevirtual 63, 3) := by decide +kernel
theorem dX1_coincidencesIn_29 : decode cX1_coincidencesIn 29 = .ok (.ireturn, 1) := by decide +kernel
set_option maxRecDepth 20000 in
theorem ggX1_untilTogether_X1_cornerIn : GoodIn wsX1_untilTogether wsX1_cornerIn := goodIn_r _ [5, 6, 7, 8, 9, 10, 11, 12, 13, 14, 15, 16, 17] (by decide +kernel) (by decide +kernel)
set_option maxRecDepth 20000 in
theorem gX1_untilTogether_X1_cornerIn : GoodIn wsX1_untilTogether (wsV RX1 40 RX1 yX1_cornerIn wsX1_cornerIn) := goodIn_app (goodIn_of _ (by decide +kernel)) ggX1_untilTogether_X1_cornerIn
theorem dX1_untilTogether_0 : decode cX1_untilTogether 0 = .ok (.iconst 0, 1) := by decide +kernel
theorem dX1_untilTogether_1 : decode cX1_untilTogether 1 = .ok (.istore_n 3, 1) := by decide +kernel
theorem dX1_untilTogether_2 : decode cX1_untilTogether 2 = .ok (.iload_n 3, 1) := by decide +kernel
theorem dX1_untilTogether_3 : decode cX1_untilTogether 3 = .ok (.bipush 6, 2) := by decide +kernel
theorem dX1_untilTogether_5 : decode cX1_untilTogether 5 = .ok (.if_icmp .ge 26, 3) := by decide +kernel
theorem dX1_untilTogether_8 : decode cX1_untilTogether 8 = .ok (.aload_n 0, 1) := by decide +kernel
theorem dX1_untilTogether_9 : decode cX1_untilTogether 9 = .ok (.iload_n 1, 1) := by decide +kernel
theorem dX1_untilTogether_10 : decode cX1_untilTogether 10 = .ok (.iload_n 3, 1) := by decide +kernel
theorem dX1_untilTogether_11 : decode cX1_untilTogether 11 = .ok (.invokevirtual 40, 3) := by decide +kernel
theorem dX1_untilTogether_14 : decode cX1_untilTogether 14 = .ok (.aload_n 0, 1) := by decide +kernel
theorem dX1_untilTogether_15 : decode cX1_untilTogether 15 = .ok (.iload_n 2, 1) := by decide +kernel
theorem dX1_untilTogether_16 : decode cX1_untilTogether 16 = .ok (.iload_n 3, 1) := by decide +kernel
theorem dX1_untilTogether_17 : decode cX1_untilTogether 17 = .ok (.invokevirtual 40, 3) := by decide +kernel
theorem dX1_untilTogether_20 : decode cX1_untilTogether 20 = .ok (.if_icmp .ne 5, 3) := by decide +kernel
theorem dX1_untilTogether_23 : decode cX1_untilTogether 23 = .ok (.iload_n 3, 1) := by decide +kernel
theorem dX1_untilTogether_24 : decode cX1_untilTogether 24 = .ok (.ireturn, 1) := by decide +kernel
theorem dX1_untilTogether_25 : decode cX1_untilTogether 25 = .ok (.iinc 3 1, 3) := by decide +kernel
theorem dX1_untilTogether_28 : decode cX1_untilTogether 28 = .ok (.goto (-26), 3) := by decide +kernel
theorem dX1_untilTogether_31 : decode cX1_untilTogether 31 = .ok (.iconst (-1), 1) := by decide +kernel
theorem dX1_untilTogether_32 : decode cX1_untilTogether 32 = .ok (.ireturn, 1) := by decide +kernel
set_option maxRecDepth 20000 in
theorem ggX1_hoursUntilTogether_X1_wrongPair : GoodIn wsX1_hoursUntilTogether wsX1_wrongPair := goodIn_r _ [6, 7, 8, 9, 5, 10, 11, 12, 13, 14, 25, 26, 27, 28, 29, 30, 31, 32, 33, 34] (by decide +kernel) (by decide +kernel)
set_option maxRecDepth 20000 in
theorem gX1_hoursUntilTogether_X1_wrongPair : GoodIn wsX1_hoursUntilTogether (wsV RX1 86 RX1 yX1_wrongPair wsX1_wrongPair) := goodIn_app (goodIn_of _ (by decide +kernel)) ggX1_hoursUntilTogether_X1_wrongPair
set_option maxRecDepth 20000 in
theorem ggX1_hoursUntilTogether_X1_untilTogether : GoodIn wsX1_hoursUntilTogether wsX1_untilTogether := goodIn_r _ [18, 19, 20, 21, 5, 22, 23, 24, 25, 26, 27, 28, 29, 30, 31, 32, 33, 34] (by decide +kernel) (by decide +kernel)
set_option maxRecDepth 20000 in
theorem gX1_hoursUntilTogether_X1_untilTogether : GoodIn wsX1_hoursUntilTogether (wsV RX1 118 RX1 yX1_untilTogether wsX1_untilTogether) := goodIn_app (goodIn_of _ (by decide +kernel)) ggX1_hoursUntilTogether_X1_untilTogether
theorem dX1_hoursUntilTogether_0 : decode cX1_hoursUntilTogether 0 = .ok (.aload_n 0, 1) := by decide +kernel
theorem dX1_hoursUntilTogether_1 : decode cX1_hoursUntilTogether 1 = .ok (.aload_n 0, 1) := by decide +kernel
theorem dX1_hoursUntilTogether_2 : decode cX1_hoursUntilTogether 2 = .ok (.iload_n 1, 1) := by decide +kernel
theorem dX1_hoursUntilTogether_3 : decode cX1_hoursUntilTogether 3 = .ok (.iload_n 2, 1) := by decide +kernel
theorem dX1_hoursUntilTogether_4 : decode cX1_hoursUntilTogether 4 = .ok (.invokevirtual 86, 3) := by decide +kernel
theorem dX1_hoursUntilTogether_7 : decode cX1_hoursUntilTogether 7 = .ok (.putfield 26, 3) := by decide +kernel
theorem dX1_hoursUntilTogether_10 : decode cX1_hoursUntilTogether 10 = .ok (.aload_n 0, 1) := by decide +kernel
theorem dX1_hoursUntilTogether_11 : decode cX1_hoursUntilTogether 11 = .ok (.getfield 26, 3) := by decide +kernel
theorem dX1_hoursUntilTogether_14 : decode cX1_hoursUntilTogether 14 = .ok (.ifCond .le 7, 3) := by decide +kernel
theorem dX1_hoursUntilTogether_17 : decode cX1_hoursUntilTogether 17 = .ok (.iconst 0, 1) := by decide +kernel
theorem dX1_hoursUntilTogether_18 : decode cX1_hoursUntilTogether 18 = .ok (.goto 9, 3) := by decide +kernel
theorem dX1_hoursUntilTogether_21 : decode cX1_hoursUntilTogether 21 = .ok (.aload_n 0, 1) := by decide +kernel
theorem dX1_hoursUntilTogether_22 : decode cX1_hoursUntilTogether 22 = .ok (.iload_n 1, 1) := by decide +kernel
theorem dX1_hoursUntilTogether_23 : decode cX1_hoursUntilTogether 23 = .ok (.iload_n 2, 1) := by decide +kernel
theorem dX1_hoursUntilTogether_24 : decode cX1_hoursUntilTogether 24 = .ok (.invokevirtual 118, 3) := by decide +kernel
theorem dX1_hoursUntilTogether_27 : decode cX1_hoursUntilTogether 27 = .ok (.ireturn, 1) := by decide +kernel
set_option maxRecDepth 20000 in
theorem ggX1_costOfMeeting_X1_wrongPair : GoodIn wsX1_costOfMeeting wsX1_wrongPair := goodIn_r _ [7, 8, 9, 10, 6, 11, 12, 13, 14, 15, 26, 27, 28, 29, 30, 31, 32, 33, 34, 35] (by decide +kernel) (by decide +kernel)
set_option maxRecDepth 20000 in
theorem gX1_costOfMeeting_X1_wrongPair : GoodIn wsX1_costOfMeeting (wsV RX1 86 RX1 yX1_wrongPair wsX1_wrongPair) := goodIn_app (goodIn_of _ (by decide +kernel)) ggX1_costOfMeeting_X1_wrongPair
set_option maxRecDepth 20000 in
theorem ggX1_costOfMeeting_X1_apart : GoodIn wsX1_costOfMeeting wsX1_apart := goodIn_r _ [18, 19, 20, 21, 22, 23, 24, 25] (by decide +kernel) (by decide +kernel)
set_option maxRecDepth 20000 in
theorem gX1_costOfMeeting_X1_apart : GoodIn wsX1_costOfMeeting (va_wsS RX1 72 yX1_apart wsX1_apart) := goodIn_app (goodIn_of _ (by decide +kernel)) ggX1_costOfMeeting_X1_apart
theorem dX1_costOfMeeting_0 : decode cX1_costOfMeeting 0 = .ok (.aload_n 0, 1) := by decide +kernel
theorem dX1_costOfMeeting_1 : decode cX1_costOfMeeting 1 = .ok (.aload_n 0, 1) := by decide +kernel
theorem dX1_costOfMeeting_2 : decode cX1_costOfMeeting 2 = .ok (.iload_n 1, 1) := by decide +kernel
theorem dX1_costOfMeeting_3 : decode cX1_costOfMeeting 3 = .ok (.iload_n 2, 1) := by decide +kernel
theorem dX1_costOfMeeting_4 : decode cX1_costOfMeeting 4 = .ok (.invokevirtual 86, 3) := by decide +kernel
theorem dX1_costOfMeeting_7 : decode cX1_costOfMeeting 7 = .ok (.putfield 26, 3) := by decide +kernel
theorem dX1_costOfMeeting_10 : decode cX1_costOfMeeting 10 = .ok (.aload_n 0, 1) := by decide +kernel
theorem dX1_costOfMeeting_11 : decode cX1_costOfMeeting 11 = .ok (.getfield 26, 3) := by decide +kernel
theorem dX1_costOfMeeting_14 : decode cX1_costOfMeeting 14 = .ok (.ifCond .le 7, 3) := by decide +kernel
theorem dX1_costOfMeeting_17 : decode cX1_costOfMeeting 17 = .ok (.iconst 0, 1) := by decide +kernel
theorem dX1_costOfMeeting_18 : decode cX1_costOfMeeting 18 = .ok (.goto 20, 3) := by decide +kernel
theorem dX1_costOfMeeting_21 : decode cX1_costOfMeeting 21 = .ok (.iconst 2, 1) := by decide +kernel
theorem dX1_costOfMeeting_22 : decode cX1_costOfMeeting 22 = .ok (.aload_n 0, 1) := by decide +kernel
theorem dX1_costOfMeeting_23 : decode cX1_costOfMeeting 23 = .ok (.getfield 16, 3) := by decide +kernel
theorem dX1_costOfMeeting_26 : decode cX1_costOfMeeting 26 = .ok (.iload_n 1, 1) := by decide +kernel
theorem dX1_costOfMeeting_27 : decode cX1_costOfMeeting 27 = .ok (.iaload, 1) := by decide +kernel
theorem dX1_costOfMeeting_28 : decode cX1_costOfMeeting 28 = .ok (.aload_n 0, 1) := by decide +kernel
theorem dX1_costOfMeeting_29 : decode cX1_costOfMeeting 29 = .ok (.getfield 16, 3) := by decide +kernel
theorem dX1_costOfMeeting_32 : decode cX1_costOfMeeting 32 = .ok (.iload_n 2, 1) := by decide +kernel
theorem dX1_costOfMeeting_33 : decode cX1_costOfMeeting 33 = .ok (.iaload, 1) := by decide +kernel
theorem dX1_costOfMeeting_34 : decode cX1_costOfMeeting 34 = .ok (.invokestatic 72, 3) := by decide +kernel
theorem dX1_costOfMeeting_37 : decode cX1_costOfMeeting 37 = .ok (.imul, 1) := by decide +kernel
theorem dX1_costOfMeeting_38 : decode cX1_costOfMeeting 38 = .ok (.ireturn, 1) := by decide +kernel
set_option maxRecDepth 20000 in
theorem ggX1_hourOfMost_X1_town : GoodIn wsX1_hourOfMost wsX1_town := goodIn_r _ [5, 6, 7, 8, 9, 4, 10, 11, 12, 13, 14, 15, 16, 17, 18, 19, 20, 21, 22, 23, 24, 25, 26, 27, 28, 29, 30, 31] (by decide +kernel) (by decide +kernel)
set_option maxRecDepth 20000 in
theorem gX1_hourOfMost_X1_town : GoodIn wsX1_hourOfMost (wsV RX1 47 RX1 yX1_town wsX1_town) := goodIn_app (goodIn_of _ (by decide +kernel)) ggX1_hourOfMost_X1_town
theorem dX1_hourOfMost_0 : decode cX1_hourOfMost 0 = .ok (.iconst 1, 1) := by decide +kernel
theorem dX1_hourOfMost_1 : decode cX1_hourOfMost 1 = .ok (.istore_n 1, 1) := by decide +kernel
theorem dX1_hourOfMost_2 : decode cX1_hourOfMost 2 = .ok (.iconst 2, 1) := by decide +kernel
theorem dX1_hourOfMost_3 : decode cX1_hourOfMost 3 = .ok (.istore_n 2, 1) := by decide +kernel
theorem dX1_hourOfMost_4 : decode cX1_hourOfMost 4 = .ok (.iload_n 2, 1) := by decide +kernel
theorem dX1_hourOfMost_5 : decode cX1_hourOfMost 5 = .ok (.bipush 6, 2) := by decide +kernel
theorem dX1_hourOfMost_7 : decode cX1_hourOfMost 7 = .ok (.if_icmp .gt 26, 3) := by decide +kernel
theorem dX1_hourOfMost_10 : decode cX1_hourOfMost 10 = .ok (.aload_n 0, 1) := by decide +kernel
theorem dX1_hourOfMost_11 : decode cX1_hourOfMost 11 = .ok (.iload_n 2, 1) := by decide +kernel
theorem dX1_hourOfMost_12 : decode cX1_hourOfMost 12 = .ok (.iconst (-1), 1) := by decide +kernel
theorem dX1_hourOfMost_13 : decode cX1_hourOfMost 13 = .ok (.invokevirtual 47, 3) := by decide +kernel
theorem dX1_hourOfMost_16 : decode cX1_hourOfMost 16 = .ok (.aload_n 0, 1) := by decide +kernel
theorem dX1_hourOfMost_17 : decode cX1_hourOfMost 17 = .ok (.iload_n 1, 1) := by decide +kernel
theorem dX1_hourOfMost_18 : decode cX1_hourOfMost 18 = .ok (.iconst (-1), 1) := by decide +kernel
theorem dX1_hourOfMost_19 : decode cX1_hourOfMost 19 = .ok (.invokevirtual 47, 3) := by decide +kernel
theorem dX1_hourOfMost_22 : decode cX1_hourOfMost 22 = .ok (.if_icmp .le 5, 3) := by decide +kernel
theorem dX1_hourOfMost_25 : decode cX1_hourOfMost 25 = .ok (.iload_n 2, 1) := by decide +kernel
theorem dX1_hourOfMost_26 : decode cX1_hourOfMost 26 = .ok (.istore_n 1, 1) := by decide +kernel
theorem dX1_hourOfMost_27 : decode cX1_hourOfMost 27 = .ok (.iinc 2 1, 3) := by decide +kernel
theorem dX1_hourOfMost_30 : decode cX1_hourOfMost 30 = .ok (.goto (-26), 3) := by decide +kernel
theorem dX1_hourOfMost_33 : decode cX1_hourOfMost 33 = .ok (.iload_n 1, 1) := by decide +kernel
theorem dX1_hourOfMost_34 : decode cX1_hourOfMost 34 = .ok (.ireturn, 1) := by decide +kernel
set_option maxRecDepth 20000 in
theorem ggX1_bestHour_X1_hourOfMost : GoodIn wsX1_bestHour wsX1_hourOfMost := goodIn_r _ [5, 6, 7, 8, 4, 9, 10, 11, 12, 13, 14, 15, 16, 17, 18, 19, 20, 21, 22, 23, 24, 25, 31, 32, 33, 34, 35, 36, 37, 38, 39, 40] (by decide +kernel) (by decide +kernel)
set_option maxRecDepth 20000 in
theorem gX1_bestHour_X1_hourOfMost : GoodIn wsX1_bestHour (wsV RX1 121 RX1 yX1_hourOfMost wsX1_hourOfMost) := goodIn_app (goodIn_of _ (by decide +kernel)) ggX1_bestHour_X1_hourOfMost
set_option maxRecDepth 20000 in
theorem ggX1_bestHour_X1_ok : GoodIn wsX1_bestHour wsX1_ok := goodIn_r _ [29, 30, 31, 32, 33, 34, 35, 36, 37, 38, 39, 40] (by decide +kernel) (by decide +kernel)
set_option maxRecDepth 20000 in
theorem gX1_bestHour_X1_ok : GoodIn wsX1_bestHour (wsV RX1 105 RX1 yX1_ok wsX1_ok) := goodIn_app (goodIn_of _ (by decide +kernel)) ggX1_bestHour_X1_ok
theorem dX1_bestHour_0 : decode cX1_bestHour 0 = .ok (.aload_n 0, 1) := by decide +kernel
theorem dX1_bestHour_1 : decode cX1_bestHour 1 = .ok (.aload_n 0, 1) := by decide +kernel
theorem dX1_bestHour_2 : decode cX1_bestHour 2 = .ok (.invokevirtual 121, 3) := by decide +kernel
theorem dX1_bestHour_5 : decode cX1_bestHour 5 = .ok (.invokevirtual 105, 3) := by decide +kernel
theorem dX1_bestHour_8 : decode cX1_bestHour 8 = .ok (.ireturn, 1) := by decide +kernel
set_option maxRecDepth 20000 in
theorem ggX1_bestOf_X1_here : GoodIn wsX1_bestOf wsX1_here := goodIn_r _ [5, 6, 7, 8, 4, 9, 10, 11, 12, 13, 14, 15, 16, 17, 18, 19, 20, 21, 22, 23, 24, 25, 26, 27, 28, 29, 30, 31, 32, 33, 34, 35] (by decide +kernel) (by decide +kernel)
set_option maxRecDepth 20000 in
theorem gX1_bestOf_X1_here : GoodIn wsX1_bestOf (wsV RX1 78 RX1 yX1_here wsX1_here) := goodIn_app (goodIn_of _ (by decide +kernel)) ggX1_bestOf_X1_here
theorem dX1_bestOf_0 : decode cX1_bestOf 0 = .ok (.aload_n 1, 1) := by decide +kernel
theorem dX1_bestOf_1 : decode cX1_bestOf 1 = .ok (.iload_n 2, 1) := by decide +kernel
theorem dX1_bestOf_2 : decode cX1_bestOf 2 = .ok (.iaload, 1) := by decide +kernel
theorem dX1_bestOf_3 : decode cX1_bestOf 3 = .ok (.istore 4, 2) := by decide +kernel
theorem dX1_bestOf_5 : decode cX1_bestOf 5 = .ok (.iconst 0, 1) := by decide +kernel
theorem dX1_bestOf_6 : decode cX1_bestOf 6 = .ok (.istore 5, 2) := by decide +kernel
theorem dX1_bestOf_8 : decode cX1_bestOf 8 = .ok (.iconst (-1), 1) := by decide +kernel
theorem dX1_bestOf_9 : decode cX1_bestOf 9 = .ok (.istore 6, 2) := by decide +kernel
theorem dX1_bestOf_11 : decode cX1_bestOf 11 = .ok (.iconst 0, 1) := by decide +kernel
theorem dX1_bestOf_12 : decode cX1_bestOf 12 = .ok (.istore 7, 2) := by decide +kernel
theorem dX1_bestOf_14 : decode cX1_bestOf 14 = .ok (.iload 7, 2) := by decide +kernel
theorem dX1_bestOf_16 : decode cX1_bestOf 16 = .ok (.iload_n 3, 1) := by decide +kernel
theorem dX1_bestOf_17 : decode cX1_bestOf 17 = .ok (.if_icmp .ge 38, 3) := by decide +kernel
theorem dX1_bestOf_20 : decode cX1_bestOf 20 = .ok (.aload_n 1, 1) := by decide +kernel
theorem dX1_bestOf_21 : decode cX1_bestOf 21 = .ok (.iload_n 2, 1) := by decide +kernel
theorem dX1_bestOf_22 : decode cX1_bestOf 22 = .ok (.iload 7, 2) := by decide +kernel
theorem dX1_bestOf_24 : decode cX1_bestOf 24 = .ok (.iastore, 1) := by decide +kernel
theorem dX1_bestOf_25 : decode cX1_bestOf 25 = .ok (.aload_n 0, 1) := by decide +kernel
theorem dX1_bestOf_26 : decode cX1_bestOf 26 = .ok (.invokevirtual 78, 3) := by decide +kernel
theorem dX1_bestOf_29 : decode cX1_bestOf 29 = .ok (.istore 8, 2) := by decide +kernel
theorem dX1_bestOf_31 : decode cX1_bestOf 31 = .ok (.iload 8, 2) := by decide +kernel
theorem dX1_bestOf_33 : decode cX1_bestOf 33 = .ok (.iload 6, 2) := by decide +kernel
theorem dX1_bestOf_35 : decode cX1_bestOf 35 = .ok (.if_icmp .gt 6, 3) := by decide +kernel
theorem dX1_bestOf_38 : decode cX1_bestOf 38 = .ok (.goto 11, 3) := by decide +kernel
theorem dX1_bestOf_41 : decode cX1_bestOf 41 = .ok (.iload 8, 2) := by decide +kernel
theorem dX1_bestOf_43 : decode cX1_bestOf 43 = .ok (.istore 6, 2) := by decide +kernel
theorem dX1_bestOf_45 : decode cX1_bestOf 45 = .ok (.iload 7, 2) := by decide +kernel
theorem dX1_bestOf_47 : decode cX1_bestOf 47 = .ok (.istore 5, 2) := by decide +kernel
theorem dX1_bestOf_49 : decode cX1_bestOf 49 = .ok (.iinc 7 1, 3) := by decide +kernel
theorem dX1_bestOf_52 : decode cX1_bestOf 52 = .ok (.goto (-38), 3) := by decide +kernel
theorem dX1_bestOf_55 : decode cX1_bestOf 55 = .ok (.aload_n 1, 1) := by decide +kernel
theorem dX1_bestOf_56 : decode cX1_bestOf 56 = .ok (.iload_n 2, 1) := by decide +kernel
theorem dX1_bestOf_57 : decode cX1_bestOf 57 = .ok (.iload 4, 2) := by decide +kernel
theorem dX1_bestOf_59 : decode cX1_bestOf 59 = .ok (.iastore, 1) := by decide +kernel
theorem dX1_bestOf_60 : decode cX1_bestOf 60 = .ok (.iload 5, 2) := by decide +kernel
theorem dX1_bestOf_62 : decode cX1_bestOf 62 = .ok (.ireturn, 1) := by decide +kernel
set_option maxRecDepth 20000 in
theorem ggX1_bestCorner_X1_isOne : GoodIn wsX1_bestCorner wsX1_isOne := goodIn_r _ [7, 8, 9, 10, 6, 11, 42, 43, 44, 45, 46, 47, 48, 49, 50, 51] (by decide +kernel) (by decide +kernel)
set_option maxRecDepth 20000 in
theorem gX1_bestCorner_X1_isOne : GoodIn wsX1_bestCorner (wsV RX1 66 RX1 yX1_isOne wsX1_isOne) := goodIn_app (goodIn_of _ (by decide +kernel)) ggX1_bestCorner_X1_isOne
set_option maxRecDepth 20000 in
theorem ggX1_bestCorner_X1_bestOf : GoodIn wsX1_bestCorner wsX1_bestOf := goodIn_r _ [15, 16, 17, 18, 6, 19, 20, 21, 22, 23, 8, 24, 25, 26, 27, 2, 28, 29, 30, 31, 32, 33, 34, 35, 36, 37, 42, 43, 44, 45, 46, 47, 48, 49, 50, 51] (by decide +kernel) (by decide +kernel)
set_option maxRecDepth 20000 in
theorem gX1_bestCorner_X1_bestOf : GoodIn wsX1_bestCorner (wsV RX1 124 RX1 yX1_bestOf wsX1_bestOf) := goodIn_app (goodIn_of _ (by decide +kernel)) ggX1_bestCorner_X1_bestOf
set_option maxRecDepth 20000 in
theorem ggX1_bestCorner_X1_no : GoodIn wsX1_bestCorner wsX1_no := goodIn_r _ [41, 1, 42, 43, 44, 45, 46, 47, 48, 49, 50, 51] (by decide +kernel) (by decide +kernel)
set_option maxRecDepth 20000 in
theorem gX1_bestCorner_X1_no : GoodIn wsX1_bestCorner (wsV RX1 63 RX1 yX1_no wsX1_no) := goodIn_app (goodIn_of _ (by decide +kernel)) ggX1_bestCorner_X1_no
theorem dX1_bestCorner_0 : decode cX1_bestCorner 0 = .ok (.aload_n 0, 1) := by decide +kernel
theorem dX1_bestCorner_1 : decode cX1_bestCorner 1 = .ok (.iconst 0, 1) := by decide +kernel
theorem dX1_bestCorner_2 : decode cX1_bestCorner 2 = .ok (.putfield 26, 3) := by decide +kernel
theorem dX1_bestCorner_5 : decode cX1_bestCorner 5 = .ok (.aload_n 0, 1) := by decide +kernel
theorem dX1_bestCorner_6 : decode cX1_bestCorner 6 = .ok (.iload_n 1, 1) := by decide +kernel
theorem dX1_bestCorner_7 : decode cX1_bestCorner 7 = .ok (.invokevirtual 66, 3) := by decide +kernel
theorem dX1_bestCorner_10 : decode cX1_bestCorner 10 = .ok (.ifCond .eq 17, 3) := by decide +kernel
theorem dX1_bestCorner_13 : decode cX1_bestCorner 13 = .ok (.aload_n 0, 1) := by decide +kernel
theorem dX1_bestCorner_14 : decode cX1_bestCorner 14 = .ok (.aload_n 0, 1) := by decide +kernel
theorem dX1_bestCorner_15 : decode cX1_bestCorner 15 = .ok (.getfield 16, 3) := by decide +kernel
theorem dX1_bestCorner_18 : decode cX1_bestCorner 18 = .ok (.iload_n 1, 1) := by decide +kernel
theorem dX1_bestCorner_19 : decode cX1_bestCorner 19 = .ok (.bipush 6, 2) := by decide +kernel
theorem dX1_bestCorner_21 : decode cX1_bestCorner 21 = .ok (.invokevirtual 124, 3) := by decide +kernel
theorem dX1_bestCorner_24 : decode cX1_bestCorner 24 = .ok (.goto 8, 3) := by decide +kernel
theorem dX1_bestCorner_27 : decode cX1_bestCorner 27 = .ok (.aload_n 0, 1) := by decide +kernel
theorem dX1_bestCorner_28 : decode cX1_bestCorner 28 = .ok (.iconst 1, 1) := by decide +kernel
theorem dX1_bestCorner_29 : decode cX1_bestCorner 29 = .ok (.invokevirtual 63, 3) := by decide +kernel
theorem dX1_bestCorner_32 : decode cX1_bestCorner 32 = .ok (.ireturn, 1) := by decide +kernel
set_option maxRecDepth 20000 in
theorem ggX1_swapOfMost_X1_here : GoodIn wsX1_swapOfMost wsX1_here := goodIn_r _ [7, 8, 9, 10, 6, 11, 1, 12, 13, 14, 15, 16, 17, 18, 19, 20, 21, 2, 22, 23, 24, 25, 29, 30, 31, 32, 33, 34, 35, 36, 37, 38] (by decide +kernel) (by decide +kernel)
set_option maxRecDepth 20000 in
theorem gX1_swapOfMost_X1_here : GoodIn wsX1_swapOfMost (wsV RX1 78 RX1 yX1_here wsX1_here) := goodIn_app (goodIn_of _ (by decide +kernel)) ggX1_swapOfMost_X1_here
set_option maxRecDepth 20000 in
theorem ggX1_swapOfMost_X1_swap : GoodIn wsX1_swapOfMost wsX1_swap := goodIn_r _ [28] (by decide +kernel) (by decide +kernel)
set_option maxRecDepth 20000 in
theorem gX1_swapOfMost_X1_swap : GoodIn wsX1_swapOfMost (va_wsS RX1 82 yX1_swap wsX1_swap) := goodIn_app (goodIn_of _ (by decide +kernel)) ggX1_swapOfMost_X1_swap
theorem dX1_swapOfMost_0 : decode cX1_swapOfMost 0 = .ok (.iconst (-1), 1) := by decide +kernel
theorem dX1_swapOfMost_1 : decode cX1_swapOfMost 1 = .ok (.istore_n 1, 1) := by decide +kernel
theorem dX1_swapOfMost_2 : decode cX1_swapOfMost 2 = .ok (.aload_n 0, 1) := by decide +kernel
theorem dX1_swapOfMost_3 : decode cX1_swapOfMost 3 = .ok (.invokevirtual 78, 3) := by decide +kernel
theorem dX1_swapOfMost_6 : decode cX1_swapOfMost 6 = .ok (.istore_n 2, 1) := by decide +kernel
theorem dX1_swapOfMost_7 : decode cX1_swapOfMost 7 = .ok (.iconst 0, 1) := by decide +kernel
theorem dX1_swapOfMost_8 : decode cX1_swapOfMost 8 = .ok (.istore_n 3, 1) := by decide +kernel
theorem dX1_swapOfMost_9 : decode cX1_swapOfMost 9 = .ok (.iload_n 3, 1) := by decide +kernel
theorem dX1_swapOfMost_10 : decode cX1_swapOfMost 10 = .ok (.aload_n 0, 1) := by decide +kernel
theorem dX1_swapOfMost_11 : decode cX1_swapOfMost 11 = .ok (.getfield 29, 3) := by decide +kernel
theorem dX1_swapOfMost_14 : decode cX1_swapOfMost 14 = .ok (.if_icmp .ge 75, 3) := by decide +kernel
theorem dX1_swapOfMost_17 : decode cX1_swapOfMost 17 = .ok (.iload_n 3, 1) := by decide +kernel
theorem dX1_swapOfMost_18 : decode cX1_swapOfMost 18 = .ok (.iconst 1, 1) := by decide +kernel
theorem dX1_swapOfMost_19 : decode cX1_swapOfMost 19 = .ok (.iadd, 1) := by decide +kernel
theorem dX1_swapOfMost_20 : decode cX1_swapOfMost 20 = .ok (.istore 4, 2) := by decide +kernel
theorem dX1_swapOfMost_22 : decode cX1_swapOfMost 22 = .ok (.iload 4, 2) := by decide +kernel
theorem dX1_swapOfMost_24 : decode cX1_swapOfMost 24 = .ok (.aload_n 0, 1) := by decide +kernel
theorem dX1_swapOfMost_25 : decode cX1_swapOfMost 25 = .ok (.getfield 29, 3) := by decide +kernel
theorem dX1_swapOfMost_28 : decode cX1_swapOfMost 28 = .ok (.if_icmp .ge 55, 3) := by decide +kernel
theorem dX1_swapOfMost_31 : decode cX1_swapOfMost 31 = .ok (.aload_n 0, 1) := by decide +kernel
theorem dX1_swapOfMost_32 : decode cX1_swapOfMost 32 = .ok (.getfield 9, 3) := by decide +kernel
theorem dX1_swapOfMost_35 : decode cX1_swapOfMost 35 = .ok (.iload_n 3, 1) := by decide +kernel
theorem dX1_swapOfMost_36 : decode cX1_swapOfMost 36 = .ok (.iload 4, 2) := by decide +kernel
theorem dX1_swapOfMost_38 : decode cX1_swapOfMost 38 = .ok (.invokestatic 82, 3) := by decide +kernel
theorem dX1_swapOfMost_41 : decode cX1_swapOfMost 41 = .ok (.aload_n 0, 1) := by decide +kernel
theorem dX1_swapOfMost_42 : decode cX1_swapOfMost 42 = .ok (.invokevirtual 78, 3) := by decide +kernel
theorem dX1_swapOfMost_45 : decode cX1_swapOfMost 45 = .ok (.istore 5, 2) := by decide +kernel
theorem dX1_swapOfMost_47 : decode cX1_swapOfMost 47 = .ok (.aload_n 0, 1) := by decide +kernel
theorem dX1_swapOfMost_48 : decode cX1_swapOfMost 48 = .ok (.getfield 9, 3) := by decide +kernel
theorem dX1_swapOfMost_51 : decode cX1_swapOfMost 51 = .ok (.iload_n 3, 1) := by decide +kernel
theorem dX1_swapOfMost_52 : decode cX1_swapOfMost 52 = .ok (.iload 4, 2) := by decide +kernel
theorem dX1_swapOfMost_54 : decode cX1_swapOfMost 54 = .ok (.invokestatic 82, 3) := by decide +kernel
theorem dX1_swapOfMost_57 : decode cX1_swapOfMost 57 = .ok (.iload 5, 2) := by decide +kernel
theorem dX1_swapOfMost_59 : decode cX1_swapOfMost 59 = .ok (.iload_n 2, 1) := by decide +kernel
theorem dX1_swapOfMost_60 : decode cX1_swapOfMost 60 = .ok (.if_icmp .gt 6, 3) := by decide +kernel
theorem dX1_swapOfMost_63 : decode cX1_swapOfMost 63 = .ok (.goto 14, 3) := by decide +kernel
theorem dX1_swapOfMost_66 : decode cX1_swapOfMost 66 = .ok (.iload 5, 2) := by decide +kernel
theorem dX1_swapOfMost_68 : decode cX1_swapOfMost 68 = .ok (.istore_n 2, 1) := by decide +kernel
theorem dX1_swapOfMost_69 : decode cX1_swapOfMost 69 = .ok (.bipush 100, 2) := by decide +kernel
theorem dX1_swapOfMost_71 : decode cX1_swapOfMost 71 = .ok (.iload_n 3, 1) := by decide +kernel
theorem dX1_swapOfMost_72 : decode cX1_swapOfMost 72 = .ok (.imul, 1) := by decide +kernel
theorem dX1_swapOfMost_73 : decode cX1_swapOfMost 73 = .ok (.iload 4, 2) := by decide +kernel
theorem dX1_swapOfMost_75 : decode cX1_swapOfMost 75 = .ok (.iadd, 1) := by decide +kernel
theorem dX1_swapOfMost_76 : decode cX1_swapOfMost 76 = .ok (.istore_n 1, 1) := by decide +kernel
theorem dX1_swapOfMost_77 : decode cX1_swapOfMost 77 = .ok (.iinc 4 1, 3) := by decide +kernel
theorem dX1_swapOfMost_80 : decode cX1_swapOfMost 80 = .ok (.goto (-58), 3) := by decide +kernel
theorem dX1_swapOfMost_83 : decode cX1_swapOfMost 83 = .ok (.iinc 3 1, 3) := by decide +kernel
theorem dX1_swapOfMost_86 : decode cX1_swapOfMost 86 = .ok (.goto (-77), 3) := by decide +kernel
theorem dX1_swapOfMost_89 : decode cX1_swapOfMost 89 = .ok (.iload_n 1, 1) := by decide +kernel
theorem dX1_swapOfMost_90 : decode cX1_swapOfMost 90 = .ok (.ireturn, 1) := by decide +kernel
set_option maxRecDepth 20000 in
theorem ggX1_bestSwap_X1_swapOfMost : GoodIn wsX1_bestSwap wsX1_swapOfMost := goodIn_r _ [5, 6, 7, 8, 9, 10, 4, 11, 12, 13, 14, 15, 16, 17, 18, 19, 20, 21, 22, 23, 24, 25, 26, 27, 28, 29, 30, 31, 32, 38, 39, 40, 41, 42, 43, 44, 45, 46, 47] (by decide +kernel) (by decide +kernel)
set_option maxRecDepth 20000 in
theorem gX1_bestSwap_X1_swapOfMost : GoodIn wsX1_bestSwap (wsV RX1 127 RX1 yX1_swapOfMost wsX1_swapOfMost) := goodIn_app (goodIn_of _ (by decide +kernel)) ggX1_bestSwap_X1_swapOfMost
set_option maxRecDepth 20000 in
theorem ggX1_bestSwap_X1_ok : GoodIn wsX1_bestSwap wsX1_ok := goodIn_r _ [36, 37, 38, 39, 40, 41, 42, 43, 44, 45, 46, 47] (by decide +kernel) (by decide +kernel)
set_option maxRecDepth 20000 in
theorem gX1_bestSwap_X1_ok : GoodIn wsX1_bestSwap (wsV RX1 105 RX1 yX1_ok wsX1_ok) := goodIn_app (goodIn_of _ (by decide +kernel)) ggX1_bestSwap_X1_ok
theorem dX1_bestSwap_0 : decode cX1_bestSwap 0 = .ok (.aload_n 0, 1) := by decide +kernel
theorem dX1_bestSwap_1 : decode cX1_bestSwap 1 = .ok (.aload_n 0, 1) := by decide +kernel
theorem dX1_bestSwap_2 : decode cX1_bestSwap 2 = .ok (.invokevirtual 127, 3) := by decide +kernel
theorem dX1_bestSwap_5 : decode cX1_bestSwap 5 = .ok (.invokevirtual 105, 3) := by decide +kernel
theorem dX1_bestSwap_8 : decode cX1_bestSwap 8 = .ok (.ireturn, 1) := by decide +kernel
set_option maxRecDepth 20000 in
theorem ggX1_bestTicket_X1_isOne : GoodIn wsX1_bestTicket wsX1_isOne := goodIn_r _ [7, 8, 9, 10, 6, 11, 42, 43, 44, 45, 46, 47, 48, 49, 50, 51] (by decide +kernel) (by decide +kernel)
set_option maxRecDepth 20000 in
theorem gX1_bestTicket_X1_isOne : GoodIn wsX1_bestTicket (wsV RX1 66 RX1 yX1_isOne wsX1_isOne) := goodIn_app (goodIn_of _ (by decide +kernel)) ggX1_bestTicket_X1_isOne
set_option maxRecDepth 20000 in
theorem ggX1_bestTicket_X1_bestOf : GoodIn wsX1_bestTicket wsX1_bestOf := goodIn_r _ [15, 16, 17, 18, 6, 19, 20, 21, 22, 23, 8, 24, 25, 26, 27, 28, 29, 30, 31, 32, 33, 2, 34, 35, 36, 37, 42, 43, 44, 45, 46, 47, 48, 49, 50, 51] (by decide +kernel) (by decide +kernel)
set_option maxRecDepth 20000 in
theorem gX1_bestTicket_X1_bestOf : GoodIn wsX1_bestTicket (wsV RX1 124 RX1 yX1_bestOf wsX1_bestOf) := goodIn_app (goodIn_of _ (by decide +kernel)) ggX1_bestTicket_X1_bestOf
set_option maxRecDepth 20000 in
theorem ggX1_bestTicket_X1_no : GoodIn wsX1_bestTicket wsX1_no := goodIn_r _ [41, 1, 42, 43, 44, 45, 46, 47, 48, 49, 50, 51] (by decide +kernel) (by decide +kernel)
set_option maxRecDepth 20000 in
theorem gX1_bestTicket_X1_no : GoodIn wsX1_bestTicket (wsV RX1 63 RX1 yX1_no wsX1_no) := goodIn_app (goodIn_of _ (by decide +kernel)) ggX1_bestTicket_X1_no
theorem dX1_bestTicket_0 : decode cX1_bestTicket 0 = .ok (.aload_n 0, 1) := by decide +kernel
theorem dX1_bestTicket_1 : decode cX1_bestTicket 1 = .ok (.iconst 0, 1) := by decide +kernel
theorem dX1_bestTicket_2 : decode cX1_bestTicket 2 = .ok (.putfield 26, 3) := by decide +kernel
theorem dX1_bestTicket_5 : decode cX1_bestTicket 5 = .ok (.aload_n 0, 1) := by decide +kernel
theorem dX1_bestTicket_6 : decode cX1_bestTicket 6 = .ok (.iload_n 1, 1) := by decide +kernel
theorem dX1_bestTicket_7 : decode cX1_bestTicket 7 = .ok (.invokevirtual 66, 3) := by decide +kernel
theorem dX1_bestTicket_10 : decode cX1_bestTicket 10 = .ok (.ifCond .eq 17, 3) := by decide +kernel
theorem dX1_bestTicket_13 : decode cX1_bestTicket 13 = .ok (.aload_n 0, 1) := by decide +kernel
theorem dX1_bestTicket_14 : decode cX1_bestTicket 14 = .ok (.aload_n 0, 1) := by decide +kernel
theorem dX1_bestTicket_15 : decode cX1_bestTicket 15 = .ok (.getfield 9, 3) := by decide +kernel
theorem dX1_bestTicket_18 : decode cX1_bestTicket 18 = .ok (.iload_n 1, 1) := by decide +kernel
theorem dX1_bestTicket_19 : decode cX1_bestTicket 19 = .ok (.bipush 100, 2) := by decide +kernel
theorem dX1_bestTicket_21 : decode cX1_bestTicket 21 = .ok (.invokevirtual 124, 3) := by decide +kernel
theorem dX1_bestTicket_24 : decode cX1_bestTicket 24 = .ok (.goto 8, 3) := by decide +kernel
theorem dX1_bestTicket_27 : decode cX1_bestTicket 27 = .ok (.aload_n 0, 1) := by decide +kernel
theorem dX1_bestTicket_28 : decode cX1_bestTicket 28 = .ok (.iconst 1, 1) := by decide +kernel
theorem dX1_bestTicket_29 : decode cX1_bestTicket 29 = .ok (.invokevirtual 63, 3) := by decide +kernel
theorem dX1_bestTicket_32 : decode cX1_bestTicket 32 = .ok (.ireturn, 1) := by decide +kernel
set_option maxRecDepth 20000 in
theorem ggX1_meanLuck_X1_here : GoodIn wsX1_meanLuck wsX1_here := goodIn_r _ [7, 8, 9, 10, 6, 11, 2, 12, 13, 14, 15, 16, 17, 18, 19, 20, 21, 22, 23, 24, 25, 26, 27, 28, 29, 30, 31, 32, 33, 34, 35, 36] (by decide +kernel) (by decide +kernel)
set_option maxRecDepth 20000 in
theorem gX1_meanLuck_X1_here : GoodIn wsX1_meanLuck (wsV RX1 78 RX1 yX1_here wsX1_here) := goodIn_app (goodIn_of _ (by decide +kernel)) ggX1_meanLuck_X1_here
theorem dX1_meanLuck_0 : decode cX1_meanLuck 0 = .ok (.aload_n 0, 1) := by decide +kernel
theorem dX1_meanLuck_1 : decode cX1_meanLuck 1 = .ok (.iconst 0, 1) := by decide +kernel
theorem dX1_meanLuck_2 : decode cX1_meanLuck 2 = .ok (.putfield 26, 3) := by decide +kernel
theorem dX1_meanLuck_5 : decode cX1_meanLuck 5 = .ok (.aload_n 0, 1) := by decide +kernel
theorem dX1_meanLuck_6 : decode cX1_meanLuck 6 = .ok (.getfield 29, 3) := by decide +kernel
theorem dX1_meanLuck_9 : decode cX1_meanLuck 9 = .ok (.ifCond .ne 7, 3) := by decide +kernel
theorem dX1_meanLuck_12 : decode cX1_meanLuck 12 = .ok (.dconst 0, 1) := by decide +kernel
theorem dX1_meanLuck_13 : decode cX1_meanLuck 13 = .ok (.goto 16, 3) := by decide +kernel
theorem dX1_meanLuck_16 : decode cX1_meanLuck 16 = .ok (.iconst 2, 1) := by decide +kernel
theorem dX1_meanLuck_17 : decode cX1_meanLuck 17 = .ok (.aload_n 0, 1) := by decide +kernel
theorem dX1_meanLuck_18 : decode cX1_meanLuck 18 = .ok (.invokevirtual 78, 3) := by decide +kernel
theorem dX1_meanLuck_21 : decode cX1_meanLuck 21 = .ok (.imul, 1) := by decide +kernel
theorem dX1_meanLuck_22 : decode cX1_meanLuck 22 = .ok (.i2d, 1) := by decide +kernel
theorem dX1_meanLuck_23 : decode cX1_meanLuck 23 = .ok (.aload_n 0, 1) := by decide +kernel
theorem dX1_meanLuck_24 : decode cX1_meanLuck 24 = .ok (.getfield 29, 3) := by decide +kernel
theorem dX1_meanLuck_27 : decode cX1_meanLuck 27 = .ok (.i2d, 1) := by decide +kernel
theorem dX1_meanLuck_28 : decode cX1_meanLuck 28 = .ok (.ddiv, 1) := by decide +kernel
theorem dX1_meanLuck_29 : decode cX1_meanLuck 29 = .ok (.dreturn, 1) := by decide +kernel
set_option maxRecDepth 20000 in
theorem ggX1_digest_X1_here : GoodIn wsX1_digest wsX1_here := goodIn_r _ [18, 19, 20, 21, 17, 22, 3, 23, 24, 25, 26, 12, 13, 27, 28, 29, 30, 10, 11, 31, 32, 33, 61, 62, 63, 64, 65, 66, 67, 68, 69, 70] (by decide +kernel) (by decide +kernel)
set_option maxRecDepth 20000 in
theorem gX1_digest_X1_here : GoodIn wsX1_digest (wsV RX1 78 RX1 yX1_here wsX1_here) := goodIn_app (goodIn_of _ (by decide +kernel)) ggX1_digest_X1_here
set_option maxRecDepth 20000 in
theorem ggX1_digest_X1_luckiest : GoodIn wsX1_digest wsX1_luckiest := goodIn_r _ [37, 3, 27, 28, 29, 17, 30, 10, 11, 31, 32, 33, 61, 62, 63, 64, 65, 66, 67, 68, 69, 70] (by decide +kernel) (by decide +kernel)
set_option maxRecDepth 20000 in
theorem gX1_digest_X1_luckiest : GoodIn wsX1_digest (wsV RX1 115 RX1 yX1_luckiest wsX1_luckiest) := goodIn_app (goodIn_of _ (by decide +kernel)) ggX1_digest_X1_luckiest
set_option maxRecDepth 20000 in
theorem ggX1_digest_X1_hourOfMost : GoodIn wsX1_digest wsX1_hourOfMost := goodIn_r _ [41, 19, 20, 21, 17, 22, 3, 23, 24, 25, 26, 12, 13, 27, 28, 29, 30, 10, 11, 31, 32, 33, 61, 62, 63, 64, 65, 66, 67, 68, 69, 70] (by decide +kernel) (by decide +kernel)
set_option maxRecDepth 20000 in
theorem gX1_digest_X1_hourOfMost : GoodIn wsX1_digest (wsV RX1 121 RX1 yX1_hourOfMost wsX1_hourOfMost) := goodIn_app (goodIn_of _ (by decide +kernel)) ggX1_digest_X1_hourOfMost
set_option maxRecDepth 20000 in
theorem ggX1_digest_X1_swapOfMost : GoodIn wsX1_digest wsX1_swapOfMost := goodIn_r _ [45, 3, 10, 14, 15, 16, 17, 18, 19, 20, 21, 22, 23, 24, 25, 26, 12, 13, 27, 28, 29, 30, 11, 31, 32, 33, 46, 47, 48, 61, 62, 63, 64, 65, 66, 67, 68, 69, 70] (by decide +kernel) (by decide +kernel)
set_option maxRecDepth 20000 in
theorem gX1_digest_X1_swapOfMost : GoodIn wsX1_digest (wsV RX1 127 RX1 yX1_swapOfMost wsX1_swapOfMost) := goodIn_app (goodIn_of _ (by decide +kernel)) ggX1_digest_X1_swapOfMost
set_option maxRecDepth 20000 in
theorem ggX1_digest_X1_at : GoodIn wsX1_digest wsX1_at := goodIn_r _ [52, 3, 12, 61, 62, 63, 64, 65, 66, 67, 68, 69, 70] (by decide +kernel) (by decide +kernel)
set_option maxRecDepth 20000 in
theorem gX1_digest_X1_at : GoodIn wsX1_digest (wsV RX1 96 RX1 yX1_at wsX1_at) := goodIn_app (goodIn_of _ (by decide +kernel)) ggX1_digest_X1_at
set_option maxRecDepth 20000 in
theorem ggX1_digest_X1_town : GoodIn wsX1_digest wsX1_town := goodIn_r _ [22, 3, 23, 24, 25, 17, 26, 12, 13, 27, 28, 29, 30, 10, 11, 31, 32, 33, 61, 62, 63, 64, 65, 66, 67, 68, 69, 70] (by decide +kernel) (by decide +kernel)
set_option maxRecDepth 20000 in
theorem gX1_digest_X1_town : GoodIn wsX1_digest (wsV RX1 47 RX1 yX1_town wsX1_town) := goodIn_app (goodIn_of _ (by decide +kernel)) ggX1_digest_X1_town
set_option maxRecDepth 20000 in
theorem ggX1_digest_X1_luck : GoodIn wsX1_digest wsX1_luck := goodIn_r _ [56, 3, 12, 27, 28, 29, 17, 30, 10, 11, 31, 32, 33, 61, 62, 63, 64, 65, 66, 67, 68, 69, 70] (by decide +kernel) (by decide +kernel)
set_option maxRecDepth 20000 in
theorem gX1_digest_X1_luck : GoodIn wsX1_digest (wsV RX1 112 RX1 yX1_luck wsX1_luck) := goodIn_app (goodIn_of _ (by decide +kernel)) ggX1_digest_X1_luck
set_option maxRecDepth 20000 in
theorem ggX1_digest_X1_bestOf : GoodIn wsX1_digest wsX1_bestOf := goodIn_r _ [60, 14, 15, 16, 17, 18, 19, 20, 21, 22, 3, 23, 24, 25, 26, 12, 13, 27, 28, 29, 30, 10, 11, 31, 32, 33, 61, 62, 63, 64, 65, 66, 67, 68, 69, 70] (by decide +kernel) (by decide +kernel)
set_option maxRecDepth 20000 in
theorem gX1_digest_X1_bestOf : GoodIn wsX1_digest (wsV RX1 124 RX1 yX1_bestOf wsX1_bestOf) := goodIn_app (goodIn_of _ (by decide +kernel)) ggX1_digest_X1_bestOf
theorem dX1_digest_0 : decode cX1_digest 0 = .ok (.aload_n 0, 1) := by decide +kernel
theorem dX1_digest_1 : decode cX1_digest 1 = .ok (.iconst 0, 1) := by decide +kernel
theorem dX1_digest_2 : decode cX1_digest 2 = .ok (.putfield 26, 3) := by decide +kernel
theorem dX1_digest_5 : decode cX1_digest 5 = .ok (.bipush 9, 2) := by decide +kernel
theorem dX1_digest_7 : decode cX1_digest 7 = .ok (.newarray .int, 2) := by decide +kernel
theorem dX1_digest_9 : decode cX1_digest 9 = .ok (.dup, 1) := by decide +kernel
theorem dX1_digest_10 : decode cX1_digest 10 = .ok (.iconst 0, 1) := by decide +kernel
theorem dX1_digest_11 : decode cX1_digest 11 = .ok (.aload_n 0, 1) := by decide +kernel
theorem dX1_digest_12 : decode cX1_digest 12 = .ok (.getfield 29, 3) := by decide +kernel
theorem dX1_digest_15 : decode cX1_digest 15 = .ok (.iastore, 1) := by decide +kernel
theorem dX1_digest_16 : decode cX1_digest 16 = .ok (.dup, 1) := by decide +kernel
theorem dX1_digest_17 : decode cX1_digest 17 = .ok (.iconst 1, 1) := by decide +kernel
theorem dX1_digest_18 : decode cX1_digest 18 = .ok (.aload_n 0, 1) := by decide +kernel
theorem dX1_digest_19 : decode cX1_digest 19 = .ok (.getfield 99, 3) := by decide +kernel
theorem dX1_digest_22 : decode cX1_digest 22 = .ok (.iastore, 1) := by decide +kernel
theorem dX1_digest_23 : decode cX1_digest 23 = .ok (.dup, 1) := by decide +kernel
theorem dX1_digest_24 : decode cX1_digest 24 = .ok (.iconst 2, 1) := by decide +kernel
theorem dX1_digest_25 : decode cX1_digest 25 = .ok (.aload_n 0, 1) := by decide +kernel
theorem dX1_digest_26 : decode cX1_digest 26 = .ok (.getfield 22, 3) := by decide +kernel
theorem dX1_digest_29 : decode cX1_digest 29 = .ok (.iastore, 1) := by decide +kernel
theorem dX1_digest_30 : decode cX1_digest 30 = .ok (.dup, 1) := by decide +kernel
theorem dX1_digest_31 : decode cX1_digest 31 = .ok (.iconst 3, 1) := by decide +kernel
theorem dX1_digest_32 : decode cX1_digest 32 = .ok (.aload_n 0, 1) := by decide +kernel
theorem dX1_digest_33 : decode cX1_digest 33 = .ok (.getfield 93, 3) := by decide +kernel
theorem dX1_digest_36 : decode cX1_digest 36 = .ok (.iastore, 1) := by decide +kernel
theorem dX1_digest_37 : decode cX1_digest 37 = .ok (.dup, 1) := by decide +kernel
theorem dX1_digest_38 : decode cX1_digest 38 = .ok (.iconst 4, 1) := by decide +kernel
theorem dX1_digest_39 : decode cX1_digest 39 = .ok (.aload_n 0, 1) := by decide +kernel
theorem dX1_digest_40 : decode cX1_digest 40 = .ok (.getfield 69, 3) := by decide +kernel
theorem dX1_digest_43 : decode cX1_digest 43 = .ok (.iastore, 1) := by decide +kernel
theorem dX1_digest_44 : decode cX1_digest 44 = .ok (.dup, 1) := by decide +kernel
theorem dX1_digest_45 : decode cX1_digest 45 = .ok (.iconst 5, 1) := by decide +kernel
theorem dX1_digest_46 : decode cX1_digest 46 = .ok (.aload_n 0, 1) := by decide +kernel
theorem dX1_digest_47 : decode cX1_digest 47 = .ok (.invokevirtual 78, 3) := by decide +kernel
theorem dX1_digest_50 : decode cX1_digest 50 = .ok (.iastore, 1) := by decide +kernel
theorem dX1_digest_51 : decode cX1_digest 51 = .ok (.dup, 1) := by decide +kernel
theorem dX1_digest_52 : decode cX1_digest 52 = .ok (.bipush 6, 2) := by decide +kernel
theorem dX1_digest_54 : decode cX1_digest 54 = .ok (.aload_n 0, 1) := by decide +kernel
theorem dX1_digest_55 : decode cX1_digest 55 = .ok (.invokevirtual 115, 3) := by decide +kernel
theorem dX1_digest_58 : decode cX1_digest 58 = .ok (.iastore, 1) := by decide +kernel
theorem dX1_digest_59 : decode cX1_digest 59 = .ok (.dup, 1) := by decide +kernel
theorem dX1_digest_60 : decode cX1_digest 60 = .ok (.bipush 7, 2) := by decide +kernel
theorem dX1_digest_62 : decode cX1_digest 62 = .ok (.aload_n 0, 1) := by decide +kernel
theorem dX1_digest_63 : decode cX1_digest 63 = .ok (.invokevirtual 121, 3) := by decide +kernel
theorem dX1_digest_66 : decode cX1_digest 66 = .ok (.iastore, 1) := by decide +kernel
theorem dX1_digest_67 : decode cX1_digest 67 = .ok (.dup, 1) := by decide +kernel
theorem dX1_digest_68 : decode cX1_digest 68 = .ok (.bipush 8, 2) := by decide +kernel
theorem dX1_digest_70 : decode cX1_digest 70 = .ok (.aload_n 0, 1) := by decide +kernel
theorem dX1_digest_71 : decode cX1_digest 71 = .ok (.invokevirtual 127, 3) := by decide +kernel
theorem dX1_digest_74 : decode cX1_digest 74 = .ok (.iastore, 1) := by decide +kernel
theorem dX1_digest_75 : decode cX1_digest 75 = .ok (.astore_n 1, 1) := by decide +kernel
theorem dX1_digest_76 : decode cX1_digest 76 = .ok (.ldc2_w 130, 3) := by decide +kernel
theorem dX1_digest_79 : decode cX1_digest 79 = .ok (.lstore_n 2, 1) := by decide +kernel
theorem dX1_digest_80 : decode cX1_digest 80 = .ok (.aload_n 1, 1) := by decide +kernel
theorem dX1_digest_81 : decode cX1_digest 81 = .ok (.astore 4, 2) := by decide +kernel
theorem dX1_digest_83 : decode cX1_digest 83 = .ok (.aload 4, 2) := by decide +kernel
theorem dX1_digest_85 : decode cX1_digest 85 = .ok (.arraylength, 1) := by decide +kernel
theorem dX1_digest_86 : decode cX1_digest 86 = .ok (.istore 5, 2) := by decide +kernel
theorem dX1_digest_88 : decode cX1_digest 88 = .ok (.iconst 0, 1) := by decide +kernel
theorem dX1_digest_89 : decode cX1_digest 89 = .ok (.istore 6, 2) := by decide +kernel
theorem dX1_digest_91 : decode cX1_digest 91 = .ok (.iload 6, 2) := by decide +kernel
theorem dX1_digest_93 : decode cX1_digest 93 = .ok (.iload 5, 2) := by decide +kernel
theorem dX1_digest_95 : decode cX1_digest 95 = .ok (.if_icmp .ge 26, 3) := by decide +kernel
theorem dX1_digest_98 : decode cX1_digest 98 = .ok (.aload 4, 2) := by decide +kernel
theorem dX1_digest_100 : decode cX1_digest 100 = .ok (.iload 6, 2) := by decide +kernel
theorem dX1_digest_102 : decode cX1_digest 102 = .ok (.iaload, 1) := by decide +kernel
theorem dX1_digest_103 : decode cX1_digest 103 = .ok (.istore 7, 2) := by decide +kernel
theorem dX1_digest_105 : decode cX1_digest 105 = .ok (.lload_n 2, 1) := by decide +kernel
theorem dX1_digest_106 : decode cX1_digest 106 = .ok (.ldc2_w 132, 3) := by decide +kernel
theorem dX1_digest_109 : decode cX1_digest 109 = .ok (.lmul, 1) := by decide +kernel
theorem dX1_digest_110 : decode cX1_digest 110 = .ok (.iload 7, 2) := by decide +kernel
theorem dX1_digest_112 : decode cX1_digest 112 = .ok (.i2l, 1) := by decide +kernel
theorem dX1_digest_113 : decode cX1_digest 113 = .ok (.ladd, 1) := by decide +kernel
theorem dX1_digest_114 : decode cX1_digest 114 = .ok (.lstore_n 2, 1) := by decide +kernel
theorem dX1_digest_115 : decode cX1_digest 115 = .ok (.iinc 6 1, 3) := by decide +kernel
theorem dX1_digest_118 : decode cX1_digest 118 = .ok (.goto (-27), 3) := by decide +kernel
theorem dX1_digest_121 : decode cX1_digest 121 = .ok (.iconst 0, 1) := by decide +kernel
theorem dX1_digest_122 : decode cX1_digest 122 = .ok (.istore 4, 2) := by decide +kernel
theorem dX1_digest_124 : decode cX1_digest 124 = .ok (.iload 4, 2) := by decide +kernel
theorem dX1_digest_126 : decode cX1_digest 126 = .ok (.bipush 6, 2) := by decide +kernel
theorem dX1_digest_128 : decode cX1_digest 128 = .ok (.if_icmp .ge 36, 3) := by decide +kernel
theorem dX1_digest_131 : decode cX1_digest 131 = .ok (.lload_n 2, 1) := by decide +kernel
theorem dX1_digest_132 : decode cX1_digest 132 = .ok (.ldc2_w 132, 3) := by decide +kernel
theorem dX1_digest_135 : decode cX1_digest 135 = .ok (.lmul, 1) := by decide +kernel
theorem dX1_digest_136 : decode cX1_digest 136 = .ok (.aload_n 0, 1) := by decide +kernel
theorem dX1_digest_137 : decode cX1_digest 137 = .ok (.iload 4, 2) := by decide +kernel
theorem dX1_digest_139 : decode cX1_digest 139 = .ok (.invokevirtual 96, 3) := by decide +kernel
theorem dX1_digest_142 : decode cX1_digest 142 = .ok (.i2l, 1) := by decide +kernel
theorem dX1_digest_143 : decode cX1_digest 143 = .ok (.ladd, 1) := by decide +kernel
theorem dX1_digest_144 : decode cX1_digest 144 = .ok (.ldc2_w 132, 3) := by decide +kernel
theorem dX1_digest_147 : decode cX1_digest 147 = .ok (.lmul, 1) := by decide +kernel
theorem dX1_digest_148 : decode cX1_digest 148 = .ok (.aload_n 0, 1) := by decide +kernel
theorem dX1_digest_149 : decode cX1_digest 149 = .ok (.iconst 0, 1) := by decide +kernel
theorem dX1_digest_150 : decode cX1_digest 150 = .ok (.iload 4, 2) := by decide +kernel
theorem dX1_digest_152 : decode cX1_digest 152 = .ok (.invokevirtual 47, 3) := by decide +kernel
theorem dX1_digest_155 : decode cX1_digest 155 = .ok (.i2l, 1) := by decide +kernel
theorem dX1_digest_156 : decode cX1_digest 156 = .ok (.ladd, 1) := by decide +kernel
theorem dX1_digest_157 : decode cX1_digest 157 = .ok (.lstore_n 2, 1) := by decide +kernel
theorem dX1_digest_158 : decode cX1_digest 158 = .ok (.iinc 4 1, 3) := by decide +kernel
theorem dX1_digest_161 : decode cX1_digest 161 = .ok (.goto (-37), 3) := by decide +kernel
theorem dX1_digest_164 : decode cX1_digest 164 = .ok (.iconst 0, 1) := by decide +kernel
theorem dX1_digest_165 : decode cX1_digest 165 = .ok (.istore 4, 2) := by decide +kernel
theorem dX1_digest_167 : decode cX1_digest 167 = .ok (.iload 4, 2) := by decide +kernel
theorem dX1_digest_169 : decode cX1_digest 169 = .ok (.aload_n 0, 1) := by decide +kernel
theorem dX1_digest_170 : decode cX1_digest 170 = .ok (.getfield 29, 3) := by decide +kernel
theorem dX1_digest_173 : decode cX1_digest 173 = .ok (.if_icmp .ge 97, 3) := by decide +kernel
theorem dX1_digest_176 : decode cX1_digest 176 = .ok (.lload_n 2, 1) := by decide +kernel
theorem dX1_digest_177 : decode cX1_digest 177 = .ok (.ldc2_w 132, 3) := by decide +kernel
theorem dX1_digest_180 : decode cX1_digest 180 = .ok (.lmul, 1) := by decide +kernel
theorem dX1_digest_181 : decode cX1_digest 181 = .ok (.aload_n 0, 1) := by decide +kernel
theorem dX1_digest_182 : decode cX1_digest 182 = .ok (.getfield 9, 3) := by decide +kernel
theorem dX1_digest_185 : decode cX1_digest 185 = .ok (.iload 4, 2) := by decide +kernel
theorem dX1_digest_187 : decode cX1_digest 187 = .ok (.iaload, 1) := by decide +kernel
theorem dX1_digest_188 : decode cX1_digest 188 = .ok (.i2l, 1) := by decide +kernel
theorem dX1_digest_189 : decode cX1_digest 189 = .ok (.ladd, 1) := by decide +kernel
theorem dX1_digest_190 : decode cX1_digest 190 = .ok (.ldc2_w 132, 3) := by decide +kernel
theorem dX1_digest_193 : decode cX1_digest 193 = .ok (.lmul, 1) := by decide +kernel
theorem dX1_digest_194 : decode cX1_digest 194 = .ok (.aload_n 0, 1) := by decide +kernel
theorem dX1_digest_195 : decode cX1_digest 195 = .ok (.getfield 13, 3) := by decide +kernel
theorem dX1_digest_198 : decode cX1_digest 198 = .ok (.iload 4, 2) := by decide +kernel
theorem dX1_digest_200 : decode cX1_digest 200 = .ok (.iaload, 1) := by decide +kernel
theorem dX1_digest_201 : decode cX1_digest 201 = .ok (.i2l, 1) := by decide +kernel
theorem dX1_digest_202 : decode cX1_digest 202 = .ok (.ladd, 1) := by decide +kernel
theorem dX1_digest_203 : decode cX1_digest 203 = .ok (.lstore_n 2, 1) := by decide +kernel
theorem dX1_digest_204 : decode cX1_digest 204 = .ok (.lload_n 2, 1) := by decide +kernel
theorem dX1_digest_205 : decode cX1_digest 205 = .ok (.ldc2_w 132, 3) := by decide +kernel
theorem dX1_digest_208 : decode cX1_digest 208 = .ok (.lmul, 1) := by decide +kernel
theorem dX1_digest_209 : decode cX1_digest 209 = .ok (.aload_n 0, 1) := by decide +kernel
theorem dX1_digest_210 : decode cX1_digest 210 = .ok (.getfield 16, 3) := by decide +kernel
theorem dX1_digest_213 : decode cX1_digest 213 = .ok (.iload 4, 2) := by decide +kernel
theorem dX1_digest_215 : decode cX1_digest 215 = .ok (.iaload, 1) := by decide +kernel
theorem dX1_digest_216 : decode cX1_digest 216 = .ok (.i2l, 1) := by decide +kernel
theorem dX1_digest_217 : decode cX1_digest 217 = .ok (.ladd, 1) := by decide +kernel
theorem dX1_digest_218 : decode cX1_digest 218 = .ok (.ldc2_w 132, 3) := by decide +kernel
theorem dX1_digest_221 : decode cX1_digest 221 = .ok (.lmul, 1) := by decide +kernel
theorem dX1_digest_222 : decode cX1_digest 222 = .ok (.aload_n 0, 1) := by decide +kernel
theorem dX1_digest_223 : decode cX1_digest 223 = .ok (.getfield 19, 3) := by decide +kernel
theorem dX1_digest_226 : decode cX1_digest 226 = .ok (.iload 4, 2) := by decide +kernel
theorem dX1_digest_228 : decode cX1_digest 228 = .ok (.iaload, 1) := by decide +kernel
theorem dX1_digest_229 : decode cX1_digest 229 = .ok (.i2l, 1) := by decide +kernel
theorem dX1_digest_230 : decode cX1_digest 230 = .ok (.ladd, 1) := by decide +kernel
theorem dX1_digest_231 : decode cX1_digest 231 = .ok (.lstore_n 2, 1) := by decide +kernel
theorem dX1_digest_232 : decode cX1_digest 232 = .ok (.lload_n 2, 1) := by decide +kernel
theorem dX1_digest_233 : decode cX1_digest 233 = .ok (.ldc2_w 132, 3) := by decide +kernel
theorem dX1_digest_236 : decode cX1_digest 236 = .ok (.lmul, 1) := by decide +kernel
theorem dX1_digest_237 : decode cX1_digest 237 = .ok (.aload_n 0, 1) := by decide +kernel
theorem dX1_digest_238 : decode cX1_digest 238 = .ok (.iload 4, 2) := by decide +kernel
theorem dX1_digest_240 : decode cX1_digest 240 = .ok (.invokevirtual 112, 3) := by decide +kernel
theorem dX1_digest_243 : decode cX1_digest 243 = .ok (.i2l, 1) := by decide +kernel
theorem dX1_digest_244 : decode cX1_digest 244 = .ok (.ladd, 1) := by decide +kernel
theorem dX1_digest_245 : decode cX1_digest 245 = .ok (.ldc2_w 132, 3) := by decide +kernel
theorem dX1_digest_248 : decode cX1_digest 248 = .ok (.lmul, 1) := by decide +kernel
theorem dX1_digest_249 : decode cX1_digest 249 = .ok (.aload_n 0, 1) := by decide +kernel
theorem dX1_digest_250 : decode cX1_digest 250 = .ok (.aload_n 0, 1) := by decide +kernel
theorem dX1_digest_251 : decode cX1_digest 251 = .ok (.getfield 16, 3) := by decide +kernel
theorem dX1_digest_254 : decode cX1_digest 254 = .ok (.iload 4, 2) := by decide +kernel
theorem dX1_digest_256 : decode cX1_digest 256 = .ok (.bipush 6, 2) := by decide +kernel
theorem dX1_digest_258 : decode cX1_digest 258 = .ok (.invokevirtual 124, 3) := by decide +kernel
theorem dX1_digest_261 : decode cX1_digest 261 = .ok (.i2l, 1) := by decide +kernel
theorem dX1_digest_262 : decode cX1_digest 262 = .ok (.ladd, 1) := by decide +kernel
theorem dX1_digest_263 : decode cX1_digest 263 = .ok (.lstore_n 2, 1) := by decide +kernel
theorem dX1_digest_264 : decode cX1_digest 264 = .ok (.iinc 4 1, 3) := by decide +kernel
theorem dX1_digest_267 : decode cX1_digest 267 = .ok (.goto (-100), 3) := by decide +kernel
theorem dX1_digest_270 : decode cX1_digest 270 = .ok (.lload_n 2, 1) := by decide +kernel
theorem dX1_digest_271 : decode cX1_digest 271 = .ok (.lreturn, 1) := by decide +kernel
theorem dJ9_abs_0f7a4_0 : decode cJ9_abs_0f7a4 0 = .ok (.iload_n 0, 1) := by decide +kernel
theorem dJ9_abs_0f7a4_1 : decode cJ9_abs_0f7a4 1 = .ok (.ifCond .ge 8, 3) := by decide +kernel
theorem dJ9_abs_0f7a4_4 : decode cJ9_abs_0f7a4 4 = .ok (.iload_n 0, 1) := by decide +kernel
theorem dJ9_abs_0f7a4_5 : decode cJ9_abs_0f7a4 5 = .ok (.ineg, 1) := by decide +kernel
theorem dJ9_abs_0f7a4_6 : decode cJ9_abs_0f7a4 6 = .ok (.goto 4, 3) := by decide +kernel
theorem dJ9_abs_0f7a4_9 : decode cJ9_abs_0f7a4 9 = .ok (.iload_n 0, 1) := by decide +kernel
theorem dJ9_abs_0f7a4_10 : decode cJ9_abs_0f7a4 10 = .ok (.ireturn, 1) := by decide +kernel
theorem dJ9_min_7cf53_0 : decode cJ9_min_7cf53 0 = .ok (.iload_n 0, 1) := by decide +kernel
theorem dJ9_min_7cf53_1 : decode cJ9_min_7cf53 1 = .ok (.iload_n 1, 1) := by decide +kernel
theorem dJ9_min_7cf53_2 : decode cJ9_min_7cf53 2 = .ok (.if_icmp .gt 7, 3) := by decide +kernel
theorem dJ9_min_7cf53_5 : decode cJ9_min_7cf53 5 = .ok (.iload_n 0, 1) := by decide +kernel
theorem dJ9_min_7cf53_6 : decode cJ9_min_7cf53 6 = .ok (.goto 4, 3) := by decide +kernel
theorem dJ9_min_7cf53_9 : decode cJ9_min_7cf53 9 = .ok (.iload_n 1, 1) := by decide +kernel
theorem dJ9_min_7cf53_10 : decode cJ9_min_7cf53 10 = .ok (.ireturn, 1) := by decide +kernel
set_option maxRecDepth 20000 in
theorem ggL_addStranger_X0_addStranger : GoodIn wsL_addStranger wsX0_addStranger := goodIn_ca (goodIn_ca (goodIn_r _ [7, 8, 9, 10, 11, 12, 13, 14, 15, 16, 17, 18, 6, 19, 20, 21, 22, 23, 24, 25, 26, 27, 28, 29, 30, 31, 32, 33, 34, 35, 36, 37] (by decide +kernel) (by decide +kernel)) (goodIn_sub (fun _ h => List.mem_cons_of_mem _ (List.mem_append_left _ (List.mem_append_right _ h))) (by decide +kernel))) (goodIn_sub (fun _ h => List.mem_cons_of_mem _ (List.mem_append_right _ h)) (by decide +kernel))
set_option maxRecDepth 20000 in
theorem gL_addStranger_X0_addStranger : GoodIn wsL_addStranger (wsV RL 7 RX0 yX0_addStranger wsX0_addStranger) := goodIn_app (goodIn_of _ (by decide +kernel)) ggL_addStranger_X0_addStranger
