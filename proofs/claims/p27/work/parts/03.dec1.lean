set_option maxRecDepth 20000 in
theorem ggX2_init_X4_init : GoodIn wsX2_init wsX4_init := goodIn_r _ [15, 16, 2, 3, 17, 18, 19, 20, 8, 21, 22, 27, 28] (by decide +kernel) (by decide +kernel)
set_option maxRecDepth 20000 in
theorem gX2_init_X4_init : GoodIn wsX2_init (wsX4_init) := ggX2_init_X4_init
theorem dX2_init_0 : decode cX2_init 0 = .ok (.aload_n 0, 1) := by decide +kernel
theorem dX2_init_1 : decode cX2_init 1 = .ok (.invokespecial 3, 3) := by decide +kernel
theorem dX2_init_4 : decode cX2_init 4 = .ok (.aload_n 0, 1) := by decide +kernel
theorem dX2_init_5 : decode cX2_init 5 = .ok (.iconst 3, 1) := by decide +kernel
theorem dX2_init_6 : decode cX2_init 6 = .ok (.anewarray 9, 3) := by decide +kernel
theorem dX2_init_9 : decode cX2_init 9 = .ok (.putfield 11, 3) := by decide +kernel
theorem dX2_init_12 : decode cX2_init 12 = .ok (.iconst 0, 1) := by decide +kernel
theorem dX2_init_13 : decode cX2_init 13 = .ok (.istore_n 1, 1) := by decide +kernel
theorem dX2_init_14 : decode cX2_init 14 = .ok (.iload_n 1, 1) := by decide +kernel
theorem dX2_init_15 : decode cX2_init 15 = .ok (.iconst 3, 1) := by decide +kernel
theorem dX2_init_16 : decode cX2_init 16 = .ok (.if_icmp .ge 24, 3) := by decide +kernel
theorem dX2_init_19 : decode cX2_init 19 = .ok (.aload_n 0, 1) := by decide +kernel
theorem dX2_init_20 : decode cX2_init 20 = .ok (.getfield 11, 3) := by decide +kernel
theorem dX2_init_23 : decode cX2_init 23 = .ok (.iload_n 1, 1) := by decide +kernel
theorem dX2_init_24 : decode cX2_init 24 = .ok (.new 9, 3) := by decide +kernel
theorem dX2_init_27 : decode cX2_init 27 = .ok (.dup, 1) := by decide +kernel
theorem dX2_init_28 : decode cX2_init 28 = .ok (.bipush 10, 2) := by decide +kernel
theorem dX2_init_30 : decode cX2_init 30 = .ok (.invokespecial 17, 3) := by decide +kernel
theorem dX2_init_33 : decode cX2_init 33 = .ok (.aastore, 1) := by decide +kernel
theorem dX2_init_34 : decode cX2_init 34 = .ok (.iinc 1 1, 3) := by decide +kernel
theorem dX2_init_37 : decode cX2_init 37 = .ok (.goto (-23), 3) := by decide +kernel
theorem dX2_init_40 : decode cX2_init 40 = .ok (.aload_n 0, 1) := by decide +kernel
theorem dX2_init_41 : decode cX2_init 41 = .ok (.bipush 121, 2) := by decide +kernel
theorem dX2_init_43 : decode cX2_init 43 = .ok (.newarray .int, 2) := by decide +kernel
theorem dX2_init_45 : decode cX2_init 45 = .ok (.putfield 20, 3) := by decide +kernel
theorem dX2_init_48 : decode cX2_init 48 = .ok (.aload_n 0, 1) := by decide +kernel
theorem dX2_init_49 : decode cX2_init 49 = .ok (.bipush 20, 2) := by decide +kernel
theorem dX2_init_51 : decode cX2_init 51 = .ok (.newarray .char, 2) := by decide +kernel
theorem dX2_init_53 : decode cX2_init 53 = .ok (.putfield 24, 3) := by decide +kernel
theorem dX2_init_56 : decode cX2_init 56 = .ok (.aload_n 0, 1) := by decide +kernel
theorem dX2_init_57 : decode cX2_init 57 = .ok (.iconst 0, 1) := by decide +kernel
theorem dX2_init_58 : decode cX2_init 58 = .ok (.putfield 28, 3) := by decide +kernel
theorem dX2_init_61 : decode cX2_init 61 = .ok (.return_, 1) := by decide +kernel
theorem dX2_begin_0 : decode cX2_begin 0 = .ok (.aload_n 0, 1) := by decide +kernel
theorem dX2_begin_1 : decode cX2_begin 1 = .ok (.getfield 28, 3) := by decide +kernel
theorem dX2_begin_4 : decode cX2_begin 4 = .ok (.iconst 3, 1) := by decide +kernel
theorem dX2_begin_5 : decode cX2_begin 5 = .ok (.if_icmp .lt 5, 3) := by decide +kernel
theorem dX2_begin_8 : decode cX2_begin 8 = .ok (.iconst (-1), 1) := by decide +kernel
theorem dX2_begin_9 : decode cX2_begin 9 = .ok (.ireturn, 1) := by decide +kernel
theorem dX2_begin_10 : decode cX2_begin 10 = .ok (.aload_n 0, 1) := by decide +kernel
theorem dX2_begin_11 : decode cX2_begin 11 = .ok (.dup, 1) := by decide +kernel
theorem dX2_begin_12 : decode cX2_begin 12 = .ok (.getfield 28, 3) := by decide +kernel
theorem dX2_begin_15 : decode cX2_begin 15 = .ok (.iconst 1, 1) := by decide +kernel
theorem dX2_begin_16 : decode cX2_begin 16 = .ok (.iadd, 1) := by decide +kernel
theorem dX2_begin_17 : decode cX2_begin 17 = .ok (.putfield 28, 3) := by decide +kernel
theorem dX2_begin_20 : decode cX2_begin 20 = .ok (.aload_n 0, 1) := by decide +kernel
theorem dX2_begin_21 : decode cX2_begin 21 = .ok (.getfield 28, 3) := by decide +kernel
theorem dX2_begin_24 : decode cX2_begin 24 = .ok (.iconst 1, 1) := by decide +kernel
theorem dX2_begin_25 : decode cX2_begin 25 = .ok (.isub, 1) := by decide +kernel
theorem dX2_begin_26 : decode cX2_begin 26 = .ok (.ireturn, 1) := by decide +kernel
theorem dX2_has_0 : decode cX2_has 0 = .ok (.iload_n 1, 1) := by decide +kernel
theorem dX2_has_1 : decode cX2_has 1 = .ok (.ifCond .lt 15, 3) := by decide +kernel
theorem dX2_has_4 : decode cX2_has 4 = .ok (.iload_n 1, 1) := by decide +kernel
theorem dX2_has_5 : decode cX2_has 5 = .ok (.aload_n 0, 1) := by decide +kernel
theorem dX2_has_6 : decode cX2_has 6 = .ok (.getfield 28, 3) := by decide +kernel
theorem dX2_has_9 : decode cX2_has 9 = .ok (.if_icmp .ge 7, 3) := by decide +kernel
theorem dX2_has_12 : decode cX2_has 12 = .ok (.iconst 1, 1) := by decide +kernel
theorem dX2_has_13 : decode cX2_has 13 = .ok (.goto 4, 3) := by decide +kernel
theorem dX2_has_16 : decode cX2_has 16 = .ok (.iconst 0, 1) := by decide +kernel
theorem dX2_has_17 : decode cX2_has 17 = .ok (.ireturn, 1) := by decide +kernel
theorem dX2_row_0 : decode cX2_row 0 = .ok (.aload_n 0, 1) := by decide +kernel
theorem dX2_row_1 : decode cX2_row 1 = .ok (.getfield 11, 3) := by decide +kernel
theorem dX2_row_4 : decode cX2_row 4 = .ok (.iload_n 1, 1) := by decide +kernel
theorem dX2_row_5 : decode cX2_row 5 = .ok (.aaload, 1) := by decide +kernel
theorem dX2_row_6 : decode cX2_row 6 = .ok (.areturn, 1) := by decide +kernel
set_option maxRecDepth 20000 in
theorem ggX2_distance_X4_many : GoodIn wsX2_distance wsX4_many := goodIn_r _ [7, 8, 37, 38] (by decide +kernel) (by decide +kernel)
set_option maxRecDepth 20000 in
theorem gX2_distance_X4_many : GoodIn wsX2_distance (wsV RX2 32 RX4 yX4_many wsX4_many) := goodIn_app (goodIn_of _ (by decide +kernel)) ggX2_distance_X4_many
set_option maxRecDepth 20000 in
theorem ggX2_distance_X2_leastFrom : GoodIn wsX2_distance wsX2_leastFrom := goodIn_r _ [13, 2, 14, 15, 16, 17, 18, 19, 20, 6, 21, 8, 3, 4, 5, 7, 22, 23, 24, 25, 26, 27, 28, 12, 29, 30, 31, 32, 33, 34, 35, 36, 37, 38] (by decide +kernel) (by decide +kernel)
set_option maxRecDepth 20000 in
theorem gX2_distance_X2_leastFrom : GoodIn wsX2_distance (wsV RX2 35 RX2 yX2_leastFrom wsX2_leastFrom) := goodIn_app (goodIn_of _ (by decide +kernel)) ggX2_distance_X2_leastFrom
theorem dX2_distance_0 : decode cX2_distance 0 = .ok (.aload_n 0, 1) := by decide +kernel
theorem dX2_distance_1 : decode cX2_distance 1 = .ok (.getfield 11, 3) := by decide +kernel
theorem dX2_distance_4 : decode cX2_distance 4 = .ok (.iload_n 1, 1) := by decide +kernel
theorem dX2_distance_5 : decode cX2_distance 5 = .ok (.aaload, 1) := by decide +kernel
theorem dX2_distance_6 : decode cX2_distance 6 = .ok (.astore_n 3, 1) := by decide +kernel
theorem dX2_distance_7 : decode cX2_distance 7 = .ok (.aload_n 0, 1) := by decide +kernel
theorem dX2_distance_8 : decode cX2_distance 8 = .ok (.getfield 11, 3) := by decide +kernel
theorem dX2_distance_11 : decode cX2_distance 11 = .ok (.iload_n 2, 1) := by decide +kernel
theorem dX2_distance_12 : decode cX2_distance 12 = .ok (.aaload, 1) := by decide +kernel
theorem dX2_distance_13 : decode cX2_distance 13 = .ok (.astore 4, 2) := by decide +kernel
theorem dX2_distance_15 : decode cX2_distance 15 = .ok (.aload_n 3, 1) := by decide +kernel
theorem dX2_distance_16 : decode cX2_distance 16 = .ok (.invokevirtual 32, 3) := by decide +kernel
theorem dX2_distance_19 : decode cX2_distance 19 = .ok (.istore 5, 2) := by decide +kernel
theorem dX2_distance_21 : decode cX2_distance 21 = .ok (.iload 5, 2) := by decide +kernel
theorem dX2_distance_23 : decode cX2_distance 23 = .ok (.ifCond .lt 51, 3) := by decide +kernel
theorem dX2_distance_26 : decode cX2_distance 26 = .ok (.aload 4, 2) := by decide +kernel
theorem dX2_distance_28 : decode cX2_distance 28 = .ok (.invokevirtual 32, 3) := by decide +kernel
theorem dX2_distance_31 : decode cX2_distance 31 = .ok (.istore 6, 2) := by decide +kernel
theorem dX2_distance_33 : decode cX2_distance 33 = .ok (.iload 6, 2) := by decide +kernel
theorem dX2_distance_35 : decode cX2_distance 35 = .ok (.ifCond .lt 33, 3) := by decide +kernel
theorem dX2_distance_38 : decode cX2_distance 38 = .ok (.aload_n 0, 1) := by decide +kernel
theorem dX2_distance_39 : decode cX2_distance 39 = .ok (.getfield 20, 3) := by decide +kernel
theorem dX2_distance_42 : decode cX2_distance 42 = .ok (.iload 5, 2) := by decide +kernel
theorem dX2_distance_44 : decode cX2_distance 44 = .ok (.bipush 11, 2) := by decide +kernel
theorem dX2_distance_46 : decode cX2_distance 46 = .ok (.imul, 1) := by decide +kernel
theorem dX2_distance_47 : decode cX2_distance 47 = .ok (.iload 6, 2) := by decide +kernel
theorem dX2_distance_49 : decode cX2_distance 49 = .ok (.iadd, 1) := by decide +kernel
theorem dX2_distance_50 : decode cX2_distance 50 = .ok (.aload_n 0, 1) := by decide +kernel
theorem dX2_distance_51 : decode cX2_distance 51 = .ok (.aload_n 3, 1) := by decide +kernel
theorem dX2_distance_52 : decode cX2_distance 52 = .ok (.aload 4, 2) := by decide +kernel
theorem dX2_distance_54 : decode cX2_distance 54 = .ok (.iload 5, 2) := by decide +kernel
theorem dX2_distance_56 : decode cX2_distance 56 = .ok (.iload 6, 2) := by decide +kernel
theorem dX2_distance_58 : decode cX2_distance 58 = .ok (.invokevirtual 35, 3) := by decide +kernel
theorem dX2_distance_61 : decode cX2_distance 61 = .ok (.iastore, 1) := by decide +kernel
theorem dX2_distance_62 : decode cX2_distance 62 = .ok (.iinc 6 (-1), 3) := by decide +kernel
theorem dX2_distance_65 : decode cX2_distance 65 = .ok (.goto (-32), 3) := by decide +kernel
theorem dX2_distance_68 : decode cX2_distance 68 = .ok (.iinc 5 (-1), 3) := by decide +kernel
theorem dX2_distance_71 : decode cX2_distance 71 = .ok (.goto (-50), 3) := by decide +kernel
theorem dX2_distance_74 : decode cX2_distance 74 = .ok (.aload_n 0, 1) := by decide +kernel
theorem dX2_distance_75 : decode cX2_distance 75 = .ok (.getfield 20, 3) := by decide +kernel
theorem dX2_distance_78 : decode cX2_distance 78 = .ok (.iconst 0, 1) := by decide +kernel
theorem dX2_distance_79 : decode cX2_distance 79 = .ok (.iaload, 1) := by decide +kernel
theorem dX2_distance_80 : decode cX2_distance 80 = .ok (.ireturn, 1) := by decide +kernel
set_option maxRecDepth 20000 in
theorem ggX2_layOut_X2_distance : GoodIn wsX2_layOut wsX2_distance := goodIn_r _ [7, 1, 8, 9, 10, 11, 12, 13, 14, 15, 16, 17, 6, 18, 19, 20, 21, 22, 23, 24, 25, 26, 27, 28, 29, 30, 31, 32, 33, 34, 35, 36, 37, 42, 43, 44, 45, 46, 47] (by decide +kernel) (by decide +kernel)
set_option maxRecDepth 20000 in
theorem gX2_layOut_X2_distance : GoodIn wsX2_layOut (wsV RX2 39 RX2 yX2_distance wsX2_distance) := goodIn_app (goodIn_of _ (by decide +kernel)) ggX2_layOut_X2_distance
set_option maxRecDepth 20000 in
theorem ggX2_layOut_X4_has : GoodIn wsX2_layOut wsX4_has := goodIn_r _ [26, 14, 46, 47] (by decide +kernel) (by decide +kernel)
set_option maxRecDepth 20000 in
theorem gX2_layOut_X4_has : GoodIn wsX2_layOut (wsV RX2 43 RX4 yX4_has wsX4_has) := goodIn_app (goodIn_of _ (by decide +kernel)) ggX2_layOut_X4_has
set_option maxRecDepth 20000 in
theorem ggX2_layOut_X2_signAt : GoodIn wsX2_layOut wsX2_signAt := goodIn_r _ [41, 8, 23, 24, 25, 12, 26, 14, 27, 28, 29, 30, 31, 32, 33, 6, 34, 35, 36, 21, 37, 19, 20, 22, 42, 43, 44, 45, 46, 47] (by decide +kernel) (by decide +kernel)
set_option maxRecDepth 20000 in
theorem gX2_layOut_X2_signAt : GoodIn wsX2_layOut (wsV RX2 47 RX2 yX2_signAt wsX2_signAt) := goodIn_app (goodIn_of _ (by decide +kernel)) ggX2_layOut_X2_signAt
theorem dX2_layOut_0 : decode cX2_layOut 0 = .ok (.aload_n 0, 1) := by decide +kernel
theorem dX2_layOut_1 : decode cX2_layOut 1 = .ok (.iload_n 1, 1) := by decide +kernel
theorem dX2_layOut_2 : decode cX2_layOut 2 = .ok (.iload_n 2, 1) := by decide +kernel
theorem dX2_layOut_3 : decode cX2_layOut 3 = .ok (.invokevirtual 39, 3) := by decide +kernel
theorem dX2_layOut_6 : decode cX2_layOut 6 = .ok (.pop, 1) := by decide +kernel
theorem dX2_layOut_7 : decode cX2_layOut 7 = .ok (.aload_n 0, 1) := by decide +kernel
theorem dX2_layOut_8 : decode cX2_layOut 8 = .ok (.getfield 11, 3) := by decide +kernel
theorem dX2_layOut_11 : decode cX2_layOut 11 = .ok (.iload_n 1, 1) := by decide +kernel
theorem dX2_layOut_12 : decode cX2_layOut 12 = .ok (.aaload, 1) := by decide +kernel
theorem dX2_layOut_13 : decode cX2_layOut 13 = .ok (.astore_n 3, 1) := by decide +kernel
theorem dX2_layOut_14 : decode cX2_layOut 14 = .ok (.aload_n 0, 1) := by decide +kernel
theorem dX2_layOut_15 : decode cX2_layOut 15 = .ok (.getfield 11, 3) := by decide +kernel
theorem dX2_layOut_18 : decode cX2_layOut 18 = .ok (.iload_n 2, 1) := by decide +kernel
theorem dX2_layOut_19 : decode cX2_layOut 19 = .ok (.aaload, 1) := by decide +kernel
theorem dX2_layOut_20 : decode cX2_layOut 20 = .ok (.astore 4, 2) := by decide +kernel
theorem dX2_layOut_22 : decode cX2_layOut 22 = .ok (.iconst 0, 1) := by decide +kernel
theorem dX2_layOut_23 : decode cX2_layOut 23 = .ok (.istore 5, 2) := by decide +kernel
theorem dX2_layOut_25 : decode cX2_layOut 25 = .ok (.iconst 0, 1) := by decide +kernel
theorem dX2_layOut_26 : decode cX2_layOut 26 = .ok (.istore 6, 2) := by decide +kernel
theorem dX2_layOut_28 : decode cX2_layOut 28 = .ok (.iconst 0, 1) := by decide +kernel
theorem dX2_layOut_29 : decode cX2_layOut 29 = .ok (.istore 7, 2) := by decide +kernel
theorem dX2_layOut_31 : decode cX2_layOut 31 = .ok (.iload 7, 2) := by decide +kernel
theorem dX2_layOut_33 : decode cX2_layOut 33 = .ok (.aload_n 0, 1) := by decide +kernel
theorem dX2_layOut_34 : decode cX2_layOut 34 = .ok (.getfield 24, 3) := by decide +kernel
theorem dX2_layOut_37 : decode cX2_layOut 37 = .ok (.arraylength, 1) := by decide +kernel
theorem dX2_layOut_38 : decode cX2_layOut 38 = .ok (.if_icmp .ge 84, 3) := by decide +kernel
theorem dX2_layOut_41 : decode cX2_layOut 41 = .ok (.aload_n 3, 1) := by decide +kernel
theorem dX2_layOut_42 : decode cX2_layOut 42 = .ok (.iload 5, 2) := by decide +kernel
theorem dX2_layOut_44 : decode cX2_layOut 44 = .ok (.invokevirtual 43, 3) := by decide +kernel
theorem dX2_layOut_47 : decode cX2_layOut 47 = .ok (.ifCond .ne 13, 3) := by decide +kernel
theorem dX2_layOut_50 : decode cX2_layOut 50 = .ok (.aload 4, 2) := by decide +kernel
theorem dX2_layOut_52 : decode cX2_layOut 52 = .ok (.iload 6, 2) := by decide +kernel
theorem dX2_layOut_54 : decode cX2_layOut 54 = .ok (.invokevirtual 43, 3) := by decide +kernel
theorem dX2_layOut_57 : decode cX2_layOut 57 = .ok (.ifCond .eq 65, 3) := by decide +kernel
theorem dX2_layOut_60 : decode cX2_layOut 60 = .ok (.aload_n 0, 1) := by decide +kernel
theorem dX2_layOut_61 : decode cX2_layOut 61 = .ok (.aload_n 3, 1) := by decide +kernel
theorem dX2_layOut_62 : decode cX2_layOut 62 = .ok (.aload 4, 2) := by decide +kernel
theorem dX2_layOut_64 : decode cX2_layOut 64 = .ok (.iload 5, 2) := by decide +kernel
theorem dX2_layOut_66 : decode cX2_layOut 66 = .ok (.iload 6, 2) := by decide +kernel
theorem dX2_layOut_68 : decode cX2_layOut 68 = .ok (.invokevirtual 47, 3) := by decide +kernel
theorem dX2_layOut_71 : decode cX2_layOut 71 = .ok (.istore 8, 2) := by decide +kernel
theorem dX2_layOut_73 : decode cX2_layOut 73 = .ok (.aload_n 0, 1) := by decide +kernel
theorem dX2_layOut_74 : decode cX2_layOut 74 = .ok (.getfield 24, 3) := by decide +kernel
theorem dX2_layOut_77 : decode cX2_layOut 77 = .ok (.iload 7, 2) := by decide +kernel
theorem dX2_layOut_79 : decode cX2_layOut 79 = .ok (.iload 8, 2) := by decide +kernel
theorem dX2_layOut_81 : decode cX2_layOut 81 = .ok (.castore, 1) := by decide +kernel
theorem dX2_layOut_82 : decode cX2_layOut 82 = .ok (.iinc 7 1, 3) := by decide +kernel
theorem dX2_layOut_85 : decode cX2_layOut 85 = .ok (.iload 5, 2) := by decide +kernel
theorem dX2_layOut_87 : decode cX2_layOut 87 = .ok (.iload 8, 2) := by decide +kernel
theorem dX2_layOut_89 : decode cX2_layOut 89 = .ok (.bipush 50, 2) := by decide +kernel
theorem dX2_layOut_91 : decode cX2_layOut 91 = .ok (.if_icmp .ne 7, 3) := by decide +kernel
theorem dX2_layOut_94 : decode cX2_layOut 94 = .ok (.iconst 0, 1) := by decide +kernel
theorem dX2_layOut_95 : decode cX2_layOut 95 = .ok (.goto 4, 3) := by decide +kernel
theorem dX2_layOut_98 : decode cX2_layOut 98 = .ok (.iconst 1, 1) := by decide +kernel
theorem dX2_layOut_99 : decode cX2_layOut 99 = .ok (.iadd, 1) := by decide +kernel
theorem dX2_layOut_100 : decode cX2_layOut 100 = .ok (.istore 5, 2) := by decide +kernel
theorem dX2_layOut_102 : decode cX2_layOut 102 = .ok (.iload 6, 2) := by decide +kernel
theorem dX2_layOut_104 : decode cX2_layOut 104 = .ok (.iload 8, 2) := by decide +kernel
theorem dX2_layOut_106 : decode cX2_layOut 106 = .ok (.bipush 49, 2) := by decide +kernel
theorem dX2_layOut_108 : decode cX2_layOut 108 = .ok (.if_icmp .ne 7, 3) := by decide +kernel
theorem dX2_layOut_111 : decode cX2_layOut 111 = .ok (.iconst 0, 1) := by decide +kernel
theorem dX2_layOut_112 : decode cX2_layOut 112 = .ok (.goto 4, 3) := by decide +kernel
theorem dX2_layOut_115 : decode cX2_layOut 115 = .ok (.iconst 1, 1) := by decide +kernel
theorem dX2_layOut_116 : decode cX2_layOut 116 = .ok (.iadd, 1) := by decide +kernel
theorem dX2_layOut_117 : decode cX2_layOut 117 = .ok (.istore 6, 2) := by decide +kernel
theorem dX2_layOut_119 : decode cX2_layOut 119 = .ok (.goto (-88), 3) := by decide +kernel
theorem dX2_layOut_122 : decode cX2_layOut 122 = .ok (.iload 7, 2) := by decide +kernel
theorem dX2_layOut_124 : decode cX2_layOut 124 = .ok (.ireturn, 1) := by decide +kernel
set_option maxRecDepth 20000 in
theorem ggX2_leastFrom_X4_has : GoodIn wsX2_leastFrom wsX4_has := goodIn_r _ [10, 11, 32, 33] (by decide +kernel) (by decide +kernel)
set_option maxRecDepth 20000 in
theorem gX2_leastFrom_X4_has : GoodIn wsX2_leastFrom (wsV RX2 43 RX4 yX4_has wsX4_has) := goodIn_app (goodIn_of _ (by decide +kernel)) ggX2_leastFrom_X4_has
set_option maxRecDepth 20000 in
theorem ggX2_leastFrom_X4_many : GoodIn wsX2_leastFrom wsX4_many := goodIn_r _ [15, 11, 32, 33] (by decide +kernel) (by decide +kernel)
set_option maxRecDepth 20000 in
theorem gX2_leastFrom_X4_many : GoodIn wsX2_leastFrom (wsV RX2 32 RX4 yX4_many wsX4_many) := goodIn_app (goodIn_of _ (by decide +kernel)) ggX2_leastFrom_X4_many
set_option maxRecDepth 20000 in
theorem ggX2_leastFrom_X4_at : GoodIn wsX2_leastFrom wsX4_at := goodIn_r _ [19, 11, 20, 32, 33] (by decide +kernel) (by decide +kernel)
set_option maxRecDepth 20000 in
theorem gX2_leastFrom_X4_at : GoodIn wsX2_leastFrom (wsV RX2 56 RX4 yX4_at wsX4_at) := goodIn_app (goodIn_of _ (by decide +kernel)) ggX2_leastFrom_X4_at
set_option maxRecDepth 20000 in
theorem ggX2_leastFrom_X2_together : GoodIn wsX2_leastFrom wsX2_together := goodIn_r _ [24, 25, 26, 4, 27, 2, 3, 5] (by decide +kernel) (by decide +kernel)
set_option maxRecDepth 20000 in
theorem gX2_leastFrom_X2_together : GoodIn wsX2_leastFrom (va_wsS RX2 60 yX2_together wsX2_together) := goodIn_app (goodIn_of _ (by decide +kernel)) ggX2_leastFrom_X2_together
theorem dX2_leastFrom_0 : decode cX2_leastFrom 0 = .ok (.aload_n 1, 1) := by decide +kernel
theorem dX2_leastFrom_1 : decode cX2_leastFrom 1 = .ok (.iload_n 3, 1) := by decide +kernel
theorem dX2_leastFrom_2 : decode cX2_leastFrom 2 = .ok (.invokevirtual 43, 3) := by decide +kernel
theorem dX2_leastFrom_5 : decode cX2_leastFrom 5 = .ok (.ifCond .ne 13, 3) := by decide +kernel
theorem dX2_leastFrom_8 : decode cX2_leastFrom 8 = .ok (.iconst 2, 1) := by decide +kernel
theorem dX2_leastFrom_9 : decode cX2_leastFrom 9 = .ok (.aload_n 2, 1) := by decide +kernel
theorem dX2_leastFrom_10 : decode cX2_leastFrom 10 = .ok (.invokevirtual 32, 3) := by decide +kernel
theorem dX2_leastFrom_13 : decode cX2_leastFrom 13 = .ok (.iload 4, 2) := by decide +kernel
theorem dX2_leastFrom_15 : decode cX2_leastFrom 15 = .ok (.isub, 1) := by decide +kernel
theorem dX2_leastFrom_16 : decode cX2_leastFrom 16 = .ok (.imul, 1) := by decide +kernel
theorem dX2_leastFrom_17 : decode cX2_leastFrom 17 = .ok (.ireturn, 1) := by decide +kernel
theorem dX2_leastFrom_18 : decode cX2_leastFrom 18 = .ok (.aload_n 2, 1) := by decide +kernel
theorem dX2_leastFrom_19 : decode cX2_leastFrom 19 = .ok (.iload 4, 2) := by decide +kernel
theorem dX2_leastFrom_21 : decode cX2_leastFrom 21 = .ok (.invokevirtual 43, 3) := by decide +kernel
theorem dX2_leastFrom_24 : decode cX2_leastFrom 24 = .ok (.ifCond .ne 12, 3) := by decide +kernel
theorem dX2_leastFrom_27 : decode cX2_leastFrom 27 = .ok (.iconst 2, 1) := by decide +kernel
theorem dX2_leastFrom_28 : decode cX2_leastFrom 28 = .ok (.aload_n 1, 1) := by decide +kernel
theorem dX2_leastFrom_29 : decode cX2_leastFrom 29 = .ok (.invokevirtual 32, 3) := by decide +kernel
theorem dX2_leastFrom_32 : decode cX2_leastFrom 32 = .ok (.iload_n 3, 1) := by decide +kernel
theorem dX2_leastFrom_33 : decode cX2_leastFrom 33 = .ok (.isub, 1) := by decide +kernel
theorem dX2_leastFrom_34 : decode cX2_leastFrom 34 = .ok (.imul, 1) := by decide +kernel
theorem dX2_leastFrom_35 : decode cX2_leastFrom 35 = .ok (.ireturn, 1) := by decide +kernel
theorem dX2_leastFrom_36 : decode cX2_leastFrom 36 = .ok (.iload_n 3, 1) := by decide +kernel
theorem dX2_leastFrom_37 : decode cX2_leastFrom 37 = .ok (.bipush 11, 2) := by decide +kernel
theorem dX2_leastFrom_39 : decode cX2_leastFrom 39 = .ok (.imul, 1) := by decide +kernel
theorem dX2_leastFrom_40 : decode cX2_leastFrom 40 = .ok (.iload 4, 2) := by decide +kernel
theorem dX2_leastFrom_42 : decode cX2_leastFrom 42 = .ok (.iadd, 1) := by decide +kernel
theorem dX2_leastFrom_43 : decode cX2_leastFrom 43 = .ok (.istore 5, 2) := by decide +kernel
theorem dX2_leastFrom_45 : decode cX2_leastFrom 45 = .ok (.iconst 2, 1) := by decide +kernel
theorem dX2_leastFrom_46 : decode cX2_leastFrom 46 = .ok (.aload_n 0, 1) := by decide +kernel
theorem dX2_leastFrom_47 : decode cX2_leastFrom 47 = .ok (.getfield 20, 3) := by decide +kernel
theorem dX2_leastFrom_50 : decode cX2_leastFrom 50 = .ok (.iload 5, 2) := by decide +kernel
theorem dX2_leastFrom_52 : decode cX2_leastFrom 52 = .ok (.bipush 11, 2) := by decide +kernel
theorem dX2_leastFrom_54 : decode cX2_leastFrom 54 = .ok (.iadd, 1) := by decide +kernel
theorem dX2_leastFrom_55 : decode cX2_leastFrom 55 = .ok (.iaload, 1) := by decide +kernel
theorem dX2_leastFrom_56 : decode cX2_leastFrom 56 = .ok (.aload_n 0, 1) := by decide +kernel
theorem dX2_leastFrom_57 : decode cX2_leastFrom 57 = .ok (.getfield 20, 3) := by decide +kernel
theorem dX2_leastFrom_60 : decode cX2_leastFrom 60 = .ok (.iload 5, 2) := by decide +kernel
theorem dX2_leastFrom_62 : decode cX2_leastFrom 62 = .ok (.iconst 1, 1) := by decide +kernel
theorem dX2_leastFrom_63 : decode cX2_leastFrom 63 = .ok (.iadd, 1) := by decide +kernel
theorem dX2_leastFrom_64 : decode cX2_leastFrom 64 = .ok (.iaload, 1) := by decide +kernel
theorem dX2_leastFrom_65 : decode cX2_leastFrom 65 = .ok (.invokestatic 51, 3) := by decide +kernel
theorem dX2_leastFrom_68 : decode cX2_leastFrom 68 = .ok (.iadd, 1) := by decide +kernel
theorem dX2_leastFrom_69 : decode cX2_leastFrom 69 = .ok (.istore 6, 2) := by decide +kernel
theorem dX2_leastFrom_71 : decode cX2_leastFrom 71 = .ok (.aload_n 1, 1) := by decide +kernel
theorem dX2_leastFrom_72 : decode cX2_leastFrom 72 = .ok (.iload_n 3, 1) := by decide +kernel
theorem dX2_leastFrom_73 : decode cX2_leastFrom 73 = .ok (.invokevirtual 56, 3) := by decide +kernel
theorem dX2_leastFrom_76 : decode cX2_leastFrom 76 = .ok (.aload_n 2, 1) := by decide +kernel
theorem dX2_leastFrom_77 : decode cX2_leastFrom 77 = .ok (.iload 4, 2) := by decide +kernel
theorem dX2_leastFrom_79 : decode cX2_leastFrom 79 = .ok (.invokevirtual 56, 3) := by decide +kernel
theorem dX2_leastFrom_82 : decode cX2_leastFrom 82 = .ok (.invokestatic 60, 3) := by decide +kernel
theorem dX2_leastFrom_85 : decode cX2_leastFrom 85 = .ok (.aload_n 0, 1) := by decide +kernel
theorem dX2_leastFrom_86 : decode cX2_leastFrom 86 = .ok (.getfield 20, 3) := by decide +kernel
theorem dX2_leastFrom_89 : decode cX2_leastFrom 89 = .ok (.iload 5, 2) := by decide +kernel
theorem dX2_leastFrom_91 : decode cX2_leastFrom 91 = .ok (.bipush 11, 2) := by decide +kernel
theorem dX2_leastFrom_93 : decode cX2_leastFrom 93 = .ok (.iadd, 1) := by decide +kernel
theorem dX2_leastFrom_94 : decode cX2_leastFrom 94 = .ok (.iconst 1, 1) := by decide +kernel
theorem dX2_leastFrom_95 : decode cX2_leastFrom 95 = .ok (.iadd, 1) := by decide +kernel
theorem dX2_leastFrom_96 : decode cX2_leastFrom 96 = .ok (.iaload, 1) := by decide +kernel
theorem dX2_leastFrom_97 : decode cX2_leastFrom 97 = .ok (.iadd, 1) := by decide +kernel
theorem dX2_leastFrom_98 : decode cX2_leastFrom 98 = .ok (.iload 6, 2) := by decide +kernel
theorem dX2_leastFrom_100 : decode cX2_leastFrom 100 = .ok (.invokestatic 51, 3) := by decide +kernel
theorem dX2_leastFrom_103 : decode cX2_leastFrom 103 = .ok (.ireturn, 1) := by decide +kernel
set_option maxRecDepth 20000 in
theorem ggX2_signAt_X4_has : GoodIn wsX2_signAt wsX4_has := goodIn_r _ [6, 7, 28, 29] (by decide +kernel) (by decide +kernel)
set_option maxRecDepth 20000 in
theorem gX2_signAt_X4_has : GoodIn wsX2_signAt (wsV RX2 43 RX4 yX4_has wsX4_has) := goodIn_app (goodIn_of _ (by decide +kernel)) ggX2_signAt_X4_has
set_option maxRecDepth 20000 in
theorem ggX2_signAt_X4_at : GoodIn wsX2_signAt wsX4_at := goodIn_r _ [11, 7, 12, 28, 29] (by decide +kernel) (by decide +kernel)
set_option maxRecDepth 20000 in
theorem gX2_signAt_X4_at : GoodIn wsX2_signAt (wsV RX2 56 RX4 yX4_at wsX4_at) := goodIn_app (goodIn_of _ (by decide +kernel)) ggX2_signAt_X4_at
set_option maxRecDepth 20000 in
theorem ggX2_signAt_X2_together : GoodIn wsX2_signAt wsX2_together := goodIn_r _ [16, 17, 18, 19, 20, 21, 22, 23] (by decide +kernel) (by decide +kernel)
set_option maxRecDepth 20000 in
theorem gX2_signAt_X2_together : GoodIn wsX2_signAt (va_wsS RX2 60 yX2_together wsX2_together) := goodIn_app (goodIn_of _ (by decide +kernel)) ggX2_signAt_X2_together
theorem dX2_signAt_0 : decode cX2_signAt 0 = .ok (.iload_n 3, 1) := by decide +kernel
theorem dX2_signAt_1 : decode cX2_signAt 1 = .ok (.bipush 11, 2) := by decide +kernel
theorem dX2_signAt_3 : decode cX2_signAt 3 = .ok (.imul, 1) := by decide +kernel
theorem dX2_signAt_4 : decode cX2_signAt 4 = .ok (.iload 4, 2) := by decide +kernel
theorem dX2_signAt_6 : decode cX2_signAt 6 = .ok (.iadd, 1) := by decide +kernel
theorem dX2_signAt_7 : decode cX2_signAt 7 = .ok (.istore 5, 2) := by decide +kernel
theorem dX2_signAt_9 : decode cX2_signAt 9 = .ok (.aload_n 1, 1) := by decide +kernel
theorem dX2_signAt_10 : decode cX2_signAt 10 = .ok (.iload_n 3, 1) := by decide +kernel
theorem dX2_signAt_11 : decode cX2_signAt 11 = .ok (.invokevirtual 43, 3) := by decide +kernel
theorem dX2_signAt_14 : decode cX2_signAt 14 = .ok (.ifCond .eq 71, 3) := by decide +kernel
theorem dX2_signAt_17 : decode cX2_signAt 17 = .ok (.aload_n 2, 1) := by decide +kernel
theorem dX2_signAt_18 : decode cX2_signAt 18 = .ok (.iload 4, 2) := by decide +kernel
theorem dX2_signAt_20 : decode cX2_signAt 20 = .ok (.invokevirtual 43, 3) := by decide +kernel
theorem dX2_signAt_23 : decode cX2_signAt 23 = .ok (.ifCond .eq 62, 3) := by decide +kernel
theorem dX2_signAt_26 : decode cX2_signAt 26 = .ok (.aload_n 0, 1) := by decide +kernel
theorem dX2_signAt_27 : decode cX2_signAt 27 = .ok (.getfield 20, 3) := by decide +kernel
theorem dX2_signAt_30 : decode cX2_signAt 30 = .ok (.iload 5, 2) := by decide +kernel
theorem dX2_signAt_32 : decode cX2_signAt 32 = .ok (.iaload, 1) := by decide +kernel
theorem dX2_signAt_33 : decode cX2_signAt 33 = .ok (.aload_n 1, 1) := by decide +kernel
theorem dX2_signAt_34 : decode cX2_signAt 34 = .ok (.iload_n 3, 1) := by decide +kernel
theorem dX2_signAt_35 : decode cX2_signAt 35 = .ok (.invokevirtual 56, 3) := by decide +kernel
theorem dX2_signAt_38 : decode cX2_signAt 38 = .ok (.aload_n 2, 1) := by decide +kernel
theorem dX2_signAt_39 : decode cX2_signAt 39 = .ok (.iload 4, 2) := by decide +kernel
theorem dX2_signAt_41 : decode cX2_signAt 41 = .ok (.invokevirtual 56, 3) := by decide +kernel
theorem dX2_signAt_44 : decode cX2_signAt 44 = .ok (.invokestatic 60, 3) := by decide +kernel
theorem dX2_signAt_47 : decode cX2_signAt 47 = .ok (.aload_n 0, 1) := by decide +kernel
theorem dX2_signAt_48 : decode cX2_signAt 48 = .ok (.getfield 20, 3) := by decide +kernel
theorem dX2_signAt_51 : decode cX2_signAt 51 = .ok (.iload 5, 2) := by decide +kernel
theorem dX2_signAt_53 : decode cX2_signAt 53 = .ok (.bipush 11, 2) := by decide +kernel
theorem dX2_signAt_55 : decode cX2_signAt 55 = .ok (.iadd, 1) := by decide +kernel
theorem dX2_signAt_56 : decode cX2_signAt 56 = .ok (.iconst 1, 1) := by decide +kernel
theorem dX2_signAt_57 : decode cX2_signAt 57 = .ok (.iadd, 1) := by decide +kernel
theorem dX2_signAt_58 : decode cX2_signAt 58 = .ok (.iaload, 1) := by decide +kernel
theorem dX2_signAt_59 : decode cX2_signAt 59 = .ok (.iadd, 1) := by decide +kernel
theorem dX2_signAt_60 : decode cX2_signAt 60 = .ok (.if_icmp .ne 25, 3) := by decide +kernel
theorem dX2_signAt_63 : decode cX2_signAt 63 = .ok (.aload_n 1, 1) := by decide +kernel
theorem dX2_signAt_64 : decode cX2_signAt 64 = .ok (.iload_n 3, 1) := by decide +kernel
theorem dX2_signAt_65 : decode cX2_signAt 65 = .ok (.invokevirtual 56, 3) := by decide +kernel
theorem dX2_signAt_68 : decode cX2_signAt 68 = .ok (.aload_n 2, 1) := by decide +kernel
theorem dX2_signAt_69 : decode cX2_signAt 69 = .ok (.iload 4, 2) := by decide +kernel
theorem dX2_signAt_71 : decode cX2_signAt 71 = .ok (.invokevirtual 56, 3) := by decide +kernel
theorem dX2_signAt_74 : decode cX2_signAt 74 = .ok (.if_icmp .ne 8, 3) := by decide +kernel
theorem dX2_signAt_77 : decode cX2_signAt 77 = .ok (.bipush 61, 2) := by decide +kernel
theorem dX2_signAt_79 : decode cX2_signAt 79 = .ok (.goto 5, 3) := by decide +kernel
theorem dX2_signAt_82 : decode cX2_signAt 82 = .ok (.bipush 126, 2) := by decide +kernel
theorem dX2_signAt_84 : decode cX2_signAt 84 = .ok (.ireturn, 1) := by decide +kernel
theorem dX2_signAt_85 : decode cX2_signAt 85 = .ok (.aload_n 1, 1) := by decide +kernel
theorem dX2_signAt_86 : decode cX2_signAt 86 = .ok (.iload_n 3, 1) := by decide +kernel
theorem dX2_signAt_87 : decode cX2_signAt 87 = .ok (.invokevirtual 43, 3) := by decide +kernel
theorem dX2_signAt_90 : decode cX2_signAt 90 = .ok (.ifCond .eq 30, 3) := by decide +kernel
theorem dX2_signAt_93 : decode cX2_signAt 93 = .ok (.aload_n 0, 1) := by decide +kernel
theorem dX2_signAt_94 : decode cX2_signAt 94 = .ok (.getfield 20, 3) := by decide +kernel
theorem dX2_signAt_97 : decode cX2_signAt 97 = .ok (.iload 5, 2) := by decide +kernel
theorem dX2_signAt_99 : decode cX2_signAt 99 = .ok (.iaload, 1) := by decide +kernel
theorem dX2_signAt_100 : decode cX2_signAt 100 = .ok (.iconst 2, 1) := by decide +kernel
theorem dX2_signAt_101 : decode cX2_signAt 101 = .ok (.aload_n 0, 1) := by decide +kernel
theorem dX2_signAt_102 : decode cX2_signAt 102 = .ok (.getfield 20, 3) := by decide +kernel
theorem dX2_signAt_105 : decode cX2_signAt 105 = .ok (.iload 5, 2) := by decide +kernel
theorem dX2_signAt_107 : decode cX2_signAt 107 = .ok (.bipush 11, 2) := by decide +kernel
theorem dX2_signAt_109 : decode cX2_signAt 109 = .ok (.iadd, 1) := by decide +kernel
theorem dX2_signAt_110 : decode cX2_signAt 110 = .ok (.iaload, 1) := by decide +kernel
theorem dX2_signAt_111 : decode cX2_signAt 111 = .ok (.iadd, 1) := by decide +kernel
theorem dX2_signAt_112 : decode cX2_signAt 112 = .ok (.if_icmp .ne 8, 3) := by decide +kernel
theorem dX2_signAt_115 : decode cX2_signAt 115 = .ok (.bipush 49, 2) := by decide +kernel
theorem dX2_signAt_117 : decode cX2_signAt 117 = .ok (.goto 5, 3) := by decide +kernel
theorem dX2_signAt_120 : decode cX2_signAt 120 = .ok (.bipush 50, 2) := by decide +kernel
theorem dX2_signAt_122 : decode cX2_signAt 122 = .ok (.ireturn, 1) := by decide +kernel
theorem dX2_together_0 : decode cX2_together 0 = .ok (.iload_n 0, 1) := by decide +kernel
theorem dX2_together_1 : decode cX2_together 1 = .ok (.iload_n 1, 1) := by decide +kernel
theorem dX2_together_2 : decode cX2_together 2 = .ok (.isub, 1) := by decide +kernel
theorem dX2_together_3 : decode cX2_together 3 = .ok (.invokestatic 63, 3) := by decide +kernel
theorem dX2_together_6 : decode cX2_together 6 = .ok (.iconst 4, 1) := by decide +kernel
theorem dX2_together_7 : decode cX2_together 7 = .ok (.invokestatic 51, 3) := by decide +kernel
theorem dX2_together_10 : decode cX2_together 10 = .ok (.ireturn, 1) := by decide +kernel
theorem dX3_init_0 : decode cX3_init 0 = .ok (.aload_n 0, 1) := by decide +kernel
theorem dX3_init_1 : decode cX3_init 1 = .ok (.invokespecial 3, 3) := by decide +kernel
theorem dX3_init_4 : decode cX3_init 4 = .ok (.aload_n 0, 1) := by decide +kernel
theorem dX3_init_5 : decode cX3_init 5 = .ok (.sipush 300, 3) := by decide +kernel
theorem dX3_init_8 : decode cX3_init 8 = .ok (.newarray .int, 2) := by decide +kernel
theorem dX3_init_10 : decode cX3_init 10 = .ok (.putfield 11, 3) := by decide +kernel
theorem dX3_init_13 : decode cX3_init 13 = .ok (.aload_n 0, 1) := by decide +kernel
theorem dX3_init_14 : decode cX3_init 14 = .ok (.bipush 60, 2) := by decide +kernel
theorem dX3_init_16 : decode cX3_init 16 = .ok (.newarray .int, 2) := by decide +kernel
theorem dX3_init_18 : decode cX3_init 18 = .ok (.putfield 15, 3) := by decide +kernel
theorem dX3_init_21 : decode cX3_init 21 = .ok (.aload_n 0, 1) := by decide +kernel
theorem dX3_init_22 : decode cX3_init 22 = .ok (.bipush 60, 2) := by decide +kernel
theorem dX3_init_24 : decode cX3_init 24 = .ok (.newarray .int, 2) := by decide +kernel
theorem dX3_init_26 : decode cX3_init 26 = .ok (.putfield 18, 3) := by decide +kernel
theorem dX3_init_29 : decode cX3_init 29 = .ok (.aload_n 0, 1) := by decide +kernel
theorem dX3_init_30 : decode cX3_init 30 = .ok (.bipush 60, 2) := by decide +kernel
theorem dX3_init_32 : decode cX3_init 32 = .ok (.newarray .int, 2) := by decide +kernel
theorem dX3_init_34 : decode cX3_init 34 = .ok (.putfield 21, 3) := by decide +kernel
theorem dX3_init_37 : decode cX3_init 37 = .ok (.aload_n 0, 1) := by decide +kernel
theorem dX3_init_38 : decode cX3_init 38 = .ok (.bipush 60, 2) := by decide +kernel
theorem dX3_init_40 : decode cX3_init 40 = .ok (.newarray .int, 2) := by decide +kernel
theorem dX3_init_42 : decode cX3_init 42 = .ok (.putfield 24, 3) := by decide +kernel
theorem dX3_init_45 : decode cX3_init 45 = .ok (.aload_n 0, 1) := by decide +kernel
theorem dX3_init_46 : decode cX3_init 46 = .ok (.bipush 60, 2) := by decide +kernel
theorem dX3_init_48 : decode cX3_init 48 = .ok (.newarray .int, 2) := by decide +kernel
theorem dX3_init_50 : decode cX3_init 50 = .ok (.putfield 27, 3) := by decide +kernel
theorem dX3_init_53 : decode cX3_init 53 = .ok (.aload_n 0, 1) := by decide +kernel
theorem dX3_init_54 : decode cX3_init 54 = .ok (.iconst 0, 1) := by decide +kernel
theorem dX3_init_55 : decode cX3_init 55 = .ok (.putfield 30, 3) := by decide +kernel
theorem dX3_init_58 : decode cX3_init 58 = .ok (.aload_n 0, 1) := by decide +kernel
theorem dX3_init_59 : decode cX3_init 59 = .ok (.iconst 0, 1) := by decide +kernel
theorem dX3_init_60 : decode cX3_init 60 = .ok (.putfield 34, 3) := by decide +kernel
theorem dX3_init_63 : decode cX3_init 63 = .ok (.aload_n 0, 1) := by decide +kernel
theorem dX3_init_64 : decode cX3_init 64 = .ok (.iconst 0, 1) := by decide +kernel
theorem dX3_init_65 : decode cX3_init 65 = .ok (.putfield 37, 3) := by decide +kernel
theorem dX3_init_68 : decode cX3_init 68 = .ok (.return_, 1) := by decide +kernel
theorem dX3_forget_0 : decode cX3_forget 0 = .ok (.aload_n 0, 1) := by decide +kernel
theorem dX3_forget_1 : decode cX3_forget 1 = .ok (.iconst 0, 1) := by decide +kernel
theorem dX3_forget_2 : decode cX3_forget 2 = .ok (.putfield 37, 3) := by decide +kernel
theorem dX3_forget_5 : decode cX3_forget 5 = .ok (.return_, 1) := by decide +kernel
