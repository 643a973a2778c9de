set_option maxRecDepth 20000 in
theorem ggX3_find_X3_leastCost : GoodIn wsX3_find wsX3_leastCost := goodIn_r _ [11, 12, 13, 14, 15, 16, 17, 18, 19, 20, 21, 22, 23, 24, 25, 26, 10, 27, 28, 29, 30, 31, 32, 33, 34, 55, 56, 57, 58, 59, 60, 61, 62, 63, 64, 65] (by decide +kernel) (by decide +kernel)
set_option maxRecDepth 20000 in
theorem gX3_find_X3_leastCost : GoodIn wsX3_find (wsV RX3 41 RX3 yX3_leastCost wsX3_leastCost) := goodIn_app (goodIn_of _ (by decide +kernel)) ggX3_find_X3_leastCost
set_option maxRecDepth 20000 in
theorem ggX3_find_X3_tracePath : GoodIn wsX3_find wsX3_tracePath := goodIn_r _ [38, 39, 13, 14, 15, 16, 17, 18, 31, 32, 33, 10, 34, 12, 19, 20, 21, 22, 23, 24, 25, 26, 27, 28, 29, 30, 55, 56, 57, 58, 59, 60, 61, 62, 63, 64, 65] (by decide +kernel) (by decide +kernel)
set_option maxRecDepth 20000 in
theorem gX3_find_X3_tracePath : GoodIn wsX3_find (wsV RX3 45 RX3 yX3_tracePath wsX3_tracePath) := goodIn_app (goodIn_of _ (by decide +kernel)) ggX3_find_X3_tracePath
set_option maxRecDepth 20000 in
theorem ggX3_find_X4_many : GoodIn wsX3_find wsX4_many := goodIn_r _ [17, 18, 64, 65] (by decide +kernel) (by decide +kernel)
set_option maxRecDepth 20000 in
theorem gX3_find_X4_many : GoodIn wsX3_find (wsV RX3 49 RX4 yX4_many wsX4_many) := goodIn_app (goodIn_of _ (by decide +kernel)) ggX3_find_X4_many
set_option maxRecDepth 20000 in
theorem ggX3_find_X3_gatherFrames : GoodIn wsX3_find wsX3_gatherFrames := goodIn_r _ [43, 3, 5, 44, 6, 45, 46, 47, 10, 48, 39, 55, 56, 57, 58, 59, 60, 61, 62, 63] (by decide +kernel) (by decide +kernel)
set_option maxRecDepth 20000 in
theorem gX3_find_X3_gatherFrames : GoodIn wsX3_find (wsV RX3 55 RX3 yX3_gatherFrames wsX3_gatherFrames) := goodIn_app (goodIn_of _ (by decide +kernel)) ggX3_find_X3_gatherFrames
set_option maxRecDepth 20000 in
theorem ggX3_find_X3_commonLook : GoodIn wsX3_find wsX3_commonLook := goodIn_r _ [51, 19, 20, 21, 16, 22, 18, 23, 52, 53, 10, 54, 64, 65] (by decide +kernel) (by decide +kernel)
set_option maxRecDepth 20000 in
theorem gX3_find_X3_commonLook : GoodIn wsX3_find (va_wsS RX3 59 yX3_commonLook wsX3_commonLook) := goodIn_app (goodIn_of _ (by decide +kernel)) ggX3_find_X3_commonLook
theorem dX3_find_0 : decode cX3_find 0 = .ok (.aload_n 0, 1) := by decide +kernel
theorem dX3_find_1 : decode cX3_find 1 = .ok (.getfield 37, 3) := by decide +kernel
theorem dX3_find_4 : decode cX3_find 4 = .ok (.ifCond .eq 4, 3) := by decide +kernel
theorem dX3_find_7 : decode cX3_find 7 = .ok (.return_, 1) := by decide +kernel
theorem dX3_find_8 : decode cX3_find 8 = .ok (.aload_n 0, 1) := by decide +kernel
theorem dX3_find_9 : decode cX3_find 9 = .ok (.aload_n 0, 1) := by decide +kernel
theorem dX3_find_10 : decode cX3_find 10 = .ok (.aload_n 1, 1) := by decide +kernel
theorem dX3_find_11 : decode cX3_find 11 = .ok (.iload_n 2, 1) := by decide +kernel
theorem dX3_find_12 : decode cX3_find 12 = .ok (.invokevirtual 41, 3) := by decide +kernel
theorem dX3_find_15 : decode cX3_find 15 = .ok (.putfield 30, 3) := by decide +kernel
theorem dX3_find_18 : decode cX3_find 18 = .ok (.aload_n 0, 1) := by decide +kernel
theorem dX3_find_19 : decode cX3_find 19 = .ok (.aload_n 1, 1) := by decide +kernel
theorem dX3_find_20 : decode cX3_find 20 = .ok (.iload_n 2, 1) := by decide +kernel
theorem dX3_find_21 : decode cX3_find 21 = .ok (.invokevirtual 45, 3) := by decide +kernel
theorem dX3_find_24 : decode cX3_find 24 = .ok (.aload_n 0, 1) := by decide +kernel
theorem dX3_find_25 : decode cX3_find 25 = .ok (.aload_n 1, 1) := by decide +kernel
theorem dX3_find_26 : decode cX3_find 26 = .ok (.invokevirtual 49, 3) := by decide +kernel
theorem dX3_find_29 : decode cX3_find 29 = .ok (.invokevirtual 55, 3) := by decide +kernel
theorem dX3_find_32 : decode cX3_find 32 = .ok (.iconst 0, 1) := by decide +kernel
theorem dX3_find_33 : decode cX3_find 33 = .ok (.istore_n 3, 1) := by decide +kernel
theorem dX3_find_34 : decode cX3_find 34 = .ok (.iload_n 3, 1) := by decide +kernel
theorem dX3_find_35 : decode cX3_find 35 = .ok (.aload_n 0, 1) := by decide +kernel
theorem dX3_find_36 : decode cX3_find 36 = .ok (.getfield 34, 3) := by decide +kernel
theorem dX3_find_39 : decode cX3_find 39 = .ok (.if_icmp .ge 31, 3) := by decide +kernel
theorem dX3_find_42 : decode cX3_find 42 = .ok (.aload_n 0, 1) := by decide +kernel
theorem dX3_find_43 : decode cX3_find 43 = .ok (.getfield 27, 3) := by decide +kernel
theorem dX3_find_46 : decode cX3_find 46 = .ok (.iload_n 3, 1) := by decide +kernel
theorem dX3_find_47 : decode cX3_find 47 = .ok (.aload_n 1, 1) := by decide +kernel
theorem dX3_find_48 : decode cX3_find 48 = .ok (.aload_n 0, 1) := by decide +kernel
theorem dX3_find_49 : decode cX3_find 49 = .ok (.getfield 21, 3) := by decide +kernel
theorem dX3_find_52 : decode cX3_find 52 = .ok (.iload_n 3, 1) := by decide +kernel
theorem dX3_find_53 : decode cX3_find 53 = .ok (.iaload, 1) := by decide +kernel
theorem dX3_find_54 : decode cX3_find 54 = .ok (.aload_n 0, 1) := by decide +kernel
theorem dX3_find_55 : decode cX3_find 55 = .ok (.getfield 24, 3) := by decide +kernel
theorem dX3_find_58 : decode cX3_find 58 = .ok (.iload_n 3, 1) := by decide +kernel
theorem dX3_find_59 : decode cX3_find 59 = .ok (.iaload, 1) := by decide +kernel
theorem dX3_find_60 : decode cX3_find 60 = .ok (.invokestatic 59, 3) := by decide +kernel
theorem dX3_find_63 : decode cX3_find 63 = .ok (.iastore, 1) := by decide +kernel
theorem dX3_find_64 : decode cX3_find 64 = .ok (.iinc 3 1, 3) := by decide +kernel
theorem dX3_find_67 : decode cX3_find 67 = .ok (.goto (-33), 3) := by decide +kernel
theorem dX3_find_70 : decode cX3_find 70 = .ok (.aload_n 0, 1) := by decide +kernel
theorem dX3_find_71 : decode cX3_find 71 = .ok (.iconst 1, 1) := by decide +kernel
theorem dX3_find_72 : decode cX3_find 72 = .ok (.putfield 37, 3) := by decide +kernel
theorem dX3_find_75 : decode cX3_find 75 = .ok (.return_, 1) := by decide +kernel
set_option maxRecDepth 20000 in
theorem ggX3_leastCost_X4_many : GoodIn wsX3_leastCost wsX4_many := goodIn_r _ [6, 7, 34, 35] (by decide +kernel) (by decide +kernel)
set_option maxRecDepth 20000 in
theorem gX3_leastCost_X4_many : GoodIn wsX3_leastCost (wsV RX3 49 RX4 yX4_many wsX4_many) := goodIn_app (goodIn_of _ (by decide +kernel)) ggX3_leastCost_X4_many
set_option maxRecDepth 20000 in
theorem ggX3_leastCost_X4_at : GoodIn wsX3_leastCost wsX4_at := goodIn_r _ [11, 7, 12, 34, 35] (by decide +kernel) (by decide +kernel)
set_option maxRecDepth 20000 in
theorem gX3_leastCost_X4_at : GoodIn wsX3_leastCost (wsV RX3 63 RX4 yX4_at wsX4_at) := goodIn_app (goodIn_of _ (by decide +kernel)) ggX3_leastCost_X4_at
set_option maxRecDepth 20000 in
theorem ggX3_leastCost_X3_bestNext : GoodIn wsX3_leastCost wsX3_bestNext := goodIn_r _ [17, 1, 18, 19, 16, 20, 25, 26, 27, 28, 29, 30, 31, 32, 33] (by decide +kernel) (by decide +kernel)
set_option maxRecDepth 20000 in
theorem gX3_leastCost_X3_bestNext : GoodIn wsX3_leastCost (wsV RX3 67 RX3 yX3_bestNext wsX3_bestNext) := goodIn_app (goodIn_of _ (by decide +kernel)) ggX3_leastCost_X3_bestNext
set_option maxRecDepth 20000 in
theorem ggX3_leastCost_X3_step : GoodIn wsX3_leastCost wsX3_step := goodIn_r _ [20] (by decide +kernel) (by decide +kernel)
set_option maxRecDepth 20000 in
theorem gX3_leastCost_X3_step : GoodIn wsX3_leastCost (va_wsS RX3 71 yX3_step wsX3_step) := goodIn_app (goodIn_of _ (by decide +kernel)) ggX3_leastCost_X3_step
set_option maxRecDepth 20000 in
theorem ggX3_leastCost_X3_bestFirst : GoodIn wsX3_leastCost wsX3_bestFirst := goodIn_r _ [24, 1, 25, 26, 27, 28, 29, 30, 31, 32, 33] (by decide +kernel) (by decide +kernel)
set_option maxRecDepth 20000 in
theorem gX3_leastCost_X3_bestFirst : GoodIn wsX3_leastCost (wsV RX3 74 RX3 yX3_bestFirst wsX3_bestFirst) := goodIn_app (goodIn_of _ (by decide +kernel)) ggX3_leastCost_X3_bestFirst
theorem dX3_leastCost_0 : decode cX3_leastCost 0 = .ok (.aload_n 1, 1) := by decide +kernel
theorem dX3_leastCost_1 : decode cX3_leastCost 1 = .ok (.invokevirtual 49, 3) := by decide +kernel
theorem dX3_leastCost_4 : decode cX3_leastCost 4 = .ok (.iconst 1, 1) := by decide +kernel
theorem dX3_leastCost_5 : decode cX3_leastCost 5 = .ok (.isub, 1) := by decide +kernel
theorem dX3_leastCost_6 : decode cX3_leastCost 6 = .ok (.istore_n 3, 1) := by decide +kernel
theorem dX3_leastCost_7 : decode cX3_leastCost 7 = .ok (.iload_n 3, 1) := by decide +kernel
theorem dX3_leastCost_8 : decode cX3_leastCost 8 = .ok (.ifCond .ge 5, 3) := by decide +kernel
theorem dX3_leastCost_11 : decode cX3_leastCost 11 = .ok (.iconst 0, 1) := by decide +kernel
theorem dX3_leastCost_12 : decode cX3_leastCost 12 = .ok (.ireturn, 1) := by decide +kernel
theorem dX3_leastCost_13 : decode cX3_leastCost 13 = .ok (.iconst 0, 1) := by decide +kernel
theorem dX3_leastCost_14 : decode cX3_leastCost 14 = .ok (.istore 4, 2) := by decide +kernel
theorem dX3_leastCost_16 : decode cX3_leastCost 16 = .ok (.iload 4, 2) := by decide +kernel
theorem dX3_leastCost_18 : decode cX3_leastCost 18 = .ok (.iconst 5, 1) := by decide +kernel
theorem dX3_leastCost_19 : decode cX3_leastCost 19 = .ok (.if_icmp .ge 21, 3) := by decide +kernel
theorem dX3_leastCost_22 : decode cX3_leastCost 22 = .ok (.aload_n 0, 1) := by decide +kernel
theorem dX3_leastCost_23 : decode cX3_leastCost 23 = .ok (.getfield 11, 3) := by decide +kernel
theorem dX3_leastCost_26 : decode cX3_leastCost 26 = .ok (.iload_n 3, 1) := by decide +kernel
theorem dX3_leastCost_27 : decode cX3_leastCost 27 = .ok (.iconst 5, 1) := by decide +kernel
theorem dX3_leastCost_28 : decode cX3_leastCost 28 = .ok (.imul, 1) := by decide +kernel
theorem dX3_leastCost_29 : decode cX3_leastCost 29 = .ok (.iload 4, 2) := by decide +kernel
theorem dX3_leastCost_31 : decode cX3_leastCost 31 = .ok (.iadd, 1) := by decide +kernel
theorem dX3_leastCost_32 : decode cX3_leastCost 32 = .ok (.iconst 0, 1) := by decide +kernel
theorem dX3_leastCost_33 : decode cX3_leastCost 33 = .ok (.iastore, 1) := by decide +kernel
theorem dX3_leastCost_34 : decode cX3_leastCost 34 = .ok (.iinc 4 1, 3) := by decide +kernel
theorem dX3_leastCost_37 : decode cX3_leastCost 37 = .ok (.goto (-21), 3) := by decide +kernel
theorem dX3_leastCost_40 : decode cX3_leastCost 40 = .ok (.iload_n 3, 1) := by decide +kernel
theorem dX3_leastCost_41 : decode cX3_leastCost 41 = .ok (.iconst 1, 1) := by decide +kernel
theorem dX3_leastCost_42 : decode cX3_leastCost 42 = .ok (.isub, 1) := by decide +kernel
theorem dX3_leastCost_43 : decode cX3_leastCost 43 = .ok (.istore 4, 2) := by decide +kernel
theorem dX3_leastCost_45 : decode cX3_leastCost 45 = .ok (.iload 4, 2) := by decide +kernel
theorem dX3_leastCost_47 : decode cX3_leastCost 47 = .ok (.ifCond .lt 98, 3) := by decide +kernel
theorem dX3_leastCost_50 : decode cX3_leastCost 50 = .ok (.aload_n 1, 1) := by decide +kernel
theorem dX3_leastCost_51 : decode cX3_leastCost 51 = .ok (.iload 4, 2) := by decide +kernel
theorem dX3_leastCost_53 : decode cX3_leastCost 53 = .ok (.invokevirtual 63, 3) := by decide +kernel
theorem dX3_leastCost_56 : decode cX3_leastCost 56 = .ok (.aload_n 1, 1) := by decide +kernel
theorem dX3_leastCost_57 : decode cX3_leastCost 57 = .ok (.iload 4, 2) := by decide +kernel
theorem dX3_leastCost_59 : decode cX3_leastCost 59 = .ok (.iconst 1, 1) := by decide +kernel
theorem dX3_leastCost_60 : decode cX3_leastCost 60 = .ok (.iadd, 1) := by decide +kernel
theorem dX3_leastCost_61 : decode cX3_leastCost 61 = .ok (.invokevirtual 63, 3) := by decide +kernel
theorem dX3_leastCost_64 : decode cX3_leastCost 64 = .ok (.if_icmp .ne 7, 3) := by decide +kernel
theorem dX3_leastCost_67 : decode cX3_leastCost 67 = .ok (.iconst 1, 1) := by decide +kernel
theorem dX3_leastCost_68 : decode cX3_leastCost 68 = .ok (.goto 4, 3) := by decide +kernel
theorem dX3_leastCost_71 : decode cX3_leastCost 71 = .ok (.iconst 0, 1) := by decide +kernel
theorem dX3_leastCost_72 : decode cX3_leastCost 72 = .ok (.istore 5, 2) := by decide +kernel
theorem dX3_leastCost_74 : decode cX3_leastCost 74 = .ok (.iconst 0, 1) := by decide +kernel
theorem dX3_leastCost_75 : decode cX3_leastCost 75 = .ok (.istore 6, 2) := by decide +kernel
theorem dX3_leastCost_77 : decode cX3_leastCost 77 = .ok (.iload 6, 2) := by decide +kernel
theorem dX3_leastCost_79 : decode cX3_leastCost 79 = .ok (.iconst 5, 1) := by decide +kernel
theorem dX3_leastCost_80 : decode cX3_leastCost 80 = .ok (.if_icmp .ge 59, 3) := by decide +kernel
theorem dX3_leastCost_83 : decode cX3_leastCost 83 = .ok (.aload_n 0, 1) := by decide +kernel
theorem dX3_leastCost_84 : decode cX3_leastCost 84 = .ok (.iload 4, 2) := by decide +kernel
theorem dX3_leastCost_86 : decode cX3_leastCost 86 = .ok (.iload 6, 2) := by decide +kernel
theorem dX3_leastCost_88 : decode cX3_leastCost 88 = .ok (.iload 5, 2) := by decide +kernel
theorem dX3_leastCost_90 : decode cX3_leastCost 90 = .ok (.iload_n 2, 1) := by decide +kernel
theorem dX3_leastCost_91 : decode cX3_leastCost 91 = .ok (.invokevirtual 67, 3) := by decide +kernel
theorem dX3_leastCost_94 : decode cX3_leastCost 94 = .ok (.istore 7, 2) := by decide +kernel
theorem dX3_leastCost_96 : decode cX3_leastCost 96 = .ok (.aload_n 0, 1) := by decide +kernel
theorem dX3_leastCost_97 : decode cX3_leastCost 97 = .ok (.getfield 11, 3) := by decide +kernel
theorem dX3_leastCost_100 : decode cX3_leastCost 100 = .ok (.iload 4, 2) := by decide +kernel
theorem dX3_leastCost_102 : decode cX3_leastCost 102 = .ok (.iconst 5, 1) := by decide +kernel
theorem dX3_leastCost_103 : decode cX3_leastCost 103 = .ok (.imul, 1) := by decide +kernel
theorem dX3_leastCost_104 : decode cX3_leastCost 104 = .ok (.iload 6, 2) := by decide +kernel
theorem dX3_leastCost_106 : decode cX3_leastCost 106 = .ok (.iadd, 1) := by decide +kernel
theorem dX3_leastCost_107 : decode cX3_leastCost 107 = .ok (.iload 6, 2) := by decide +kernel
theorem dX3_leastCost_109 : decode cX3_leastCost 109 = .ok (.iload 7, 2) := by decide +kernel
theorem dX3_leastCost_111 : decode cX3_leastCost 111 = .ok (.iload 5, 2) := by decide +kernel
theorem dX3_leastCost_113 : decode cX3_leastCost 113 = .ok (.iload_n 2, 1) := by decide +kernel
theorem dX3_leastCost_114 : decode cX3_leastCost 114 = .ok (.invokestatic 71, 3) := by decide +kernel
theorem dX3_leastCost_117 : decode cX3_leastCost 117 = .ok (.aload_n 0, 1) := by decide +kernel
theorem dX3_leastCost_118 : decode cX3_leastCost 118 = .ok (.getfield 11, 3) := by decide +kernel
theorem dX3_leastCost_121 : decode cX3_leastCost 121 = .ok (.iload 4, 2) := by decide +kernel
theorem dX3_leastCost_123 : decode cX3_leastCost 123 = .ok (.iconst 1, 1) := by decide +kernel
theorem dX3_leastCost_124 : decode cX3_leastCost 124 = .ok (.iadd, 1) := by decide +kernel
theorem dX3_leastCost_125 : decode cX3_leastCost 125 = .ok (.iconst 5, 1) := by decide +kernel
theorem dX3_leastCost_126 : decode cX3_leastCost 126 = .ok (.imul, 1) := by decide +kernel
theorem dX3_leastCost_127 : decode cX3_leastCost 127 = .ok (.iload 7, 2) := by decide +kernel
theorem dX3_leastCost_129 : decode cX3_leastCost 129 = .ok (.iadd, 1) := by decide +kernel
theorem dX3_leastCost_130 : decode cX3_leastCost 130 = .ok (.iaload, 1) := by decide +kernel
theorem dX3_leastCost_131 : decode cX3_leastCost 131 = .ok (.iadd, 1) := by decide +kernel
theorem dX3_leastCost_132 : decode cX3_leastCost 132 = .ok (.iastore, 1) := by decide +kernel
theorem dX3_leastCost_133 : decode cX3_leastCost 133 = .ok (.iinc 6 1, 3) := by decide +kernel
theorem dX3_leastCost_136 : decode cX3_leastCost 136 = .ok (.goto (-59), 3) := by decide +kernel
theorem dX3_leastCost_139 : decode cX3_leastCost 139 = .ok (.iinc 4 (-1), 3) := by decide +kernel
theorem dX3_leastCost_142 : decode cX3_leastCost 142 = .ok (.goto (-97), 3) := by decide +kernel
theorem dX3_leastCost_145 : decode cX3_leastCost 145 = .ok (.aload_n 0, 1) := by decide +kernel
theorem dX3_leastCost_146 : decode cX3_leastCost 146 = .ok (.getfield 11, 3) := by decide +kernel
theorem dX3_leastCost_149 : decode cX3_leastCost 149 = .ok (.aload_n 0, 1) := by decide +kernel
theorem dX3_leastCost_150 : decode cX3_leastCost 150 = .ok (.invokevirtual 74, 3) := by decide +kernel
theorem dX3_leastCost_153 : decode cX3_leastCost 153 = .ok (.iaload, 1) := by decide +kernel
theorem dX3_leastCost_154 : decode cX3_leastCost 154 = .ok (.ireturn, 1) := by decide +kernel
set_option maxRecDepth 20000 in
theorem ggX3_tracePath_X4_many : GoodIn wsX3_tracePath wsX4_many := goodIn_r _ [6, 7, 35, 36] (by decide +kernel) (by decide +kernel)
set_option maxRecDepth 20000 in
theorem gX3_tracePath_X4_many : GoodIn wsX3_tracePath (wsV RX3 49 RX4 yX4_many wsX4_many) := goodIn_app (goodIn_of _ (by decide +kernel)) ggX3_tracePath_X4_many
set_option maxRecDepth 20000 in
theorem ggX3_tracePath_X3_bestFirst : GoodIn wsX3_tracePath wsX3_bestFirst := goodIn_r _ [12, 13, 26, 27, 28, 29, 30, 31, 32, 33, 34] (by decide +kernel) (by decide +kernel)
set_option maxRecDepth 20000 in
theorem gX3_tracePath_X3_bestFirst : GoodIn wsX3_tracePath (wsV RX3 74 RX3 yX3_bestFirst wsX3_bestFirst) := goodIn_app (goodIn_of _ (by decide +kernel)) ggX3_tracePath_X3_bestFirst
set_option maxRecDepth 20000 in
theorem ggX3_tracePath_X4_at : GoodIn wsX3_tracePath wsX4_at := goodIn_r _ [17, 7, 18, 35, 36] (by decide +kernel) (by decide +kernel)
set_option maxRecDepth 20000 in
theorem gX3_tracePath_X4_at : GoodIn wsX3_tracePath (wsV RX3 63 RX4 yX4_at wsX4_at) := goodIn_app (goodIn_of _ (by decide +kernel)) ggX3_tracePath_X4_at
set_option maxRecDepth 20000 in
theorem ggX3_tracePath_X3_bestNext : GoodIn wsX3_tracePath wsX3_bestNext := goodIn_r _ [22, 13, 23, 24, 11, 25, 26, 27, 28, 29, 30, 31, 32, 33, 34] (by decide +kernel) (by decide +kernel)
set_option maxRecDepth 20000 in
theorem gX3_tracePath_X3_bestNext : GoodIn wsX3_tracePath (wsV RX3 67 RX3 yX3_bestNext wsX3_bestNext) := goodIn_app (goodIn_of _ (by decide +kernel)) ggX3_tracePath_X3_bestNext
theorem dX3_tracePath_0 : decode cX3_tracePath 0 = .ok (.iconst 0, 1) := by decide +kernel
theorem dX3_tracePath_1 : decode cX3_tracePath 1 = .ok (.istore_n 3, 1) := by decide +kernel
theorem dX3_tracePath_2 : decode cX3_tracePath 2 = .ok (.iload_n 3, 1) := by decide +kernel
theorem dX3_tracePath_3 : decode cX3_tracePath 3 = .ok (.aload_n 1, 1) := by decide +kernel
theorem dX3_tracePath_4 : decode cX3_tracePath 4 = .ok (.invokevirtual 49, 3) := by decide +kernel
theorem dX3_tracePath_7 : decode cX3_tracePath 7 = .ok (.if_icmp .ge 72, 3) := by decide +kernel
theorem dX3_tracePath_10 : decode cX3_tracePath 10 = .ok (.iload_n 3, 1) := by decide +kernel
theorem dX3_tracePath_11 : decode cX3_tracePath 11 = .ok (.ifCond .ne 16, 3) := by decide +kernel
theorem dX3_tracePath_14 : decode cX3_tracePath 14 = .ok (.aload_n 0, 1) := by decide +kernel
theorem dX3_tracePath_15 : decode cX3_tracePath 15 = .ok (.getfield 15, 3) := by decide +kernel
theorem dX3_tracePath_18 : decode cX3_tracePath 18 = .ok (.iload_n 3, 1) := by decide +kernel
theorem dX3_tracePath_19 : decode cX3_tracePath 19 = .ok (.aload_n 0, 1) := by decide +kernel
theorem dX3_tracePath_20 : decode cX3_tracePath 20 = .ok (.invokevirtual 74, 3) := by decide +kernel
theorem dX3_tracePath_23 : decode cX3_tracePath 23 = .ok (.iastore, 1) := by decide +kernel
theorem dX3_tracePath_24 : decode cX3_tracePath 24 = .ok (.goto 49, 3) := by decide +kernel
theorem dX3_tracePath_27 : decode cX3_tracePath 27 = .ok (.aload_n 1, 1) := by decide +kernel
theorem dX3_tracePath_28 : decode cX3_tracePath 28 = .ok (.iload_n 3, 1) := by decide +kernel
theorem dX3_tracePath_29 : decode cX3_tracePath 29 = .ok (.iconst 1, 1) := by decide +kernel
theorem dX3_tracePath_30 : decode cX3_tracePath 30 = .ok (.isub, 1) := by decide +kernel
theorem dX3_tracePath_31 : decode cX3_tracePath 31 = .ok (.invokevirtual 63, 3) := by decide +kernel
theorem dX3_tracePath_34 : decode cX3_tracePath 34 = .ok (.aload_n 1, 1) := by decide +kernel
theorem dX3_tracePath_35 : decode cX3_tracePath 35 = .ok (.iload_n 3, 1) := by decide +kernel
theorem dX3_tracePath_36 : decode cX3_tracePath 36 = .ok (.invokevirtual 63, 3) := by decide +kernel
theorem dX3_tracePath_39 : decode cX3_tracePath 39 = .ok (.if_icmp .ne 7, 3) := by decide +kernel
theorem dX3_tracePath_42 : decode cX3_tracePath 42 = .ok (.iconst 1, 1) := by decide +kernel
theorem dX3_tracePath_43 : decode cX3_tracePath 43 = .ok (.goto 4, 3) := by decide +kernel
theorem dX3_tracePath_46 : decode cX3_tracePath 46 = .ok (.iconst 0, 1) := by decide +kernel
theorem dX3_tracePath_47 : decode cX3_tracePath 47 = .ok (.istore 4, 2) := by decide +kernel
theorem dX3_tracePath_49 : decode cX3_tracePath 49 = .ok (.aload_n 0, 1) := by decide +kernel
theorem dX3_tracePath_50 : decode cX3_tracePath 50 = .ok (.getfield 15, 3) := by decide +kernel
theorem dX3_tracePath_53 : decode cX3_tracePath 53 = .ok (.iload_n 3, 1) := by decide +kernel
theorem dX3_tracePath_54 : decode cX3_tracePath 54 = .ok (.aload_n 0, 1) := by decide +kernel
theorem dX3_tracePath_55 : decode cX3_tracePath 55 = .ok (.iload_n 3, 1) := by decide +kernel
theorem dX3_tracePath_56 : decode cX3_tracePath 56 = .ok (.iconst 1, 1) := by decide +kernel
theorem dX3_tracePath_57 : decode cX3_tracePath 57 = .ok (.isub, 1) := by decide +kernel
theorem dX3_tracePath_58 : decode cX3_tracePath 58 = .ok (.aload_n 0, 1) := by decide +kernel
theorem dX3_tracePath_59 : decode cX3_tracePath 59 = .ok (.getfield 15, 3) := by decide +kernel
theorem dX3_tracePath_62 : decode cX3_tracePath 62 = .ok (.iload_n 3, 1) := by decide +kernel
theorem dX3_tracePath_63 : decode cX3_tracePath 63 = .ok (.iconst 1, 1) := by decide +kernel
theorem dX3_tracePath_64 : decode cX3_tracePath 64 = .ok (.isub, 1) := by decide +kernel
theorem dX3_tracePath_65 : decode cX3_tracePath 65 = .ok (.iaload, 1) := by decide +kernel
theorem dX3_tracePath_66 : decode cX3_tracePath 66 = .ok (.iload 4, 2) := by decide +kernel
theorem dX3_tracePath_68 : decode cX3_tracePath 68 = .ok (.iload_n 2, 1) := by decide +kernel
theorem dX3_tracePath_69 : decode cX3_tracePath 69 = .ok (.invokevirtual 67, 3) := by decide +kernel
theorem dX3_tracePath_72 : decode cX3_tracePath 72 = .ok (.iastore, 1) := by decide +kernel
theorem dX3_tracePath_73 : decode cX3_tracePath 73 = .ok (.iinc 3 1, 3) := by decide +kernel
theorem dX3_tracePath_76 : decode cX3_tracePath 76 = .ok (.goto (-74), 3) := by decide +kernel
theorem dX3_tracePath_79 : decode cX3_tracePath 79 = .ok (.return_, 1) := by decide +kernel
theorem dX3_bestFirst_0 : decode cX3_bestFirst 0 = .ok (.iconst 0, 1) := by decide +kernel
theorem dX3_bestFirst_1 : decode cX3_bestFirst 1 = .ok (.istore_n 1, 1) := by decide +kernel
theorem dX3_bestFirst_2 : decode cX3_bestFirst 2 = .ok (.iconst 1, 1) := by decide +kernel
theorem dX3_bestFirst_3 : decode cX3_bestFirst 3 = .ok (.istore_n 2, 1) := by decide +kernel
theorem dX3_bestFirst_4 : decode cX3_bestFirst 4 = .ok (.iload_n 2, 1) := by decide +kernel
theorem dX3_bestFirst_5 : decode cX3_bestFirst 5 = .ok (.iconst 5, 1) := by decide +kernel
theorem dX3_bestFirst_6 : decode cX3_bestFirst 6 = .ok (.if_icmp .ge 26, 3) := by decide +kernel
theorem dX3_bestFirst_9 : decode cX3_bestFirst 9 = .ok (.aload_n 0, 1) := by decide +kernel
theorem dX3_bestFirst_10 : decode cX3_bestFirst 10 = .ok (.getfield 11, 3) := by decide +kernel
theorem dX3_bestFirst_13 : decode cX3_bestFirst 13 = .ok (.iload_n 2, 1) := by decide +kernel
theorem dX3_bestFirst_14 : decode cX3_bestFirst 14 = .ok (.iaload, 1) := by decide +kernel
theorem dX3_bestFirst_15 : decode cX3_bestFirst 15 = .ok (.aload_n 0, 1) := by decide +kernel
theorem dX3_bestFirst_16 : decode cX3_bestFirst 16 = .ok (.getfield 11, 3) := by decide +kernel
theorem dX3_bestFirst_19 : decode cX3_bestFirst 19 = .ok (.iload_n 1, 1) := by decide +kernel
theorem dX3_bestFirst_20 : decode cX3_bestFirst 20 = .ok (.iaload, 1) := by decide +kernel
theorem dX3_bestFirst_21 : decode cX3_bestFirst 21 = .ok (.if_icmp .ge 5, 3) := by decide +kernel
theorem dX3_bestFirst_24 : decode cX3_bestFirst 24 = .ok (.iload_n 2, 1) := by decide +kernel
theorem dX3_bestFirst_25 : decode cX3_bestFirst 25 = .ok (.istore_n 1, 1) := by decide +kernel
theorem dX3_bestFirst_26 : decode cX3_bestFirst 26 = .ok (.iinc 2 1, 3) := by decide +kernel
theorem dX3_bestFirst_29 : decode cX3_bestFirst 29 = .ok (.goto (-25), 3) := by decide +kernel
theorem dX3_bestFirst_32 : decode cX3_bestFirst 32 = .ok (.iload_n 1, 1) := by decide +kernel
theorem dX3_bestFirst_33 : decode cX3_bestFirst 33 = .ok (.ireturn, 1) := by decide +kernel
set_option maxRecDepth 20000 in
theorem ggX3_bestNext_X3_step : GoodIn wsX3_bestNext wsX3_step := goodIn_r _ [5] (by decide +kernel) (by decide +kernel)
set_option maxRecDepth 20000 in
theorem gX3_bestNext_X3_step : GoodIn wsX3_bestNext (va_wsS RX3 71 yX3_step wsX3_step) := goodIn_app (goodIn_of _ (by decide +kernel)) ggX3_bestNext_X3_step
theorem dX3_bestNext_0 : decode cX3_bestNext 0 = .ok (.iload_n 1, 1) := by decide +kernel
theorem dX3_bestNext_1 : decode cX3_bestNext 1 = .ok (.iconst 1, 1) := by decide +kernel
theorem dX3_bestNext_2 : decode cX3_bestNext 2 = .ok (.iadd, 1) := by decide +kernel
theorem dX3_bestNext_3 : decode cX3_bestNext 3 = .ok (.iconst 5, 1) := by decide +kernel
theorem dX3_bestNext_4 : decode cX3_bestNext 4 = .ok (.imul, 1) := by decide +kernel
theorem dX3_bestNext_5 : decode cX3_bestNext 5 = .ok (.istore 5, 2) := by decide +kernel
theorem dX3_bestNext_7 : decode cX3_bestNext 7 = .ok (.iconst 0, 1) := by decide +kernel
theorem dX3_bestNext_8 : decode cX3_bestNext 8 = .ok (.istore 6, 2) := by decide +kernel
theorem dX3_bestNext_10 : decode cX3_bestNext 10 = .ok (.iload_n 2, 1) := by decide +kernel
theorem dX3_bestNext_11 : decode cX3_bestNext 11 = .ok (.iconst 0, 1) := by decide +kernel
theorem dX3_bestNext_12 : decode cX3_bestNext 12 = .ok (.iload_n 3, 1) := by decide +kernel
theorem dX3_bestNext_13 : decode cX3_bestNext 13 = .ok (.iload 4, 2) := by decide +kernel
theorem dX3_bestNext_15 : decode cX3_bestNext 15 = .ok (.invokestatic 71, 3) := by decide +kernel
theorem dX3_bestNext_18 : decode cX3_bestNext 18 = .ok (.aload_n 0, 1) := by decide +kernel
theorem dX3_bestNext_19 : decode cX3_bestNext 19 = .ok (.getfield 11, 3) := by decide +kernel
theorem dX3_bestNext_22 : decode cX3_bestNext 22 = .ok (.iload 5, 2) := by decide +kernel
theorem dX3_bestNext_24 : decode cX3_bestNext 24 = .ok (.iaload, 1) := by decide +kernel
theorem dX3_bestNext_25 : decode cX3_bestNext 25 = .ok (.iadd, 1) := by decide +kernel
theorem dX3_bestNext_26 : decode cX3_bestNext 26 = .ok (.istore 7, 2) := by decide +kernel
theorem dX3_bestNext_28 : decode cX3_bestNext 28 = .ok (.iconst 1, 1) := by decide +kernel
theorem dX3_bestNext_29 : decode cX3_bestNext 29 = .ok (.istore 8, 2) := by decide +kernel
theorem dX3_bestNext_31 : decode cX3_bestNext 31 = .ok (.iload 8, 2) := by decide +kernel
theorem dX3_bestNext_33 : decode cX3_bestNext 33 = .ok (.iconst 5, 1) := by decide +kernel
theorem dX3_bestNext_34 : decode cX3_bestNext 34 = .ok (.if_icmp .ge 46, 3) := by decide +kernel
theorem dX3_bestNext_37 : decode cX3_bestNext 37 = .ok (.iload_n 2, 1) := by decide +kernel
theorem dX3_bestNext_38 : decode cX3_bestNext 38 = .ok (.iload 8, 2) := by decide +kernel
theorem dX3_bestNext_40 : decode cX3_bestNext 40 = .ok (.iload_n 3, 1) := by decide +kernel
theorem dX3_bestNext_41 : decode cX3_bestNext 41 = .ok (.iload 4, 2) := by decide +kernel
theorem dX3_bestNext_43 : decode cX3_bestNext 43 = .ok (.invokestatic 71, 3) := by decide +kernel
theorem dX3_bestNext_46 : decode cX3_bestNext 46 = .ok (.aload_n 0, 1) := by decide +kernel
theorem dX3_bestNext_47 : decode cX3_bestNext 47 = .ok (.getfield 11, 3) := by decide +kernel
theorem dX3_bestNext_50 : decode cX3_bestNext 50 = .ok (.iload 5, 2) := by decide +kernel
theorem dX3_bestNext_52 : decode cX3_bestNext 52 = .ok (.iload 8, 2) := by decide +kernel
theorem dX3_bestNext_54 : decode cX3_bestNext 54 = .ok (.iadd, 1) := by decide +kernel
theorem dX3_bestNext_55 : decode cX3_bestNext 55 = .ok (.iaload, 1) := by decide +kernel
theorem dX3_bestNext_56 : decode cX3_bestNext 56 = .ok (.iadd, 1) := by decide +kernel
theorem dX3_bestNext_57 : decode cX3_bestNext 57 = .ok (.istore 9, 2) := by decide +kernel
theorem dX3_bestNext_59 : decode cX3_bestNext 59 = .ok (.iload 9, 2) := by decide +kernel
theorem dX3_bestNext_61 : decode cX3_bestNext 61 = .ok (.iload 7, 2) := by decide +kernel
theorem dX3_bestNext_63 : decode cX3_bestNext 63 = .ok (.if_icmp .ge 11, 3) := by decide +kernel
theorem dX3_bestNext_66 : decode cX3_bestNext 66 = .ok (.iload 8, 2) := by decide +kernel
theorem dX3_bestNext_68 : decode cX3_bestNext 68 = .ok (.istore 6, 2) := by decide +kernel
theorem dX3_bestNext_70 : decode cX3_bestNext 70 = .ok (.iload 9, 2) := by decide +kernel
theorem dX3_bestNext_72 : decode cX3_bestNext 72 = .ok (.istore 7, 2) := by decide +kernel
theorem dX3_bestNext_74 : decode cX3_bestNext 74 = .ok (.iinc 8 1, 3) := by decide +kernel
theorem dX3_bestNext_77 : decode cX3_bestNext 77 = .ok (.goto (-46), 3) := by decide +kernel
theorem dX3_bestNext_80 : decode cX3_bestNext 80 = .ok (.iload 6, 2) := by decide +kernel
theorem dX3_bestNext_82 : decode cX3_bestNext 82 = .ok (.ireturn, 1) := by decide +kernel
theorem dX3_step_0 : decode cX3_step 0 = .ok (.iload_n 1, 1) := by decide +kernel
theorem dX3_step_1 : decode cX3_step 1 = .ok (.iload_n 0, 1) := by decide +kernel
theorem dX3_step_2 : decode cX3_step 2 = .ok (.iconst 1, 1) := by decide +kernel
theorem dX3_step_3 : decode cX3_step 3 = .ok (.iadd, 1) := by decide +kernel
theorem dX3_step_4 : decode cX3_step 4 = .ok (.iconst 5, 1) := by decide +kernel
theorem dX3_step_5 : decode cX3_step 5 = .ok (.irem, 1) := by decide +kernel
theorem dX3_step_6 : decode cX3_step 6 = .ok (.if_icmp .eq 5, 3) := by decide +kernel
theorem dX3_step_9 : decode cX3_step 9 = .ok (.iload_n 3, 1) := by decide +kernel
theorem dX3_step_10 : decode cX3_step 10 = .ok (.ireturn, 1) := by decide +kernel
theorem dX3_step_11 : decode cX3_step 11 = .ok (.iload_n 1, 1) := by decide +kernel
theorem dX3_step_12 : decode cX3_step 12 = .ok (.ifCond .eq 8, 3) := by decide +kernel
theorem dX3_step_15 : decode cX3_step 15 = .ok (.iload_n 1, 1) := by decide +kernel
theorem dX3_step_16 : decode cX3_step 16 = .ok (.iconst 2, 1) := by decide +kernel
theorem dX3_step_17 : decode cX3_step 17 = .ok (.if_icmp .ne 13, 3) := by decide +kernel
theorem dX3_step_20 : decode cX3_step 20 = .ok (.iload_n 2, 1) := by decide +kernel
theorem dX3_step_21 : decode cX3_step 21 = .ok (.ifCond .eq 7, 3) := by decide +kernel
theorem dX3_step_24 : decode cX3_step 24 = .ok (.iconst 1, 1) := by decide +kernel
theorem dX3_step_25 : decode cX3_step 25 = .ok (.goto 4, 3) := by decide +kernel
theorem dX3_step_28 : decode cX3_step 28 = .ok (.iconst 0, 1) := by decide +kernel
theorem dX3_step_29 : decode cX3_step 29 = .ok (.ireturn, 1) := by decide +kernel
theorem dX3_step_30 : decode cX3_step 30 = .ok (.iload_n 2, 1) := by decide +kernel
theorem dX3_step_31 : decode cX3_step 31 = .ok (.ifCond .eq 7, 3) := by decide +kernel
theorem dX3_step_34 : decode cX3_step 34 = .ok (.iconst 0, 1) := by decide +kernel
theorem dX3_step_35 : decode cX3_step 35 = .ok (.goto 4, 3) := by decide +kernel
theorem dX3_step_38 : decode cX3_step 38 = .ok (.iconst 3, 1) := by decide +kernel
theorem dX3_step_39 : decode cX3_step 39 = .ok (.ireturn, 1) := by decide +kernel
theorem dX3_beginsFrame_0 : decode cX3_beginsFrame 0 = .ok (.aload_n 0, 1) := by decide +kernel
theorem dX3_beginsFrame_1 : decode cX3_beginsFrame 1 = .ok (.getfield 15, 3) := by decide +kernel
theorem dX3_beginsFrame_4 : decode cX3_beginsFrame 4 = .ok (.iload_n 1, 1) := by decide +kernel
theorem dX3_beginsFrame_5 : decode cX3_beginsFrame 5 = .ok (.iaload, 1) := by decide +kernel
theorem dX3_beginsFrame_6 : decode cX3_beginsFrame 6 = .ok (.istore_n 2, 1) := by decide +kernel
theorem dX3_beginsFrame_7 : decode cX3_beginsFrame 7 = .ok (.iload_n 1, 1) := by decide +kernel
theorem dX3_beginsFrame_8 : decode cX3_beginsFrame 8 = .ok (.ifCond .eq 28, 3) := by decide +kernel
theorem dX3_beginsFrame_11 : decode cX3_beginsFrame 11 = .ok (.iload_n 2, 1) := by decide +kernel
theorem dX3_beginsFrame_12 : decode cX3_beginsFrame 12 = .ok (.ifCond .eq 24, 3) := by decide +kernel
theorem dX3_beginsFrame_15 : decode cX3_beginsFrame 15 = .ok (.iload_n 2, 1) := by decide +kernel
theorem dX3_beginsFrame_16 : decode cX3_beginsFrame 16 = .ok (.iconst 2, 1) := by decide +kernel
theorem dX3_beginsFrame_17 : decode cX3_beginsFrame 17 = .ok (.if_icmp .eq 19, 3) := by decide +kernel
theorem dX3_beginsFrame_20 : decode cX3_beginsFrame 20 = .ok (.iload_n 2, 1) := by decide +kernel
theorem dX3_beginsFrame_21 : decode cX3_beginsFrame 21 = .ok (.aload_n 0, 1) := by decide +kernel
theorem dX3_beginsFrame_22 : decode cX3_beginsFrame 22 = .ok (.getfield 15, 3) := by decide +kernel
theorem dX3_beginsFrame_25 : decode cX3_beginsFrame 25 = .ok (.iload_n 1, 1) := by decide +kernel
theorem dX3_beginsFrame_26 : decode cX3_beginsFrame 26 = .ok (.iconst 1, 1) := by decide +kernel
theorem dX3_beginsFrame_27 : decode cX3_beginsFrame 27 = .ok (.isub, 1) := by decide +kernel
theorem dX3_beginsFrame_28 : decode cX3_beginsFrame 28 = .ok (.iaload, 1) := by decide +kernel
theorem dX3_beginsFrame_29 : decode cX3_beginsFrame 29 = .ok (.iconst 1, 1) := by decide +kernel
theorem dX3_beginsFrame_30 : decode cX3_beginsFrame 30 = .ok (.iadd, 1) := by decide +kernel
theorem dX3_beginsFrame_31 : decode cX3_beginsFrame 31 = .ok (.iconst 5, 1) := by decide +kernel
theorem dX3_beginsFrame_32 : decode cX3_beginsFrame 32 = .ok (.irem, 1) := by decide +kernel
theorem dX3_beginsFrame_33 : decode cX3_beginsFrame 33 = .ok (.if_icmp .eq 7, 3) := by decide +kernel
theorem dX3_beginsFrame_36 : decode cX3_beginsFrame 36 = .ok (.iconst 1, 1) := by decide +kernel
theorem dX3_beginsFrame_37 : decode cX3_beginsFrame 37 = .ok (.goto 4, 3) := by decide +kernel
theorem dX3_beginsFrame_40 : decode cX3_beginsFrame 40 = .ok (.iconst 0, 1) := by decide +kernel
theorem dX3_beginsFrame_41 : decode cX3_beginsFrame 41 = .ok (.ireturn, 1) := by decide +kernel
set_option maxRecDepth 20000 in
theorem ggX3_gatherFrames_X3_beginsFrame : GoodIn wsX3_gatherFrames wsX3_beginsFrame := goodIn_r _ [9, 10, 11, 12, 13, 14, 15, 16, 17, 18, 19] (by decide +kernel) (by decide +kernel)
set_option maxRecDepth 20000 in
theorem gX3_gatherFrames_X3_beginsFrame : GoodIn wsX3_gatherFrames (wsV RX3 77 RX3 yX3_beginsFrame wsX3_beginsFrame) := goodIn_app (goodIn_of _ (by decide +kernel)) ggX3_gatherFrames_X3_beginsFrame
theorem dX3_gatherFrames_0 : decode cX3_gatherFrames 0 = .ok (.aload_n 0, 1) := by decide +kernel
theorem dX3_gatherFrames_1 : decode cX3_gatherFrames 1 = .ok (.iconst 0, 1) := by decide +kernel
theorem dX3_gatherFrames_2 : decode cX3_gatherFrames 2 = .ok (.putfield 34, 3) := by decide +kernel
theorem dX3_gatherFrames_5 : decode cX3_gatherFrames 5 = .ok (.iconst 0, 1) := by decide +kernel
theorem dX3_gatherFrames_6 : decode cX3_gatherFrames 6 = .ok (.istore_n 2, 1) := by decide +kernel
theorem dX3_gatherFrames_7 : decode cX3_gatherFrames 7 = .ok (.iconst 0, 1) := by decide +kernel
theorem dX3_gatherFrames_8 : decode cX3_gatherFrames 8 = .ok (.istore_n 3, 1) := by decide +kernel
theorem dX3_gatherFrames_9 : decode cX3_gatherFrames 9 = .ok (.iload_n 3, 1) := by decide +kernel
theorem dX3_gatherFrames_10 : decode cX3_gatherFrames 10 = .ok (.iload_n 1, 1) := by decide +kernel
theorem dX3_gatherFrames_11 : decode cX3_gatherFrames 11 = .ok (.if_icmp .ge 67, 3) := by decide +kernel
theorem dX3_gatherFrames_14 : decode cX3_gatherFrames 14 = .ok (.aload_n 0, 1) := by decide +kernel
theorem dX3_gatherFrames_15 : decode cX3_gatherFrames 15 = .ok (.iload_n 3, 1) := by decide +kernel
theorem dX3_gatherFrames_16 : decode cX3_gatherFrames 16 = .ok (.invokevirtual 77, 3) := by decide +kernel
theorem dX3_gatherFrames_19 : decode cX3_gatherFrames 19 = .ok (.ifCond .eq 25, 3) := by decide +kernel
theorem dX3_gatherFrames_22 : decode cX3_gatherFrames 22 = .ok (.iload_n 3, 1) := by decide +kernel
theorem dX3_gatherFrames_23 : decode cX3_gatherFrames 23 = .ok (.istore_n 2, 1) := by decide +kernel
theorem dX3_gatherFrames_24 : decode cX3_gatherFrames 24 = .ok (.aload_n 0, 1) := by decide +kernel
theorem dX3_gatherFrames_25 : decode cX3_gatherFrames 25 = .ok (.getfield 21, 3) := by decide +kernel
theorem dX3_gatherFrames_28 : decode cX3_gatherFrames 28 = .ok (.aload_n 0, 1) := by decide +kernel
theorem dX3_gatherFrames_29 : decode cX3_gatherFrames 29 = .ok (.getfield 34, 3) := by decide +kernel
theorem dX3_gatherFrames_32 : decode cX3_gatherFrames 32 = .ok (.iload_n 2, 1) := by decide +kernel
theorem dX3_gatherFrames_33 : decode cX3_gatherFrames 33 = .ok (.iastore, 1) := by decide +kernel
theorem dX3_gatherFrames_34 : decode cX3_gatherFrames 34 = .ok (.aload_n 0, 1) := by decide +kernel
theorem dX3_gatherFrames_35 : decode cX3_gatherFrames 35 = .ok (.dup, 1) := by decide +kernel
theorem dX3_gatherFrames_36 : decode cX3_gatherFrames 36 = .ok (.getfield 34, 3) := by decide +kernel
theorem dX3_gatherFrames_39 : decode cX3_gatherFrames 39 = .ok (.iconst 1, 1) := by decide +kernel
theorem dX3_gatherFrames_40 : decode cX3_gatherFrames 40 = .ok (.iadd, 1) := by decide +kernel
theorem dX3_gatherFrames_41 : decode cX3_gatherFrames 41 = .ok (.putfield 34, 3) := by decide +kernel
theorem dX3_gatherFrames_44 : decode cX3_gatherFrames 44 = .ok (.aload_n 0, 1) := by decide +kernel
theorem dX3_gatherFrames_45 : decode cX3_gatherFrames 45 = .ok (.getfield 18, 3) := by decide +kernel
theorem dX3_gatherFrames_48 : decode cX3_gatherFrames 48 = .ok (.iload_n 3, 1) := by decide +kernel
theorem dX3_gatherFrames_49 : decode cX3_gatherFrames 49 = .ok (.aload_n 0, 1) := by decide +kernel
theorem dX3_gatherFrames_50 : decode cX3_gatherFrames 50 = .ok (.getfield 34, 3) := by decide +kernel
theorem dX3_gatherFrames_53 : decode cX3_gatherFrames 53 = .ok (.iconst 1, 1) := by decide +kernel
theorem dX3_gatherFrames_54 : decode cX3_gatherFrames 54 = .ok (.isub, 1) := by decide +kernel
theorem dX3_gatherFrames_55 : decode cX3_gatherFrames 55 = .ok (.iastore, 1) := by decide +kernel
theorem dX3_gatherFrames_56 : decode cX3_gatherFrames 56 = .ok (.aload_n 0, 1) := by decide +kernel
theorem dX3_gatherFrames_57 : decode cX3_gatherFrames 57 = .ok (.getfield 24, 3) := by decide +kernel
theorem dX3_gatherFrames_60 : decode cX3_gatherFrames 60 = .ok (.aload_n 0, 1) := by decide +kernel
theorem dX3_gatherFrames_61 : decode cX3_gatherFrames 61 = .ok (.getfield 34, 3) := by decide +kernel
theorem dX3_gatherFrames_64 : decode cX3_gatherFrames 64 = .ok (.iconst 1, 1) := by decide +kernel
theorem dX3_gatherFrames_65 : decode cX3_gatherFrames 65 = .ok (.isub, 1) := by decide +kernel
theorem dX3_gatherFrames_66 : decode cX3_gatherFrames 66 = .ok (.iload_n 3, 1) := by decide +kernel
theorem dX3_gatherFrames_67 : decode cX3_gatherFrames 67 = .ok (.iload_n 2, 1) := by decide +kernel
theorem dX3_gatherFrames_68 : decode cX3_gatherFrames 68 = .ok (.isub, 1) := by decide +kernel
theorem dX3_gatherFrames_69 : decode cX3_gatherFrames 69 = .ok (.iconst 1, 1) := by decide +kernel
theorem dX3_gatherFrames_70 : decode cX3_gatherFrames 70 = .ok (.iadd, 1) := by decide +kernel
theorem dX3_gatherFrames_71 : decode cX3_gatherFrames 71 = .ok (.iastore, 1) := by decide +kernel
theorem dX3_gatherFrames_72 : decode cX3_gatherFrames 72 = .ok (.iinc 3 1, 3) := by decide +kernel
theorem dX3_gatherFrames_75 : decode cX3_gatherFrames 75 = .ok (.goto (-66), 3) := by decide +kernel
theorem dX3_gatherFrames_78 : decode cX3_gatherFrames 78 = .ok (.return_, 1) := by decide +kernel
set_option maxRecDepth 20000 in
theorem ggX3_commonLook_X4_at : GoodIn wsX3_commonLook wsX4_at := goodIn_r _ [5, 6, 7, 12, 13] (by decide +kernel) (by decide +kernel)
set_option maxRecDepth 20000 in
theorem gX3_commonLook_X4_at : GoodIn wsX3_commonLook (wsV RX3 63 RX4 yX4_at wsX4_at) := goodIn_app (goodIn_of _ (by decide +kernel)) ggX3_commonLook_X4_at
set_option maxRecDepth 20000 in
theorem ggX3_commonLook_X3_timesOf : GoodIn wsX3_commonLook wsX3_timesOf := goodIn_r _ [11, 1, 2, 3, 4, 5, 6, 7, 12, 13] (by decide +kernel) (by decide +kernel)
set_option maxRecDepth 20000 in
theorem gX3_commonLook_X3_timesOf : GoodIn wsX3_commonLook (va_wsS RX3 81 yX3_timesOf wsX3_timesOf) := goodIn_app (goodIn_of _ (by decide +kernel)) ggX3_commonLook_X3_timesOf
theorem dX3_commonLook_0 : decode cX3_commonLook 0 = .ok (.iconst (-1), 1) := by decide +kernel
theorem dX3_commonLook_1 : decode cX3_commonLook 1 = .ok (.istore_n 3, 1) := by decide +kernel
theorem dX3_commonLook_2 : decode cX3_commonLook 2 = .ok (.iconst 0, 1) := by decide +kernel
theorem dX3_commonLook_3 : decode cX3_commonLook 3 = .ok (.istore 4, 2) := by decide +kernel
theorem dX3_commonLook_5 : decode cX3_commonLook 5 = .ok (.iload_n 1, 1) := by decide +kernel
theorem dX3_commonLook_6 : decode cX3_commonLook 6 = .ok (.istore 5, 2) := by decide +kernel
theorem dX3_commonLook_8 : decode cX3_commonLook 8 = .ok (.iload 5, 2) := by decide +kernel
theorem dX3_commonLook_10 : decode cX3_commonLook 10 = .ok (.iload_n 1, 1) := by decide +kernel
theorem dX3_commonLook_11 : decode cX3_commonLook 11 = .ok (.iload_n 2, 1) := by decide +kernel
theorem dX3_commonLook_12 : decode cX3_commonLook 12 = .ok (.iadd, 1) := by decide +kernel
theorem dX3_commonLook_13 : decode cX3_commonLook 13 = .ok (.if_icmp .ge 54, 3) := by decide +kernel
theorem dX3_commonLook_16 : decode cX3_commonLook 16 = .ok (.aload_n 0, 1) := by decide +kernel
theorem dX3_commonLook_17 : decode cX3_commonLook 17 = .ok (.iload 5, 2) := by decide +kernel
theorem dX3_commonLook_19 : decode cX3_commonLook 19 = .ok (.invokevirtual 63, 3) := by decide +kernel
theorem dX3_commonLook_22 : decode cX3_commonLook 22 = .ok (.istore 6, 2) := by decide +kernel
theorem dX3_commonLook_24 : decode cX3_commonLook 24 = .ok (.iload 6, 2) := by decide +kernel
theorem dX3_commonLook_26 : decode cX3_commonLook 26 = .ok (.aload_n 0, 1) := by decide +kernel
theorem dX3_commonLook_27 : decode cX3_commonLook 27 = .ok (.iload_n 1, 1) := by decide +kernel
theorem dX3_commonLook_28 : decode cX3_commonLook 28 = .ok (.iload_n 2, 1) := by decide +kernel
theorem dX3_commonLook_29 : decode cX3_commonLook 29 = .ok (.invokestatic 81, 3) := by decide +kernel
theorem dX3_commonLook_32 : decode cX3_commonLook 32 = .ok (.istore 7, 2) := by decide +kernel
theorem dX3_commonLook_34 : decode cX3_commonLook 34 = .ok (.iload 7, 2) := by decide +kernel
theorem dX3_commonLook_36 : decode cX3_commonLook 36 = .ok (.iload 4, 2) := by decide +kernel
theorem dX3_commonLook_38 : decode cX3_commonLook 38 = .ok (.if_icmp .gt 16, 3) := by decide +kernel
theorem dX3_commonLook_41 : decode cX3_commonLook 41 = .ok (.iload 7, 2) := by decide +kernel
theorem dX3_commonLook_43 : decode cX3_commonLook 43 = .ok (.iload 4, 2) := by decide +kernel
theorem dX3_commonLook_45 : decode cX3_commonLook 45 = .ok (.if_icmp .ne 16, 3) := by decide +kernel
theorem dX3_commonLook_48 : decode cX3_commonLook 48 = .ok (.iload 6, 2) := by decide +kernel
theorem dX3_commonLook_50 : decode cX3_commonLook 50 = .ok (.iload_n 3, 1) := by decide +kernel
theorem dX3_commonLook_51 : decode cX3_commonLook 51 = .ok (.if_icmp .ge 10, 3) := by decide +kernel
theorem dX3_commonLook_54 : decode cX3_commonLook 54 = .ok (.iload 6, 2) := by decide +kernel
theorem dX3_commonLook_56 : decode cX3_commonLook 56 = .ok (.istore_n 3, 1) := by decide +kernel
theorem dX3_commonLook_57 : decode cX3_commonLook 57 = .ok (.iload 7, 2) := by decide +kernel
theorem dX3_commonLook_59 : decode cX3_commonLook 59 = .ok (.istore 4, 2) := by decide +kernel
theorem dX3_commonLook_61 : decode cX3_commonLook 61 = .ok (.iinc 5 1, 3) := by decide +kernel
theorem dX3_commonLook_64 : decode cX3_commonLook 64 = .ok (.goto (-56), 3) := by decide +kernel
theorem dX3_commonLook_67 : decode cX3_commonLook 67 = .ok (.iload_n 3, 1) := by decide +kernel
theorem dX3_commonLook_68 : decode cX3_commonLook 68 = .ok (.ireturn, 1) := by decide +kernel
set_option maxRecDepth 20000 in
theorem ggX3_timesOf_X4_at : GoodIn wsX3_timesOf wsX4_at := goodIn_r _ [5, 6, 7, 8, 9] (by decide +kernel) (by decide +kernel)
set_option maxRecDepth 20000 in
theorem gX3_timesOf_X4_at : GoodIn wsX3_timesOf (wsV RX3 63 RX4 yX4_at wsX4_at) := goodIn_app (goodIn_of _ (by decide +kernel)) ggX3_timesOf_X4_at
theorem dX3_timesOf_0 : decode cX3_timesOf 0 = .ok (.iconst 0, 1) := by decide +kernel
theorem dX3_timesOf_1 : decode cX3_timesOf 1 = .ok (.istore 4, 2) := by decide +kernel
theorem dX3_timesOf_3 : decode cX3_timesOf 3 = .ok (.iload_n 2, 1) := by decide +kernel
theorem dX3_timesOf_4 : decode cX3_timesOf 4 = .ok (.istore 5, 2) := by decide +kernel
theorem dX3_timesOf_6 : decode cX3_timesOf 6 = .ok (.iload 5, 2) := by decide +kernel
theorem dX3_timesOf_8 : decode cX3_timesOf 8 = .ok (.iload_n 2, 1) := by decide +kernel
theorem dX3_timesOf_9 : decode cX3_timesOf 9 = .ok (.iload_n 3, 1) := by decide +kernel
theorem dX3_timesOf_10 : decode cX3_timesOf 10 = .ok (.iadd, 1) := by decide +kernel
theorem dX3_timesOf_11 : decode cX3_timesOf 11 = .ok (.if_icmp .ge 22, 3) := by decide +kernel
theorem dX3_timesOf_14 : decode cX3_timesOf 14 = .ok (.aload_n 1, 1) := by decide +kernel
theorem dX3_timesOf_15 : decode cX3_timesOf 15 = .ok (.iload 5, 2) := by decide +kernel
theorem dX3_timesOf_17 : decode cX3_timesOf 17 = .ok (.invokevirtual 63, 3) := by decide +kernel
theorem dX3_timesOf_20 : decode cX3_timesOf 20 = .ok (.iload_n 0, 1) := by decide +kernel
theorem dX3_timesOf_21 : decode cX3_timesOf 21 = .ok (.if_icmp .ne 6, 3) := by decide +kernel
theorem dX3_timesOf_24 : decode cX3_timesOf 24 = .ok (.iinc 4 1, 3) := by decide +kernel
theorem dX3_timesOf_27 : decode cX3_timesOf 27 = .ok (.iinc 5 1, 3) := by decide +kernel
theorem dX3_timesOf_30 : decode cX3_timesOf 30 = .ok (.goto (-24), 3) := by decide +kernel
theorem dX3_timesOf_33 : decode cX3_timesOf 33 = .ok (.iload 4, 2) := by decide +kernel
theorem dX3_timesOf_35 : decode cX3_timesOf 35 = .ok (.ireturn, 1) := by decide +kernel
