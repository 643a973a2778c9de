theorem dX6_ofField_0 : decode cX6_ofField 0 = .ok (.aload_n 0, 1) := by decide +kernel
theorem dX6_ofField_1 : decode cX6_ofField 1 = .ok (.iload_n 1, 1) := by decide +kernel
theorem dX6_ofField_2 : decode cX6_ofField 2 = .ok (.invokevirtual 86, 3) := by decide +kernel
theorem dX6_ofField_5 : decode cX6_ofField 5 = .ok (.aload_n 0, 1) := by decide +kernel
theorem dX6_ofField_6 : decode cX6_ofField 6 = .ok (.getfield 28, 3) := by decide +kernel
theorem dX6_ofField_9 : decode cX6_ofField 9 = .ok (.aload_n 0, 1) := by decide +kernel
theorem dX6_ofField_10 : decode cX6_ofField 10 = .ok (.getfield 21, 3) := by decide +kernel
theorem dX6_ofField_13 : decode cX6_ofField 13 = .ok (.getfield 79, 3) := by decide +kernel
theorem dX6_ofField_16 : decode cX6_ofField 16 = .ok (.aload_n 0, 1) := by decide +kernel
theorem dX6_ofField_17 : decode cX6_ofField 17 = .ok (.getfield 46, 3) := by decide +kernel
theorem dX6_ofField_20 : decode cX6_ofField 20 = .ok (.invokevirtual 132, 3) := by decide +kernel
theorem dX6_ofField_23 : decode cX6_ofField 23 = .ok (.iload_n 2, 1) := by decide +kernel
theorem dX6_ofField_24 : decode cX6_ofField 24 = .ok (.tableswitch 81 0 3 #[32, 44, 54, 64], 32) := by decide +kernel
theorem dX6_ofField_56 : decode cX6_ofField 56 = .ok (.aload_n 0, 1) := by decide +kernel
theorem dX6_ofField_57 : decode cX6_ofField 57 = .ok (.getfield 21, 3) := by decide +kernel
theorem dX6_ofField_60 : decode cX6_ofField 60 = .ok (.getfield 79, 3) := by decide +kernel
theorem dX6_ofField_63 : decode cX6_ofField 63 = .ok (.iload_n 1, 1) := by decide +kernel
theorem dX6_ofField_64 : decode cX6_ofField 64 = .ok (.invokevirtual 95, 3) := by decide +kernel
theorem dX6_ofField_67 : decode cX6_ofField 67 = .ok (.ireturn, 1) := by decide +kernel
theorem dX6_ofField_68 : decode cX6_ofField 68 = .ok (.aload_n 0, 1) := by decide +kernel
theorem dX6_ofField_69 : decode cX6_ofField 69 = .ok (.getfield 28, 3) := by decide +kernel
theorem dX6_ofField_72 : decode cX6_ofField 72 = .ok (.getfield 135, 3) := by decide +kernel
theorem dX6_ofField_75 : decode cX6_ofField 75 = .ok (.iload_n 1, 1) := by decide +kernel
theorem dX6_ofField_76 : decode cX6_ofField 76 = .ok (.iaload, 1) := by decide +kernel
theorem dX6_ofField_77 : decode cX6_ofField 77 = .ok (.ireturn, 1) := by decide +kernel
theorem dX6_ofField_78 : decode cX6_ofField 78 = .ok (.aload_n 0, 1) := by decide +kernel
theorem dX6_ofField_79 : decode cX6_ofField 79 = .ok (.getfield 28, 3) := by decide +kernel
theorem dX6_ofField_82 : decode cX6_ofField 82 = .ok (.getfield 139, 3) := by decide +kernel
theorem dX6_ofField_85 : decode cX6_ofField 85 = .ok (.iload_n 1, 1) := by decide +kernel
theorem dX6_ofField_86 : decode cX6_ofField 86 = .ok (.iaload, 1) := by decide +kernel
theorem dX6_ofField_87 : decode cX6_ofField 87 = .ok (.ireturn, 1) := by decide +kernel
theorem dX6_ofField_88 : decode cX6_ofField 88 = .ok (.aload_n 0, 1) := by decide +kernel
theorem dX6_ofField_89 : decode cX6_ofField 89 = .ok (.getfield 21, 3) := by decide +kernel
theorem dX6_ofField_92 : decode cX6_ofField 92 = .ok (.iload_n 1, 1) := by decide +kernel
theorem dX6_ofField_93 : decode cX6_ofField 93 = .ok (.invokevirtual 142, 3) := by decide +kernel
theorem dX6_ofField_96 : decode cX6_ofField 96 = .ok (.ifCond .eq 7, 3) := by decide +kernel
theorem dX6_ofField_99 : decode cX6_ofField 99 = .ok (.iconst 1, 1) := by decide +kernel
theorem dX6_ofField_100 : decode cX6_ofField 100 = .ok (.goto 4, 3) := by decide +kernel
theorem dX6_ofField_103 : decode cX6_ofField 103 = .ok (.iconst 0, 1) := by decide +kernel
theorem dX6_ofField_104 : decode cX6_ofField 104 = .ok (.ireturn, 1) := by decide +kernel
theorem dX6_ofField_105 : decode cX6_ofField 105 = .ok (.new 67, 3) := by decide +kernel
theorem dX6_ofField_108 : decode cX6_ofField 108 = .ok (.dup, 1) := by decide +kernel
theorem dX6_ofField_109 : decode cX6_ofField 109 = .ok (.ldc 146, 2) := by decide +kernel
theorem dX6_ofField_111 : decode cX6_ofField 111 = .ok (.invokespecial 71, 3) := by decide +kernel
theorem dX6_ofField_114 : decode cX6_ofField 114 = .ok (.athrow, 1) := by decide +kernel
set_option maxRecDepth 20000 in
theorem ggX6_found_X3_find : GoodIn wsX6_found wsX3_find := goodIn_r _ [12, 13, 14, 15, 16, 17, 18, 19, 20, 21, 11, 22, 23, 24, 25, 26, 27, 28, 29, 30, 31, 32, 33, 34, 35, 36, 37, 38, 39, 40, 41, 42, 43, 44, 45, 46, 47, 48, 49, 50, 51, 52, 53, 54, 55, 56, 57, 58, 59, 60, 61, 62, 63, 64, 65, 79, 80, 81, 82, 83, 84, 85, 86, 87, 88, 89] (by decide +kernel) (by decide +kernel)
set_option maxRecDepth 20000 in
theorem gX6_found_X3_find : GoodIn wsX6_found (wsV RX6 132 RX3 yX3_find wsX3_find) := goodIn_app (goodIn_of _ (by decide +kernel)) ggX6_found_X3_find
theorem dX6_found_0 : decode cX6_found 0 = .ok (.aload_n 0, 1) := by decide +kernel
theorem dX6_found_1 : decode cX6_found 1 = .ok (.getfield 28, 3) := by decide +kernel
theorem dX6_found_4 : decode cX6_found 4 = .ok (.aload_n 0, 1) := by decide +kernel
theorem dX6_found_5 : decode cX6_found 5 = .ok (.getfield 21, 3) := by decide +kernel
theorem dX6_found_8 : decode cX6_found 8 = .ok (.getfield 79, 3) := by decide +kernel
theorem dX6_found_11 : decode cX6_found 11 = .ok (.aload_n 0, 1) := by decide +kernel
theorem dX6_found_12 : decode cX6_found 12 = .ok (.getfield 46, 3) := by decide +kernel
theorem dX6_found_15 : decode cX6_found 15 = .ok (.invokevirtual 132, 3) := by decide +kernel
theorem dX6_found_18 : decode cX6_found 18 = .ok (.iload_n 1, 1) := by decide +kernel
theorem dX6_found_19 : decode cX6_found 19 = .ok (.ifCond .lt 14, 3) := by decide +kernel
theorem dX6_found_22 : decode cX6_found 22 = .ok (.iload_n 1, 1) := by decide +kernel
theorem dX6_found_23 : decode cX6_found 23 = .ok (.aload_n 0, 1) := by decide +kernel
theorem dX6_found_24 : decode cX6_found 24 = .ok (.getfield 28, 3) := by decide +kernel
theorem dX6_found_27 : decode cX6_found 27 = .ok (.getfield 148, 3) := by decide +kernel
theorem dX6_found_30 : decode cX6_found 30 = .ok (.if_icmp .lt 13, 3) := by decide +kernel
theorem dX6_found_33 : decode cX6_found 33 = .ok (.new 151, 3) := by decide +kernel
theorem dX6_found_36 : decode cX6_found 36 = .ok (.dup, 1) := by decide +kernel
theorem dX6_found_37 : decode cX6_found 37 = .ok (.ldc 153, 2) := by decide +kernel
theorem dX6_found_39 : decode cX6_found 39 = .ok (.invokespecial 155, 3) := by decide +kernel
theorem dX6_found_42 : decode cX6_found 42 = .ok (.athrow, 1) := by decide +kernel
theorem dX6_found_43 : decode cX6_found 43 = .ok (.iload_n 2, 1) := by decide +kernel
theorem dX6_found_44 : decode cX6_found 44 = .ok (.tableswitch 58 0 2 #[28, 38, 48], 28) := by decide +kernel
theorem dX6_found_72 : decode cX6_found 72 = .ok (.aload_n 0, 1) := by decide +kernel
theorem dX6_found_73 : decode cX6_found 73 = .ok (.getfield 28, 3) := by decide +kernel
theorem dX6_found_76 : decode cX6_found 76 = .ok (.getfield 156, 3) := by decide +kernel
theorem dX6_found_79 : decode cX6_found 79 = .ok (.iload_n 1, 1) := by decide +kernel
theorem dX6_found_80 : decode cX6_found 80 = .ok (.iaload, 1) := by decide +kernel
theorem dX6_found_81 : decode cX6_found 81 = .ok (.ireturn, 1) := by decide +kernel
theorem dX6_found_82 : decode cX6_found 82 = .ok (.aload_n 0, 1) := by decide +kernel
theorem dX6_found_83 : decode cX6_found 83 = .ok (.getfield 28, 3) := by decide +kernel
theorem dX6_found_86 : decode cX6_found 86 = .ok (.getfield 159, 3) := by decide +kernel
theorem dX6_found_89 : decode cX6_found 89 = .ok (.iload_n 1, 1) := by decide +kernel
theorem dX6_found_90 : decode cX6_found 90 = .ok (.iaload, 1) := by decide +kernel
theorem dX6_found_91 : decode cX6_found 91 = .ok (.ireturn, 1) := by decide +kernel
theorem dX6_found_92 : decode cX6_found 92 = .ok (.aload_n 0, 1) := by decide +kernel
theorem dX6_found_93 : decode cX6_found 93 = .ok (.getfield 28, 3) := by decide +kernel
theorem dX6_found_96 : decode cX6_found 96 = .ok (.getfield 162, 3) := by decide +kernel
theorem dX6_found_99 : decode cX6_found 99 = .ok (.iload_n 1, 1) := by decide +kernel
theorem dX6_found_100 : decode cX6_found 100 = .ok (.iaload, 1) := by decide +kernel
theorem dX6_found_101 : decode cX6_found 101 = .ok (.ireturn, 1) := by decide +kernel
theorem dX6_found_102 : decode cX6_found 102 = .ok (.new 67, 3) := by decide +kernel
theorem dX6_found_105 : decode cX6_found 105 = .ok (.dup, 1) := by decide +kernel
theorem dX6_found_106 : decode cX6_found 106 = .ok (.ldc 165, 2) := by decide +kernel
theorem dX6_found_108 : decode cX6_found 108 = .ok (.invokespecial 71, 3) := by decide +kernel
theorem dX6_found_111 : decode cX6_found 111 = .ok (.athrow, 1) := by decide +kernel
set_option maxRecDepth 20000 in
theorem ggX6_apart_X6_requirePrint : GoodIn wsX6_apart wsX6_requirePrint := goodIn_ca (goodIn_r _ [6, 7, 8, 1, 9, 10, 11, 12, 13, 14, 50, 51, 52, 53, 54, 55, 56, 57, 58, 59, 60] (by decide +kernel) (by decide +kernel)) (goodIn_sub (fun _ h => List.mem_cons_of_mem _ (List.mem_append_right _ h)) (by decide +kernel))
set_option maxRecDepth 20000 in
theorem gX6_apart_X6_requirePrint : GoodIn wsX6_apart (wsV RX6 111 RX6 yX6_requirePrint wsX6_requirePrint) := goodIn_app (goodIn_of _ (by decide +kernel)) ggX6_apart_X6_requirePrint
set_option maxRecDepth 20000 in
theorem ggX6_apart_X2_distance : GoodIn wsX6_apart wsX2_distance := goodIn_r _ [18, 19, 20, 21, 22, 23, 24, 25, 26, 27, 28, 29, 12, 30, 31, 32, 33, 34, 35, 36, 37, 38, 39, 40, 41, 42, 43, 44, 45, 46, 47, 48, 49, 57, 58, 59, 60, 61, 62] (by decide +kernel) (by decide +kernel)
set_option maxRecDepth 20000 in
theorem gX6_apart_X2_distance : GoodIn wsX6_apart (wsV RX6 169 RX2 yX2_distance wsX2_distance) := goodIn_app (goodIn_of _ (by decide +kernel)) ggX6_apart_X2_distance
theorem dX6_apart_0 : decode cX6_apart 0 = .ok (.aload_n 0, 1) := by decide +kernel
theorem dX6_apart_1 : decode cX6_apart 1 = .ok (.iload_n 1, 1) := by decide +kernel
theorem dX6_apart_2 : decode cX6_apart 2 = .ok (.invokevirtual 111, 3) := by decide +kernel
theorem dX6_apart_5 : decode cX6_apart 5 = .ok (.aload_n 0, 1) := by decide +kernel
theorem dX6_apart_6 : decode cX6_apart 6 = .ok (.iload_n 2, 1) := by decide +kernel
theorem dX6_apart_7 : decode cX6_apart 7 = .ok (.invokevirtual 111, 3) := by decide +kernel
theorem dX6_apart_10 : decode cX6_apart 10 = .ok (.aload_n 0, 1) := by decide +kernel
theorem dX6_apart_11 : decode cX6_apart 11 = .ok (.getfield 35, 3) := by decide +kernel
theorem dX6_apart_14 : decode cX6_apart 14 = .ok (.iload_n 1, 1) := by decide +kernel
theorem dX6_apart_15 : decode cX6_apart 15 = .ok (.iload_n 2, 1) := by decide +kernel
theorem dX6_apart_16 : decode cX6_apart 16 = .ok (.invokevirtual 169, 3) := by decide +kernel
theorem dX6_apart_19 : decode cX6_apart 19 = .ok (.ireturn, 1) := by decide +kernel
set_option maxRecDepth 20000 in
theorem ggX6_house_X4_many : GoodIn wsX6_house wsX4_many := goodIn_r _ [14, 15, 126, 127] (by decide +kernel) (by decide +kernel)
set_option maxRecDepth 20000 in
theorem gX6_house_X4_many : GoodIn wsX6_house (wsV RX6 82 RX4 yX4_many wsX4_many) := goodIn_app (goodIn_of _ (by decide +kernel)) ggX6_house_X4_many
set_option maxRecDepth 20000 in
theorem ggX6_house_X3_find : GoodIn wsX6_house wsX3_find := goodIn_r _ [20, 21, 22, 23, 24, 25, 26, 27, 28, 29, 19, 30, 31, 32, 11, 12, 13, 14, 15, 33, 34, 35, 36, 37, 38, 39, 40, 41, 42, 43, 44, 45, 46, 47, 48, 49, 50, 51, 52, 53, 54, 55, 56, 57, 58, 59, 60, 61, 62, 63, 64, 65, 66, 67, 68, 111, 112, 113, 114, 115, 116, 117, 118, 119, 126, 127] (by decide +kernel) (by decide +kernel)
set_option maxRecDepth 20000 in
theorem gX6_house_X3_find : GoodIn wsX6_house (wsV RX6 132 RX3 yX3_find wsX3_find) := goodIn_app (goodIn_of _ (by decide +kernel)) ggX6_house_X3_find
set_option maxRecDepth 20000 in
theorem ggX6_house_X0_leastDelay : GoodIn wsX6_house wsX0_leastDelay := goodIn_r _ [73, 74, 75, 76, 77, 78, 79, 80, 11, 12, 13, 14, 15, 81, 34, 35, 36, 37, 124, 125, 126, 127] (by decide +kernel) (by decide +kernel)
set_option maxRecDepth 20000 in
theorem gX6_house_X0_leastDelay : GoodIn wsX6_house (wsV RX6 192 RX0 yX0_leastDelay wsX0_leastDelay) := goodIn_app (goodIn_of _ (by decide +kernel)) ggX6_house_X0_leastDelay
set_option maxRecDepth 20000 in
theorem ggX6_house_X0_peak : GoodIn wsX6_house wsX0_peak := goodIn_r _ [85, 74, 76, 77, 78, 79, 86, 70, 71, 72, 73, 75, 80, 11, 12, 13, 14, 15, 81, 34, 35, 36, 37, 87, 88, 89, 90, 91, 92, 93, 94, 95, 96, 97, 124, 125, 126, 127] (by decide +kernel) (by decide +kernel)
set_option maxRecDepth 20000 in
theorem gX6_house_X0_peak : GoodIn wsX6_house (wsV RX6 195 RX0 yX0_peak wsX0_peak) := goodIn_app (goodIn_of _ (by decide +kernel)) ggX6_house_X0_peak
theorem dX6_house_0 : decode cX6_house 0 = .ok (.iload_n 1, 1) := by decide +kernel
theorem dX6_house_1 : decode cX6_house 1 = .ok (.tableswitch 195 0 11 #[63, 71, 82, 90, 95, 121, 147, 155, 163, 174, 182, 190], 63) := by decide +kernel
theorem dX6_house_64 : decode cX6_house 64 = .ok (.aload_n 0, 1) := by decide +kernel
theorem dX6_house_65 : decode cX6_house 65 = .ok (.getfield 14, 3) := by decide +kernel
theorem dX6_house_68 : decode cX6_house 68 = .ok (.invokevirtual 82, 3) := by decide +kernel
theorem dX6_house_71 : decode cX6_house 71 = .ok (.ireturn, 1) := by decide +kernel
theorem dX6_house_72 : decode cX6_house 72 = .ok (.aload_n 0, 1) := by decide +kernel
theorem dX6_house_73 : decode cX6_house 73 = .ok (.getfield 21, 3) := by decide +kernel
theorem dX6_house_76 : decode cX6_house 76 = .ok (.getfield 79, 3) := by decide +kernel
theorem dX6_house_79 : decode cX6_house 79 = .ok (.invokevirtual 82, 3) := by decide +kernel
theorem dX6_house_82 : decode cX6_house 82 = .ok (.ireturn, 1) := by decide +kernel
theorem dX6_house_83 : decode cX6_house 83 = .ok (.aload_n 0, 1) := by decide +kernel
theorem dX6_house_84 : decode cX6_house 84 = .ok (.getfield 21, 3) := by decide +kernel
theorem dX6_house_87 : decode cX6_house 87 = .ok (.getfield 184, 3) := by decide +kernel
theorem dX6_house_90 : decode cX6_house 90 = .ok (.ireturn, 1) := by decide +kernel
theorem dX6_house_91 : decode cX6_house 91 = .ok (.aload_n 0, 1) := by decide +kernel
theorem dX6_house_92 : decode cX6_house 92 = .ok (.getfield 46, 3) := by decide +kernel
theorem dX6_house_95 : decode cX6_house 95 = .ok (.ireturn, 1) := by decide +kernel
theorem dX6_house_96 : decode cX6_house 96 = .ok (.aload_n 0, 1) := by decide +kernel
theorem dX6_house_97 : decode cX6_house 97 = .ok (.getfield 28, 3) := by decide +kernel
theorem dX6_house_100 : decode cX6_house 100 = .ok (.aload_n 0, 1) := by decide +kernel
theorem dX6_house_101 : decode cX6_house 101 = .ok (.getfield 21, 3) := by decide +kernel
theorem dX6_house_104 : decode cX6_house 104 = .ok (.getfield 79, 3) := by decide +kernel
theorem dX6_house_107 : decode cX6_house 107 = .ok (.aload_n 0, 1) := by decide +kernel
theorem dX6_house_108 : decode cX6_house 108 = .ok (.getfield 46, 3) := by decide +kernel
theorem dX6_house_111 : decode cX6_house 111 = .ok (.invokevirtual 132, 3) := by decide +kernel
theorem dX6_house_114 : decode cX6_house 114 = .ok (.aload_n 0, 1) := by decide +kernel
theorem dX6_house_115 : decode cX6_house 115 = .ok (.getfield 28, 3) := by decide +kernel
theorem dX6_house_118 : decode cX6_house 118 = .ok (.getfield 187, 3) := by decide +kernel
theorem dX6_house_121 : decode cX6_house 121 = .ok (.ireturn, 1) := by decide +kernel
theorem dX6_house_122 : decode cX6_house 122 = .ok (.aload_n 0, 1) := by decide +kernel
theorem dX6_house_123 : decode cX6_house 123 = .ok (.getfield 28, 3) := by decide +kernel
theorem dX6_house_126 : decode cX6_house 126 = .ok (.aload_n 0, 1) := by decide +kernel
theorem dX6_house_127 : decode cX6_house 127 = .ok (.getfield 21, 3) := by decide +kernel
theorem dX6_house_130 : decode cX6_house 130 = .ok (.getfield 79, 3) := by decide +kernel
theorem dX6_house_133 : decode cX6_house 133 = .ok (.aload_n 0, 1) := by decide +kernel
theorem dX6_house_134 : decode cX6_house 134 = .ok (.getfield 46, 3) := by decide +kernel
theorem dX6_house_137 : decode cX6_house 137 = .ok (.invokevirtual 132, 3) := by decide +kernel
theorem dX6_house_140 : decode cX6_house 140 = .ok (.aload_n 0, 1) := by decide +kernel
theorem dX6_house_141 : decode cX6_house 141 = .ok (.getfield 28, 3) := by decide +kernel
theorem dX6_house_144 : decode cX6_house 144 = .ok (.getfield 148, 3) := by decide +kernel
theorem dX6_house_147 : decode cX6_house 147 = .ok (.ireturn, 1) := by decide +kernel
theorem dX6_house_148 : decode cX6_house 148 = .ok (.aload_n 0, 1) := by decide +kernel
theorem dX6_house_149 : decode cX6_house 149 = .ok (.getfield 35, 3) := by decide +kernel
theorem dX6_house_152 : decode cX6_house 152 = .ok (.getfield 190, 3) := by decide +kernel
theorem dX6_house_155 : decode cX6_house 155 = .ok (.ireturn, 1) := by decide +kernel
theorem dX6_house_156 : decode cX6_house 156 = .ok (.aload_n 0, 1) := by decide +kernel
theorem dX6_house_157 : decode cX6_house 157 = .ok (.getfield 42, 3) := by decide +kernel
theorem dX6_house_160 : decode cX6_house 160 = .ok (.getfield 122, 3) := by decide +kernel
theorem dX6_house_163 : decode cX6_house 163 = .ok (.ireturn, 1) := by decide +kernel
theorem dX6_house_164 : decode cX6_house 164 = .ok (.aload_n 0, 1) := by decide +kernel
theorem dX6_house_165 : decode cX6_house 165 = .ok (.getfield 42, 3) := by decide +kernel
theorem dX6_house_168 : decode cX6_house 168 = .ok (.getfield 127, 3) := by decide +kernel
theorem dX6_house_171 : decode cX6_house 171 = .ok (.invokevirtual 82, 3) := by decide +kernel
theorem dX6_house_174 : decode cX6_house 174 = .ok (.ireturn, 1) := by decide +kernel
theorem dX6_house_175 : decode cX6_house 175 = .ok (.aload_n 0, 1) := by decide +kernel
theorem dX6_house_176 : decode cX6_house 176 = .ok (.getfield 42, 3) := by decide +kernel
theorem dX6_house_179 : decode cX6_house 179 = .ok (.invokevirtual 192, 3) := by decide +kernel
theorem dX6_house_182 : decode cX6_house 182 = .ok (.ireturn, 1) := by decide +kernel
theorem dX6_house_183 : decode cX6_house 183 = .ok (.aload_n 0, 1) := by decide +kernel
theorem dX6_house_184 : decode cX6_house 184 = .ok (.getfield 42, 3) := by decide +kernel
theorem dX6_house_187 : decode cX6_house 187 = .ok (.invokevirtual 195, 3) := by decide +kernel
theorem dX6_house_190 : decode cX6_house 190 = .ok (.ireturn, 1) := by decide +kernel
theorem dX6_house_191 : decode cX6_house 191 = .ok (.aload_n 0, 1) := by decide +kernel
theorem dX6_house_192 : decode cX6_house 192 = .ok (.getfield 50, 3) := by decide +kernel
theorem dX6_house_195 : decode cX6_house 195 = .ok (.ireturn, 1) := by decide +kernel
theorem dX6_house_196 : decode cX6_house 196 = .ok (.new 67, 3) := by decide +kernel
theorem dX6_house_199 : decode cX6_house 199 = .ok (.dup, 1) := by decide +kernel
theorem dX6_house_200 : decode cX6_house 200 = .ok (.ldc 198, 2) := by decide +kernel
theorem dX6_house_202 : decode cX6_house 202 = .ok (.invokespecial 71, 3) := by decide +kernel
theorem dX6_house_205 : decode cX6_house 205 = .ok (.athrow, 1) := by decide +kernel
set_option maxRecDepth 20000 in
theorem ggX6_label_X1_labelOf : GoodIn wsX6_label wsX1_labelOf := goodIn_r _ [7] (by decide +kernel) (by decide +kernel)
set_option maxRecDepth 20000 in
theorem gX6_label_X1_labelOf : GoodIn wsX6_label (va_wsS RX6 207 yX1_labelOf wsX1_labelOf) := goodIn_app (goodIn_of _ (by decide +kernel)) ggX6_label_X1_labelOf
theorem dX6_label_0 : decode cX6_label 0 = .ok (.iload_n 1, 1) := by decide +kernel
theorem dX6_label_1 : decode cX6_label 1 = .ok (.ifCond .lt 9, 3) := by decide +kernel
theorem dX6_label_4 : decode cX6_label 4 = .ok (.iload_n 1, 1) := by decide +kernel
theorem dX6_label_5 : decode cX6_label 5 = .ok (.ldc 204, 2) := by decide +kernel
theorem dX6_label_7 : decode cX6_label 7 = .ok (.if_icmp .lt 13, 3) := by decide +kernel
theorem dX6_label_10 : decode cX6_label 10 = .ok (.new 67, 3) := by decide +kernel
theorem dX6_label_13 : decode cX6_label 13 = .ok (.dup, 1) := by decide +kernel
theorem dX6_label_14 : decode cX6_label 14 = .ok (.ldc 205, 2) := by decide +kernel
theorem dX6_label_16 : decode cX6_label 16 = .ok (.invokespecial 71, 3) := by decide +kernel
theorem dX6_label_19 : decode cX6_label 19 = .ok (.athrow, 1) := by decide +kernel
theorem dX6_label_20 : decode cX6_label 20 = .ok (.iload_n 1, 1) := by decide +kernel
theorem dX6_label_21 : decode cX6_label 21 = .ok (.invokestatic 207, 3) := by decide +kernel
theorem dX6_label_24 : decode cX6_label 24 = .ok (.ireturn, 1) := by decide +kernel
set_option maxRecDepth 20000 in
theorem ggX6_picture_X1_pictureOf : GoodIn wsX6_picture wsX1_pictureOf := goodIn_r _ [4, 5, 6, 3, 7] (by decide +kernel) (by decide +kernel)
set_option maxRecDepth 20000 in
theorem gX6_picture_X1_pictureOf : GoodIn wsX6_picture (va_wsS RX6 212 yX1_pictureOf wsX1_pictureOf) := goodIn_app (goodIn_of _ (by decide +kernel)) ggX6_picture_X1_pictureOf
theorem dX6_picture_0 : decode cX6_picture 0 = .ok (.iload_n 1, 1) := by decide +kernel
theorem dX6_picture_1 : decode cX6_picture 1 = .ok (.invokestatic 212, 3) := by decide +kernel
theorem dX6_picture_4 : decode cX6_picture 4 = .ok (.ireturn, 1) := by decide +kernel
set_option maxRecDepth 20000 in
theorem ggX6_dry_X0_firstDry : GoodIn wsX6_dry wsX0_firstDry := goodIn_r _ [8, 9, 10, 11, 12, 7, 13, 14, 15, 16, 17, 18, 19, 20, 21, 22, 23, 24, 25, 26, 27, 28, 29, 30, 31, 32, 33, 41, 42, 43, 44] (by decide +kernel) (by decide +kernel)
set_option maxRecDepth 20000 in
theorem gX6_dry_X0_firstDry : GoodIn wsX6_dry (wsV RX6 217 RX0 yX0_firstDry wsX0_firstDry) := goodIn_app (goodIn_of _ (by decide +kernel)) ggX6_dry_X0_firstDry
theorem dX6_dry_0 : decode cX6_dry 0 = .ok (.iload_n 1, 1) := by decide +kernel
theorem dX6_dry_1 : decode cX6_dry 1 = .ok (.ifCond .lt 10, 3) := by decide +kernel
theorem dX6_dry_4 : decode cX6_dry 4 = .ok (.iload_n 1, 1) := by decide +kernel
theorem dX6_dry_5 : decode cX6_dry 5 = .ok (.sipush 2000, 3) := by decide +kernel
theorem dX6_dry_8 : decode cX6_dry 8 = .ok (.if_icmp .le 13, 3) := by decide +kernel
theorem dX6_dry_11 : decode cX6_dry 11 = .ok (.new 67, 3) := by decide +kernel
theorem dX6_dry_14 : decode cX6_dry 14 = .ok (.dup, 1) := by decide +kernel
theorem dX6_dry_15 : decode cX6_dry 15 = .ok (.ldc 215, 2) := by decide +kernel
theorem dX6_dry_17 : decode cX6_dry 17 = .ok (.invokespecial 71, 3) := by decide +kernel
theorem dX6_dry_20 : decode cX6_dry 20 = .ok (.athrow, 1) := by decide +kernel
theorem dX6_dry_21 : decode cX6_dry 21 = .ok (.aload_n 0, 1) := by decide +kernel
theorem dX6_dry_22 : decode cX6_dry 22 = .ok (.getfield 42, 3) := by decide +kernel
theorem dX6_dry_25 : decode cX6_dry 25 = .ok (.iload_n 1, 1) := by decide +kernel
theorem dX6_dry_26 : decode cX6_dry 26 = .ok (.invokevirtual 217, 3) := by decide +kernel
theorem dX6_dry_29 : decode cX6_dry 29 = .ok (.ireturn, 1) := by decide +kernel
set_option maxRecDepth 20000 in
theorem ggX6_isSound_X6_printsAreSound : GoodIn wsX6_isSound wsX6_printsAreSound := goodIn_r _ [5, 6, 7, 8, 9, 4, 10, 11, 12, 13, 14, 15, 16, 17, 18, 19, 20, 21, 22, 23, 24, 25, 26, 27, 28, 29, 30, 31, 32, 33, 34, 35, 36, 37, 38, 39, 40, 41, 42, 43, 44, 45, 46, 151, 152, 153, 154, 155, 156, 157, 158, 159, 160, 161, 162, 163] (by decide +kernel) (by decide +kernel)
set_option maxRecDepth 20000 in
theorem gX6_isSound_X6_printsAreSound : GoodIn wsX6_isSound (wsV RX6 227 RX6 yX6_printsAreSound wsX6_printsAreSound) := goodIn_app (goodIn_of _ (by decide +kernel)) ggX6_isSound_X6_printsAreSound
set_option maxRecDepth 20000 in
theorem ggX6_isSound_X6_bufferIsSound : GoodIn wsX6_isSound wsX6_bufferIsSound := goodIn_r _ [50, 51, 52, 53, 54, 55, 56, 57, 58, 59, 60, 30, 61, 62, 19, 20, 21, 22, 23, 63, 37, 38, 39, 40, 64, 65, 66, 67, 68, 69, 70, 71, 72, 73, 74, 75, 76, 29, 31, 151, 152, 153, 154, 155, 156, 157, 164, 165, 162, 163] (by decide +kernel) (by decide +kernel)
set_option maxRecDepth 20000 in
theorem gX6_isSound_X6_bufferIsSound : GoodIn wsX6_isSound (wsV RX6 231 RX6 yX6_bufferIsSound wsX6_bufferIsSound) := goodIn_app (goodIn_of _ (by decide +kernel)) ggX6_isSound_X6_bufferIsSound
set_option maxRecDepth 20000 in
theorem ggX6_isSound_X6_framesAreSound : GoodIn wsX6_isSound wsX6_framesAreSound := goodIn_r _ [80, 81, 82, 83, 84, 85, 86, 87, 88, 89, 90, 91, 92, 93, 94, 95, 96, 97, 98, 99, 100, 19, 20, 21, 22, 23, 101, 37, 38, 39, 40, 102, 103, 104, 105, 106, 107, 108, 109, 110, 111, 112, 113, 114, 115, 116, 117, 118, 119, 120, 121, 122, 123, 124, 125, 126, 127, 128, 129, 130, 131, 132, 133, 151, 152, 153, 154, 155, 156, 157, 166, 167, 168, 169, 170, 171, 172, 173, 174, 175, 176, 177, 178, 179, 180, 162, 163] (by decide +kernel) (by decide +kernel)
set_option maxRecDepth 20000 in
theorem gX6_isSound_X6_framesAreSound : GoodIn wsX6_isSound (wsV RX6 234 RX6 yX6_framesAreSound wsX6_framesAreSound) := goodIn_app (goodIn_of _ (by decide +kernel)) ggX6_isSound_X6_framesAreSound
set_option maxRecDepth 20000 in
theorem ggX6_isSound_X6_labelsAreSound : GoodIn wsX6_isSound wsX6_labelsAreSound := goodIn_r _ [136, 137, 138, 139, 140, 141, 142, 143, 144, 145, 146, 147, 148, 149, 150] (by decide +kernel) (by decide +kernel)
set_option maxRecDepth 20000 in
theorem gX6_isSound_X6_labelsAreSound : GoodIn wsX6_isSound (va_wsS RX6 237 yX6_labelsAreSound wsX6_labelsAreSound) := goodIn_app (goodIn_of _ (by decide +kernel)) ggX6_isSound_X6_labelsAreSound
