theorem dX6_isSound_0 : decode cX6_isSound 0 = .ok (.aload_n 0, 1) := by decide +kernel
theorem dX6_isSound_1 : decode cX6_isSound 1 = .ok (.invokevirtual 227, 3) := by decide +kernel
theorem dX6_isSound_4 : decode cX6_isSound 4 = .ok (.ifCond .eq 27, 3) := by decide +kernel
theorem dX6_isSound_7 : decode cX6_isSound 7 = .ok (.aload_n 0, 1) := by decide +kernel
theorem dX6_isSound_8 : decode cX6_isSound 8 = .ok (.invokevirtual 231, 3) := by decide +kernel
theorem dX6_isSound_11 : decode cX6_isSound 11 = .ok (.ifCond .eq 20, 3) := by decide +kernel
theorem dX6_isSound_14 : decode cX6_isSound 14 = .ok (.aload_n 0, 1) := by decide +kernel
theorem dX6_isSound_15 : decode cX6_isSound 15 = .ok (.invokevirtual 234, 3) := by decide +kernel
theorem dX6_isSound_18 : decode cX6_isSound 18 = .ok (.ifCond .eq 13, 3) := by decide +kernel
theorem dX6_isSound_21 : decode cX6_isSound 21 = .ok (.invokestatic 237, 3) := by decide +kernel
theorem dX6_isSound_24 : decode cX6_isSound 24 = .ok (.ifCond .eq 7, 3) := by decide +kernel
theorem dX6_isSound_27 : decode cX6_isSound 27 = .ok (.iconst 1, 1) := by decide +kernel
theorem dX6_isSound_28 : decode cX6_isSound 28 = .ok (.goto 4, 3) := by decide +kernel
theorem dX6_isSound_31 : decode cX6_isSound 31 = .ok (.iconst 0, 1) := by decide +kernel
theorem dX6_isSound_32 : decode cX6_isSound 32 = .ok (.ireturn, 1) := by decide +kernel
set_option maxRecDepth 20000 in
theorem ggX6_digest_X6_house : GoodIn wsX6_digest wsX6_house := goodIn_ca (goodIn_r _ [8, 9, 10, 11, 3, 12, 13, 14, 15, 16, 17, 18, 19, 20, 21, 22, 23, 24, 25, 26, 27, 28, 29, 30, 31, 32, 33, 34, 35, 36, 37, 38, 39, 40, 41, 42, 43, 44, 45, 46, 47, 48, 49, 50, 51, 52, 53, 54, 55, 56, 57, 58, 59, 60, 61, 62, 63, 64, 65, 66, 67, 68, 69, 70, 71, 72, 73, 74, 75, 76, 77, 78, 79, 80, 81, 82, 83, 84, 85, 86, 87, 88, 89, 90, 91, 92, 93, 94, 95, 96, 97, 98, 99, 100, 101, 102, 103, 104, 237, 238, 239, 240, 241, 242, 243, 244, 245, 246, 247, 248, 249, 250, 251, 252, 253, 254, 255, 256, 257, 258, 259, 260, 261, 262, 263, 264, 265, 266] (by decide +kernel) (by decide +kernel)) (goodIn_sub (fun _ h => List.mem_cons_of_mem _ (List.mem_append_left _ (List.mem_append_right _ h))) (by decide +kernel))
set_option maxRecDepth 20000 in
theorem gX6_digest_X6_house : GoodIn wsX6_digest (wsV RX6 244 RX6 yX6_house wsX6_house) := goodIn_app (goodIn_of _ (by decide +kernel)) ggX6_digest_X6_house
set_option maxRecDepth 20000 in
theorem ggX6_digest_X6_withFields : GoodIn wsX6_digest wsX6_withFields := goodIn_ca (goodIn_ca (goodIn_r _ [108, 3, 2, 17, 18, 19, 20, 21, 22, 109, 110, 111, 7, 112, 9, 10, 13, 12, 113, 114, 115, 116, 117, 118, 119, 120, 121, 122, 23, 24, 25, 26, 27, 28, 29, 30, 31, 32, 33, 34, 35, 36, 37, 38, 39, 40, 41, 42, 43, 44, 45, 46, 47, 48, 49, 50, 51, 52, 53, 54, 55, 56, 57, 58, 59, 60, 61, 62, 63, 64, 65, 66, 67, 68, 69, 70, 71, 72, 73, 74, 75, 123, 124, 125, 126, 127, 128, 129, 130, 237, 238, 239, 240, 241, 242, 243, 244, 245, 246, 247, 248, 249, 265, 266, 250, 251, 252, 253, 254, 255, 256, 257, 258] (by decide +kernel) (by decide +kernel)) (goodIn_sub (fun _ h => List.mem_cons_of_mem _ (List.mem_append_left _ (List.mem_append_right _ h))) (by decide +kernel))) (goodIn_sub (fun _ h => List.mem_cons_of_mem _ (List.mem_append_right _ h)) (by decide +kernel))
set_option maxRecDepth 20000 in
theorem gX6_digest_X6_withFields : GoodIn wsX6_digest (wsV RX6 247 RX6 yX6_withFields wsX6_withFields) := goodIn_app (goodIn_of _ (by decide +kernel)) ggX6_digest_X6_withFields
set_option maxRecDepth 20000 in
theorem ggX6_digest_X6_withFoundFrames : GoodIn wsX6_digest wsX6_withFoundFrames := goodIn_ca (goodIn_ca (goodIn_r _ [134, 13, 2, 135, 136, 137, 7, 138, 117, 118, 9, 10, 3, 12, 23, 24, 25, 26, 27, 28, 29, 30, 31, 32, 33, 34, 35, 36, 37, 38, 39, 18, 19, 20, 21, 22, 40, 41, 42, 43, 44, 45, 46, 47, 48, 49, 50, 51, 52, 53, 54, 55, 56, 57, 58, 59, 60, 61, 62, 63, 64, 65, 66, 67, 68, 69, 70, 71, 72, 73, 74, 75, 237, 238, 239, 240, 241, 242, 243, 250, 251, 252, 253, 254, 255, 256, 257, 258, 244, 245, 246, 247, 248, 249, 265, 266] (by decide +kernel) (by decide +kernel)) (goodIn_sub (fun _ h => List.mem_cons_of_mem _ (List.mem_append_right _ h)) (by decide +kernel))) (goodIn_sub (fun _ h => List.mem_cons_of_mem _ (List.mem_append_left _ (List.mem_append_right _ h))) (by decide +kernel))
set_option maxRecDepth 20000 in
theorem gX6_digest_X6_withFoundFrames : GoodIn wsX6_digest (wsV RX6 251 RX6 yX6_withFoundFrames wsX6_withFoundFrames) := goodIn_app (goodIn_of _ (by decide +kernel)) ggX6_digest_X6_withFoundFrames
set_option maxRecDepth 20000 in
theorem ggX6_digest_X6_withPrints : GoodIn wsX6_digest wsX6_withPrints := goodIn_r _ [142, 14, 2, 143, 144, 145, 146, 147, 148, 149, 150, 18, 19, 20, 21, 22, 151, 152, 153, 154, 155, 103, 85, 104, 156, 120, 121, 122, 157, 41, 42, 43, 44, 158, 159, 160, 161, 162, 163, 164, 165, 166, 167, 168, 169, 170, 171, 172, 173, 237, 238, 239, 240, 241, 242, 243, 259, 260, 261, 262, 265, 266] (by decide +kernel) (by decide +kernel)
set_option maxRecDepth 20000 in
theorem gX6_digest_X6_withPrints : GoodIn wsX6_digest (wsV RX6 254 RX6 yX6_withPrints wsX6_withPrints) := goodIn_app (goodIn_of _ (by decide +kernel)) ggX6_digest_X6_withPrints
set_option maxRecDepth 20000 in
theorem ggX6_digest_X4_many : GoodIn wsX6_digest wsX4_many := goodIn_r _ [21, 22, 265, 266] (by decide +kernel) (by decide +kernel)
set_option maxRecDepth 20000 in
theorem gX6_digest_X4_many : GoodIn wsX6_digest (wsV RX6 82 RX4 yX4_many wsX4_many) := goodIn_app (goodIn_of _ (by decide +kernel)) ggX6_digest_X4_many
set_option maxRecDepth 20000 in
theorem ggX6_digest_X6_label : GoodIn wsX6_digest wsX6_label := goodIn_ca (goodIn_r _ [177, 9, 10, 178, 179, 180, 181, 182] (by decide +kernel) (by decide +kernel)) (goodIn_sub (fun _ h => List.mem_cons_of_mem _ (List.mem_append_left _ (List.mem_append_right _ h))) (by decide +kernel))
set_option maxRecDepth 20000 in
theorem gX6_digest_X6_label : GoodIn wsX6_digest (wsV RX6 257 RX6 yX6_label wsX6_label) := goodIn_app (goodIn_of _ (by decide +kernel)) ggX6_digest_X6_label
set_option maxRecDepth 20000 in
theorem ggX6_digest_X6_dry : GoodIn wsX6_digest wsX6_dry := goodIn_ca (goodIn_r _ [186, 9, 10, 15, 187, 188, 189, 79, 190, 81, 94, 95, 96, 97, 87, 18, 19, 20, 21, 22, 88, 41, 42, 43, 44, 98, 99, 100, 101, 82, 102, 103, 85, 104, 237, 238, 239, 240, 241, 242, 243, 263, 264, 265, 266] (by decide +kernel) (by decide +kernel)) (goodIn_sub (fun _ h => List.mem_cons_of_mem _ (List.mem_append_left _ (List.mem_append_right _ h))) (by decide +kernel))
set_option maxRecDepth 20000 in
theorem gX6_digest_X6_dry : GoodIn wsX6_digest (wsV RX6 260 RX6 yX6_dry wsX6_dry) := goodIn_app (goodIn_of _ (by decide +kernel)) ggX6_digest_X6_dry
set_option maxRecDepth 20000 in
theorem ggX6_digest_X5_nameLooks : GoodIn wsX6_digest wsX5_nameLooks := goodIn_r _ [194, 195, 196, 197, 18, 19, 20, 21, 22, 198, 199, 200, 127, 201, 202, 41, 42, 43, 44, 244, 245, 246, 247, 248, 249, 265, 266] (by decide +kernel) (by decide +kernel)
set_option maxRecDepth 20000 in
theorem gX6_digest_X5_nameLooks : GoodIn wsX6_digest (wsV RX6 201 RX5 yX5_nameLooks wsX5_nameLooks) := goodIn_app (goodIn_of _ (by decide +kernel)) ggX6_digest_X5_nameLooks
set_option maxRecDepth 20000 in
theorem ggX6_digest_X6_isSound : GoodIn wsX6_digest wsX6_isSound := goodIn_r _ [206, 207, 208, 209, 7, 210, 14, 211, 212, 213, 214, 143, 144, 145, 146, 147, 148, 149, 150, 18, 19, 20, 21, 22, 151, 152, 153, 154, 155, 103, 85, 104, 156, 120, 121, 122, 157, 41, 42, 43, 44, 158, 159, 160, 161, 162, 163, 215, 216, 217, 218, 15, 76, 77, 78, 79, 80, 81, 82, 83, 84, 86, 87, 88, 187, 188, 189, 190, 94, 95, 96, 97, 98, 99, 100, 101, 102, 219, 220, 221, 222, 13, 3, 12, 23, 24, 25, 26, 27, 28, 29, 30, 31, 32, 33, 34, 35, 36, 37, 38, 39, 40, 45, 46, 47, 48, 49, 50, 51, 52, 53, 54, 55, 56, 57, 58, 59, 60, 61, 62, 63, 64, 65, 66, 67, 68, 69, 70, 71, 72, 73, 74, 75, 17, 223, 224, 225, 226, 227, 228, 181, 229, 230, 180, 182, 231, 232, 233, 234, 235, 236, 237, 238, 239, 240, 241, 242, 243, 259, 260, 261, 262, 265, 266, 263, 264, 244, 245, 246, 247, 248, 249, 250, 251, 252, 253, 254, 255, 256, 257, 258] (by decide +kernel) (by decide +kernel)
set_option maxRecDepth 20000 in
theorem gX6_digest_X6_isSound : GoodIn wsX6_digest (wsV RX6 263 RX6 yX6_isSound wsX6_isSound) := goodIn_app (goodIn_of _ (by decide +kernel)) ggX6_digest_X6_isSound
theorem dX6_digest_0 : decode cX6_digest 0 = .ok (.ldc2_w 240, 3) := by decide +kernel
theorem dX6_digest_3 : decode cX6_digest 3 = .ok (.lstore_n 1, 1) := by decide +kernel
theorem dX6_digest_4 : decode cX6_digest 4 = .ok (.iconst 0, 1) := by decide +kernel
theorem dX6_digest_5 : decode cX6_digest 5 = .ok (.istore_n 3, 1) := by decide +kernel
theorem dX6_digest_6 : decode cX6_digest 6 = .ok (.iload_n 3, 1) := by decide +kernel
theorem dX6_digest_7 : decode cX6_digest 7 = .ok (.bipush 12, 2) := by decide +kernel
theorem dX6_digest_9 : decode cX6_digest 9 = .ok (.if_icmp .ge 22, 3) := by decide +kernel
theorem dX6_digest_12 : decode cX6_digest 12 = .ok (.lload_n 1, 1) := by decide +kernel
theorem dX6_digest_13 : decode cX6_digest 13 = .ok (.ldc2_w 242, 3) := by decide +kernel
theorem dX6_digest_16 : decode cX6_digest 16 = .ok (.lmul, 1) := by decide +kernel
theorem dX6_digest_17 : decode cX6_digest 17 = .ok (.aload_n 0, 1) := by decide +kernel
theorem dX6_digest_18 : decode cX6_digest 18 = .ok (.iload_n 3, 1) := by decide +kernel
theorem dX6_digest_19 : decode cX6_digest 19 = .ok (.invokevirtual 244, 3) := by decide +kernel
theorem dX6_digest_22 : decode cX6_digest 22 = .ok (.i2l, 1) := by decide +kernel
theorem dX6_digest_23 : decode cX6_digest 23 = .ok (.ladd, 1) := by decide +kernel
theorem dX6_digest_24 : decode cX6_digest 24 = .ok (.lstore_n 1, 1) := by decide +kernel
theorem dX6_digest_25 : decode cX6_digest 25 = .ok (.iinc 3 1, 3) := by decide +kernel
theorem dX6_digest_28 : decode cX6_digest 28 = .ok (.goto (-22), 3) := by decide +kernel
theorem dX6_digest_31 : decode cX6_digest 31 = .ok (.aload_n 0, 1) := by decide +kernel
theorem dX6_digest_32 : decode cX6_digest 32 = .ok (.lload_n 1, 1) := by decide +kernel
theorem dX6_digest_33 : decode cX6_digest 33 = .ok (.invokevirtual 247, 3) := by decide +kernel
theorem dX6_digest_36 : decode cX6_digest 36 = .ok (.lstore_n 1, 1) := by decide +kernel
theorem dX6_digest_37 : decode cX6_digest 37 = .ok (.aload_n 0, 1) := by decide +kernel
theorem dX6_digest_38 : decode cX6_digest 38 = .ok (.lload_n 1, 1) := by decide +kernel
theorem dX6_digest_39 : decode cX6_digest 39 = .ok (.invokevirtual 251, 3) := by decide +kernel
theorem dX6_digest_42 : decode cX6_digest 42 = .ok (.lstore_n 1, 1) := by decide +kernel
theorem dX6_digest_43 : decode cX6_digest 43 = .ok (.aload_n 0, 1) := by decide +kernel
theorem dX6_digest_44 : decode cX6_digest 44 = .ok (.lload_n 1, 1) := by decide +kernel
theorem dX6_digest_45 : decode cX6_digest 45 = .ok (.invokevirtual 254, 3) := by decide +kernel
theorem dX6_digest_48 : decode cX6_digest 48 = .ok (.lstore_n 1, 1) := by decide +kernel
theorem dX6_digest_49 : decode cX6_digest 49 = .ok (.lload_n 1, 1) := by decide +kernel
theorem dX6_digest_50 : decode cX6_digest 50 = .ok (.ldc2_w 242, 3) := by decide +kernel
theorem dX6_digest_53 : decode cX6_digest 53 = .ok (.lmul, 1) := by decide +kernel
theorem dX6_digest_54 : decode cX6_digest 54 = .ok (.aload_n 0, 1) := by decide +kernel
theorem dX6_digest_55 : decode cX6_digest 55 = .ok (.sipush 1800, 3) := by decide +kernel
theorem dX6_digest_58 : decode cX6_digest 58 = .ok (.sipush 977, 3) := by decide +kernel
theorem dX6_digest_61 : decode cX6_digest 61 = .ok (.aload_n 0, 1) := by decide +kernel
theorem dX6_digest_62 : decode cX6_digest 62 = .ok (.getfield 21, 3) := by decide +kernel
theorem dX6_digest_65 : decode cX6_digest 65 = .ok (.getfield 79, 3) := by decide +kernel
theorem dX6_digest_68 : decode cX6_digest 68 = .ok (.invokevirtual 82, 3) := by decide +kernel
theorem dX6_digest_71 : decode cX6_digest 71 = .ok (.imul, 1) := by decide +kernel
theorem dX6_digest_72 : decode cX6_digest 72 = .ok (.iadd, 1) := by decide +kernel
theorem dX6_digest_73 : decode cX6_digest 73 = .ok (.invokevirtual 257, 3) := by decide +kernel
theorem dX6_digest_76 : decode cX6_digest 76 = .ok (.i2l, 1) := by decide +kernel
theorem dX6_digest_77 : decode cX6_digest 77 = .ok (.ladd, 1) := by decide +kernel
theorem dX6_digest_78 : decode cX6_digest 78 = .ok (.lstore_n 1, 1) := by decide +kernel
theorem dX6_digest_79 : decode cX6_digest 79 = .ok (.lload_n 1, 1) := by decide +kernel
theorem dX6_digest_80 : decode cX6_digest 80 = .ok (.ldc2_w 242, 3) := by decide +kernel
theorem dX6_digest_83 : decode cX6_digest 83 = .ok (.lmul, 1) := by decide +kernel
theorem dX6_digest_84 : decode cX6_digest 84 = .ok (.aload_n 0, 1) := by decide +kernel
theorem dX6_digest_85 : decode cX6_digest 85 = .ok (.iconst 3, 1) := by decide +kernel
theorem dX6_digest_86 : decode cX6_digest 86 = .ok (.invokevirtual 260, 3) := by decide +kernel
theorem dX6_digest_89 : decode cX6_digest 89 = .ok (.i2l, 1) := by decide +kernel
theorem dX6_digest_90 : decode cX6_digest 90 = .ok (.ladd, 1) := by decide +kernel
theorem dX6_digest_91 : decode cX6_digest 91 = .ok (.lstore_n 1, 1) := by decide +kernel
theorem dX6_digest_92 : decode cX6_digest 92 = .ok (.lload_n 1, 1) := by decide +kernel
theorem dX6_digest_93 : decode cX6_digest 93 = .ok (.ldc2_w 242, 3) := by decide +kernel
theorem dX6_digest_96 : decode cX6_digest 96 = .ok (.lmul, 1) := by decide +kernel
theorem dX6_digest_97 : decode cX6_digest 97 = .ok (.aload_n 0, 1) := by decide +kernel
theorem dX6_digest_98 : decode cX6_digest 98 = .ok (.getfield 21, 3) := by decide +kernel
theorem dX6_digest_101 : decode cX6_digest 101 = .ok (.invokevirtual 201, 3) := by decide +kernel
theorem dX6_digest_104 : decode cX6_digest 104 = .ok (.i2l, 1) := by decide +kernel
theorem dX6_digest_105 : decode cX6_digest 105 = .ok (.ladd, 1) := by decide +kernel
theorem dX6_digest_106 : decode cX6_digest 106 = .ok (.lstore_n 1, 1) := by decide +kernel
theorem dX6_digest_107 : decode cX6_digest 107 = .ok (.lload_n 1, 1) := by decide +kernel
theorem dX6_digest_108 : decode cX6_digest 108 = .ok (.ldc2_w 242, 3) := by decide +kernel
theorem dX6_digest_111 : decode cX6_digest 111 = .ok (.lmul, 1) := by decide +kernel
theorem dX6_digest_112 : decode cX6_digest 112 = .ok (.aload_n 0, 1) := by decide +kernel
theorem dX6_digest_113 : decode cX6_digest 113 = .ok (.invokevirtual 263, 3) := by decide +kernel
theorem dX6_digest_116 : decode cX6_digest 116 = .ok (.ifCond .eq 7, 3) := by decide +kernel
theorem dX6_digest_119 : decode cX6_digest 119 = .ok (.iconst 1, 1) := by decide +kernel
theorem dX6_digest_120 : decode cX6_digest 120 = .ok (.goto 4, 3) := by decide +kernel
theorem dX6_digest_123 : decode cX6_digest 123 = .ok (.iconst 0, 1) := by decide +kernel
theorem dX6_digest_124 : decode cX6_digest 124 = .ok (.i2l, 1) := by decide +kernel
theorem dX6_digest_125 : decode cX6_digest 125 = .ok (.ladd, 1) := by decide +kernel
theorem dX6_digest_126 : decode cX6_digest 126 = .ok (.lreturn, 1) := by decide +kernel
theorem dX6_requireLook_0 : decode cX6_requireLook 0 = .ok (.iload_n 0, 1) := by decide +kernel
theorem dX6_requireLook_1 : decode cX6_requireLook 1 = .ok (.ifCond .lt 9, 3) := by decide +kernel
theorem dX6_requireLook_4 : decode cX6_requireLook 4 = .ok (.iload_n 0, 1) := by decide +kernel
theorem dX6_requireLook_5 : decode cX6_requireLook 5 = .ok (.bipush 100, 2) := by decide +kernel
theorem dX6_requireLook_7 : decode cX6_requireLook 7 = .ok (.if_icmp .lt 14, 3) := by decide +kernel
theorem dX6_requireLook_10 : decode cX6_requireLook 10 = .ok (.new 67, 3) := by decide +kernel
theorem dX6_requireLook_13 : decode cX6_requireLook 13 = .ok (.dup, 1) := by decide +kernel
theorem dX6_requireLook_14 : decode cX6_requireLook 14 = .ok (.ldc_w 266, 3) := by decide +kernel
theorem dX6_requireLook_17 : decode cX6_requireLook 17 = .ok (.invokespecial 71, 3) := by decide +kernel
theorem dX6_requireLook_20 : decode cX6_requireLook 20 = .ok (.athrow, 1) := by decide +kernel
theorem dX6_requireLook_21 : decode cX6_requireLook 21 = .ok (.return_, 1) := by decide +kernel
set_option maxRecDepth 20000 in
theorem ggX6_requireField_X4_has : GoodIn wsX6_requireField wsX4_has := goodIn_r _ [8, 9, 23, 24] (by decide +kernel) (by decide +kernel)
set_option maxRecDepth 20000 in
theorem gX6_requireField_X4_has : GoodIn wsX6_requireField (wsV RX6 268 RX4 yX4_has wsX4_has) := goodIn_app (goodIn_of _ (by decide +kernel)) ggX6_requireField_X4_has
theorem dX6_requireField_0 : decode cX6_requireField 0 = .ok (.aload_n 0, 1) := by decide +kernel
theorem dX6_requireField_1 : decode cX6_requireField 1 = .ok (.getfield 21, 3) := by decide +kernel
theorem dX6_requireField_4 : decode cX6_requireField 4 = .ok (.getfield 79, 3) := by decide +kernel
theorem dX6_requireField_7 : decode cX6_requireField 7 = .ok (.iload_n 1, 1) := by decide +kernel
theorem dX6_requireField_8 : decode cX6_requireField 8 = .ok (.invokevirtual 268, 3) := by decide +kernel
theorem dX6_requireField_11 : decode cX6_requireField 11 = .ok (.ifCond .ne 14, 3) := by decide +kernel
theorem dX6_requireField_14 : decode cX6_requireField 14 = .ok (.new 151, 3) := by decide +kernel
theorem dX6_requireField_17 : decode cX6_requireField 17 = .ok (.dup, 1) := by decide +kernel
theorem dX6_requireField_18 : decode cX6_requireField 18 = .ok (.ldc_w 271, 3) := by decide +kernel
theorem dX6_requireField_21 : decode cX6_requireField 21 = .ok (.invokespecial 155, 3) := by decide +kernel
theorem dX6_requireField_24 : decode cX6_requireField 24 = .ok (.athrow, 1) := by decide +kernel
theorem dX6_requireField_25 : decode cX6_requireField 25 = .ok (.return_, 1) := by decide +kernel
set_option maxRecDepth 20000 in
theorem ggX6_requirePrint_X2_has : GoodIn wsX6_requirePrint wsX2_has := goodIn_r _ [8, 9, 17, 18, 19, 20] (by decide +kernel) (by decide +kernel)
set_option maxRecDepth 20000 in
theorem gX6_requirePrint_X2_has : GoodIn wsX6_requirePrint (wsV RX6 273 RX2 yX2_has wsX2_has) := goodIn_app (goodIn_of _ (by decide +kernel)) ggX6_requirePrint_X2_has
theorem dX6_requirePrint_0 : decode cX6_requirePrint 0 = .ok (.aload_n 0, 1) := by decide +kernel
theorem dX6_requirePrint_1 : decode cX6_requirePrint 1 = .ok (.getfield 35, 3) := by decide +kernel
theorem dX6_requirePrint_4 : decode cX6_requirePrint 4 = .ok (.iload_n 1, 1) := by decide +kernel
theorem dX6_requirePrint_5 : decode cX6_requirePrint 5 = .ok (.invokevirtual 273, 3) := by decide +kernel
theorem dX6_requirePrint_8 : decode cX6_requirePrint 8 = .ok (.ifCond .ne 14, 3) := by decide +kernel
theorem dX6_requirePrint_11 : decode cX6_requirePrint 11 = .ok (.new 151, 3) := by decide +kernel
theorem dX6_requirePrint_14 : decode cX6_requirePrint 14 = .ok (.dup, 1) := by decide +kernel
theorem dX6_requirePrint_15 : decode cX6_requirePrint 15 = .ok (.ldc_w 274, 3) := by decide +kernel
theorem dX6_requirePrint_18 : decode cX6_requirePrint 18 = .ok (.invokespecial 155, 3) := by decide +kernel
theorem dX6_requirePrint_21 : decode cX6_requirePrint 21 = .ok (.athrow, 1) := by decide +kernel
theorem dX6_requirePrint_22 : decode cX6_requirePrint 22 = .ok (.return_, 1) := by decide +kernel
set_option maxRecDepth 20000 in
theorem ggX6_printsAreSound_X6_pairIsSound : GoodIn wsX6_printsAreSound wsX6_pairIsSound := goodIn_r _ [6, 1, 7, 8, 9, 10, 11, 12, 13, 14, 15, 16, 17, 18, 19, 20, 21, 22, 23, 24, 25, 26, 27, 28, 29, 30, 31, 32, 33, 34, 35, 36, 37, 38, 39, 40, 41, 42, 43, 44, 45, 46, 47, 48, 49, 50, 51, 52, 53, 54, 55] (by decide +kernel) (by decide +kernel)
set_option maxRecDepth 20000 in
theorem gX6_printsAreSound_X6_pairIsSound : GoodIn wsX6_printsAreSound (wsV RX6 287 RX6 yX6_pairIsSound wsX6_pairIsSound) := goodIn_app (goodIn_of _ (by decide +kernel)) ggX6_printsAreSound_X6_pairIsSound
theorem dX6_printsAreSound_0 : decode cX6_printsAreSound 0 = .ok (.iconst 0, 1) := by decide +kernel
theorem dX6_printsAreSound_1 : decode cX6_printsAreSound 1 = .ok (.istore_n 1, 1) := by decide +kernel
theorem dX6_printsAreSound_2 : decode cX6_printsAreSound 2 = .ok (.iload_n 1, 1) := by decide +kernel
theorem dX6_printsAreSound_3 : decode cX6_printsAreSound 3 = .ok (.aload_n 0, 1) := by decide +kernel
theorem dX6_printsAreSound_4 : decode cX6_printsAreSound 4 = .ok (.getfield 35, 3) := by decide +kernel
theorem dX6_printsAreSound_7 : decode cX6_printsAreSound 7 = .ok (.getfield 190, 3) := by decide +kernel
theorem dX6_printsAreSound_10 : decode cX6_printsAreSound 10 = .ok (.if_icmp .ge 39, 3) := by decide +kernel
theorem dX6_printsAreSound_13 : decode cX6_printsAreSound 13 = .ok (.iconst 0, 1) := by decide +kernel
theorem dX6_printsAreSound_14 : decode cX6_printsAreSound 14 = .ok (.istore_n 2, 1) := by decide +kernel
theorem dX6_printsAreSound_15 : decode cX6_printsAreSound 15 = .ok (.iload_n 2, 1) := by decide +kernel
theorem dX6_printsAreSound_16 : decode cX6_printsAreSound 16 = .ok (.aload_n 0, 1) := by decide +kernel
theorem dX6_printsAreSound_17 : decode cX6_printsAreSound 17 = .ok (.getfield 35, 3) := by decide +kernel
theorem dX6_printsAreSound_20 : decode cX6_printsAreSound 20 = .ok (.getfield 190, 3) := by decide +kernel
theorem dX6_printsAreSound_23 : decode cX6_printsAreSound 23 = .ok (.if_icmp .ge 20, 3) := by decide +kernel
theorem dX6_printsAreSound_26 : decode cX6_printsAreSound 26 = .ok (.aload_n 0, 1) := by decide +kernel
theorem dX6_printsAreSound_27 : decode cX6_printsAreSound 27 = .ok (.iload_n 1, 1) := by decide +kernel
theorem dX6_printsAreSound_28 : decode cX6_printsAreSound 28 = .ok (.iload_n 2, 1) := by decide +kernel
theorem dX6_printsAreSound_29 : decode cX6_printsAreSound 29 = .ok (.invokevirtual 287, 3) := by decide +kernel
theorem dX6_printsAreSound_32 : decode cX6_printsAreSound 32 = .ok (.ifCond .ne 5, 3) := by decide +kernel
theorem dX6_printsAreSound_35 : decode cX6_printsAreSound 35 = .ok (.iconst 0, 1) := by decide +kernel
theorem dX6_printsAreSound_36 : decode cX6_printsAreSound 36 = .ok (.ireturn, 1) := by decide +kernel
theorem dX6_printsAreSound_37 : decode cX6_printsAreSound 37 = .ok (.iinc 2 1, 3) := by decide +kernel
theorem dX6_printsAreSound_40 : decode cX6_printsAreSound 40 = .ok (.goto (-25), 3) := by decide +kernel
theorem dX6_printsAreSound_43 : decode cX6_printsAreSound 43 = .ok (.iinc 1 1, 3) := by decide +kernel
theorem dX6_printsAreSound_46 : decode cX6_printsAreSound 46 = .ok (.goto (-44), 3) := by decide +kernel
theorem dX6_printsAreSound_49 : decode cX6_printsAreSound 49 = .ok (.iconst 1, 1) := by decide +kernel
theorem dX6_printsAreSound_50 : decode cX6_printsAreSound 50 = .ok (.ireturn, 1) := by decide +kernel
set_option maxRecDepth 20000 in
theorem ggX6_pairIsSound_X2_distance : GoodIn wsX6_pairIsSound wsX2_distance := goodIn_r _ [6, 7, 8, 9, 10, 11, 12, 13, 14, 15, 16, 17, 5, 18, 19, 20, 21, 22, 23, 24, 25, 26, 27, 28, 29, 30, 31, 32, 33, 34, 35, 36, 37, 45, 46, 47, 48, 49, 50] (by decide +kernel) (by decide +kernel)
set_option maxRecDepth 20000 in
theorem gX6_pairIsSound_X2_distance : GoodIn wsX6_pairIsSound (wsV RX6 169 RX2 yX2_distance wsX2_distance) := goodIn_app (goodIn_of _ (by decide +kernel)) ggX6_pairIsSound_X2_distance
theorem dX6_pairIsSound_0 : decode cX6_pairIsSound 0 = .ok (.aload_n 0, 1) := by decide +kernel
theorem dX6_pairIsSound_1 : decode cX6_pairIsSound 1 = .ok (.getfield 35, 3) := by decide +kernel
theorem dX6_pairIsSound_4 : decode cX6_pairIsSound 4 = .ok (.iload_n 1, 1) := by decide +kernel
theorem dX6_pairIsSound_5 : decode cX6_pairIsSound 5 = .ok (.iload_n 2, 1) := by decide +kernel
theorem dX6_pairIsSound_6 : decode cX6_pairIsSound 6 = .ok (.invokevirtual 169, 3) := by decide +kernel
theorem dX6_pairIsSound_9 : decode cX6_pairIsSound 9 = .ok (.istore_n 3, 1) := by decide +kernel
theorem dX6_pairIsSound_10 : decode cX6_pairIsSound 10 = .ok (.iload_n 1, 1) := by decide +kernel
theorem dX6_pairIsSound_11 : decode cX6_pairIsSound 11 = .ok (.iload_n 2, 1) := by decide +kernel
theorem dX6_pairIsSound_12 : decode cX6_pairIsSound 12 = .ok (.if_icmp .ne 13, 3) := by decide +kernel
theorem dX6_pairIsSound_15 : decode cX6_pairIsSound 15 = .ok (.iload_n 3, 1) := by decide +kernel
theorem dX6_pairIsSound_16 : decode cX6_pairIsSound 16 = .ok (.ifCond .ne 7, 3) := by decide +kernel
theorem dX6_pairIsSound_19 : decode cX6_pairIsSound 19 = .ok (.iconst 1, 1) := by decide +kernel
theorem dX6_pairIsSound_20 : decode cX6_pairIsSound 20 = .ok (.goto 4, 3) := by decide +kernel
theorem dX6_pairIsSound_23 : decode cX6_pairIsSound 23 = .ok (.iconst 0, 1) := by decide +kernel
theorem dX6_pairIsSound_24 : decode cX6_pairIsSound 24 = .ok (.ireturn, 1) := by decide +kernel
theorem dX6_pairIsSound_25 : decode cX6_pairIsSound 25 = .ok (.iload_n 3, 1) := by decide +kernel
theorem dX6_pairIsSound_26 : decode cX6_pairIsSound 26 = .ok (.aload_n 0, 1) := by decide +kernel
theorem dX6_pairIsSound_27 : decode cX6_pairIsSound 27 = .ok (.getfield 35, 3) := by decide +kernel
theorem dX6_pairIsSound_30 : decode cX6_pairIsSound 30 = .ok (.iload_n 2, 1) := by decide +kernel
theorem dX6_pairIsSound_31 : decode cX6_pairIsSound 31 = .ok (.iload_n 1, 1) := by decide +kernel
theorem dX6_pairIsSound_32 : decode cX6_pairIsSound 32 = .ok (.invokevirtual 169, 3) := by decide +kernel
theorem dX6_pairIsSound_35 : decode cX6_pairIsSound 35 = .ok (.if_icmp .eq 5, 3) := by decide +kernel
theorem dX6_pairIsSound_38 : decode cX6_pairIsSound 38 = .ok (.iconst 0, 1) := by decide +kernel
theorem dX6_pairIsSound_39 : decode cX6_pairIsSound 39 = .ok (.ireturn, 1) := by decide +kernel
theorem dX6_pairIsSound_40 : decode cX6_pairIsSound 40 = .ok (.iconst 0, 1) := by decide +kernel
theorem dX6_pairIsSound_41 : decode cX6_pairIsSound 41 = .ok (.istore 4, 2) := by decide +kernel
theorem dX6_pairIsSound_43 : decode cX6_pairIsSound 43 = .ok (.iload 4, 2) := by decide +kernel
theorem dX6_pairIsSound_45 : decode cX6_pairIsSound 45 = .ok (.aload_n 0, 1) := by decide +kernel
theorem dX6_pairIsSound_46 : decode cX6_pairIsSound 46 = .ok (.getfield 35, 3) := by decide +kernel
theorem dX6_pairIsSound_49 : decode cX6_pairIsSound 49 = .ok (.getfield 190, 3) := by decide +kernel
theorem dX6_pairIsSound_52 : decode cX6_pairIsSound 52 = .ok (.if_icmp .ge 48, 3) := by decide +kernel
theorem dX6_pairIsSound_55 : decode cX6_pairIsSound 55 = .ok (.iload 4, 2) := by decide +kernel
theorem dX6_pairIsSound_57 : decode cX6_pairIsSound 57 = .ok (.iload_n 1, 1) := by decide +kernel
theorem dX6_pairIsSound_58 : decode cX6_pairIsSound 58 = .ok (.if_icmp .eq 36, 3) := by decide +kernel
theorem dX6_pairIsSound_61 : decode cX6_pairIsSound 61 = .ok (.iload 4, 2) := by decide +kernel
theorem dX6_pairIsSound_63 : decode cX6_pairIsSound 63 = .ok (.iload_n 2, 1) := by decide +kernel
theorem dX6_pairIsSound_64 : decode cX6_pairIsSound 64 = .ok (.if_icmp .eq 30, 3) := by decide +kernel
theorem dX6_pairIsSound_67 : decode cX6_pairIsSound 67 = .ok (.iload_n 3, 1) := by decide +kernel
theorem dX6_pairIsSound_68 : decode cX6_pairIsSound 68 = .ok (.aload_n 0, 1) := by decide +kernel
theorem dX6_pairIsSound_69 : decode cX6_pairIsSound 69 = .ok (.getfield 35, 3) := by decide +kernel
theorem dX6_pairIsSound_72 : decode cX6_pairIsSound 72 = .ok (.iload_n 1, 1) := by decide +kernel
theorem dX6_pairIsSound_73 : decode cX6_pairIsSound 73 = .ok (.iload 4, 2) := by decide +kernel
theorem dX6_pairIsSound_75 : decode cX6_pairIsSound 75 = .ok (.invokevirtual 169, 3) := by decide +kernel
theorem dX6_pairIsSound_78 : decode cX6_pairIsSound 78 = .ok (.aload_n 0, 1) := by decide +kernel
theorem dX6_pairIsSound_79 : decode cX6_pairIsSound 79 = .ok (.getfield 35, 3) := by decide +kernel
theorem dX6_pairIsSound_82 : decode cX6_pairIsSound 82 = .ok (.iload 4, 2) := by decide +kernel
theorem dX6_pairIsSound_84 : decode cX6_pairIsSound 84 = .ok (.iload_n 2, 1) := by decide +kernel
theorem dX6_pairIsSound_85 : decode cX6_pairIsSound 85 = .ok (.invokevirtual 169, 3) := by decide +kernel
theorem dX6_pairIsSound_88 : decode cX6_pairIsSound 88 = .ok (.iadd, 1) := by decide +kernel
theorem dX6_pairIsSound_89 : decode cX6_pairIsSound 89 = .ok (.if_icmp .le 5, 3) := by decide +kernel
theorem dX6_pairIsSound_92 : decode cX6_pairIsSound 92 = .ok (.iconst 0, 1) := by decide +kernel
theorem dX6_pairIsSound_93 : decode cX6_pairIsSound 93 = .ok (.ireturn, 1) := by decide +kernel
theorem dX6_pairIsSound_94 : decode cX6_pairIsSound 94 = .ok (.iinc 4 1, 3) := by decide +kernel
theorem dX6_pairIsSound_97 : decode cX6_pairIsSound 97 = .ok (.goto (-54), 3) := by decide +kernel
theorem dX6_pairIsSound_100 : decode cX6_pairIsSound 100 = .ok (.iconst 1, 1) := by decide +kernel
theorem dX6_pairIsSound_101 : decode cX6_pairIsSound 101 = .ok (.ireturn, 1) := by decide +kernel
set_option maxRecDepth 20000 in
theorem ggX6_bufferIsSound_X0_leastDelay : GoodIn wsX6_bufferIsSound wsX0_leastDelay := goodIn_r _ [6, 7, 8, 9, 10, 11, 12, 13, 14, 15, 16, 17, 18, 19, 20, 21, 22, 23, 46, 47, 48, 49] (by decide +kernel) (by decide +kernel)
set_option maxRecDepth 20000 in
theorem gX6_bufferIsSound_X0_leastDelay : GoodIn wsX6_bufferIsSound (wsV RX6 192 RX0 yX0_leastDelay wsX0_leastDelay) := goodIn_app (goodIn_of _ (by decide +kernel)) ggX6_bufferIsSound_X0_leastDelay
set_option maxRecDepth 20000 in
theorem ggX6_bufferIsSound_X0_firstDry : GoodIn wsX6_bufferIsSound wsX0_firstDry := goodIn_r _ [27, 7, 28, 29, 30, 5, 31, 13, 14, 15, 16, 17, 18, 19, 20, 21, 22, 23, 32, 33, 34, 35, 8, 36, 37, 11, 38, 46, 47, 48, 49] (by decide +kernel) (by decide +kernel)
set_option maxRecDepth 20000 in
theorem gX6_bufferIsSound_X0_firstDry : GoodIn wsX6_bufferIsSound (wsV RX6 217 RX0 yX0_firstDry wsX0_firstDry) := goodIn_app (goodIn_of _ (by decide +kernel)) ggX6_bufferIsSound_X0_firstDry
theorem dX6_bufferIsSound_0 : decode cX6_bufferIsSound 0 = .ok (.aload_n 0, 1) := by decide +kernel
theorem dX6_bufferIsSound_1 : decode cX6_bufferIsSound 1 = .ok (.getfield 42, 3) := by decide +kernel
theorem dX6_bufferIsSound_4 : decode cX6_bufferIsSound 4 = .ok (.invokevirtual 192, 3) := by decide +kernel
theorem dX6_bufferIsSound_7 : decode cX6_bufferIsSound 7 = .ok (.istore_n 1, 1) := by decide +kernel
theorem dX6_bufferIsSound_8 : decode cX6_bufferIsSound 8 = .ok (.aload_n 0, 1) := by decide +kernel
theorem dX6_bufferIsSound_9 : decode cX6_bufferIsSound 9 = .ok (.getfield 42, 3) := by decide +kernel
theorem dX6_bufferIsSound_12 : decode cX6_bufferIsSound 12 = .ok (.iload_n 1, 1) := by decide +kernel
theorem dX6_bufferIsSound_13 : decode cX6_bufferIsSound 13 = .ok (.invokevirtual 217, 3) := by decide +kernel
theorem dX6_bufferIsSound_16 : decode cX6_bufferIsSound 16 = .ok (.iconst (-1), 1) := by decide +kernel
theorem dX6_bufferIsSound_17 : decode cX6_bufferIsSound 17 = .ok (.if_icmp .ne 25, 3) := by decide +kernel
theorem dX6_bufferIsSound_20 : decode cX6_bufferIsSound 20 = .ok (.iload_n 1, 1) := by decide +kernel
theorem dX6_bufferIsSound_21 : decode cX6_bufferIsSound 21 = .ok (.ifCond .eq 17, 3) := by decide +kernel
theorem dX6_bufferIsSound_24 : decode cX6_bufferIsSound 24 = .ok (.aload_n 0, 1) := by decide +kernel
theorem dX6_bufferIsSound_25 : decode cX6_bufferIsSound 25 = .ok (.getfield 42, 3) := by decide +kernel
theorem dX6_bufferIsSound_28 : decode cX6_bufferIsSound 28 = .ok (.iload_n 1, 1) := by decide +kernel
theorem dX6_bufferIsSound_29 : decode cX6_bufferIsSound 29 = .ok (.iconst 1, 1) := by decide +kernel
theorem dX6_bufferIsSound_30 : decode cX6_bufferIsSound 30 = .ok (.isub, 1) := by decide +kernel
theorem dX6_bufferIsSound_31 : decode cX6_bufferIsSound 31 = .ok (.invokevirtual 217, 3) := by decide +kernel
theorem dX6_bufferIsSound_34 : decode cX6_bufferIsSound 34 = .ok (.iconst (-1), 1) := by decide +kernel
theorem dX6_bufferIsSound_35 : decode cX6_bufferIsSound 35 = .ok (.if_icmp .eq 7, 3) := by decide +kernel
theorem dX6_bufferIsSound_38 : decode cX6_bufferIsSound 38 = .ok (.iconst 1, 1) := by decide +kernel
theorem dX6_bufferIsSound_39 : decode cX6_bufferIsSound 39 = .ok (.goto 4, 3) := by decide +kernel
theorem dX6_bufferIsSound_42 : decode cX6_bufferIsSound 42 = .ok (.iconst 0, 1) := by decide +kernel
theorem dX6_bufferIsSound_43 : decode cX6_bufferIsSound 43 = .ok (.ireturn, 1) := by decide +kernel
set_option maxRecDepth 20000 in
theorem ggX6_framesAreSound_X3_find : GoodIn wsX6_framesAreSound wsX3_find := goodIn_r _ [8, 9, 10, 11, 12, 13, 14, 15, 16, 17, 7, 18, 19, 20, 21, 22, 23, 24, 25, 26, 27, 28, 29, 30, 31, 32, 33, 34, 35, 36, 37, 38, 39, 40, 41, 42, 43, 44, 45, 46, 47, 48, 49, 50, 51, 52, 53, 54, 55, 56, 57, 58, 59, 60, 61, 76, 77, 78, 79, 80, 81, 82, 83, 84, 85, 86] (by decide +kernel) (by decide +kernel)
set_option maxRecDepth 20000 in
theorem gX6_framesAreSound_X3_find : GoodIn wsX6_framesAreSound (wsV RX6 132 RX3 yX3_find wsX3_find) := goodIn_app (goodIn_of _ (by decide +kernel)) ggX6_framesAreSound_X3_find
set_option maxRecDepth 20000 in
theorem ggX6_framesAreSound_X4_many : GoodIn wsX6_framesAreSound wsX4_many := goodIn_r _ [24, 25, 85, 86] (by decide +kernel) (by decide +kernel)
set_option maxRecDepth 20000 in
theorem gX6_framesAreSound_X4_many : GoodIn wsX6_framesAreSound (wsV RX6 82 RX4 yX4_many wsX4_many) := goodIn_app (goodIn_of _ (by decide +kernel)) ggX6_framesAreSound_X4_many
theorem dX6_framesAreSound_0 : decode cX6_framesAreSound 0 = .ok (.aload_n 0, 1) := by decide +kernel
theorem dX6_framesAreSound_1 : decode cX6_framesAreSound 1 = .ok (.getfield 28, 3) := by decide +kernel
theorem dX6_framesAreSound_4 : decode cX6_framesAreSound 4 = .ok (.aload_n 0, 1) := by decide +kernel
theorem dX6_framesAreSound_5 : decode cX6_framesAreSound 5 = .ok (.getfield 21, 3) := by decide +kernel
theorem dX6_framesAreSound_8 : decode cX6_framesAreSound 8 = .ok (.getfield 79, 3) := by decide +kernel
theorem dX6_framesAreSound_11 : decode cX6_framesAreSound 11 = .ok (.aload_n 0, 1) := by decide +kernel
theorem dX6_framesAreSound_12 : decode cX6_framesAreSound 12 = .ok (.getfield 46, 3) := by decide +kernel
theorem dX6_framesAreSound_15 : decode cX6_framesAreSound 15 = .ok (.invokevirtual 132, 3) := by decide +kernel
theorem dX6_framesAreSound_18 : decode cX6_framesAreSound 18 = .ok (.iconst 0, 1) := by decide +kernel
theorem dX6_framesAreSound_19 : decode cX6_framesAreSound 19 = .ok (.istore_n 1, 1) := by decide +kernel
theorem dX6_framesAreSound_20 : decode cX6_framesAreSound 20 = .ok (.iconst 0, 1) := by decide +kernel
theorem dX6_framesAreSound_21 : decode cX6_framesAreSound 21 = .ok (.istore_n 2, 1) := by decide +kernel
theorem dX6_framesAreSound_22 : decode cX6_framesAreSound 22 = .ok (.iload_n 2, 1) := by decide +kernel
theorem dX6_framesAreSound_23 : decode cX6_framesAreSound 23 = .ok (.aload_n 0, 1) := by decide +kernel
theorem dX6_framesAreSound_24 : decode cX6_framesAreSound 24 = .ok (.getfield 28, 3) := by decide +kernel
theorem dX6_framesAreSound_27 : decode cX6_framesAreSound 27 = .ok (.getfield 148, 3) := by decide +kernel
theorem dX6_framesAreSound_30 : decode cX6_framesAreSound 30 = .ok (.if_icmp .ge 36, 3) := by decide +kernel
theorem dX6_framesAreSound_33 : decode cX6_framesAreSound 33 = .ok (.aload_n 0, 1) := by decide +kernel
theorem dX6_framesAreSound_34 : decode cX6_framesAreSound 34 = .ok (.getfield 28, 3) := by decide +kernel
theorem dX6_framesAreSound_37 : decode cX6_framesAreSound 37 = .ok (.getfield 159, 3) := by decide +kernel
theorem dX6_framesAreSound_40 : decode cX6_framesAreSound 40 = .ok (.iload_n 2, 1) := by decide +kernel
theorem dX6_framesAreSound_41 : decode cX6_framesAreSound 41 = .ok (.iaload, 1) := by decide +kernel
theorem dX6_framesAreSound_42 : decode cX6_framesAreSound 42 = .ok (.iload_n 1, 1) := by decide +kernel
theorem dX6_framesAreSound_43 : decode cX6_framesAreSound 43 = .ok (.if_icmp .eq 5, 3) := by decide +kernel
theorem dX6_framesAreSound_46 : decode cX6_framesAreSound 46 = .ok (.iconst 0, 1) := by decide +kernel
theorem dX6_framesAreSound_47 : decode cX6_framesAreSound 47 = .ok (.ireturn, 1) := by decide +kernel
theorem dX6_framesAreSound_48 : decode cX6_framesAreSound 48 = .ok (.iload_n 1, 1) := by decide +kernel
theorem dX6_framesAreSound_49 : decode cX6_framesAreSound 49 = .ok (.aload_n 0, 1) := by decide +kernel
theorem dX6_framesAreSound_50 : decode cX6_framesAreSound 50 = .ok (.getfield 28, 3) := by decide +kernel
theorem dX6_framesAreSound_53 : decode cX6_framesAreSound 53 = .ok (.getfield 162, 3) := by decide +kernel
theorem dX6_framesAreSound_56 : decode cX6_framesAreSound 56 = .ok (.iload_n 2, 1) := by decide +kernel
theorem dX6_framesAreSound_57 : decode cX6_framesAreSound 57 = .ok (.iaload, 1) := by decide +kernel
theorem dX6_framesAreSound_58 : decode cX6_framesAreSound 58 = .ok (.iadd, 1) := by decide +kernel
theorem dX6_framesAreSound_59 : decode cX6_framesAreSound 59 = .ok (.istore_n 1, 1) := by decide +kernel
theorem dX6_framesAreSound_60 : decode cX6_framesAreSound 60 = .ok (.iinc 2 1, 3) := by decide +kernel
theorem dX6_framesAreSound_63 : decode cX6_framesAreSound 63 = .ok (.goto (-41), 3) := by decide +kernel
theorem dX6_framesAreSound_66 : decode cX6_framesAreSound 66 = .ok (.iload_n 1, 1) := by decide +kernel
theorem dX6_framesAreSound_67 : decode cX6_framesAreSound 67 = .ok (.aload_n 0, 1) := by decide +kernel
theorem dX6_framesAreSound_68 : decode cX6_framesAreSound 68 = .ok (.getfield 21, 3) := by decide +kernel
theorem dX6_framesAreSound_71 : decode cX6_framesAreSound 71 = .ok (.getfield 79, 3) := by decide +kernel
theorem dX6_framesAreSound_74 : decode cX6_framesAreSound 74 = .ok (.invokevirtual 82, 3) := by decide +kernel
theorem dX6_framesAreSound_77 : decode cX6_framesAreSound 77 = .ok (.if_icmp .ne 7, 3) := by decide +kernel
theorem dX6_framesAreSound_80 : decode cX6_framesAreSound 80 = .ok (.iconst 1, 1) := by decide +kernel
theorem dX6_framesAreSound_81 : decode cX6_framesAreSound 81 = .ok (.goto 4, 3) := by decide +kernel
theorem dX6_framesAreSound_84 : decode cX6_framesAreSound 84 = .ok (.iconst 0, 1) := by decide +kernel
theorem dX6_framesAreSound_85 : decode cX6_framesAreSound 85 = .ok (.ireturn, 1) := by decide +kernel
set_option maxRecDepth 20000 in
theorem ggX6_labelsAreSound_X1_goesBack : GoodIn wsX6_labelsAreSound wsX1_goesBack := goodIn_r _ [5, 6, 7, 4, 8, 9, 10, 11, 12, 13, 14] (by decide +kernel) (by decide +kernel)
set_option maxRecDepth 20000 in
theorem gX6_labelsAreSound_X1_goesBack : GoodIn wsX6_labelsAreSound (va_wsS RX6 291 yX1_goesBack wsX1_goesBack) := goodIn_app (goodIn_of _ (by decide +kernel)) ggX6_labelsAreSound_X1_goesBack
theorem dX6_labelsAreSound_0 : decode cX6_labelsAreSound 0 = .ok (.sipush 1799, 3) := by decide +kernel
theorem dX6_labelsAreSound_3 : decode cX6_labelsAreSound 3 = .ok (.invokestatic 291, 3) := by decide +kernel
theorem dX6_labelsAreSound_6 : decode cX6_labelsAreSound 6 = .ok (.ifCond .eq 43, 3) := by decide +kernel
theorem dX6_labelsAreSound_9 : decode cX6_labelsAreSound 9 = .ok (.sipush 1800, 3) := by decide +kernel
theorem dX6_labelsAreSound_12 : decode cX6_labelsAreSound 12 = .ok (.invokestatic 291, 3) := by decide +kernel
theorem dX6_labelsAreSound_15 : decode cX6_labelsAreSound 15 = .ok (.ifCond .eq 34, 3) := by decide +kernel
theorem dX6_labelsAreSound_18 : decode cX6_labelsAreSound 18 = .ok (.sipush 17981, 3) := by decide +kernel
theorem dX6_labelsAreSound_21 : decode cX6_labelsAreSound 21 = .ok (.invokestatic 291, 3) := by decide +kernel
theorem dX6_labelsAreSound_24 : decode cX6_labelsAreSound 24 = .ok (.ifCond .eq 25, 3) := by decide +kernel
theorem dX6_labelsAreSound_27 : decode cX6_labelsAreSound 27 = .ok (.sipush 17982, 3) := by decide +kernel
theorem dX6_labelsAreSound_30 : decode cX6_labelsAreSound 30 = .ok (.invokestatic 291, 3) := by decide +kernel
theorem dX6_labelsAreSound_33 : decode cX6_labelsAreSound 33 = .ok (.ifCond .eq 16, 3) := by decide +kernel
theorem dX6_labelsAreSound_36 : decode cX6_labelsAreSound 36 = .ok (.ldc_w 294, 3) := by decide +kernel
theorem dX6_labelsAreSound_39 : decode cX6_labelsAreSound 39 = .ok (.invokestatic 291, 3) := by decide +kernel
theorem dX6_labelsAreSound_42 : decode cX6_labelsAreSound 42 = .ok (.ifCond .eq 7, 3) := by decide +kernel
theorem dX6_labelsAreSound_45 : decode cX6_labelsAreSound 45 = .ok (.iconst 1, 1) := by decide +kernel
theorem dX6_labelsAreSound_46 : decode cX6_labelsAreSound 46 = .ok (.goto 4, 3) := by decide +kernel
theorem dX6_labelsAreSound_49 : decode cX6_labelsAreSound 49 = .ok (.iconst 0, 1) := by decide +kernel
theorem dX6_labelsAreSound_50 : decode cX6_labelsAreSound 50 = .ok (.ireturn, 1) := by decide +kernel
set_option maxRecDepth 20000 in
theorem ggX6_withFields_X4_many : GoodIn wsX6_withFields wsX4_many := goodIn_r _ [7, 8, 102, 103] (by decide +kernel) (by decide +kernel)
set_option maxRecDepth 20000 in
theorem gX6_withFields_X4_many : GoodIn wsX6_withFields (wsV RX6 82 RX4 yX4_many wsX4_many) := goodIn_app (goodIn_of _ (by decide +kernel)) ggX6_withFields_X4_many
set_option maxRecDepth 20000 in
theorem ggX6_withFields_X6_ofField : GoodIn wsX6_withFields wsX6_ofField := goodIn_ca (goodIn_ca (goodIn_r _ [13, 14, 15, 16, 1, 17, 18, 19, 20, 12, 21, 22, 23, 24, 25, 26, 6, 27, 8, 28, 29, 30, 31, 32, 33, 34, 35, 36, 37, 38, 39, 40, 41, 42, 43, 44, 4, 5, 7, 45, 46, 47, 48, 49, 50, 51, 52, 53, 54, 55, 56, 57, 58, 59, 60, 61, 62, 63, 64, 65, 66, 67, 68, 69, 70, 71, 72, 73, 74, 75, 76, 77, 78, 79, 80, 81, 82, 83, 84, 85, 86, 87, 88, 89, 90, 91, 92, 93, 94, 95, 96, 97, 98, 99, 100, 101, 104, 105, 106, 107, 108, 109, 110, 111, 112, 102, 103] (by decide +kernel) (by decide +kernel)) (goodIn_sub (fun _ h => List.mem_cons_of_mem _ (List.mem_append_left _ (List.mem_append_right _ h))) (by decide +kernel))) (goodIn_sub (fun _ h => List.mem_cons_of_mem _ (List.mem_append_right _ h)) (by decide +kernel))
set_option maxRecDepth 20000 in
theorem gX6_withFields_X6_ofField : GoodIn wsX6_withFields (wsV RX6 295 RX6 yX6_ofField wsX6_ofField) := goodIn_app (goodIn_of _ (by decide +kernel)) ggX6_withFields_X6_ofField
theorem dX6_withFields_0 : decode cX6_withFields 0 = .ok (.lload_n 1, 1) := by decide +kernel
theorem dX6_withFields_1 : decode cX6_withFields 1 = .ok (.lstore_n 3, 1) := by decide +kernel
theorem dX6_withFields_2 : decode cX6_withFields 2 = .ok (.iconst 0, 1) := by decide +kernel
theorem dX6_withFields_3 : decode cX6_withFields 3 = .ok (.istore 5, 2) := by decide +kernel
theorem dX6_withFields_5 : decode cX6_withFields 5 = .ok (.iload 5, 2) := by decide +kernel
theorem dX6_withFields_7 : decode cX6_withFields 7 = .ok (.aload_n 0, 1) := by decide +kernel
theorem dX6_withFields_8 : decode cX6_withFields 8 = .ok (.getfield 21, 3) := by decide +kernel
theorem dX6_withFields_11 : decode cX6_withFields 11 = .ok (.getfield 79, 3) := by decide +kernel
theorem dX6_withFields_14 : decode cX6_withFields 14 = .ok (.invokevirtual 82, 3) := by decide +kernel
theorem dX6_withFields_17 : decode cX6_withFields 17 = .ok (.if_icmp .ge 40, 3) := by decide +kernel
theorem dX6_withFields_20 : decode cX6_withFields 20 = .ok (.iconst 0, 1) := by decide +kernel
theorem dX6_withFields_21 : decode cX6_withFields 21 = .ok (.istore 6, 2) := by decide +kernel
theorem dX6_withFields_23 : decode cX6_withFields 23 = .ok (.iload 6, 2) := by decide +kernel
theorem dX6_withFields_25 : decode cX6_withFields 25 = .ok (.iconst 4, 1) := by decide +kernel
theorem dX6_withFields_26 : decode cX6_withFields 26 = .ok (.if_icmp .ge 25, 3) := by decide +kernel
theorem dX6_withFields_29 : decode cX6_withFields 29 = .ok (.lload_n 3, 1) := by decide +kernel
theorem dX6_withFields_30 : decode cX6_withFields 30 = .ok (.ldc2_w 242, 3) := by decide +kernel
theorem dX6_withFields_33 : decode cX6_withFields 33 = .ok (.lmul, 1) := by decide +kernel
theorem dX6_withFields_34 : decode cX6_withFields 34 = .ok (.aload_n 0, 1) := by decide +kernel
theorem dX6_withFields_35 : decode cX6_withFields 35 = .ok (.iload 5, 2) := by decide +kernel
theorem dX6_withFields_37 : decode cX6_withFields 37 = .ok (.iload 6, 2) := by decide +kernel
theorem dX6_withFields_39 : decode cX6_withFields 39 = .ok (.invokevirtual 295, 3) := by decide +kernel
theorem dX6_withFields_42 : decode cX6_withFields 42 = .ok (.i2l, 1) := by decide +kernel
theorem dX6_withFields_43 : decode cX6_withFields 43 = .ok (.ladd, 1) := by decide +kernel
theorem dX6_withFields_44 : decode cX6_withFields 44 = .ok (.lstore_n 3, 1) := by decide +kernel
theorem dX6_withFields_45 : decode cX6_withFields 45 = .ok (.iinc 6 1, 3) := by decide +kernel
theorem dX6_withFields_48 : decode cX6_withFields 48 = .ok (.goto (-25), 3) := by decide +kernel
theorem dX6_withFields_51 : decode cX6_withFields 51 = .ok (.iinc 5 1, 3) := by decide +kernel
theorem dX6_withFields_54 : decode cX6_withFields 54 = .ok (.goto (-49), 3) := by decide +kernel
theorem dX6_withFields_57 : decode cX6_withFields 57 = .ok (.lload_n 3, 1) := by decide +kernel
theorem dX6_withFields_58 : decode cX6_withFields 58 = .ok (.lreturn, 1) := by decide +kernel
set_option maxRecDepth 20000 in
theorem ggX6_withFoundFrames_X6_found : GoodIn wsX6_withFoundFrames wsX6_found := goodIn_ca (goodIn_ca (goodIn_r _ [7, 8, 9, 10, 11, 1, 12, 13, 14, 15, 16, 17, 18, 19, 20, 21, 22, 23, 24, 25, 26, 27, 28, 29, 30, 31, 32, 33, 34, 35, 36, 37, 38, 39, 40, 41, 42, 43, 44, 45, 46, 47, 48, 49, 50, 51, 52, 53, 54, 55, 56, 57, 58, 59, 60, 61, 62, 63, 64, 65, 66, 67, 68, 69, 70, 71, 72, 73, 74, 75, 76, 77, 78, 88, 89, 90, 91, 92, 93, 79, 80, 81, 82, 83, 84, 85, 86, 87, 94, 95] (by decide +kernel) (by decide +kernel)) (goodIn_sub (fun _ h => List.mem_cons_of_mem _ (List.mem_append_left _ (List.mem_append_right _ h))) (by decide +kernel))) (goodIn_sub (fun _ h => List.mem_cons_of_mem _ (List.mem_append_right _ h)) (by decide +kernel))
set_option maxRecDepth 20000 in
theorem gX6_withFoundFrames_X6_found : GoodIn wsX6_withFoundFrames (wsV RX6 298 RX6 yX6_found wsX6_found) := goodIn_app (goodIn_of _ (by decide +kernel)) ggX6_withFoundFrames_X6_found
theorem dX6_withFoundFrames_0 : decode cX6_withFoundFrames 0 = .ok (.lload_n 1, 1) := by decide +kernel
theorem dX6_withFoundFrames_1 : decode cX6_withFoundFrames 1 = .ok (.lstore_n 3, 1) := by decide +kernel
theorem dX6_withFoundFrames_2 : decode cX6_withFoundFrames 2 = .ok (.iconst 0, 1) := by decide +kernel
theorem dX6_withFoundFrames_3 : decode cX6_withFoundFrames 3 = .ok (.istore 5, 2) := by decide +kernel
theorem dX6_withFoundFrames_5 : decode cX6_withFoundFrames 5 = .ok (.iload 5, 2) := by decide +kernel
theorem dX6_withFoundFrames_7 : decode cX6_withFoundFrames 7 = .ok (.aload_n 0, 1) := by decide +kernel
theorem dX6_withFoundFrames_8 : decode cX6_withFoundFrames 8 = .ok (.getfield 28, 3) := by decide +kernel
theorem dX6_withFoundFrames_11 : decode cX6_withFoundFrames 11 = .ok (.getfield 148, 3) := by decide +kernel
theorem dX6_withFoundFrames_14 : decode cX6_withFoundFrames 14 = .ok (.if_icmp .ge 40, 3) := by decide +kernel
theorem dX6_withFoundFrames_17 : decode cX6_withFoundFrames 17 = .ok (.iconst 0, 1) := by decide +kernel
theorem dX6_withFoundFrames_18 : decode cX6_withFoundFrames 18 = .ok (.istore 6, 2) := by decide +kernel
theorem dX6_withFoundFrames_20 : decode cX6_withFoundFrames 20 = .ok (.iload 6, 2) := by decide +kernel
theorem dX6_withFoundFrames_22 : decode cX6_withFoundFrames 22 = .ok (.iconst 3, 1) := by decide +kernel
theorem dX6_withFoundFrames_23 : decode cX6_withFoundFrames 23 = .ok (.if_icmp .ge 25, 3) := by decide +kernel
theorem dX6_withFoundFrames_26 : decode cX6_withFoundFrames 26 = .ok (.lload_n 3, 1) := by decide +kernel
theorem dX6_withFoundFrames_27 : decode cX6_withFoundFrames 27 = .ok (.ldc2_w 242, 3) := by decide +kernel
theorem dX6_withFoundFrames_30 : decode cX6_withFoundFrames 30 = .ok (.lmul, 1) := by decide +kernel
theorem dX6_withFoundFrames_31 : decode cX6_withFoundFrames 31 = .ok (.aload_n 0, 1) := by decide +kernel
theorem dX6_withFoundFrames_32 : decode cX6_withFoundFrames 32 = .ok (.iload 5, 2) := by decide +kernel
theorem dX6_withFoundFrames_34 : decode cX6_withFoundFrames 34 = .ok (.iload 6, 2) := by decide +kernel
theorem dX6_withFoundFrames_36 : decode cX6_withFoundFrames 36 = .ok (.invokevirtual 298, 3) := by decide +kernel
theorem dX6_withFoundFrames_39 : decode cX6_withFoundFrames 39 = .ok (.i2l, 1) := by decide +kernel
theorem dX6_withFoundFrames_40 : decode cX6_withFoundFrames 40 = .ok (.ladd, 1) := by decide +kernel
theorem dX6_withFoundFrames_41 : decode cX6_withFoundFrames 41 = .ok (.lstore_n 3, 1) := by decide +kernel
theorem dX6_withFoundFrames_42 : decode cX6_withFoundFrames 42 = .ok (.iinc 6 1, 3) := by decide +kernel
theorem dX6_withFoundFrames_45 : decode cX6_withFoundFrames 45 = .ok (.goto (-25), 3) := by decide +kernel
theorem dX6_withFoundFrames_48 : decode cX6_withFoundFrames 48 = .ok (.iinc 5 1, 3) := by decide +kernel
theorem dX6_withFoundFrames_51 : decode cX6_withFoundFrames 51 = .ok (.goto (-46), 3) := by decide +kernel
theorem dX6_withFoundFrames_54 : decode cX6_withFoundFrames 54 = .ok (.lload_n 3, 1) := by decide +kernel
theorem dX6_withFoundFrames_55 : decode cX6_withFoundFrames 55 = .ok (.lreturn, 1) := by decide +kernel
set_option maxRecDepth 20000 in
theorem ggX6_withPrints_X2_distance : GoodIn wsX6_withPrints wsX2_distance := goodIn_r _ [7, 8, 9, 10, 11, 12, 13, 14, 15, 16, 17, 18, 6, 19, 20, 21, 22, 23, 24, 25, 26, 27, 28, 29, 30, 31, 32, 33, 34, 35, 36, 37, 38, 56, 57, 58, 59, 60, 61] (by decide +kernel) (by decide +kernel)
set_option maxRecDepth 20000 in
theorem gX6_withPrints_X2_distance : GoodIn wsX6_withPrints (wsV RX6 169 RX2 yX2_distance wsX2_distance) := goodIn_app (goodIn_of _ (by decide +kernel)) ggX6_withPrints_X2_distance
set_option maxRecDepth 20000 in
theorem ggX6_withPrints_X2_layOut : GoodIn wsX6_withPrints wsX2_layOut := goodIn_r _ [42, 8, 43, 44, 4, 5, 6, 7, 9, 10, 11, 12, 13, 14, 15, 16, 17, 18, 19, 20, 21, 22, 23, 24, 25, 26, 27, 28, 29, 30, 31, 32, 33, 34, 35, 36, 37, 38, 45, 46, 47, 48, 56, 57, 58, 59, 60, 61] (by decide +kernel) (by decide +kernel)
set_option maxRecDepth 20000 in
theorem gX6_withPrints_X2_layOut : GoodIn wsX6_withPrints (wsV RX6 177 RX2 yX2_layOut wsX2_layOut) := goodIn_app (goodIn_of _ (by decide +kernel)) ggX6_withPrints_X2_layOut
theorem dX6_withPrints_0 : decode cX6_withPrints 0 = .ok (.lload_n 1, 1) := by decide +kernel
theorem dX6_withPrints_1 : decode cX6_withPrints 1 = .ok (.lstore_n 3, 1) := by decide +kernel
theorem dX6_withPrints_2 : decode cX6_withPrints 2 = .ok (.iconst 0, 1) := by decide +kernel
theorem dX6_withPrints_3 : decode cX6_withPrints 3 = .ok (.istore 5, 2) := by decide +kernel
theorem dX6_withPrints_5 : decode cX6_withPrints 5 = .ok (.iload 5, 2) := by decide +kernel
theorem dX6_withPrints_7 : decode cX6_withPrints 7 = .ok (.aload_n 0, 1) := by decide +kernel
theorem dX6_withPrints_8 : decode cX6_withPrints 8 = .ok (.getfield 35, 3) := by decide +kernel
theorem dX6_withPrints_11 : decode cX6_withPrints 11 = .ok (.getfield 190, 3) := by decide +kernel
theorem dX6_withPrints_14 : decode cX6_withPrints 14 = .ok (.if_icmp .ge 68, 3) := by decide +kernel
theorem dX6_withPrints_17 : decode cX6_withPrints 17 = .ok (.iconst 0, 1) := by decide +kernel
theorem dX6_withPrints_18 : decode cX6_withPrints 18 = .ok (.istore 6, 2) := by decide +kernel
theorem dX6_withPrints_20 : decode cX6_withPrints 20 = .ok (.iload 6, 2) := by decide +kernel
theorem dX6_withPrints_22 : decode cX6_withPrints 22 = .ok (.aload_n 0, 1) := by decide +kernel
theorem dX6_withPrints_23 : decode cX6_withPrints 23 = .ok (.getfield 35, 3) := by decide +kernel
theorem dX6_withPrints_26 : decode cX6_withPrints 26 = .ok (.getfield 190, 3) := by decide +kernel
theorem dX6_withPrints_29 : decode cX6_withPrints 29 = .ok (.if_icmp .ge 47, 3) := by decide +kernel
theorem dX6_withPrints_32 : decode cX6_withPrints 32 = .ok (.lload_n 3, 1) := by decide +kernel
theorem dX6_withPrints_33 : decode cX6_withPrints 33 = .ok (.ldc2_w 242, 3) := by decide +kernel
theorem dX6_withPrints_36 : decode cX6_withPrints 36 = .ok (.lmul, 1) := by decide +kernel
theorem dX6_withPrints_37 : decode cX6_withPrints 37 = .ok (.aload_n 0, 1) := by decide +kernel
theorem dX6_withPrints_38 : decode cX6_withPrints 38 = .ok (.getfield 35, 3) := by decide +kernel
theorem dX6_withPrints_41 : decode cX6_withPrints 41 = .ok (.iload 5, 2) := by decide +kernel
theorem dX6_withPrints_43 : decode cX6_withPrints 43 = .ok (.iload 6, 2) := by decide +kernel
theorem dX6_withPrints_45 : decode cX6_withPrints 45 = .ok (.invokevirtual 169, 3) := by decide +kernel
theorem dX6_withPrints_48 : decode cX6_withPrints 48 = .ok (.i2l, 1) := by decide +kernel
theorem dX6_withPrints_49 : decode cX6_withPrints 49 = .ok (.ladd, 1) := by decide +kernel
theorem dX6_withPrints_50 : decode cX6_withPrints 50 = .ok (.lstore_n 3, 1) := by decide +kernel
theorem dX6_withPrints_51 : decode cX6_withPrints 51 = .ok (.lload_n 3, 1) := by decide +kernel
theorem dX6_withPrints_52 : decode cX6_withPrints 52 = .ok (.ldc2_w 242, 3) := by decide +kernel
theorem dX6_withPrints_55 : decode cX6_withPrints 55 = .ok (.lmul, 1) := by decide +kernel
theorem dX6_withPrints_56 : decode cX6_withPrints 56 = .ok (.aload_n 0, 1) := by decide +kernel
theorem dX6_withPrints_57 : decode cX6_withPrints 57 = .ok (.getfield 35, 3) := by decide +kernel
theorem dX6_withPrints_60 : decode cX6_withPrints 60 = .ok (.iload 5, 2) := by decide +kernel
theorem dX6_withPrints_62 : decode cX6_withPrints 62 = .ok (.iload 6, 2) := by decide +kernel
theorem dX6_withPrints_64 : decode cX6_withPrints 64 = .ok (.invokevirtual 177, 3) := by decide +kernel
theorem dX6_withPrints_67 : decode cX6_withPrints 67 = .ok (.i2l, 1) := by decide +kernel
theorem dX6_withPrints_68 : decode cX6_withPrints 68 = .ok (.ladd, 1) := by decide +kernel
theorem dX6_withPrints_69 : decode cX6_withPrints 69 = .ok (.lstore_n 3, 1) := by decide +kernel
theorem dX6_withPrints_70 : decode cX6_withPrints 70 = .ok (.iinc 6 1, 3) := by decide +kernel
theorem dX6_withPrints_73 : decode cX6_withPrints 73 = .ok (.goto (-53), 3) := by decide +kernel
theorem dX6_withPrints_76 : decode cX6_withPrints 76 = .ok (.iinc 5 1, 3) := by decide +kernel
theorem dX6_withPrints_79 : decode cX6_withPrints 79 = .ok (.goto (-74), 3) := by decide +kernel
theorem dX6_withPrints_82 : decode cX6_withPrints 82 = .ok (.lload_n 3, 1) := by decide +kernel
theorem dX6_withPrints_83 : decode cX6_withPrints 83 = .ok (.lreturn, 1) := by decide +kernel
theorem dJ9_abs_0f7a4_0 : decode cJ9_abs_0f7a4 0 = .ok (.iload_n 0, 1) := by decide +kernel
theorem dJ9_abs_0f7a4_1 : decode cJ9_abs_0f7a4 1 = .ok (.ifCond .ge 8, 3) := by decide +kernel
theorem dJ9_abs_0f7a4_4 : decode cJ9_abs_0f7a4 4 = .ok (.iload_n 0, 1) := by decide +kernel
theorem dJ9_abs_0f7a4_5 : decode cJ9_abs_0f7a4 5 = .ok (.ineg, 1) := by decide +kernel
theorem dJ9_abs_0f7a4_6 : decode cJ9_abs_0f7a4 6 = .ok (.goto 4, 3) := by decide +kernel
theorem dJ9_abs_0f7a4_9 : decode cJ9_abs_0f7a4 9 = .ok (.iload_n 0, 1) := by decide +kernel
theorem dJ9_abs_0f7a4_10 : decode cJ9_abs_0f7a4 10 = .ok (.ireturn, 1) := by decide +kernel
theorem dJ9_max_7cf53_0 : decode cJ9_max_7cf53 0 = .ok (.iload_n 0, 1) := by decide +kernel
theorem dJ9_max_7cf53_1 : decode cJ9_max_7cf53 1 = .ok (.iload_n 1, 1) := by decide +kernel
theorem dJ9_max_7cf53_2 : decode cJ9_max_7cf53 2 = .ok (.if_icmp .lt 7, 3) := by decide +kernel
theorem dJ9_max_7cf53_5 : decode cJ9_max_7cf53 5 = .ok (.iload_n 0, 1) := by decide +kernel
theorem dJ9_max_7cf53_6 : decode cJ9_max_7cf53 6 = .ok (.goto 4, 3) := by decide +kernel
theorem dJ9_max_7cf53_9 : decode cJ9_max_7cf53 9 = .ok (.iload_n 1, 1) := by decide +kernel
theorem dJ9_max_7cf53_10 : decode cJ9_max_7cf53 10 = .ok (.ireturn, 1) := by decide +kernel
theorem dJ9_min_7cf53_0 : decode cJ9_min_7cf53 0 = .ok (.iload_n 0, 1) := by decide +kernel
theorem dJ9_min_7cf53_1 : decode cJ9_min_7cf53 1 = .ok (.iload_n 1, 1) := by decide +kernel
theorem dJ9_min_7cf53_2 : decode cJ9_min_7cf53 2 = .ok (.if_icmp .gt 7, 3) := by decide +kernel
theorem dJ9_min_7cf53_5 : decode cJ9_min_7cf53 5 = .ok (.iload_n 0, 1) := by decide +kernel
theorem dJ9_min_7cf53_6 : decode cJ9_min_7cf53 6 = .ok (.goto 4, 3) := by decide +kernel
theorem dJ9_min_7cf53_9 : decode cJ9_min_7cf53 9 = .ok (.iload_n 1, 1) := by decide +kernel
theorem dJ9_min_7cf53_10 : decode cJ9_min_7cf53 10 = .ok (.ireturn, 1) := by decide +kernel
