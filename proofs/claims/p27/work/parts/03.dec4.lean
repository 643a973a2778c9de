set_option maxRecDepth 20000 in
theorem ggX6_init_X4_init : GoodIn wsX6_init wsX4_init := goodIn_r _ [28, 29, 2, 3, 30, 31, 32, 33, 34, 35, 36, 81, 82] (by decide +kernel) (by decide +kernel)
set_option maxRecDepth 20000 in
theorem gX6_init_X4_init : GoodIn wsX6_init (wsX4_init) := ggX6_init_X4_init
set_option maxRecDepth 20000 in
theorem ggX6_init_X5_init : GoodIn wsX6_init wsX5_init := goodIn_r _ [39, 40, 2, 3, 41, 5, 6, 42, 43, 34, 44, 45, 46, 47, 48, 49, 27, 28, 29, 30, 31, 32, 33, 35, 36, 81, 82, 90, 91, 92, 93, 94, 95] (by decide +kernel) (by decide +kernel)
set_option maxRecDepth 20000 in
theorem gX6_init_X5_init : GoodIn wsX6_init (wsX5_init) := ggX6_init_X5_init
set_option maxRecDepth 20000 in
theorem ggX6_init_X3_init : GoodIn wsX6_init wsX3_init := goodIn_r _ [52, 53, 2, 3, 34, 54, 55, 56, 57, 58, 59, 60, 61, 62, 96, 97, 98, 99, 100, 101, 102, 103, 104] (by decide +kernel) (by decide +kernel)
set_option maxRecDepth 20000 in
theorem gX6_init_X3_init : GoodIn wsX6_init (wsX3_init) := ggX6_init_X3_init
set_option maxRecDepth 20000 in
theorem ggX6_init_X2_init : GoodIn wsX6_init wsX2_init := goodIn_r _ [65, 66, 2, 3, 67, 68, 5, 6, 34, 69, 46, 70, 71, 72, 27, 28, 29, 30, 31, 32, 33, 35, 36, 105, 106, 107, 108, 81, 82] (by decide +kernel) (by decide +kernel)
set_option maxRecDepth 20000 in
theorem gX6_init_X2_init : GoodIn wsX6_init (wsX2_init) := ggX6_init_X2_init
set_option maxRecDepth 20000 in
theorem ggX6_init_X0_init : GoodIn wsX6_init wsX0_init := goodIn_r _ [75, 76, 2, 3, 77, 5, 6, 78, 79, 80, 27, 28, 29, 30, 31, 32, 33, 34, 35, 36, 81, 82, 109, 110] (by decide +kernel) (by decide +kernel)
set_option maxRecDepth 20000 in
theorem gX6_init_X0_init : GoodIn wsX6_init (wsX0_init) := ggX6_init_X0_init
theorem dX6_init_0 : decode cX6_init 0 = .ok (.aload_n 0, 1) := by decide +kernel
theorem dX6_init_1 : decode cX6_init 1 = .ok (.invokespecial 1, 3) := by decide +kernel
theorem dX6_init_4 : decode cX6_init 4 = .ok (.aload_n 0, 1) := by decide +kernel
theorem dX6_init_5 : decode cX6_init 5 = .ok (.new 7, 3) := by decide +kernel
theorem dX6_init_8 : decode cX6_init 8 = .ok (.dup, 1) := by decide +kernel
theorem dX6_init_9 : decode cX6_init 9 = .ok (.bipush 24, 2) := by decide +kernel
theorem dX6_init_11 : decode cX6_init 11 = .ok (.invokespecial 11, 3) := by decide +kernel
theorem dX6_init_14 : decode cX6_init 14 = .ok (.putfield 14, 3) := by decide +kernel
theorem dX6_init_17 : decode cX6_init 17 = .ok (.aload_n 0, 1) := by decide +kernel
theorem dX6_init_18 : decode cX6_init 18 = .ok (.new 18, 3) := by decide +kernel
theorem dX6_init_21 : decode cX6_init 21 = .ok (.dup, 1) := by decide +kernel
theorem dX6_init_22 : decode cX6_init 22 = .ok (.invokespecial 20, 3) := by decide +kernel
theorem dX6_init_25 : decode cX6_init 25 = .ok (.putfield 21, 3) := by decide +kernel
theorem dX6_init_28 : decode cX6_init 28 = .ok (.aload_n 0, 1) := by decide +kernel
theorem dX6_init_29 : decode cX6_init 29 = .ok (.new 25, 3) := by decide +kernel
theorem dX6_init_32 : decode cX6_init 32 = .ok (.dup, 1) := by decide +kernel
theorem dX6_init_33 : decode cX6_init 33 = .ok (.invokespecial 27, 3) := by decide +kernel
theorem dX6_init_36 : decode cX6_init 36 = .ok (.putfield 28, 3) := by decide +kernel
theorem dX6_init_39 : decode cX6_init 39 = .ok (.aload_n 0, 1) := by decide +kernel
theorem dX6_init_40 : decode cX6_init 40 = .ok (.new 32, 3) := by decide +kernel
theorem dX6_init_43 : decode cX6_init 43 = .ok (.dup, 1) := by decide +kernel
theorem dX6_init_44 : decode cX6_init 44 = .ok (.invokespecial 34, 3) := by decide +kernel
theorem dX6_init_47 : decode cX6_init 47 = .ok (.putfield 35, 3) := by decide +kernel
theorem dX6_init_50 : decode cX6_init 50 = .ok (.aload_n 0, 1) := by decide +kernel
theorem dX6_init_51 : decode cX6_init 51 = .ok (.new 39, 3) := by decide +kernel
theorem dX6_init_54 : decode cX6_init 54 = .ok (.dup, 1) := by decide +kernel
theorem dX6_init_55 : decode cX6_init 55 = .ok (.invokespecial 41, 3) := by decide +kernel
theorem dX6_init_58 : decode cX6_init 58 = .ok (.putfield 42, 3) := by decide +kernel
theorem dX6_init_61 : decode cX6_init 61 = .ok (.aload_n 0, 1) := by decide +kernel
theorem dX6_init_62 : decode cX6_init 62 = .ok (.bipush 6, 2) := by decide +kernel
theorem dX6_init_64 : decode cX6_init 64 = .ok (.putfield 46, 3) := by decide +kernel
theorem dX6_init_67 : decode cX6_init 67 = .ok (.aload_n 0, 1) := by decide +kernel
theorem dX6_init_68 : decode cX6_init 68 = .ok (.iconst 0, 1) := by decide +kernel
theorem dX6_init_69 : decode cX6_init 69 = .ok (.putfield 50, 3) := by decide +kernel
theorem dX6_init_72 : decode cX6_init 72 = .ok (.return_, 1) := by decide +kernel
set_option maxRecDepth 20000 in
theorem ggX6_frame_X6_requireLook : GoodIn wsX6_frame wsX6_requireLook := goodIn_ca (goodIn_r _ [7, 8, 9] (by decide +kernel) (by decide +kernel)) (goodIn_sub (fun _ h => List.mem_cons_of_mem _ (List.mem_append_right _ h)) (by decide +kernel))
set_option maxRecDepth 20000 in
theorem gX6_frame_X6_requireLook : GoodIn wsX6_frame (va_wsS RX6 53 yX6_requireLook wsX6_requireLook) := goodIn_app (goodIn_of _ (by decide +kernel)) ggX6_frame_X6_requireLook
set_option maxRecDepth 20000 in
theorem ggX6_frame_X4_add : GoodIn wsX6_frame wsX4_add := goodIn_r _ [14, 15, 16, 24, 25] (by decide +kernel) (by decide +kernel)
set_option maxRecDepth 20000 in
theorem gX6_frame_X4_add : GoodIn wsX6_frame (wsV RX6 56 RX4 yX4_add wsX4_add) := goodIn_app (goodIn_of _ (by decide +kernel)) ggX6_frame_X4_add
theorem dX6_frame_0 : decode cX6_frame 0 = .ok (.iload_n 1, 1) := by decide +kernel
theorem dX6_frame_1 : decode cX6_frame 1 = .ok (.invokestatic 53, 3) := by decide +kernel
theorem dX6_frame_4 : decode cX6_frame 4 = .ok (.aload_n 0, 1) := by decide +kernel
theorem dX6_frame_5 : decode cX6_frame 5 = .ok (.getfield 14, 3) := by decide +kernel
theorem dX6_frame_8 : decode cX6_frame 8 = .ok (.iload_n 1, 1) := by decide +kernel
theorem dX6_frame_9 : decode cX6_frame 9 = .ok (.invokevirtual 56, 3) := by decide +kernel
theorem dX6_frame_12 : decode cX6_frame 12 = .ok (.istore_n 2, 1) := by decide +kernel
theorem dX6_frame_13 : decode cX6_frame 13 = .ok (.iload_n 2, 1) := by decide +kernel
theorem dX6_frame_14 : decode cX6_frame 14 = .ok (.iconst (-1), 1) := by decide +kernel
theorem dX6_frame_15 : decode cX6_frame 15 = .ok (.if_icmp .ne 13, 3) := by decide +kernel
theorem dX6_frame_18 : decode cX6_frame 18 = .ok (.new 60, 3) := by decide +kernel
theorem dX6_frame_21 : decode cX6_frame 21 = .ok (.dup, 1) := by decide +kernel
theorem dX6_frame_22 : decode cX6_frame 22 = .ok (.ldc 62, 2) := by decide +kernel
theorem dX6_frame_24 : decode cX6_frame 24 = .ok (.invokespecial 64, 3) := by decide +kernel
theorem dX6_frame_27 : decode cX6_frame 27 = .ok (.athrow, 1) := by decide +kernel
theorem dX6_frame_28 : decode cX6_frame 28 = .ok (.iload_n 2, 1) := by decide +kernel
theorem dX6_frame_29 : decode cX6_frame 29 = .ok (.ireturn, 1) := by decide +kernel
set_option maxRecDepth 20000 in
theorem ggX6_pull_X5_pullDown : GoodIn wsX6_pull wsX5_pullDown := goodIn_r _ [10, 11, 12, 13, 14, 15, 16, 17, 18, 19, 20, 21, 22, 23, 24, 25, 26, 27, 28, 29, 30, 31, 46, 47, 48, 49, 50, 51, 52, 53] (by decide +kernel) (by decide +kernel)
set_option maxRecDepth 20000 in
theorem gX6_pull_X5_pullDown : GoodIn wsX6_pull (wsV RX6 72 RX5 yX5_pullDown wsX5_pullDown) := goodIn_app (goodIn_of _ (by decide +kernel)) ggX6_pull_X5_pullDown
set_option maxRecDepth 20000 in
theorem ggX6_pull_X3_forget : GoodIn wsX6_pull wsX3_forget := goodIn_r _ [36, 37, 54, 55, 56, 57, 58, 59, 60, 61, 62] (by decide +kernel) (by decide +kernel)
set_option maxRecDepth 20000 in
theorem gX6_pull_X3_forget : GoodIn wsX6_pull (wsV RX6 76 RX3 yX3_forget wsX3_forget) := goodIn_app (goodIn_of _ (by decide +kernel)) ggX6_pull_X3_forget
set_option maxRecDepth 20000 in
theorem ggX6_pull_X4_many : GoodIn wsX6_pull wsX4_many := goodIn_r _ [22, 18, 52, 53] (by decide +kernel) (by decide +kernel)
set_option maxRecDepth 20000 in
theorem gX6_pull_X4_many : GoodIn wsX6_pull (wsV RX6 82 RX4 yX4_many wsX4_many) := goodIn_app (goodIn_of _ (by decide +kernel)) ggX6_pull_X4_many
theorem dX6_pull_0 : decode cX6_pull 0 = .ok (.iload_n 1, 1) := by decide +kernel
theorem dX6_pull_1 : decode cX6_pull 1 = .ok (.ifCond .eq 18, 3) := by decide +kernel
theorem dX6_pull_4 : decode cX6_pull 4 = .ok (.iload_n 1, 1) := by decide +kernel
theorem dX6_pull_5 : decode cX6_pull 5 = .ok (.iconst 1, 1) := by decide +kernel
theorem dX6_pull_6 : decode cX6_pull 6 = .ok (.if_icmp .eq 13, 3) := by decide +kernel
theorem dX6_pull_9 : decode cX6_pull 9 = .ok (.new 67, 3) := by decide +kernel
theorem dX6_pull_12 : decode cX6_pull 12 = .ok (.dup, 1) := by decide +kernel
theorem dX6_pull_13 : decode cX6_pull 13 = .ok (.ldc 69, 2) := by decide +kernel
theorem dX6_pull_15 : decode cX6_pull 15 = .ok (.invokespecial 71, 3) := by decide +kernel
theorem dX6_pull_18 : decode cX6_pull 18 = .ok (.athrow, 1) := by decide +kernel
theorem dX6_pull_19 : decode cX6_pull 19 = .ok (.aload_n 0, 1) := by decide +kernel
theorem dX6_pull_20 : decode cX6_pull 20 = .ok (.getfield 21, 3) := by decide +kernel
theorem dX6_pull_23 : decode cX6_pull 23 = .ok (.aload_n 0, 1) := by decide +kernel
theorem dX6_pull_24 : decode cX6_pull 24 = .ok (.getfield 14, 3) := by decide +kernel
theorem dX6_pull_27 : decode cX6_pull 27 = .ok (.iload_n 1, 1) := by decide +kernel
theorem dX6_pull_28 : decode cX6_pull 28 = .ok (.invokevirtual 72, 3) := by decide +kernel
theorem dX6_pull_31 : decode cX6_pull 31 = .ok (.aload_n 0, 1) := by decide +kernel
theorem dX6_pull_32 : decode cX6_pull 32 = .ok (.getfield 28, 3) := by decide +kernel
theorem dX6_pull_35 : decode cX6_pull 35 = .ok (.invokevirtual 76, 3) := by decide +kernel
theorem dX6_pull_38 : decode cX6_pull 38 = .ok (.aload_n 0, 1) := by decide +kernel
theorem dX6_pull_39 : decode cX6_pull 39 = .ok (.getfield 21, 3) := by decide +kernel
theorem dX6_pull_42 : decode cX6_pull 42 = .ok (.getfield 79, 3) := by decide +kernel
theorem dX6_pull_45 : decode cX6_pull 45 = .ok (.invokevirtual 82, 3) := by decide +kernel
theorem dX6_pull_48 : decode cX6_pull 48 = .ok (.ireturn, 1) := by decide +kernel
set_option maxRecDepth 20000 in
theorem ggX6_cut_X6_requireField : GoodIn wsX6_cut wsX6_requireField := goodIn_ca (goodIn_r _ [9, 10, 11, 3, 12, 13, 14, 15, 16, 17, 41, 42, 43, 44, 45, 46, 47, 48, 49, 50, 51, 52, 53, 54, 55] (by decide +kernel) (by decide +kernel)) (goodIn_sub (fun _ h => List.mem_cons_of_mem _ (List.mem_append_right _ h)) (by decide +kernel))
set_option maxRecDepth 20000 in
theorem gX6_cut_X6_requireField : GoodIn wsX6_cut (wsV RX6 86 RX6 yX6_requireField wsX6_requireField) := goodIn_app (goodIn_of _ (by decide +kernel)) ggX6_cut_X6_requireField
set_option maxRecDepth 20000 in
theorem ggX6_cut_X4_many : GoodIn wsX6_cut wsX4_many := goodIn_r _ [21, 17, 54, 55] (by decide +kernel) (by decide +kernel)
set_option maxRecDepth 20000 in
theorem gX6_cut_X4_many : GoodIn wsX6_cut (wsV RX6 82 RX4 yX4_many wsX4_many) := goodIn_app (goodIn_of _ (by decide +kernel)) ggX6_cut_X4_many
set_option maxRecDepth 20000 in
theorem ggX6_cut_X5_cutOut : GoodIn wsX6_cut wsX5_cutOut := goodIn_r _ [26, 27, 28, 29, 30, 31, 15, 32, 17, 33, 34, 13, 14, 16, 48, 49, 50, 51, 52, 53, 54, 55] (by decide +kernel) (by decide +kernel)
set_option maxRecDepth 20000 in
theorem gX6_cut_X5_cutOut : GoodIn wsX6_cut (wsV RX6 91 RX5 yX5_cutOut wsX5_cutOut) := goodIn_app (goodIn_of _ (by decide +kernel)) ggX6_cut_X5_cutOut
set_option maxRecDepth 20000 in
theorem ggX6_cut_X3_forget : GoodIn wsX6_cut wsX3_forget := goodIn_r _ [39, 40, 56, 57, 58, 59, 60, 61, 62, 63, 64] (by decide +kernel) (by decide +kernel)
set_option maxRecDepth 20000 in
theorem gX6_cut_X3_forget : GoodIn wsX6_cut (wsV RX6 76 RX3 yX3_forget wsX3_forget) := goodIn_app (goodIn_of _ (by decide +kernel)) ggX6_cut_X3_forget
theorem dX6_cut_0 : decode cX6_cut 0 = .ok (.aload_n 0, 1) := by decide +kernel
theorem dX6_cut_1 : decode cX6_cut 1 = .ok (.iload_n 1, 1) := by decide +kernel
theorem dX6_cut_2 : decode cX6_cut 2 = .ok (.invokevirtual 86, 3) := by decide +kernel
theorem dX6_cut_5 : decode cX6_cut 5 = .ok (.iload_n 2, 1) := by decide +kernel
theorem dX6_cut_6 : decode cX6_cut 6 = .ok (.iconst 1, 1) := by decide +kernel
theorem dX6_cut_7 : decode cX6_cut 7 = .ok (.if_icmp .lt 19, 3) := by decide +kernel
theorem dX6_cut_10 : decode cX6_cut 10 = .ok (.iload_n 2, 1) := by decide +kernel
theorem dX6_cut_11 : decode cX6_cut 11 = .ok (.aload_n 0, 1) := by decide +kernel
theorem dX6_cut_12 : decode cX6_cut 12 = .ok (.getfield 21, 3) := by decide +kernel
theorem dX6_cut_15 : decode cX6_cut 15 = .ok (.getfield 79, 3) := by decide +kernel
theorem dX6_cut_18 : decode cX6_cut 18 = .ok (.invokevirtual 82, 3) := by decide +kernel
theorem dX6_cut_21 : decode cX6_cut 21 = .ok (.iload_n 1, 1) := by decide +kernel
theorem dX6_cut_22 : decode cX6_cut 22 = .ok (.isub, 1) := by decide +kernel
theorem dX6_cut_23 : decode cX6_cut 23 = .ok (.if_icmp .le 13, 3) := by decide +kernel
theorem dX6_cut_26 : decode cX6_cut 26 = .ok (.new 67, 3) := by decide +kernel
theorem dX6_cut_29 : decode cX6_cut 29 = .ok (.dup, 1) := by decide +kernel
theorem dX6_cut_30 : decode cX6_cut 30 = .ok (.ldc 89, 2) := by decide +kernel
theorem dX6_cut_32 : decode cX6_cut 32 = .ok (.invokespecial 71, 3) := by decide +kernel
theorem dX6_cut_35 : decode cX6_cut 35 = .ok (.athrow, 1) := by decide +kernel
theorem dX6_cut_36 : decode cX6_cut 36 = .ok (.aload_n 0, 1) := by decide +kernel
theorem dX6_cut_37 : decode cX6_cut 37 = .ok (.getfield 21, 3) := by decide +kernel
theorem dX6_cut_40 : decode cX6_cut 40 = .ok (.iload_n 1, 1) := by decide +kernel
theorem dX6_cut_41 : decode cX6_cut 41 = .ok (.iload_n 2, 1) := by decide +kernel
theorem dX6_cut_42 : decode cX6_cut 42 = .ok (.invokevirtual 91, 3) := by decide +kernel
theorem dX6_cut_45 : decode cX6_cut 45 = .ok (.aload_n 0, 1) := by decide +kernel
theorem dX6_cut_46 : decode cX6_cut 46 = .ok (.getfield 28, 3) := by decide +kernel
theorem dX6_cut_49 : decode cX6_cut 49 = .ok (.invokevirtual 76, 3) := by decide +kernel
theorem dX6_cut_52 : decode cX6_cut 52 = .ok (.aload_n 0, 1) := by decide +kernel
theorem dX6_cut_53 : decode cX6_cut 53 = .ok (.getfield 21, 3) := by decide +kernel
theorem dX6_cut_56 : decode cX6_cut 56 = .ok (.getfield 79, 3) := by decide +kernel
theorem dX6_cut_59 : decode cX6_cut 59 = .ok (.invokevirtual 82, 3) := by decide +kernel
theorem dX6_cut_62 : decode cX6_cut 62 = .ok (.ireturn, 1) := by decide +kernel
set_option maxRecDepth 20000 in
theorem ggX6_spoil_X6_requireField : GoodIn wsX6_spoil wsX6_requireField := goodIn_ca (goodIn_r _ [7, 8, 9, 1, 10, 11, 12, 13, 14, 15, 47, 48, 49, 50, 51, 52, 53, 54, 55, 56, 57, 58, 59, 60, 61] (by decide +kernel) (by decide +kernel)) (goodIn_sub (fun _ h => List.mem_cons_of_mem _ (List.mem_append_left _ (List.mem_append_right _ h))) (by decide +kernel))
set_option maxRecDepth 20000 in
theorem gX6_spoil_X6_requireField : GoodIn wsX6_spoil (wsV RX6 86 RX6 yX6_requireField wsX6_requireField) := goodIn_app (goodIn_of _ (by decide +kernel)) ggX6_spoil_X6_requireField
set_option maxRecDepth 20000 in
theorem ggX6_spoil_X6_requireLook : GoodIn wsX6_spoil wsX6_requireLook := goodIn_ca (goodIn_r _ [18, 19, 20] (by decide +kernel) (by decide +kernel)) (goodIn_sub (fun _ h => List.mem_cons_of_mem _ (List.mem_append_right _ h)) (by decide +kernel))
set_option maxRecDepth 20000 in
theorem gX6_spoil_X6_requireLook : GoodIn wsX6_spoil (va_wsS RX6 53 yX6_requireLook wsX6_requireLook) := goodIn_app (goodIn_of _ (by decide +kernel)) ggX6_spoil_X6_requireLook
set_option maxRecDepth 20000 in
theorem ggX6_spoil_X4_at : GoodIn wsX6_spoil wsX4_at := goodIn_r _ [24, 15, 25, 60, 61] (by decide +kernel) (by decide +kernel)
set_option maxRecDepth 20000 in
theorem gX6_spoil_X4_at : GoodIn wsX6_spoil (wsV RX6 95 RX4 yX4_at wsX4_at) := goodIn_app (goodIn_of _ (by decide +kernel)) ggX6_spoil_X4_at
set_option maxRecDepth 20000 in
theorem ggX6_spoil_X5_note : GoodIn wsX6_spoil wsX5_note := goodIn_r _ [30, 31, 32, 33, 34, 35, 22, 23, 13, 24, 15, 25, 36, 37, 38, 39, 40, 11, 12, 14, 54, 55, 56, 57, 58, 59, 60, 61] (by decide +kernel) (by decide +kernel)
set_option maxRecDepth 20000 in
theorem gX6_spoil_X5_note : GoodIn wsX6_spoil (wsV RX6 98 RX5 yX5_note wsX5_note) := goodIn_app (goodIn_of _ (by decide +kernel)) ggX6_spoil_X5_note
set_option maxRecDepth 20000 in
theorem ggX6_spoil_X3_forget : GoodIn wsX6_spoil wsX3_forget := goodIn_r _ [45, 46, 62, 63, 64, 65, 66, 67, 68, 69, 70] (by decide +kernel) (by decide +kernel)
set_option maxRecDepth 20000 in
theorem gX6_spoil_X3_forget : GoodIn wsX6_spoil (wsV RX6 76 RX3 yX3_forget wsX3_forget) := goodIn_app (goodIn_of _ (by decide +kernel)) ggX6_spoil_X3_forget
theorem dX6_spoil_0 : decode cX6_spoil 0 = .ok (.aload_n 0, 1) := by decide +kernel
theorem dX6_spoil_1 : decode cX6_spoil 1 = .ok (.iload_n 1, 1) := by decide +kernel
theorem dX6_spoil_2 : decode cX6_spoil 2 = .ok (.invokevirtual 86, 3) := by decide +kernel
theorem dX6_spoil_5 : decode cX6_spoil 5 = .ok (.iload_n 2, 1) := by decide +kernel
theorem dX6_spoil_6 : decode cX6_spoil 6 = .ok (.invokestatic 53, 3) := by decide +kernel
theorem dX6_spoil_9 : decode cX6_spoil 9 = .ok (.aload_n 0, 1) := by decide +kernel
theorem dX6_spoil_10 : decode cX6_spoil 10 = .ok (.getfield 21, 3) := by decide +kernel
theorem dX6_spoil_13 : decode cX6_spoil 13 = .ok (.getfield 79, 3) := by decide +kernel
theorem dX6_spoil_16 : decode cX6_spoil 16 = .ok (.iload_n 1, 1) := by decide +kernel
theorem dX6_spoil_17 : decode cX6_spoil 17 = .ok (.invokevirtual 95, 3) := by decide +kernel
theorem dX6_spoil_20 : decode cX6_spoil 20 = .ok (.istore_n 3, 1) := by decide +kernel
theorem dX6_spoil_21 : decode cX6_spoil 21 = .ok (.aload_n 0, 1) := by decide +kernel
theorem dX6_spoil_22 : decode cX6_spoil 22 = .ok (.getfield 21, 3) := by decide +kernel
theorem dX6_spoil_25 : decode cX6_spoil 25 = .ok (.iload_n 1, 1) := by decide +kernel
theorem dX6_spoil_26 : decode cX6_spoil 26 = .ok (.iload_n 2, 1) := by decide +kernel
theorem dX6_spoil_27 : decode cX6_spoil 27 = .ok (.invokevirtual 98, 3) := by decide +kernel
theorem dX6_spoil_30 : decode cX6_spoil 30 = .ok (.aload_n 0, 1) := by decide +kernel
theorem dX6_spoil_31 : decode cX6_spoil 31 = .ok (.getfield 28, 3) := by decide +kernel
theorem dX6_spoil_34 : decode cX6_spoil 34 = .ok (.invokevirtual 76, 3) := by decide +kernel
theorem dX6_spoil_37 : decode cX6_spoil 37 = .ok (.iload_n 3, 1) := by decide +kernel
theorem dX6_spoil_38 : decode cX6_spoil 38 = .ok (.ireturn, 1) := by decide +kernel
set_option maxRecDepth 20000 in
theorem ggX6_heal_X5_takeBack : GoodIn wsX6_heal wsX5_takeBack := goodIn_r _ [7, 8, 9, 10, 11, 12, 13, 14, 15, 16, 17, 18, 19, 20, 21, 22, 36, 37, 38, 39, 40, 41, 42, 43] (by decide +kernel) (by decide +kernel)
set_option maxRecDepth 20000 in
theorem gX6_heal_X5_takeBack : GoodIn wsX6_heal (wsV RX6 101 RX5 yX5_takeBack wsX5_takeBack) := goodIn_app (goodIn_of _ (by decide +kernel)) ggX6_heal_X5_takeBack
set_option maxRecDepth 20000 in
theorem ggX6_heal_X3_forget : GoodIn wsX6_heal wsX3_forget := goodIn_r _ [27, 28, 44, 45, 46, 47, 48, 49, 50, 51, 52] (by decide +kernel) (by decide +kernel)
set_option maxRecDepth 20000 in
theorem gX6_heal_X3_forget : GoodIn wsX6_heal (wsV RX6 76 RX3 yX3_forget wsX3_forget) := goodIn_app (goodIn_of _ (by decide +kernel)) ggX6_heal_X3_forget
theorem dX6_heal_0 : decode cX6_heal 0 = .ok (.aload_n 0, 1) := by decide +kernel
theorem dX6_heal_1 : decode cX6_heal 1 = .ok (.getfield 21, 3) := by decide +kernel
theorem dX6_heal_4 : decode cX6_heal 4 = .ok (.invokevirtual 101, 3) := by decide +kernel
theorem dX6_heal_7 : decode cX6_heal 7 = .ok (.istore_n 1, 1) := by decide +kernel
theorem dX6_heal_8 : decode cX6_heal 8 = .ok (.iload_n 1, 1) := by decide +kernel
theorem dX6_heal_9 : decode cX6_heal 9 = .ok (.iconst (-1), 1) := by decide +kernel
theorem dX6_heal_10 : decode cX6_heal 10 = .ok (.if_icmp .eq 10, 3) := by decide +kernel
theorem dX6_heal_13 : decode cX6_heal 13 = .ok (.aload_n 0, 1) := by decide +kernel
theorem dX6_heal_14 : decode cX6_heal 14 = .ok (.getfield 28, 3) := by decide +kernel
theorem dX6_heal_17 : decode cX6_heal 17 = .ok (.invokevirtual 76, 3) := by decide +kernel
theorem dX6_heal_20 : decode cX6_heal 20 = .ok (.iload_n 1, 1) := by decide +kernel
theorem dX6_heal_21 : decode cX6_heal 21 = .ok (.ireturn, 1) := by decide +kernel
set_option maxRecDepth 20000 in
theorem ggX6_change_X3_forget : GoodIn wsX6_change wsX3_forget := goodIn_r _ [9, 10, 18, 19, 20, 21, 22, 23, 24, 25, 26] (by decide +kernel) (by decide +kernel)
set_option maxRecDepth 20000 in
theorem gX6_change_X3_forget : GoodIn wsX6_change (wsV RX6 76 RX3 yX3_forget wsX3_forget) := goodIn_app (goodIn_of _ (by decide +kernel)) ggX6_change_X3_forget
theorem dX6_change_0 : decode cX6_change 0 = .ok (.iload_n 1, 1) := by decide +kernel
theorem dX6_change_1 : decode cX6_change 1 = .ok (.iconst 1, 1) := by decide +kernel
theorem dX6_change_2 : decode cX6_change 2 = .ok (.if_icmp .lt 9, 3) := by decide +kernel
theorem dX6_change_5 : decode cX6_change 5 = .ok (.iload_n 1, 1) := by decide +kernel
theorem dX6_change_6 : decode cX6_change 6 = .ok (.bipush 20, 2) := by decide +kernel
theorem dX6_change_8 : decode cX6_change 8 = .ok (.if_icmp .le 13, 3) := by decide +kernel
theorem dX6_change_11 : decode cX6_change 11 = .ok (.new 67, 3) := by decide +kernel
theorem dX6_change_14 : decode cX6_change 14 = .ok (.dup, 1) := by decide +kernel
theorem dX6_change_15 : decode cX6_change 15 = .ok (.ldc 104, 2) := by decide +kernel
theorem dX6_change_17 : decode cX6_change 17 = .ok (.invokespecial 71, 3) := by decide +kernel
theorem dX6_change_20 : decode cX6_change 20 = .ok (.athrow, 1) := by decide +kernel
theorem dX6_change_21 : decode cX6_change 21 = .ok (.aload_n 0, 1) := by decide +kernel
theorem dX6_change_22 : decode cX6_change 22 = .ok (.getfield 46, 3) := by decide +kernel
theorem dX6_change_25 : decode cX6_change 25 = .ok (.istore_n 2, 1) := by decide +kernel
theorem dX6_change_26 : decode cX6_change 26 = .ok (.aload_n 0, 1) := by decide +kernel
theorem dX6_change_27 : decode cX6_change 27 = .ok (.iload_n 1, 1) := by decide +kernel
theorem dX6_change_28 : decode cX6_change 28 = .ok (.putfield 46, 3) := by decide +kernel
theorem dX6_change_31 : decode cX6_change 31 = .ok (.aload_n 0, 1) := by decide +kernel
theorem dX6_change_32 : decode cX6_change 32 = .ok (.getfield 28, 3) := by decide +kernel
theorem dX6_change_35 : decode cX6_change 35 = .ok (.invokevirtual 76, 3) := by decide +kernel
theorem dX6_change_38 : decode cX6_change 38 = .ok (.iload_n 2, 1) := by decide +kernel
theorem dX6_change_39 : decode cX6_change 39 = .ok (.ireturn, 1) := by decide +kernel
set_option maxRecDepth 20000 in
theorem ggX6_print_X2_begin : GoodIn wsX6_print wsX2_begin := goodIn_r _ [8, 9, 17, 18, 19, 20] (by decide +kernel) (by decide +kernel)
set_option maxRecDepth 20000 in
theorem gX6_print_X2_begin : GoodIn wsX6_print (wsV RX6 106 RX2 yX2_begin wsX2_begin) := goodIn_app (goodIn_of _ (by decide +kernel)) ggX6_print_X2_begin
theorem dX6_print_0 : decode cX6_print 0 = .ok (.aload_n 0, 1) := by decide +kernel
theorem dX6_print_1 : decode cX6_print 1 = .ok (.getfield 35, 3) := by decide +kernel
theorem dX6_print_4 : decode cX6_print 4 = .ok (.invokevirtual 106, 3) := by decide +kernel
theorem dX6_print_7 : decode cX6_print 7 = .ok (.istore_n 1, 1) := by decide +kernel
theorem dX6_print_8 : decode cX6_print 8 = .ok (.iload_n 1, 1) := by decide +kernel
theorem dX6_print_9 : decode cX6_print 9 = .ok (.iconst (-1), 1) := by decide +kernel
theorem dX6_print_10 : decode cX6_print 10 = .ok (.if_icmp .ne 13, 3) := by decide +kernel
theorem dX6_print_13 : decode cX6_print 13 = .ok (.new 60, 3) := by decide +kernel
theorem dX6_print_16 : decode cX6_print 16 = .ok (.dup, 1) := by decide +kernel
theorem dX6_print_17 : decode cX6_print 17 = .ok (.ldc 109, 2) := by decide +kernel
theorem dX6_print_19 : decode cX6_print 19 = .ok (.invokespecial 64, 3) := by decide +kernel
theorem dX6_print_22 : decode cX6_print 22 = .ok (.athrow, 1) := by decide +kernel
theorem dX6_print_23 : decode cX6_print 23 = .ok (.iload_n 1, 1) := by decide +kernel
theorem dX6_print_24 : decode cX6_print 24 = .ok (.ireturn, 1) := by decide +kernel
set_option maxRecDepth 20000 in
theorem ggX6_look_X6_requirePrint : GoodIn wsX6_look wsX6_requirePrint := goodIn_ca (goodIn_r _ [8, 9, 10, 3, 11, 12, 13, 14, 15, 16, 34, 35, 36, 37, 38, 39, 40, 41, 42, 43, 44] (by decide +kernel) (by decide +kernel)) (goodIn_sub (fun _ h => List.mem_cons_of_mem _ (List.mem_append_left _ (List.mem_append_right _ h))) (by decide +kernel))
set_option maxRecDepth 20000 in
theorem gX6_look_X6_requirePrint : GoodIn wsX6_look (wsV RX6 111 RX6 yX6_requirePrint wsX6_requirePrint) := goodIn_app (goodIn_of _ (by decide +kernel)) ggX6_look_X6_requirePrint
set_option maxRecDepth 20000 in
theorem ggX6_look_X6_requireLook : GoodIn wsX6_look wsX6_requireLook := goodIn_ca (goodIn_r _ [19, 20, 21] (by decide +kernel) (by decide +kernel)) (goodIn_sub (fun _ h => List.mem_cons_of_mem _ (List.mem_append_right _ h)) (by decide +kernel))
set_option maxRecDepth 20000 in
theorem gX6_look_X6_requireLook : GoodIn wsX6_look (va_wsS RX6 53 yX6_requireLook wsX6_requireLook) := goodIn_app (goodIn_of _ (by decide +kernel)) ggX6_look_X6_requireLook
set_option maxRecDepth 20000 in
theorem ggX6_look_X2_row : GoodIn wsX6_look wsX2_row := goodIn_r _ [25, 26, 41, 42, 43, 44] (by decide +kernel) (by decide +kernel)
set_option maxRecDepth 20000 in
theorem gX6_look_X2_row : GoodIn wsX6_look (wsV RX6 114 RX2 yX2_row wsX2_row) := goodIn_app (goodIn_of _ (by decide +kernel)) ggX6_look_X2_row
set_option maxRecDepth 20000 in
theorem ggX6_look_X4_add : GoodIn wsX6_look wsX4_add := goodIn_r _ [31, 32, 33, 45, 46] (by decide +kernel) (by decide +kernel)
set_option maxRecDepth 20000 in
theorem gX6_look_X4_add : GoodIn wsX6_look (wsV RX6 56 RX4 yX4_add wsX4_add) := goodIn_app (goodIn_of _ (by decide +kernel)) ggX6_look_X4_add
theorem dX6_look_0 : decode cX6_look 0 = .ok (.aload_n 0, 1) := by decide +kernel
theorem dX6_look_1 : decode cX6_look 1 = .ok (.iload_n 1, 1) := by decide +kernel
theorem dX6_look_2 : decode cX6_look 2 = .ok (.invokevirtual 111, 3) := by decide +kernel
theorem dX6_look_5 : decode cX6_look 5 = .ok (.iload_n 2, 1) := by decide +kernel
theorem dX6_look_6 : decode cX6_look 6 = .ok (.invokestatic 53, 3) := by decide +kernel
theorem dX6_look_9 : decode cX6_look 9 = .ok (.aload_n 0, 1) := by decide +kernel
theorem dX6_look_10 : decode cX6_look 10 = .ok (.getfield 35, 3) := by decide +kernel
theorem dX6_look_13 : decode cX6_look 13 = .ok (.iload_n 1, 1) := by decide +kernel
theorem dX6_look_14 : decode cX6_look 14 = .ok (.invokevirtual 114, 3) := by decide +kernel
theorem dX6_look_17 : decode cX6_look 17 = .ok (.iload_n 2, 1) := by decide +kernel
theorem dX6_look_18 : decode cX6_look 18 = .ok (.invokevirtual 56, 3) := by decide +kernel
theorem dX6_look_21 : decode cX6_look 21 = .ok (.istore_n 3, 1) := by decide +kernel
theorem dX6_look_22 : decode cX6_look 22 = .ok (.iload_n 3, 1) := by decide +kernel
theorem dX6_look_23 : decode cX6_look 23 = .ok (.iconst (-1), 1) := by decide +kernel
theorem dX6_look_24 : decode cX6_look 24 = .ok (.if_icmp .ne 13, 3) := by decide +kernel
theorem dX6_look_27 : decode cX6_look 27 = .ok (.new 60, 3) := by decide +kernel
theorem dX6_look_30 : decode cX6_look 30 = .ok (.dup, 1) := by decide +kernel
theorem dX6_look_31 : decode cX6_look 31 = .ok (.ldc 118, 2) := by decide +kernel
theorem dX6_look_33 : decode cX6_look 33 = .ok (.invokespecial 64, 3) := by decide +kernel
theorem dX6_look_36 : decode cX6_look 36 = .ok (.athrow, 1) := by decide +kernel
theorem dX6_look_37 : decode cX6_look 37 = .ok (.iload_n 3, 1) := by decide +kernel
theorem dX6_look_38 : decode cX6_look 38 = .ok (.iconst 1, 1) := by decide +kernel
theorem dX6_look_39 : decode cX6_look 39 = .ok (.iadd, 1) := by decide +kernel
theorem dX6_look_40 : decode cX6_look 40 = .ok (.ireturn, 1) := by decide +kernel
theorem dX6_rate_0 : decode cX6_rate 0 = .ok (.iload_n 1, 1) := by decide +kernel
theorem dX6_rate_1 : decode cX6_rate 1 = .ok (.iconst 1, 1) := by decide +kernel
theorem dX6_rate_2 : decode cX6_rate 2 = .ok (.if_icmp .lt 9, 3) := by decide +kernel
theorem dX6_rate_5 : decode cX6_rate 5 = .ok (.iload_n 1, 1) := by decide +kernel
theorem dX6_rate_6 : decode cX6_rate 6 = .ok (.bipush 50, 2) := by decide +kernel
theorem dX6_rate_8 : decode cX6_rate 8 = .ok (.if_icmp .le 13, 3) := by decide +kernel
theorem dX6_rate_11 : decode cX6_rate 11 = .ok (.new 67, 3) := by decide +kernel
theorem dX6_rate_14 : decode cX6_rate 14 = .ok (.dup, 1) := by decide +kernel
theorem dX6_rate_15 : decode cX6_rate 15 = .ok (.ldc 120, 2) := by decide +kernel
theorem dX6_rate_17 : decode cX6_rate 17 = .ok (.invokespecial 71, 3) := by decide +kernel
theorem dX6_rate_20 : decode cX6_rate 20 = .ok (.athrow, 1) := by decide +kernel
theorem dX6_rate_21 : decode cX6_rate 21 = .ok (.aload_n 0, 1) := by decide +kernel
theorem dX6_rate_22 : decode cX6_rate 22 = .ok (.getfield 42, 3) := by decide +kernel
theorem dX6_rate_25 : decode cX6_rate 25 = .ok (.getfield 122, 3) := by decide +kernel
theorem dX6_rate_28 : decode cX6_rate 28 = .ok (.istore_n 2, 1) := by decide +kernel
theorem dX6_rate_29 : decode cX6_rate 29 = .ok (.aload_n 0, 1) := by decide +kernel
theorem dX6_rate_30 : decode cX6_rate 30 = .ok (.getfield 42, 3) := by decide +kernel
theorem dX6_rate_33 : decode cX6_rate 33 = .ok (.iload_n 1, 1) := by decide +kernel
theorem dX6_rate_34 : decode cX6_rate 34 = .ok (.putfield 122, 3) := by decide +kernel
theorem dX6_rate_37 : decode cX6_rate 37 = .ok (.iload_n 2, 1) := by decide +kernel
theorem dX6_rate_38 : decode cX6_rate 38 = .ok (.ireturn, 1) := by decide +kernel
set_option maxRecDepth 20000 in
theorem ggX6_size_X4_add : GoodIn wsX6_size wsX4_add := goodIn_r _ [10, 11, 12, 22, 23] (by decide +kernel) (by decide +kernel)
set_option maxRecDepth 20000 in
theorem gX6_size_X4_add : GoodIn wsX6_size (wsV RX6 56 RX4 yX4_add wsX4_add) := goodIn_app (goodIn_of _ (by decide +kernel)) ggX6_size_X4_add
theorem dX6_size_0 : decode cX6_size 0 = .ok (.iload_n 1, 1) := by decide +kernel
theorem dX6_size_1 : decode cX6_size 1 = .ok (.ifCond .lt 9, 3) := by decide +kernel
theorem dX6_size_4 : decode cX6_size 4 = .ok (.iload_n 1, 1) := by decide +kernel
theorem dX6_size_5 : decode cX6_size 5 = .ok (.bipush 99, 2) := by decide +kernel
theorem dX6_size_7 : decode cX6_size 7 = .ok (.if_icmp .le 13, 3) := by decide +kernel
theorem dX6_size_10 : decode cX6_size 10 = .ok (.new 67, 3) := by decide +kernel
theorem dX6_size_13 : decode cX6_size 13 = .ok (.dup, 1) := by decide +kernel
theorem dX6_size_14 : decode cX6_size 14 = .ok (.ldc 125, 2) := by decide +kernel
theorem dX6_size_16 : decode cX6_size 16 = .ok (.invokespecial 71, 3) := by decide +kernel
theorem dX6_size_19 : decode cX6_size 19 = .ok (.athrow, 1) := by decide +kernel
theorem dX6_size_20 : decode cX6_size 20 = .ok (.aload_n 0, 1) := by decide +kernel
theorem dX6_size_21 : decode cX6_size 21 = .ok (.getfield 42, 3) := by decide +kernel
theorem dX6_size_24 : decode cX6_size 24 = .ok (.getfield 127, 3) := by decide +kernel
theorem dX6_size_27 : decode cX6_size 27 = .ok (.iload_n 1, 1) := by decide +kernel
theorem dX6_size_28 : decode cX6_size 28 = .ok (.invokevirtual 56, 3) := by decide +kernel
theorem dX6_size_31 : decode cX6_size 31 = .ok (.istore_n 2, 1) := by decide +kernel
theorem dX6_size_32 : decode cX6_size 32 = .ok (.iload_n 2, 1) := by decide +kernel
theorem dX6_size_33 : decode cX6_size 33 = .ok (.iconst (-1), 1) := by decide +kernel
theorem dX6_size_34 : decode cX6_size 34 = .ok (.if_icmp .ne 13, 3) := by decide +kernel
theorem dX6_size_37 : decode cX6_size 37 = .ok (.new 60, 3) := by decide +kernel
theorem dX6_size_40 : decode cX6_size 40 = .ok (.dup, 1) := by decide +kernel
theorem dX6_size_41 : decode cX6_size 41 = .ok (.ldc 130, 2) := by decide +kernel
theorem dX6_size_43 : decode cX6_size 43 = .ok (.invokespecial 64, 3) := by decide +kernel
theorem dX6_size_46 : decode cX6_size 46 = .ok (.athrow, 1) := by decide +kernel
theorem dX6_size_47 : decode cX6_size 47 = .ok (.iload_n 2, 1) := by decide +kernel
theorem dX6_size_48 : decode cX6_size 48 = .ok (.ireturn, 1) := by decide +kernel
set_option maxRecDepth 20000 in
theorem ggX6_ofField_X6_requireField : GoodIn wsX6_ofField wsX6_requireField := goodIn_ca (goodIn_r _ [10, 11, 12, 4, 13, 14, 15, 16, 17, 18, 83, 84, 85, 86, 87, 88, 89, 90, 91, 92, 93, 94, 95, 105, 106] (by decide +kernel) (by decide +kernel)) (goodIn_sub (fun _ h => List.mem_cons_of_mem _ (List.mem_append_right _ h)) (by decide +kernel))
set_option maxRecDepth 20000 in
theorem gX6_ofField_X6_requireField : GoodIn wsX6_ofField (wsV RX6 86 RX6 yX6_requireField wsX6_requireField) := goodIn_app (goodIn_of _ (by decide +kernel)) ggX6_ofField_X6_requireField
set_option maxRecDepth 20000 in
theorem ggX6_ofField_X3_find : GoodIn wsX6_ofField wsX3_find := goodIn_r _ [23, 24, 25, 26, 27, 28, 29, 30, 31, 32, 22, 33, 34, 35, 36, 37, 16, 38, 18, 39, 40, 41, 42, 43, 44, 45, 46, 47, 48, 49, 50, 51, 52, 53, 54, 55, 56, 57, 58, 59, 60, 61, 62, 63, 64, 65, 66, 67, 68, 69, 70, 71, 72, 73, 74, 96, 97, 98, 99, 100, 101, 102, 103, 104, 105, 106] (by decide +kernel) (by decide +kernel)
set_option maxRecDepth 20000 in
theorem gX6_ofField_X3_find : GoodIn wsX6_ofField (wsV RX6 132 RX3 yX3_find wsX3_find) := goodIn_app (goodIn_of _ (by decide +kernel)) ggX6_ofField_X3_find
set_option maxRecDepth 20000 in
theorem ggX6_ofField_X4_at : GoodIn wsX6_ofField wsX4_at := goodIn_r _ [42, 18, 43, 105, 106] (by decide +kernel) (by decide +kernel)
set_option maxRecDepth 20000 in
theorem gX6_ofField_X4_at : GoodIn wsX6_ofField (wsV RX6 95 RX4 yX4_at wsX4_at) := goodIn_app (goodIn_of _ (by decide +kernel)) ggX6_ofField_X4_at
set_option maxRecDepth 20000 in
theorem ggX6_ofField_X5_isNoted : GoodIn wsX6_ofField wsX5_isNoted := goodIn_r _ [80, 81, 82, 90, 91, 92, 93, 94, 95] (by decide +kernel) (by decide +kernel)
set_option maxRecDepth 20000 in
theorem gX6_ofField_X5_isNoted : GoodIn wsX6_ofField (wsV RX6 142 RX5 yX5_isNoted wsX5_isNoted) := goodIn_app (goodIn_of _ (by decide +kernel)) ggX6_ofField_X5_isNoted
