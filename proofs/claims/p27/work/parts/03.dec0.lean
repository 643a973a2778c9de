theorem inX7 : ∀ w ∈ wsX70, w ∈ lw_tbl := by decide +kernel
theorem inJx145de : ∀ w ∈ wsJx145de0, w ∈ lw_tbl := by decide +kernel
theorem inJ9 : ∀ w ∈ wsJ90, w ∈ lw_tbl := by decide +kernel
theorem inJ0 : ∀ w ∈ wsJ00, w ∈ lw_tbl := by decide +kernel
set_option maxRecDepth 20000 in
theorem ggX0_init_X4_init : GoodIn wsX0_init wsX4_init := goodIn_r _ [11, 12, 2, 3, 13, 14, 15, 16, 17, 18, 19, 20, 21] (by decide +kernel) (by decide +kernel)
set_option maxRecDepth 20000 in
theorem gX0_init_X4_init : GoodIn wsX0_init (wsX4_init) := ggX0_init_X4_init
theorem dX0_init_0 : decode cX0_init 0 = .ok (.aload_n 0, 1) := by decide +kernel
theorem dX0_init_1 : decode cX0_init 1 = .ok (.invokespecial 3, 3) := by decide +kernel
theorem dX0_init_4 : decode cX0_init 4 = .ok (.aload_n 0, 1) := by decide +kernel
theorem dX0_init_5 : decode cX0_init 5 = .ok (.new 9, 3) := by decide +kernel
theorem dX0_init_8 : decode cX0_init 8 = .ok (.dup, 1) := by decide +kernel
theorem dX0_init_9 : decode cX0_init 9 = .ok (.bipush 20, 2) := by decide +kernel
theorem dX0_init_11 : decode cX0_init 11 = .ok (.invokespecial 11, 3) := by decide +kernel
theorem dX0_init_14 : decode cX0_init 14 = .ok (.putfield 14, 3) := by decide +kernel
theorem dX0_init_17 : decode cX0_init 17 = .ok (.aload_n 0, 1) := by decide +kernel
theorem dX0_init_18 : decode cX0_init 18 = .ok (.bipush 10, 2) := by decide +kernel
theorem dX0_init_20 : decode cX0_init 20 = .ok (.putfield 20, 3) := by decide +kernel
theorem dX0_init_23 : decode cX0_init 23 = .ok (.return_, 1) := by decide +kernel
set_option maxRecDepth 20000 in
theorem ggX0_firstDry_X0_sumOfSizes : GoodIn wsX0_firstDry wsX0_sumOfSizes := goodIn_r _ [6, 1, 7, 8, 9, 10, 11, 12, 13, 14, 15, 16, 17, 27, 28, 29, 30] (by decide +kernel) (by decide +kernel)
set_option maxRecDepth 20000 in
theorem gX0_firstDry_X0_sumOfSizes : GoodIn wsX0_firstDry (wsV RX0 24 RX0 yX0_sumOfSizes wsX0_sumOfSizes) := goodIn_app (goodIn_of _ (by decide +kernel)) ggX0_firstDry_X0_sumOfSizes
set_option maxRecDepth 20000 in
theorem ggX0_firstDry_X4_many : GoodIn wsX0_firstDry wsX4_many := goodIn_r _ [11, 12, 29, 30] (by decide +kernel) (by decide +kernel)
set_option maxRecDepth 20000 in
theorem gX0_firstDry_X4_many : GoodIn wsX0_firstDry (wsV RX0 28 RX4 yX4_many wsX4_many) := goodIn_app (goodIn_of _ (by decide +kernel)) ggX0_firstDry_X4_many
set_option maxRecDepth 20000 in
theorem ggX0_firstDry_X4_at : GoodIn wsX0_firstDry wsX4_at := goodIn_r _ [16, 12, 17, 29, 30] (by decide +kernel) (by decide +kernel)
set_option maxRecDepth 20000 in
theorem gX0_firstDry_X4_at : GoodIn wsX0_firstDry (wsV RX0 31 RX4 yX4_at wsX4_at) := goodIn_app (goodIn_of _ (by decide +kernel)) ggX0_firstDry_X4_at
set_option maxRecDepth 20000 in
theorem ggX0_firstDry_X0_cameIn : GoodIn wsX0_firstDry wsX0_cameIn := goodIn_r _ [21, 22, 23, 24, 25, 26, 27, 28] (by decide +kernel) (by decide +kernel)
set_option maxRecDepth 20000 in
theorem gX0_firstDry_X0_cameIn : GoodIn wsX0_firstDry (wsV RX0 35 RX0 yX0_cameIn wsX0_cameIn) := goodIn_app (goodIn_of _ (by decide +kernel)) ggX0_firstDry_X0_cameIn
theorem dX0_firstDry_0 : decode cX0_firstDry 0 = .ok (.aload_n 0, 1) := by decide +kernel
theorem dX0_firstDry_1 : decode cX0_firstDry 1 = .ok (.invokevirtual 24, 3) := by decide +kernel
theorem dX0_firstDry_4 : decode cX0_firstDry 4 = .ok (.istore_n 2, 1) := by decide +kernel
theorem dX0_firstDry_5 : decode cX0_firstDry 5 = .ok (.iconst 0, 1) := by decide +kernel
theorem dX0_firstDry_6 : decode cX0_firstDry 6 = .ok (.istore_n 3, 1) := by decide +kernel
theorem dX0_firstDry_7 : decode cX0_firstDry 7 = .ok (.iconst 0, 1) := by decide +kernel
theorem dX0_firstDry_8 : decode cX0_firstDry 8 = .ok (.istore 4, 2) := by decide +kernel
theorem dX0_firstDry_10 : decode cX0_firstDry 10 = .ok (.iload 4, 2) := by decide +kernel
theorem dX0_firstDry_12 : decode cX0_firstDry 12 = .ok (.aload_n 0, 1) := by decide +kernel
theorem dX0_firstDry_13 : decode cX0_firstDry 13 = .ok (.getfield 14, 3) := by decide +kernel
theorem dX0_firstDry_16 : decode cX0_firstDry 16 = .ok (.invokevirtual 28, 3) := by decide +kernel
theorem dX0_firstDry_19 : decode cX0_firstDry 19 = .ok (.if_icmp .ge 39, 3) := by decide +kernel
theorem dX0_firstDry_22 : decode cX0_firstDry 22 = .ok (.iload_n 3, 1) := by decide +kernel
theorem dX0_firstDry_23 : decode cX0_firstDry 23 = .ok (.aload_n 0, 1) := by decide +kernel
theorem dX0_firstDry_24 : decode cX0_firstDry 24 = .ok (.getfield 14, 3) := by decide +kernel
theorem dX0_firstDry_27 : decode cX0_firstDry 27 = .ok (.iload 4, 2) := by decide +kernel
theorem dX0_firstDry_29 : decode cX0_firstDry 29 = .ok (.invokevirtual 31, 3) := by decide +kernel
theorem dX0_firstDry_32 : decode cX0_firstDry 32 = .ok (.iadd, 1) := by decide +kernel
theorem dX0_firstDry_33 : decode cX0_firstDry 33 = .ok (.istore_n 3, 1) := by decide +kernel
theorem dX0_firstDry_34 : decode cX0_firstDry 34 = .ok (.aload_n 0, 1) := by decide +kernel
theorem dX0_firstDry_35 : decode cX0_firstDry 35 = .ok (.iload_n 1, 1) := by decide +kernel
theorem dX0_firstDry_36 : decode cX0_firstDry 36 = .ok (.iload 4, 2) := by decide +kernel
theorem dX0_firstDry_38 : decode cX0_firstDry 38 = .ok (.iadd, 1) := by decide +kernel
theorem dX0_firstDry_39 : decode cX0_firstDry 39 = .ok (.iconst 1, 1) := by decide +kernel
theorem dX0_firstDry_40 : decode cX0_firstDry 40 = .ok (.iadd, 1) := by decide +kernel
theorem dX0_firstDry_41 : decode cX0_firstDry 41 = .ok (.iload_n 2, 1) := by decide +kernel
theorem dX0_firstDry_42 : decode cX0_firstDry 42 = .ok (.invokevirtual 35, 3) := by decide +kernel
theorem dX0_firstDry_45 : decode cX0_firstDry 45 = .ok (.iload_n 3, 1) := by decide +kernel
theorem dX0_firstDry_46 : decode cX0_firstDry 46 = .ok (.if_icmp .ge 6, 3) := by decide +kernel
theorem dX0_firstDry_49 : decode cX0_firstDry 49 = .ok (.iload 4, 2) := by decide +kernel
theorem dX0_firstDry_51 : decode cX0_firstDry 51 = .ok (.ireturn, 1) := by decide +kernel
theorem dX0_firstDry_52 : decode cX0_firstDry 52 = .ok (.iinc 4 1, 3) := by decide +kernel
theorem dX0_firstDry_55 : decode cX0_firstDry 55 = .ok (.goto (-45), 3) := by decide +kernel
theorem dX0_firstDry_58 : decode cX0_firstDry 58 = .ok (.iconst (-1), 1) := by decide +kernel
theorem dX0_firstDry_59 : decode cX0_firstDry 59 = .ok (.ireturn, 1) := by decide +kernel
set_option maxRecDepth 20000 in
theorem ggX0_leastDelay_X4_many : GoodIn wsX0_leastDelay wsX4_many := goodIn_r _ [11, 12, 20, 21] (by decide +kernel) (by decide +kernel)
set_option maxRecDepth 20000 in
theorem gX0_leastDelay_X4_many : GoodIn wsX0_leastDelay (wsV RX0 28 RX4 yX4_many wsX4_many) := goodIn_app (goodIn_of _ (by decide +kernel)) ggX0_leastDelay_X4_many
set_option maxRecDepth 20000 in
theorem ggX0_leastDelay_X4_at : GoodIn wsX0_leastDelay wsX4_at := goodIn_r _ [16, 12, 17, 20, 21] (by decide +kernel) (by decide +kernel)
set_option maxRecDepth 20000 in
theorem gX0_leastDelay_X4_at : GoodIn wsX0_leastDelay (wsV RX0 31 RX4 yX4_at wsX4_at) := goodIn_app (goodIn_of _ (by decide +kernel)) ggX0_leastDelay_X4_at
theorem dX0_leastDelay_0 : decode cX0_leastDelay 0 = .ok (.iconst 0, 1) := by decide +kernel
theorem dX0_leastDelay_1 : decode cX0_leastDelay 1 = .ok (.istore_n 1, 1) := by decide +kernel
theorem dX0_leastDelay_2 : decode cX0_leastDelay 2 = .ok (.iconst 0, 1) := by decide +kernel
theorem dX0_leastDelay_3 : decode cX0_leastDelay 3 = .ok (.istore_n 2, 1) := by decide +kernel
theorem dX0_leastDelay_4 : decode cX0_leastDelay 4 = .ok (.iconst 0, 1) := by decide +kernel
theorem dX0_leastDelay_5 : decode cX0_leastDelay 5 = .ok (.istore_n 3, 1) := by decide +kernel
theorem dX0_leastDelay_6 : decode cX0_leastDelay 6 = .ok (.iload_n 3, 1) := by decide +kernel
theorem dX0_leastDelay_7 : decode cX0_leastDelay 7 = .ok (.aload_n 0, 1) := by decide +kernel
theorem dX0_leastDelay_8 : decode cX0_leastDelay 8 = .ok (.getfield 14, 3) := by decide +kernel
theorem dX0_leastDelay_11 : decode cX0_leastDelay 11 = .ok (.invokevirtual 28, 3) := by decide +kernel
theorem dX0_leastDelay_14 : decode cX0_leastDelay 14 = .ok (.if_icmp .ge 50, 3) := by decide +kernel
theorem dX0_leastDelay_17 : decode cX0_leastDelay 17 = .ok (.iload_n 2, 1) := by decide +kernel
theorem dX0_leastDelay_18 : decode cX0_leastDelay 18 = .ok (.aload_n 0, 1) := by decide +kernel
theorem dX0_leastDelay_19 : decode cX0_leastDelay 19 = .ok (.getfield 14, 3) := by decide +kernel
theorem dX0_leastDelay_22 : decode cX0_leastDelay 22 = .ok (.iload_n 3, 1) := by decide +kernel
theorem dX0_leastDelay_23 : decode cX0_leastDelay 23 = .ok (.invokevirtual 31, 3) := by decide +kernel
theorem dX0_leastDelay_26 : decode cX0_leastDelay 26 = .ok (.iadd, 1) := by decide +kernel
theorem dX0_leastDelay_27 : decode cX0_leastDelay 27 = .ok (.istore_n 2, 1) := by decide +kernel
theorem dX0_leastDelay_28 : decode cX0_leastDelay 28 = .ok (.iload_n 2, 1) := by decide +kernel
theorem dX0_leastDelay_29 : decode cX0_leastDelay 29 = .ok (.aload_n 0, 1) := by decide +kernel
theorem dX0_leastDelay_30 : decode cX0_leastDelay 30 = .ok (.getfield 20, 3) := by decide +kernel
theorem dX0_leastDelay_33 : decode cX0_leastDelay 33 = .ok (.iadd, 1) := by decide +kernel
theorem dX0_leastDelay_34 : decode cX0_leastDelay 34 = .ok (.iconst 1, 1) := by decide +kernel
theorem dX0_leastDelay_35 : decode cX0_leastDelay 35 = .ok (.isub, 1) := by decide +kernel
theorem dX0_leastDelay_36 : decode cX0_leastDelay 36 = .ok (.aload_n 0, 1) := by decide +kernel
theorem dX0_leastDelay_37 : decode cX0_leastDelay 37 = .ok (.getfield 20, 3) := by decide +kernel
theorem dX0_leastDelay_40 : decode cX0_leastDelay 40 = .ok (.iconst 1, 1) := by decide +kernel
theorem dX0_leastDelay_41 : decode cX0_leastDelay 41 = .ok (.invokestatic 39, 3) := by decide +kernel
theorem dX0_leastDelay_44 : decode cX0_leastDelay 44 = .ok (.idiv, 1) := by decide +kernel
theorem dX0_leastDelay_45 : decode cX0_leastDelay 45 = .ok (.istore 4, 2) := by decide +kernel
theorem dX0_leastDelay_47 : decode cX0_leastDelay 47 = .ok (.iload_n 1, 1) := by decide +kernel
theorem dX0_leastDelay_48 : decode cX0_leastDelay 48 = .ok (.iload 4, 2) := by decide +kernel
theorem dX0_leastDelay_50 : decode cX0_leastDelay 50 = .ok (.iload_n 3, 1) := by decide +kernel
theorem dX0_leastDelay_51 : decode cX0_leastDelay 51 = .ok (.iconst 1, 1) := by decide +kernel
theorem dX0_leastDelay_52 : decode cX0_leastDelay 52 = .ok (.iadd, 1) := by decide +kernel
theorem dX0_leastDelay_53 : decode cX0_leastDelay 53 = .ok (.isub, 1) := by decide +kernel
theorem dX0_leastDelay_54 : decode cX0_leastDelay 54 = .ok (.invokestatic 39, 3) := by decide +kernel
theorem dX0_leastDelay_57 : decode cX0_leastDelay 57 = .ok (.istore_n 1, 1) := by decide +kernel
theorem dX0_leastDelay_58 : decode cX0_leastDelay 58 = .ok (.iinc 3 1, 3) := by decide +kernel
theorem dX0_leastDelay_61 : decode cX0_leastDelay 61 = .ok (.goto (-55), 3) := by decide +kernel
theorem dX0_leastDelay_64 : decode cX0_leastDelay 64 = .ok (.iload_n 1, 1) := by decide +kernel
theorem dX0_leastDelay_65 : decode cX0_leastDelay 65 = .ok (.ireturn, 1) := by decide +kernel
set_option maxRecDepth 20000 in
theorem ggX0_peak_X0_leastDelay : GoodIn wsX0_peak wsX0_leastDelay := goodIn_r _ [10, 1, 11, 2, 3, 4, 5, 12, 13, 14, 15, 16, 17, 18, 19, 20, 21, 22, 34, 35, 36, 37] (by decide +kernel) (by decide +kernel)
set_option maxRecDepth 20000 in
theorem gX0_peak_X0_leastDelay : GoodIn wsX0_peak (wsV RX0 44 RX0 yX0_leastDelay wsX0_leastDelay) := goodIn_app (goodIn_of _ (by decide +kernel)) ggX0_peak_X0_leastDelay
set_option maxRecDepth 20000 in
theorem ggX0_peak_X0_sumOfSizes : GoodIn wsX0_peak wsX0_sumOfSizes := goodIn_r _ [26, 1, 12, 13, 14, 15, 16, 17, 18, 19, 20, 21, 22, 34, 35, 36, 37] (by decide +kernel) (by decide +kernel)
set_option maxRecDepth 20000 in
theorem gX0_peak_X0_sumOfSizes : GoodIn wsX0_peak (wsV RX0 24 RX0 yX0_sumOfSizes wsX0_sumOfSizes) := goodIn_app (goodIn_of _ (by decide +kernel)) ggX0_peak_X0_sumOfSizes
set_option maxRecDepth 20000 in
theorem ggX0_peak_X4_many : GoodIn wsX0_peak wsX4_many := goodIn_r _ [16, 17, 36, 37] (by decide +kernel) (by decide +kernel)
set_option maxRecDepth 20000 in
theorem gX0_peak_X4_many : GoodIn wsX0_peak (wsV RX0 28 RX4 yX4_many wsX4_many) := goodIn_app (goodIn_of _ (by decide +kernel)) ggX0_peak_X4_many
set_option maxRecDepth 20000 in
theorem ggX0_peak_X0_cameIn : GoodIn wsX0_peak wsX0_cameIn := goodIn_r _ [30, 11, 31, 32, 4, 33, 34, 35] (by decide +kernel) (by decide +kernel)
set_option maxRecDepth 20000 in
theorem gX0_peak_X0_cameIn : GoodIn wsX0_peak (wsV RX0 35 RX0 yX0_cameIn wsX0_cameIn) := goodIn_app (goodIn_of _ (by decide +kernel)) ggX0_peak_X0_cameIn
set_option maxRecDepth 20000 in
theorem ggX0_peak_X4_at : GoodIn wsX0_peak wsX4_at := goodIn_r _ [21, 17, 22, 36, 37] (by decide +kernel) (by decide +kernel)
set_option maxRecDepth 20000 in
theorem gX0_peak_X4_at : GoodIn wsX0_peak (wsV RX0 31 RX4 yX4_at wsX4_at) := goodIn_app (goodIn_of _ (by decide +kernel)) ggX0_peak_X4_at
theorem dX0_peak_0 : decode cX0_peak 0 = .ok (.aload_n 0, 1) := by decide +kernel
theorem dX0_peak_1 : decode cX0_peak 1 = .ok (.invokevirtual 44, 3) := by decide +kernel
theorem dX0_peak_4 : decode cX0_peak 4 = .ok (.istore_n 1, 1) := by decide +kernel
theorem dX0_peak_5 : decode cX0_peak 5 = .ok (.aload_n 0, 1) := by decide +kernel
theorem dX0_peak_6 : decode cX0_peak 6 = .ok (.invokevirtual 24, 3) := by decide +kernel
theorem dX0_peak_9 : decode cX0_peak 9 = .ok (.istore_n 2, 1) := by decide +kernel
theorem dX0_peak_10 : decode cX0_peak 10 = .ok (.iconst 0, 1) := by decide +kernel
theorem dX0_peak_11 : decode cX0_peak 11 = .ok (.istore_n 3, 1) := by decide +kernel
theorem dX0_peak_12 : decode cX0_peak 12 = .ok (.iconst 0, 1) := by decide +kernel
theorem dX0_peak_13 : decode cX0_peak 13 = .ok (.istore 4, 2) := by decide +kernel
theorem dX0_peak_15 : decode cX0_peak 15 = .ok (.iconst 0, 1) := by decide +kernel
theorem dX0_peak_16 : decode cX0_peak 16 = .ok (.istore 5, 2) := by decide +kernel
theorem dX0_peak_18 : decode cX0_peak 18 = .ok (.iload 5, 2) := by decide +kernel
theorem dX0_peak_20 : decode cX0_peak 20 = .ok (.aload_n 0, 1) := by decide +kernel
theorem dX0_peak_21 : decode cX0_peak 21 = .ok (.getfield 14, 3) := by decide +kernel
theorem dX0_peak_24 : decode cX0_peak 24 = .ok (.invokevirtual 28, 3) := by decide +kernel
theorem dX0_peak_27 : decode cX0_peak 27 = .ok (.if_icmp .ge 42, 3) := by decide +kernel
theorem dX0_peak_30 : decode cX0_peak 30 = .ok (.iload_n 3, 1) := by decide +kernel
theorem dX0_peak_31 : decode cX0_peak 31 = .ok (.aload_n 0, 1) := by decide +kernel
theorem dX0_peak_32 : decode cX0_peak 32 = .ok (.iload_n 1, 1) := by decide +kernel
theorem dX0_peak_33 : decode cX0_peak 33 = .ok (.iload 5, 2) := by decide +kernel
theorem dX0_peak_35 : decode cX0_peak 35 = .ok (.iadd, 1) := by decide +kernel
theorem dX0_peak_36 : decode cX0_peak 36 = .ok (.iconst 1, 1) := by decide +kernel
theorem dX0_peak_37 : decode cX0_peak 37 = .ok (.iadd, 1) := by decide +kernel
theorem dX0_peak_38 : decode cX0_peak 38 = .ok (.iload_n 2, 1) := by decide +kernel
theorem dX0_peak_39 : decode cX0_peak 39 = .ok (.invokevirtual 35, 3) := by decide +kernel
theorem dX0_peak_42 : decode cX0_peak 42 = .ok (.iload 4, 2) := by decide +kernel
theorem dX0_peak_44 : decode cX0_peak 44 = .ok (.isub, 1) := by decide +kernel
theorem dX0_peak_45 : decode cX0_peak 45 = .ok (.invokestatic 39, 3) := by decide +kernel
theorem dX0_peak_48 : decode cX0_peak 48 = .ok (.istore_n 3, 1) := by decide +kernel
theorem dX0_peak_49 : decode cX0_peak 49 = .ok (.iload 4, 2) := by decide +kernel
theorem dX0_peak_51 : decode cX0_peak 51 = .ok (.aload_n 0, 1) := by decide +kernel
theorem dX0_peak_52 : decode cX0_peak 52 = .ok (.getfield 14, 3) := by decide +kernel
theorem dX0_peak_55 : decode cX0_peak 55 = .ok (.iload 5, 2) := by decide +kernel
theorem dX0_peak_57 : decode cX0_peak 57 = .ok (.invokevirtual 31, 3) := by decide +kernel
theorem dX0_peak_60 : decode cX0_peak 60 = .ok (.iadd, 1) := by decide +kernel
theorem dX0_peak_61 : decode cX0_peak 61 = .ok (.istore 4, 2) := by decide +kernel
theorem dX0_peak_63 : decode cX0_peak 63 = .ok (.iinc 5 1, 3) := by decide +kernel
theorem dX0_peak_66 : decode cX0_peak 66 = .ok (.goto (-48), 3) := by decide +kernel
theorem dX0_peak_69 : decode cX0_peak 69 = .ok (.iload_n 3, 1) := by decide +kernel
theorem dX0_peak_70 : decode cX0_peak 70 = .ok (.ireturn, 1) := by decide +kernel
theorem dX0_cameIn_0 : decode cX0_cameIn 0 = .ok (.aload_n 0, 1) := by decide +kernel
theorem dX0_cameIn_1 : decode cX0_cameIn 1 = .ok (.getfield 20, 3) := by decide +kernel
theorem dX0_cameIn_4 : decode cX0_cameIn 4 = .ok (.iload_n 1, 1) := by decide +kernel
theorem dX0_cameIn_5 : decode cX0_cameIn 5 = .ok (.imul, 1) := by decide +kernel
theorem dX0_cameIn_6 : decode cX0_cameIn 6 = .ok (.iload_n 2, 1) := by decide +kernel
theorem dX0_cameIn_7 : decode cX0_cameIn 7 = .ok (.invokestatic 47, 3) := by decide +kernel
theorem dX0_cameIn_10 : decode cX0_cameIn 10 = .ok (.ireturn, 1) := by decide +kernel
set_option maxRecDepth 20000 in
theorem ggX0_sumOfSizes_X4_many : GoodIn wsX0_sumOfSizes wsX4_many := goodIn_r _ [6, 7, 15, 16] (by decide +kernel) (by decide +kernel)
set_option maxRecDepth 20000 in
theorem gX0_sumOfSizes_X4_many : GoodIn wsX0_sumOfSizes (wsV RX0 28 RX4 yX4_many wsX4_many) := goodIn_app (goodIn_of _ (by decide +kernel)) ggX0_sumOfSizes_X4_many
set_option maxRecDepth 20000 in
theorem ggX0_sumOfSizes_X4_at : GoodIn wsX0_sumOfSizes wsX4_at := goodIn_r _ [11, 7, 12, 15, 16] (by decide +kernel) (by decide +kernel)
set_option maxRecDepth 20000 in
theorem gX0_sumOfSizes_X4_at : GoodIn wsX0_sumOfSizes (wsV RX0 31 RX4 yX4_at wsX4_at) := goodIn_app (goodIn_of _ (by decide +kernel)) ggX0_sumOfSizes_X4_at
theorem dX0_sumOfSizes_0 : decode cX0_sumOfSizes 0 = .ok (.iconst 0, 1) := by decide +kernel
theorem dX0_sumOfSizes_1 : decode cX0_sumOfSizes 1 = .ok (.istore_n 1, 1) := by decide +kernel
theorem dX0_sumOfSizes_2 : decode cX0_sumOfSizes 2 = .ok (.iconst 0, 1) := by decide +kernel
theorem dX0_sumOfSizes_3 : decode cX0_sumOfSizes 3 = .ok (.istore_n 2, 1) := by decide +kernel
theorem dX0_sumOfSizes_4 : decode cX0_sumOfSizes 4 = .ok (.iload_n 2, 1) := by decide +kernel
theorem dX0_sumOfSizes_5 : decode cX0_sumOfSizes 5 = .ok (.aload_n 0, 1) := by decide +kernel
theorem dX0_sumOfSizes_6 : decode cX0_sumOfSizes 6 = .ok (.getfield 14, 3) := by decide +kernel
theorem dX0_sumOfSizes_9 : decode cX0_sumOfSizes 9 = .ok (.invokevirtual 28, 3) := by decide +kernel
theorem dX0_sumOfSizes_12 : decode cX0_sumOfSizes 12 = .ok (.if_icmp .ge 20, 3) := by decide +kernel
theorem dX0_sumOfSizes_15 : decode cX0_sumOfSizes 15 = .ok (.iload_n 1, 1) := by decide +kernel
theorem dX0_sumOfSizes_16 : decode cX0_sumOfSizes 16 = .ok (.aload_n 0, 1) := by decide +kernel
theorem dX0_sumOfSizes_17 : decode cX0_sumOfSizes 17 = .ok (.getfield 14, 3) := by decide +kernel
theorem dX0_sumOfSizes_20 : decode cX0_sumOfSizes 20 = .ok (.iload_n 2, 1) := by decide +kernel
theorem dX0_sumOfSizes_21 : decode cX0_sumOfSizes 21 = .ok (.invokevirtual 31, 3) := by decide +kernel
theorem dX0_sumOfSizes_24 : decode cX0_sumOfSizes 24 = .ok (.iadd, 1) := by decide +kernel
theorem dX0_sumOfSizes_25 : decode cX0_sumOfSizes 25 = .ok (.istore_n 1, 1) := by decide +kernel
theorem dX0_sumOfSizes_26 : decode cX0_sumOfSizes 26 = .ok (.iinc 2 1, 3) := by decide +kernel
theorem dX0_sumOfSizes_29 : decode cX0_sumOfSizes 29 = .ok (.goto (-25), 3) := by decide +kernel
theorem dX0_sumOfSizes_32 : decode cX0_sumOfSizes 32 = .ok (.iload_n 1, 1) := by decide +kernel
theorem dX0_sumOfSizes_33 : decode cX0_sumOfSizes 33 = .ok (.ireturn, 1) := by decide +kernel
theorem dX1_labelOf_0 : decode cX1_labelOf 0 = .ok (.iload_n 0, 1) := by decide +kernel
theorem dX1_labelOf_1 : decode cX1_labelOf 1 = .ok (.sipush 17982, 3) := by decide +kernel
theorem dX1_labelOf_4 : decode cX1_labelOf 4 = .ok (.idiv, 1) := by decide +kernel
theorem dX1_labelOf_5 : decode cX1_labelOf 5 = .ok (.bipush 10, 2) := by decide +kernel
theorem dX1_labelOf_7 : decode cX1_labelOf 7 = .ok (.imul, 1) := by decide +kernel
theorem dX1_labelOf_8 : decode cX1_labelOf 8 = .ok (.istore_n 1, 1) := by decide +kernel
theorem dX1_labelOf_9 : decode cX1_labelOf 9 = .ok (.iload_n 0, 1) := by decide +kernel
theorem dX1_labelOf_10 : decode cX1_labelOf 10 = .ok (.sipush 17982, 3) := by decide +kernel
theorem dX1_labelOf_13 : decode cX1_labelOf 13 = .ok (.irem, 1) := by decide +kernel
theorem dX1_labelOf_14 : decode cX1_labelOf 14 = .ok (.istore_n 2, 1) := by decide +kernel
theorem dX1_labelOf_15 : decode cX1_labelOf 15 = .ok (.iload_n 2, 1) := by decide +kernel
theorem dX1_labelOf_16 : decode cX1_labelOf 16 = .ok (.sipush 1800, 3) := by decide +kernel
theorem dX1_labelOf_19 : decode cX1_labelOf 19 = .ok (.if_icmp .lt 27, 3) := by decide +kernel
theorem dX1_labelOf_22 : decode cX1_labelOf 22 = .ok (.iload_n 2, 1) := by decide +kernel
theorem dX1_labelOf_23 : decode cX1_labelOf 23 = .ok (.sipush 1800, 3) := by decide +kernel
theorem dX1_labelOf_26 : decode cX1_labelOf 26 = .ok (.isub, 1) := by decide +kernel
theorem dX1_labelOf_27 : decode cX1_labelOf 27 = .ok (.istore_n 3, 1) := by decide +kernel
theorem dX1_labelOf_28 : decode cX1_labelOf 28 = .ok (.iload_n 1, 1) := by decide +kernel
theorem dX1_labelOf_29 : decode cX1_labelOf 29 = .ok (.iconst 1, 1) := by decide +kernel
theorem dX1_labelOf_30 : decode cX1_labelOf 30 = .ok (.iload_n 3, 1) := by decide +kernel
theorem dX1_labelOf_31 : decode cX1_labelOf 31 = .ok (.sipush 1798, 3) := by decide +kernel
theorem dX1_labelOf_34 : decode cX1_labelOf 34 = .ok (.idiv, 1) := by decide +kernel
theorem dX1_labelOf_35 : decode cX1_labelOf 35 = .ok (.iadd, 1) := by decide +kernel
theorem dX1_labelOf_36 : decode cX1_labelOf 36 = .ok (.iadd, 1) := by decide +kernel
theorem dX1_labelOf_37 : decode cX1_labelOf 37 = .ok (.istore_n 1, 1) := by decide +kernel
theorem dX1_labelOf_38 : decode cX1_labelOf 38 = .ok (.iconst 2, 1) := by decide +kernel
theorem dX1_labelOf_39 : decode cX1_labelOf 39 = .ok (.iload_n 3, 1) := by decide +kernel
theorem dX1_labelOf_40 : decode cX1_labelOf 40 = .ok (.sipush 1798, 3) := by decide +kernel
theorem dX1_labelOf_43 : decode cX1_labelOf 43 = .ok (.irem, 1) := by decide +kernel
theorem dX1_labelOf_44 : decode cX1_labelOf 44 = .ok (.iadd, 1) := by decide +kernel
theorem dX1_labelOf_45 : decode cX1_labelOf 45 = .ok (.istore_n 2, 1) := by decide +kernel
theorem dX1_labelOf_46 : decode cX1_labelOf 46 = .ok (.iload_n 1, 1) := by decide +kernel
theorem dX1_labelOf_47 : decode cX1_labelOf 47 = .ok (.sipush 10000, 3) := by decide +kernel
theorem dX1_labelOf_50 : decode cX1_labelOf 50 = .ok (.imul, 1) := by decide +kernel
theorem dX1_labelOf_51 : decode cX1_labelOf 51 = .ok (.iload_n 2, 1) := by decide +kernel
theorem dX1_labelOf_52 : decode cX1_labelOf 52 = .ok (.bipush 30, 2) := by decide +kernel
theorem dX1_labelOf_54 : decode cX1_labelOf 54 = .ok (.idiv, 1) := by decide +kernel
theorem dX1_labelOf_55 : decode cX1_labelOf 55 = .ok (.bipush 100, 2) := by decide +kernel
theorem dX1_labelOf_57 : decode cX1_labelOf 57 = .ok (.imul, 1) := by decide +kernel
theorem dX1_labelOf_58 : decode cX1_labelOf 58 = .ok (.iadd, 1) := by decide +kernel
theorem dX1_labelOf_59 : decode cX1_labelOf 59 = .ok (.iload_n 2, 1) := by decide +kernel
theorem dX1_labelOf_60 : decode cX1_labelOf 60 = .ok (.bipush 30, 2) := by decide +kernel
theorem dX1_labelOf_62 : decode cX1_labelOf 62 = .ok (.irem, 1) := by decide +kernel
theorem dX1_labelOf_63 : decode cX1_labelOf 63 = .ok (.iadd, 1) := by decide +kernel
theorem dX1_labelOf_64 : decode cX1_labelOf 64 = .ok (.ireturn, 1) := by decide +kernel
set_option maxRecDepth 20000 in
theorem ggX1_pictureOf_X1_isLeftOut : GoodIn wsX1_pictureOf wsX1_isLeftOut := goodIn_r _ [4] (by decide +kernel) (by decide +kernel)
set_option maxRecDepth 20000 in
theorem gX1_pictureOf_X1_isLeftOut : GoodIn wsX1_pictureOf (va_wsS RX1 11 yX1_isLeftOut wsX1_isLeftOut) := goodIn_app (goodIn_of _ (by decide +kernel)) ggX1_pictureOf_X1_isLeftOut
theorem dX1_pictureOf_0 : decode cX1_pictureOf 0 = .ok (.iload_n 0, 1) := by decide +kernel
theorem dX1_pictureOf_1 : decode cX1_pictureOf 1 = .ok (.ifCond .ge 5, 3) := by decide +kernel
theorem dX1_pictureOf_4 : decode cX1_pictureOf 4 = .ok (.iconst (-1), 1) := by decide +kernel
theorem dX1_pictureOf_5 : decode cX1_pictureOf 5 = .ok (.ireturn, 1) := by decide +kernel
theorem dX1_pictureOf_6 : decode cX1_pictureOf 6 = .ok (.iload_n 0, 1) := by decide +kernel
theorem dX1_pictureOf_7 : decode cX1_pictureOf 7 = .ok (.sipush 10000, 3) := by decide +kernel
theorem dX1_pictureOf_10 : decode cX1_pictureOf 10 = .ok (.idiv, 1) := by decide +kernel
theorem dX1_pictureOf_11 : decode cX1_pictureOf 11 = .ok (.istore_n 1, 1) := by decide +kernel
theorem dX1_pictureOf_12 : decode cX1_pictureOf 12 = .ok (.iload_n 0, 1) := by decide +kernel
theorem dX1_pictureOf_13 : decode cX1_pictureOf 13 = .ok (.bipush 100, 2) := by decide +kernel
theorem dX1_pictureOf_15 : decode cX1_pictureOf 15 = .ok (.idiv, 1) := by decide +kernel
theorem dX1_pictureOf_16 : decode cX1_pictureOf 16 = .ok (.bipush 100, 2) := by decide +kernel
theorem dX1_pictureOf_18 : decode cX1_pictureOf 18 = .ok (.irem, 1) := by decide +kernel
theorem dX1_pictureOf_19 : decode cX1_pictureOf 19 = .ok (.istore_n 2, 1) := by decide +kernel
theorem dX1_pictureOf_20 : decode cX1_pictureOf 20 = .ok (.iload_n 0, 1) := by decide +kernel
theorem dX1_pictureOf_21 : decode cX1_pictureOf 21 = .ok (.bipush 100, 2) := by decide +kernel
theorem dX1_pictureOf_23 : decode cX1_pictureOf 23 = .ok (.irem, 1) := by decide +kernel
theorem dX1_pictureOf_24 : decode cX1_pictureOf 24 = .ok (.istore_n 3, 1) := by decide +kernel
theorem dX1_pictureOf_25 : decode cX1_pictureOf 25 = .ok (.iload_n 1, 1) := by decide +kernel
theorem dX1_pictureOf_26 : decode cX1_pictureOf 26 = .ok (.bipush 59, 2) := by decide +kernel
theorem dX1_pictureOf_28 : decode cX1_pictureOf 28 = .ok (.if_icmp .gt 24, 3) := by decide +kernel
theorem dX1_pictureOf_31 : decode cX1_pictureOf 31 = .ok (.iload_n 2, 1) := by decide +kernel
theorem dX1_pictureOf_32 : decode cX1_pictureOf 32 = .ok (.bipush 59, 2) := by decide +kernel
theorem dX1_pictureOf_34 : decode cX1_pictureOf 34 = .ok (.if_icmp .gt 18, 3) := by decide +kernel
theorem dX1_pictureOf_37 : decode cX1_pictureOf 37 = .ok (.iload_n 3, 1) := by decide +kernel
theorem dX1_pictureOf_38 : decode cX1_pictureOf 38 = .ok (.bipush 30, 2) := by decide +kernel
theorem dX1_pictureOf_40 : decode cX1_pictureOf 40 = .ok (.if_icmp .ge 12, 3) := by decide +kernel
theorem dX1_pictureOf_43 : decode cX1_pictureOf 43 = .ok (.iload_n 1, 1) := by decide +kernel
theorem dX1_pictureOf_44 : decode cX1_pictureOf 44 = .ok (.iload_n 2, 1) := by decide +kernel
theorem dX1_pictureOf_45 : decode cX1_pictureOf 45 = .ok (.iload_n 3, 1) := by decide +kernel
theorem dX1_pictureOf_46 : decode cX1_pictureOf 46 = .ok (.invokestatic 11, 3) := by decide +kernel
theorem dX1_pictureOf_49 : decode cX1_pictureOf 49 = .ok (.ifCond .eq 5, 3) := by decide +kernel
theorem dX1_pictureOf_52 : decode cX1_pictureOf 52 = .ok (.iconst (-1), 1) := by decide +kernel
theorem dX1_pictureOf_53 : decode cX1_pictureOf 53 = .ok (.ireturn, 1) := by decide +kernel
theorem dX1_pictureOf_54 : decode cX1_pictureOf 54 = .ok (.iload_n 1, 1) := by decide +kernel
theorem dX1_pictureOf_55 : decode cX1_pictureOf 55 = .ok (.iload_n 1, 1) := by decide +kernel
theorem dX1_pictureOf_56 : decode cX1_pictureOf 56 = .ok (.bipush 10, 2) := by decide +kernel
theorem dX1_pictureOf_58 : decode cX1_pictureOf 58 = .ok (.idiv, 1) := by decide +kernel
theorem dX1_pictureOf_59 : decode cX1_pictureOf 59 = .ok (.isub, 1) := by decide +kernel
theorem dX1_pictureOf_60 : decode cX1_pictureOf 60 = .ok (.istore 4, 2) := by decide +kernel
theorem dX1_pictureOf_62 : decode cX1_pictureOf 62 = .ok (.iload_n 1, 1) := by decide +kernel
theorem dX1_pictureOf_63 : decode cX1_pictureOf 63 = .ok (.sipush 1800, 3) := by decide +kernel
theorem dX1_pictureOf_66 : decode cX1_pictureOf 66 = .ok (.imul, 1) := by decide +kernel
theorem dX1_pictureOf_67 : decode cX1_pictureOf 67 = .ok (.iload_n 2, 1) := by decide +kernel
theorem dX1_pictureOf_68 : decode cX1_pictureOf 68 = .ok (.bipush 30, 2) := by decide +kernel
theorem dX1_pictureOf_70 : decode cX1_pictureOf 70 = .ok (.imul, 1) := by decide +kernel
theorem dX1_pictureOf_71 : decode cX1_pictureOf 71 = .ok (.iadd, 1) := by decide +kernel
theorem dX1_pictureOf_72 : decode cX1_pictureOf 72 = .ok (.iload_n 3, 1) := by decide +kernel
theorem dX1_pictureOf_73 : decode cX1_pictureOf 73 = .ok (.iadd, 1) := by decide +kernel
theorem dX1_pictureOf_74 : decode cX1_pictureOf 74 = .ok (.iconst 2, 1) := by decide +kernel
theorem dX1_pictureOf_75 : decode cX1_pictureOf 75 = .ok (.iload 4, 2) := by decide +kernel
theorem dX1_pictureOf_77 : decode cX1_pictureOf 77 = .ok (.imul, 1) := by decide +kernel
theorem dX1_pictureOf_78 : decode cX1_pictureOf 78 = .ok (.isub, 1) := by decide +kernel
theorem dX1_pictureOf_79 : decode cX1_pictureOf 79 = .ok (.ireturn, 1) := by decide +kernel
set_option maxRecDepth 20000 in
theorem ggX1_goesBack_X1_labelOf : GoodIn wsX1_goesBack wsX1_labelOf := goodIn_r _ [4] (by decide +kernel) (by decide +kernel)
set_option maxRecDepth 20000 in
theorem gX1_goesBack_X1_labelOf : GoodIn wsX1_goesBack (va_wsS RX1 15 yX1_labelOf wsX1_labelOf) := goodIn_app (goodIn_of _ (by decide +kernel)) ggX1_goesBack_X1_labelOf
set_option maxRecDepth 20000 in
theorem ggX1_goesBack_X1_pictureOf : GoodIn wsX1_goesBack wsX1_pictureOf := goodIn_r _ [7, 8, 9, 3, 10] (by decide +kernel) (by decide +kernel)
set_option maxRecDepth 20000 in
theorem gX1_goesBack_X1_pictureOf : GoodIn wsX1_goesBack (va_wsS RX1 19 yX1_pictureOf wsX1_pictureOf) := goodIn_app (goodIn_of _ (by decide +kernel)) ggX1_goesBack_X1_pictureOf
theorem dX1_goesBack_0 : decode cX1_goesBack 0 = .ok (.iload_n 0, 1) := by decide +kernel
theorem dX1_goesBack_1 : decode cX1_goesBack 1 = .ok (.invokestatic 15, 3) := by decide +kernel
theorem dX1_goesBack_4 : decode cX1_goesBack 4 = .ok (.invokestatic 19, 3) := by decide +kernel
theorem dX1_goesBack_7 : decode cX1_goesBack 7 = .ok (.iload_n 0, 1) := by decide +kernel
theorem dX1_goesBack_8 : decode cX1_goesBack 8 = .ok (.if_icmp .ne 7, 3) := by decide +kernel
theorem dX1_goesBack_11 : decode cX1_goesBack 11 = .ok (.iconst 1, 1) := by decide +kernel
theorem dX1_goesBack_12 : decode cX1_goesBack 12 = .ok (.goto 4, 3) := by decide +kernel
theorem dX1_goesBack_15 : decode cX1_goesBack 15 = .ok (.iconst 0, 1) := by decide +kernel
theorem dX1_goesBack_16 : decode cX1_goesBack 16 = .ok (.ireturn, 1) := by decide +kernel
theorem dX1_isLeftOut_0 : decode cX1_isLeftOut 0 = .ok (.iload_n 0, 1) := by decide +kernel
theorem dX1_isLeftOut_1 : decode cX1_isLeftOut 1 = .ok (.bipush 10, 2) := by decide +kernel
theorem dX1_isLeftOut_3 : decode cX1_isLeftOut 3 = .ok (.irem, 1) := by decide +kernel
theorem dX1_isLeftOut_4 : decode cX1_isLeftOut 4 = .ok (.ifCond .eq 16, 3) := by decide +kernel
theorem dX1_isLeftOut_7 : decode cX1_isLeftOut 7 = .ok (.iload_n 1, 1) := by decide +kernel
theorem dX1_isLeftOut_8 : decode cX1_isLeftOut 8 = .ok (.ifCond .ne 12, 3) := by decide +kernel
theorem dX1_isLeftOut_11 : decode cX1_isLeftOut 11 = .ok (.iload_n 2, 1) := by decide +kernel
theorem dX1_isLeftOut_12 : decode cX1_isLeftOut 12 = .ok (.iconst 2, 1) := by decide +kernel
theorem dX1_isLeftOut_13 : decode cX1_isLeftOut 13 = .ok (.if_icmp .ge 7, 3) := by decide +kernel
theorem dX1_isLeftOut_16 : decode cX1_isLeftOut 16 = .ok (.iconst 1, 1) := by decide +kernel
theorem dX1_isLeftOut_17 : decode cX1_isLeftOut 17 = .ok (.goto 4, 3) := by decide +kernel
theorem dX1_isLeftOut_20 : decode cX1_isLeftOut 20 = .ok (.iconst 0, 1) := by decide +kernel
theorem dX1_isLeftOut_21 : decode cX1_isLeftOut 21 = .ok (.ireturn, 1) := by decide +kernel
