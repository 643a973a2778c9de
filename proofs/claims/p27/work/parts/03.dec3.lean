theorem dX4_init_0 : decode cX4_init 0 = .ok (.aload_n 0, 1) := by decide +kernel
theorem dX4_init_1 : decode cX4_init 1 = .ok (.invokespecial 3, 3) := by decide +kernel
theorem dX4_init_4 : decode cX4_init 4 = .ok (.aload_n 0, 1) := by decide +kernel
theorem dX4_init_5 : decode cX4_init 5 = .ok (.iload_n 1, 1) := by decide +kernel
theorem dX4_init_6 : decode cX4_init 6 = .ok (.iconst 0, 1) := by decide +kernel
theorem dX4_init_7 : decode cX4_init 7 = .ok (.invokestatic 9, 3) := by decide +kernel
theorem dX4_init_10 : decode cX4_init 10 = .ok (.newarray .int, 2) := by decide +kernel
theorem dX4_init_12 : decode cX4_init 12 = .ok (.putfield 15, 3) := by decide +kernel
theorem dX4_init_15 : decode cX4_init 15 = .ok (.aload_n 0, 1) := by decide +kernel
theorem dX4_init_16 : decode cX4_init 16 = .ok (.iconst 0, 1) := by decide +kernel
theorem dX4_init_17 : decode cX4_init 17 = .ok (.putfield 21, 3) := by decide +kernel
theorem dX4_init_20 : decode cX4_init 20 = .ok (.return_, 1) := by decide +kernel
theorem dX4_many_0 : decode cX4_many 0 = .ok (.aload_n 0, 1) := by decide +kernel
theorem dX4_many_1 : decode cX4_many 1 = .ok (.getfield 21, 3) := by decide +kernel
theorem dX4_many_4 : decode cX4_many 4 = .ok (.ireturn, 1) := by decide +kernel
theorem dX4_has_0 : decode cX4_has 0 = .ok (.iload_n 1, 1) := by decide +kernel
theorem dX4_has_1 : decode cX4_has 1 = .ok (.ifCond .lt 15, 3) := by decide +kernel
theorem dX4_has_4 : decode cX4_has 4 = .ok (.iload_n 1, 1) := by decide +kernel
theorem dX4_has_5 : decode cX4_has 5 = .ok (.aload_n 0, 1) := by decide +kernel
theorem dX4_has_6 : decode cX4_has 6 = .ok (.getfield 21, 3) := by decide +kernel
theorem dX4_has_9 : decode cX4_has 9 = .ok (.if_icmp .ge 7, 3) := by decide +kernel
theorem dX4_has_12 : decode cX4_has 12 = .ok (.iconst 1, 1) := by decide +kernel
theorem dX4_has_13 : decode cX4_has 13 = .ok (.goto 4, 3) := by decide +kernel
theorem dX4_has_16 : decode cX4_has 16 = .ok (.iconst 0, 1) := by decide +kernel
theorem dX4_has_17 : decode cX4_has 17 = .ok (.ireturn, 1) := by decide +kernel
theorem dX4_at_0 : decode cX4_at 0 = .ok (.iload_n 1, 1) := by decide +kernel
theorem dX4_at_1 : decode cX4_at 1 = .ok (.ifCond .lt 20, 3) := by decide +kernel
theorem dX4_at_4 : decode cX4_at 4 = .ok (.iload_n 1, 1) := by decide +kernel
theorem dX4_at_5 : decode cX4_at 5 = .ok (.aload_n 0, 1) := by decide +kernel
theorem dX4_at_6 : decode cX4_at 6 = .ok (.getfield 21, 3) := by decide +kernel
theorem dX4_at_9 : decode cX4_at 9 = .ok (.if_icmp .ge 12, 3) := by decide +kernel
theorem dX4_at_12 : decode cX4_at 12 = .ok (.aload_n 0, 1) := by decide +kernel
theorem dX4_at_13 : decode cX4_at 13 = .ok (.getfield 15, 3) := by decide +kernel
theorem dX4_at_16 : decode cX4_at 16 = .ok (.iload_n 1, 1) := by decide +kernel
theorem dX4_at_17 : decode cX4_at 17 = .ok (.iaload, 1) := by decide +kernel
theorem dX4_at_18 : decode cX4_at 18 = .ok (.goto 4, 3) := by decide +kernel
theorem dX4_at_21 : decode cX4_at 21 = .ok (.iconst (-1), 1) := by decide +kernel
theorem dX4_at_22 : decode cX4_at 22 = .ok (.ireturn, 1) := by decide +kernel
theorem dX4_add_0 : decode cX4_add 0 = .ok (.aload_n 0, 1) := by decide +kernel
theorem dX4_add_1 : decode cX4_add 1 = .ok (.getfield 21, 3) := by decide +kernel
theorem dX4_add_4 : decode cX4_add 4 = .ok (.aload_n 0, 1) := by decide +kernel
theorem dX4_add_5 : decode cX4_add 5 = .ok (.getfield 15, 3) := by decide +kernel
theorem dX4_add_8 : decode cX4_add 8 = .ok (.arraylength, 1) := by decide +kernel
theorem dX4_add_9 : decode cX4_add 9 = .ok (.if_icmp .lt 5, 3) := by decide +kernel
theorem dX4_add_12 : decode cX4_add 12 = .ok (.iconst (-1), 1) := by decide +kernel
theorem dX4_add_13 : decode cX4_add 13 = .ok (.ireturn, 1) := by decide +kernel
theorem dX4_add_14 : decode cX4_add 14 = .ok (.aload_n 0, 1) := by decide +kernel
theorem dX4_add_15 : decode cX4_add 15 = .ok (.getfield 15, 3) := by decide +kernel
theorem dX4_add_18 : decode cX4_add 18 = .ok (.aload_n 0, 1) := by decide +kernel
theorem dX4_add_19 : decode cX4_add 19 = .ok (.getfield 21, 3) := by decide +kernel
theorem dX4_add_22 : decode cX4_add 22 = .ok (.iload_n 1, 1) := by decide +kernel
theorem dX4_add_23 : decode cX4_add 23 = .ok (.iastore, 1) := by decide +kernel
theorem dX4_add_24 : decode cX4_add 24 = .ok (.aload_n 0, 1) := by decide +kernel
theorem dX4_add_25 : decode cX4_add 25 = .ok (.dup, 1) := by decide +kernel
theorem dX4_add_26 : decode cX4_add 26 = .ok (.getfield 21, 3) := by decide +kernel
theorem dX4_add_29 : decode cX4_add 29 = .ok (.iconst 1, 1) := by decide +kernel
theorem dX4_add_30 : decode cX4_add 30 = .ok (.iadd, 1) := by decide +kernel
theorem dX4_add_31 : decode cX4_add 31 = .ok (.putfield 21, 3) := by decide +kernel
theorem dX4_add_34 : decode cX4_add 34 = .ok (.aload_n 0, 1) := by decide +kernel
theorem dX4_add_35 : decode cX4_add 35 = .ok (.getfield 21, 3) := by decide +kernel
theorem dX4_add_38 : decode cX4_add 38 = .ok (.iconst 1, 1) := by decide +kernel
theorem dX4_add_39 : decode cX4_add 39 = .ok (.isub, 1) := by decide +kernel
theorem dX4_add_40 : decode cX4_add 40 = .ok (.ireturn, 1) := by decide +kernel
set_option maxRecDepth 20000 in
theorem ggX4_put_X4_has : GoodIn wsX4_put wsX4_has := goodIn_r _ [6, 7, 8, 9] (by decide +kernel) (by decide +kernel)
set_option maxRecDepth 20000 in
theorem gX4_put_X4_has : GoodIn wsX4_put (wsV RX4 25 RX4 yX4_has wsX4_has) := goodIn_app (goodIn_of _ (by decide +kernel)) ggX4_put_X4_has
theorem dX4_put_0 : decode cX4_put 0 = .ok (.aload_n 0, 1) := by decide +kernel
theorem dX4_put_1 : decode cX4_put 1 = .ok (.iload_n 1, 1) := by decide +kernel
theorem dX4_put_2 : decode cX4_put 2 = .ok (.invokevirtual 25, 3) := by decide +kernel
theorem dX4_put_5 : decode cX4_put 5 = .ok (.ifCond .eq 10, 3) := by decide +kernel
theorem dX4_put_8 : decode cX4_put 8 = .ok (.aload_n 0, 1) := by decide +kernel
theorem dX4_put_9 : decode cX4_put 9 = .ok (.getfield 15, 3) := by decide +kernel
theorem dX4_put_12 : decode cX4_put 12 = .ok (.iload_n 1, 1) := by decide +kernel
theorem dX4_put_13 : decode cX4_put 13 = .ok (.iload_n 2, 1) := by decide +kernel
theorem dX4_put_14 : decode cX4_put 14 = .ok (.iastore, 1) := by decide +kernel
theorem dX4_put_15 : decode cX4_put 15 = .ok (.return_, 1) := by decide +kernel
theorem dX4_clear_0 : decode cX4_clear 0 = .ok (.aload_n 0, 1) := by decide +kernel
theorem dX4_clear_1 : decode cX4_clear 1 = .ok (.iconst 0, 1) := by decide +kernel
theorem dX4_clear_2 : decode cX4_clear 2 = .ok (.putfield 21, 3) := by decide +kernel
theorem dX4_clear_5 : decode cX4_clear 5 = .ok (.return_, 1) := by decide +kernel
set_option maxRecDepth 20000 in
theorem ggX4_remove_X4_has : GoodIn wsX4_remove wsX4_has := goodIn_r _ [7, 1, 8, 9] (by decide +kernel) (by decide +kernel)
set_option maxRecDepth 20000 in
theorem gX4_remove_X4_has : GoodIn wsX4_remove (wsV RX4 25 RX4 yX4_has wsX4_has) := goodIn_app (goodIn_of _ (by decide +kernel)) ggX4_remove_X4_has
theorem dX4_remove_0 : decode cX4_remove 0 = .ok (.aload_n 0, 1) := by decide +kernel
theorem dX4_remove_1 : decode cX4_remove 1 = .ok (.iload_n 1, 1) := by decide +kernel
theorem dX4_remove_2 : decode cX4_remove 2 = .ok (.invokevirtual 25, 3) := by decide +kernel
theorem dX4_remove_5 : decode cX4_remove 5 = .ok (.ifCond .eq 17, 3) := by decide +kernel
theorem dX4_remove_8 : decode cX4_remove 8 = .ok (.iload_n 2, 1) := by decide +kernel
theorem dX4_remove_9 : decode cX4_remove 9 = .ok (.ifCond .lt 13, 3) := by decide +kernel
theorem dX4_remove_12 : decode cX4_remove 12 = .ok (.iload_n 2, 1) := by decide +kernel
theorem dX4_remove_13 : decode cX4_remove 13 = .ok (.aload_n 0, 1) := by decide +kernel
theorem dX4_remove_14 : decode cX4_remove 14 = .ok (.getfield 21, 3) := by decide +kernel
theorem dX4_remove_17 : decode cX4_remove 17 = .ok (.iload_n 1, 1) := by decide +kernel
theorem dX4_remove_18 : decode cX4_remove 18 = .ok (.isub, 1) := by decide +kernel
theorem dX4_remove_19 : decode cX4_remove 19 = .ok (.if_icmp .le 4, 3) := by decide +kernel
theorem dX4_remove_22 : decode cX4_remove 22 = .ok (.return_, 1) := by decide +kernel
theorem dX4_remove_23 : decode cX4_remove 23 = .ok (.iload_n 1, 1) := by decide +kernel
theorem dX4_remove_24 : decode cX4_remove 24 = .ok (.iload_n 2, 1) := by decide +kernel
theorem dX4_remove_25 : decode cX4_remove 25 = .ok (.iadd, 1) := by decide +kernel
theorem dX4_remove_26 : decode cX4_remove 26 = .ok (.istore_n 3, 1) := by decide +kernel
theorem dX4_remove_27 : decode cX4_remove 27 = .ok (.iload_n 3, 1) := by decide +kernel
theorem dX4_remove_28 : decode cX4_remove 28 = .ok (.aload_n 0, 1) := by decide +kernel
theorem dX4_remove_29 : decode cX4_remove 29 = .ok (.getfield 21, 3) := by decide +kernel
theorem dX4_remove_32 : decode cX4_remove 32 = .ok (.if_icmp .ge 23, 3) := by decide +kernel
theorem dX4_remove_35 : decode cX4_remove 35 = .ok (.aload_n 0, 1) := by decide +kernel
theorem dX4_remove_36 : decode cX4_remove 36 = .ok (.getfield 15, 3) := by decide +kernel
theorem dX4_remove_39 : decode cX4_remove 39 = .ok (.iload_n 3, 1) := by decide +kernel
theorem dX4_remove_40 : decode cX4_remove 40 = .ok (.iload_n 2, 1) := by decide +kernel
theorem dX4_remove_41 : decode cX4_remove 41 = .ok (.isub, 1) := by decide +kernel
theorem dX4_remove_42 : decode cX4_remove 42 = .ok (.aload_n 0, 1) := by decide +kernel
theorem dX4_remove_43 : decode cX4_remove 43 = .ok (.getfield 15, 3) := by decide +kernel
theorem dX4_remove_46 : decode cX4_remove 46 = .ok (.iload_n 3, 1) := by decide +kernel
theorem dX4_remove_47 : decode cX4_remove 47 = .ok (.iaload, 1) := by decide +kernel
theorem dX4_remove_48 : decode cX4_remove 48 = .ok (.iastore, 1) := by decide +kernel
theorem dX4_remove_49 : decode cX4_remove 49 = .ok (.iinc 3 1, 3) := by decide +kernel
theorem dX4_remove_52 : decode cX4_remove 52 = .ok (.goto (-25), 3) := by decide +kernel
theorem dX4_remove_55 : decode cX4_remove 55 = .ok (.aload_n 0, 1) := by decide +kernel
theorem dX4_remove_56 : decode cX4_remove 56 = .ok (.dup, 1) := by decide +kernel
theorem dX4_remove_57 : decode cX4_remove 57 = .ok (.getfield 21, 3) := by decide +kernel
theorem dX4_remove_60 : decode cX4_remove 60 = .ok (.iload_n 2, 1) := by decide +kernel
theorem dX4_remove_61 : decode cX4_remove 61 = .ok (.isub, 1) := by decide +kernel
theorem dX4_remove_62 : decode cX4_remove 62 = .ok (.putfield 21, 3) := by decide +kernel
theorem dX4_remove_65 : decode cX4_remove 65 = .ok (.return_, 1) := by decide +kernel
set_option maxRecDepth 20000 in
theorem ggX5_init_X4_init : GoodIn wsX5_init wsX4_init := goodIn_r _ [17, 18, 2, 3, 19, 20, 21, 22, 9, 23, 24, 25, 26] (by decide +kernel) (by decide +kernel)
set_option maxRecDepth 20000 in
theorem gX5_init_X4_init : GoodIn wsX5_init (wsX4_init) := ggX5_init_X4_init
theorem dX5_init_0 : decode cX5_init 0 = .ok (.aload_n 0, 1) := by decide +kernel
theorem dX5_init_1 : decode cX5_init 1 = .ok (.invokespecial 3, 3) := by decide +kernel
theorem dX5_init_4 : decode cX5_init 4 = .ok (.aload_n 0, 1) := by decide +kernel
theorem dX5_init_5 : decode cX5_init 5 = .ok (.new 9, 3) := by decide +kernel
theorem dX5_init_8 : decode cX5_init 8 = .ok (.dup, 1) := by decide +kernel
theorem dX5_init_9 : decode cX5_init 9 = .ok (.bipush 60, 2) := by decide +kernel
theorem dX5_init_11 : decode cX5_init 11 = .ok (.invokespecial 11, 3) := by decide +kernel
theorem dX5_init_14 : decode cX5_init 14 = .ok (.putfield 14, 3) := by decide +kernel
theorem dX5_init_17 : decode cX5_init 17 = .ok (.aload_n 0, 1) := by decide +kernel
theorem dX5_init_18 : decode cX5_init 18 = .ok (.new 9, 3) := by decide +kernel
theorem dX5_init_21 : decode cX5_init 21 = .ok (.dup, 1) := by decide +kernel
theorem dX5_init_22 : decode cX5_init 22 = .ok (.bipush 60, 2) := by decide +kernel
theorem dX5_init_24 : decode cX5_init 24 = .ok (.invokespecial 11, 3) := by decide +kernel
theorem dX5_init_27 : decode cX5_init 27 = .ok (.putfield 20, 3) := by decide +kernel
theorem dX5_init_30 : decode cX5_init 30 = .ok (.aload_n 0, 1) := by decide +kernel
theorem dX5_init_31 : decode cX5_init 31 = .ok (.sipush 512, 3) := by decide +kernel
theorem dX5_init_34 : decode cX5_init 34 = .ok (.newarray .int, 2) := by decide +kernel
theorem dX5_init_36 : decode cX5_init 36 = .ok (.putfield 23, 3) := by decide +kernel
theorem dX5_init_39 : decode cX5_init 39 = .ok (.aload_n 0, 1) := by decide +kernel
theorem dX5_init_40 : decode cX5_init 40 = .ok (.sipush 512, 3) := by decide +kernel
theorem dX5_init_43 : decode cX5_init 43 = .ok (.newarray .int, 2) := by decide +kernel
theorem dX5_init_45 : decode cX5_init 45 = .ok (.putfield 27, 3) := by decide +kernel
theorem dX5_init_48 : decode cX5_init 48 = .ok (.aload_n 0, 1) := by decide +kernel
theorem dX5_init_49 : decode cX5_init 49 = .ok (.bipush 60, 2) := by decide +kernel
theorem dX5_init_51 : decode cX5_init 51 = .ok (.newarray .char, 2) := by decide +kernel
theorem dX5_init_53 : decode cX5_init 53 = .ok (.putfield 30, 3) := by decide +kernel
theorem dX5_init_56 : decode cX5_init 56 = .ok (.aload_n 0, 1) := by decide +kernel
theorem dX5_init_57 : decode cX5_init 57 = .ok (.iconst 0, 1) := by decide +kernel
theorem dX5_init_58 : decode cX5_init 58 = .ok (.putfield 34, 3) := by decide +kernel
theorem dX5_init_61 : decode cX5_init 61 = .ok (.return_, 1) := by decide +kernel
set_option maxRecDepth 20000 in
theorem ggX5_pullDown_X4_clear : GoodIn wsX5_pullDown wsX4_clear := goodIn_r _ [7, 8, 28, 29] (by decide +kernel) (by decide +kernel)
set_option maxRecDepth 20000 in
theorem gX5_pullDown_X4_clear : GoodIn wsX5_pullDown (wsV RX5 38 RX4 yX4_clear wsX4_clear) := goodIn_app (goodIn_of _ (by decide +kernel)) ggX5_pullDown_X4_clear
set_option maxRecDepth 20000 in
theorem ggX5_pullDown_X4_many : GoodIn wsX5_pullDown wsX4_many := goodIn_r _ [12, 8, 28, 29] (by decide +kernel) (by decide +kernel)
set_option maxRecDepth 20000 in
theorem gX5_pullDown_X4_many : GoodIn wsX5_pullDown (wsV RX5 41 RX4 yX4_many wsX4_many) := goodIn_app (goodIn_of _ (by decide +kernel)) ggX5_pullDown_X4_many
set_option maxRecDepth 20000 in
theorem ggX5_pullDown_X4_at : GoodIn wsX5_pullDown wsX4_at := goodIn_r _ [16, 8, 17, 28, 29] (by decide +kernel) (by decide +kernel)
set_option maxRecDepth 20000 in
theorem gX5_pullDown_X4_at : GoodIn wsX5_pullDown (wsV RX5 45 RX4 yX4_at wsX4_at) := goodIn_app (goodIn_of _ (by decide +kernel)) ggX5_pullDown_X4_at
set_option maxRecDepth 20000 in
theorem ggX5_pullDown_X4_add : GoodIn wsX5_pullDown wsX4_add := goodIn_r _ [21, 8, 17, 28, 29] (by decide +kernel) (by decide +kernel)
set_option maxRecDepth 20000 in
theorem gX5_pullDown_X4_add : GoodIn wsX5_pullDown (wsV RX5 49 RX4 yX4_add wsX4_add) := goodIn_app (goodIn_of _ (by decide +kernel)) ggX5_pullDown_X4_add
theorem dX5_pullDown_0 : decode cX5_pullDown 0 = .ok (.aload_n 0, 1) := by decide +kernel
theorem dX5_pullDown_1 : decode cX5_pullDown 1 = .ok (.getfield 14, 3) := by decide +kernel
theorem dX5_pullDown_4 : decode cX5_pullDown 4 = .ok (.invokevirtual 38, 3) := by decide +kernel
theorem dX5_pullDown_7 : decode cX5_pullDown 7 = .ok (.aload_n 0, 1) := by decide +kernel
theorem dX5_pullDown_8 : decode cX5_pullDown 8 = .ok (.iconst 0, 1) := by decide +kernel
theorem dX5_pullDown_9 : decode cX5_pullDown 9 = .ok (.putfield 34, 3) := by decide +kernel
theorem dX5_pullDown_12 : decode cX5_pullDown 12 = .ok (.iconst 0, 1) := by decide +kernel
theorem dX5_pullDown_13 : decode cX5_pullDown 13 = .ok (.istore_n 3, 1) := by decide +kernel
theorem dX5_pullDown_14 : decode cX5_pullDown 14 = .ok (.iload_n 3, 1) := by decide +kernel
theorem dX5_pullDown_15 : decode cX5_pullDown 15 = .ok (.aload_n 1, 1) := by decide +kernel
theorem dX5_pullDown_16 : decode cX5_pullDown 16 = .ok (.invokevirtual 41, 3) := by decide +kernel
theorem dX5_pullDown_19 : decode cX5_pullDown 19 = .ok (.if_icmp .ge 53, 3) := by decide +kernel
theorem dX5_pullDown_22 : decode cX5_pullDown 22 = .ok (.iload_n 3, 1) := by decide +kernel
theorem dX5_pullDown_23 : decode cX5_pullDown 23 = .ok (.iload_n 2, 1) := by decide +kernel
theorem dX5_pullDown_24 : decode cX5_pullDown 24 = .ok (.iadd, 1) := by decide +kernel
theorem dX5_pullDown_25 : decode cX5_pullDown 25 = .ok (.iconst 2, 1) := by decide +kernel
theorem dX5_pullDown_26 : decode cX5_pullDown 26 = .ok (.irem, 1) := by decide +kernel
theorem dX5_pullDown_27 : decode cX5_pullDown 27 = .ok (.ifCond .ne 7, 3) := by decide +kernel
theorem dX5_pullDown_30 : decode cX5_pullDown 30 = .ok (.iconst 2, 1) := by decide +kernel
theorem dX5_pullDown_31 : decode cX5_pullDown 31 = .ok (.goto 4, 3) := by decide +kernel
theorem dX5_pullDown_34 : decode cX5_pullDown 34 = .ok (.iconst 3, 1) := by decide +kernel
theorem dX5_pullDown_35 : decode cX5_pullDown 35 = .ok (.istore 4, 2) := by decide +kernel
theorem dX5_pullDown_37 : decode cX5_pullDown 37 = .ok (.iconst 0, 1) := by decide +kernel
theorem dX5_pullDown_38 : decode cX5_pullDown 38 = .ok (.istore 5, 2) := by decide +kernel
theorem dX5_pullDown_40 : decode cX5_pullDown 40 = .ok (.iload 5, 2) := by decide +kernel
theorem dX5_pullDown_42 : decode cX5_pullDown 42 = .ok (.iload 4, 2) := by decide +kernel
theorem dX5_pullDown_44 : decode cX5_pullDown 44 = .ok (.if_icmp .ge 22, 3) := by decide +kernel
theorem dX5_pullDown_47 : decode cX5_pullDown 47 = .ok (.aload_n 0, 1) := by decide +kernel
theorem dX5_pullDown_48 : decode cX5_pullDown 48 = .ok (.getfield 14, 3) := by decide +kernel
theorem dX5_pullDown_51 : decode cX5_pullDown 51 = .ok (.aload_n 1, 1) := by decide +kernel
theorem dX5_pullDown_52 : decode cX5_pullDown 52 = .ok (.iload_n 3, 1) := by decide +kernel
theorem dX5_pullDown_53 : decode cX5_pullDown 53 = .ok (.invokevirtual 45, 3) := by decide +kernel
theorem dX5_pullDown_56 : decode cX5_pullDown 56 = .ok (.invokevirtual 49, 3) := by decide +kernel
theorem dX5_pullDown_59 : decode cX5_pullDown 59 = .ok (.pop, 1) := by decide +kernel
theorem dX5_pullDown_60 : decode cX5_pullDown 60 = .ok (.iinc 5 1, 3) := by decide +kernel
theorem dX5_pullDown_63 : decode cX5_pullDown 63 = .ok (.goto (-23), 3) := by decide +kernel
theorem dX5_pullDown_66 : decode cX5_pullDown 66 = .ok (.iinc 3 1, 3) := by decide +kernel
theorem dX5_pullDown_69 : decode cX5_pullDown 69 = .ok (.goto (-55), 3) := by decide +kernel
theorem dX5_pullDown_72 : decode cX5_pullDown 72 = .ok (.return_, 1) := by decide +kernel
set_option maxRecDepth 20000 in
theorem ggX5_cutOut_X4_remove : GoodIn wsX5_cutOut wsX4_remove := goodIn_r _ [7, 8, 9, 10, 11, 12, 6, 13, 20, 21] (by decide +kernel) (by decide +kernel)
set_option maxRecDepth 20000 in
theorem gX5_cutOut_X4_remove : GoodIn wsX5_cutOut (wsV RX5 52 RX4 yX4_remove wsX4_remove) := goodIn_app (goodIn_of _ (by decide +kernel)) ggX5_cutOut_X4_remove
theorem dX5_cutOut_0 : decode cX5_cutOut 0 = .ok (.aload_n 0, 1) := by decide +kernel
theorem dX5_cutOut_1 : decode cX5_cutOut 1 = .ok (.getfield 14, 3) := by decide +kernel
theorem dX5_cutOut_4 : decode cX5_cutOut 4 = .ok (.iload_n 1, 1) := by decide +kernel
theorem dX5_cutOut_5 : decode cX5_cutOut 5 = .ok (.iload_n 2, 1) := by decide +kernel
theorem dX5_cutOut_6 : decode cX5_cutOut 6 = .ok (.invokevirtual 52, 3) := by decide +kernel
theorem dX5_cutOut_9 : decode cX5_cutOut 9 = .ok (.aload_n 0, 1) := by decide +kernel
theorem dX5_cutOut_10 : decode cX5_cutOut 10 = .ok (.iconst 0, 1) := by decide +kernel
theorem dX5_cutOut_11 : decode cX5_cutOut 11 = .ok (.putfield 34, 3) := by decide +kernel
theorem dX5_cutOut_14 : decode cX5_cutOut 14 = .ok (.return_, 1) := by decide +kernel
set_option maxRecDepth 20000 in
theorem ggX5_note_X4_at : GoodIn wsX5_note wsX4_at := goodIn_r _ [9, 10, 11, 26, 27] (by decide +kernel) (by decide +kernel)
set_option maxRecDepth 20000 in
theorem gX5_note_X4_at : GoodIn wsX5_note (wsV RX5 45 RX4 yX4_at wsX4_at) := goodIn_app (goodIn_of _ (by decide +kernel)) ggX5_note_X4_at
set_option maxRecDepth 20000 in
theorem ggX5_note_X4_put : GoodIn wsX5_note wsX4_put := goodIn_r _ [15, 11, 16, 17, 18, 8, 19, 10, 26, 27] (by decide +kernel) (by decide +kernel)
set_option maxRecDepth 20000 in
theorem gX5_note_X4_put : GoodIn wsX5_note (wsV RX5 56 RX4 yX4_put wsX4_put) := goodIn_app (goodIn_of _ (by decide +kernel)) ggX5_note_X4_put
theorem dX5_note_0 : decode cX5_note 0 = .ok (.aload_n 0, 1) := by decide +kernel
theorem dX5_note_1 : decode cX5_note 1 = .ok (.getfield 34, 3) := by decide +kernel
theorem dX5_note_4 : decode cX5_note 4 = .ok (.sipush 512, 3) := by decide +kernel
theorem dX5_note_7 : decode cX5_note 7 = .ok (.if_icmp .ge 40, 3) := by decide +kernel
theorem dX5_note_10 : decode cX5_note 10 = .ok (.aload_n 0, 1) := by decide +kernel
theorem dX5_note_11 : decode cX5_note 11 = .ok (.getfield 23, 3) := by decide +kernel
theorem dX5_note_14 : decode cX5_note 14 = .ok (.aload_n 0, 1) := by decide +kernel
theorem dX5_note_15 : decode cX5_note 15 = .ok (.getfield 34, 3) := by decide +kernel
theorem dX5_note_18 : decode cX5_note 18 = .ok (.iload_n 1, 1) := by decide +kernel
theorem dX5_note_19 : decode cX5_note 19 = .ok (.iastore, 1) := by decide +kernel
theorem dX5_note_20 : decode cX5_note 20 = .ok (.aload_n 0, 1) := by decide +kernel
theorem dX5_note_21 : decode cX5_note 21 = .ok (.getfield 27, 3) := by decide +kernel
theorem dX5_note_24 : decode cX5_note 24 = .ok (.aload_n 0, 1) := by decide +kernel
theorem dX5_note_25 : decode cX5_note 25 = .ok (.getfield 34, 3) := by decide +kernel
theorem dX5_note_28 : decode cX5_note 28 = .ok (.aload_n 0, 1) := by decide +kernel
theorem dX5_note_29 : decode cX5_note 29 = .ok (.getfield 14, 3) := by decide +kernel
theorem dX5_note_32 : decode cX5_note 32 = .ok (.iload_n 1, 1) := by decide +kernel
theorem dX5_note_33 : decode cX5_note 33 = .ok (.invokevirtual 45, 3) := by decide +kernel
theorem dX5_note_36 : decode cX5_note 36 = .ok (.iastore, 1) := by decide +kernel
theorem dX5_note_37 : decode cX5_note 37 = .ok (.aload_n 0, 1) := by decide +kernel
theorem dX5_note_38 : decode cX5_note 38 = .ok (.dup, 1) := by decide +kernel
theorem dX5_note_39 : decode cX5_note 39 = .ok (.getfield 34, 3) := by decide +kernel
theorem dX5_note_42 : decode cX5_note 42 = .ok (.iconst 1, 1) := by decide +kernel
theorem dX5_note_43 : decode cX5_note 43 = .ok (.iadd, 1) := by decide +kernel
theorem dX5_note_44 : decode cX5_note 44 = .ok (.putfield 34, 3) := by decide +kernel
theorem dX5_note_47 : decode cX5_note 47 = .ok (.aload_n 0, 1) := by decide +kernel
theorem dX5_note_48 : decode cX5_note 48 = .ok (.getfield 14, 3) := by decide +kernel
theorem dX5_note_51 : decode cX5_note 51 = .ok (.iload_n 1, 1) := by decide +kernel
theorem dX5_note_52 : decode cX5_note 52 = .ok (.iload_n 2, 1) := by decide +kernel
theorem dX5_note_53 : decode cX5_note 53 = .ok (.invokevirtual 56, 3) := by decide +kernel
theorem dX5_note_56 : decode cX5_note 56 = .ok (.return_, 1) := by decide +kernel
set_option maxRecDepth 20000 in
theorem ggX5_takeBack_X4_put : GoodIn wsX5_takeBack wsX4_put := goodIn_r _ [9, 10, 11, 12, 13, 8, 14, 15, 22, 23] (by decide +kernel) (by decide +kernel)
set_option maxRecDepth 20000 in
theorem gX5_takeBack_X4_put : GoodIn wsX5_takeBack (wsV RX5 56 RX4 yX4_put wsX4_put) := goodIn_app (goodIn_of _ (by decide +kernel)) ggX5_takeBack_X4_put
theorem dX5_takeBack_0 : decode cX5_takeBack 0 = .ok (.aload_n 0, 1) := by decide +kernel
theorem dX5_takeBack_1 : decode cX5_takeBack 1 = .ok (.getfield 34, 3) := by decide +kernel
theorem dX5_takeBack_4 : decode cX5_takeBack 4 = .ok (.ifCond .gt 5, 3) := by decide +kernel
theorem dX5_takeBack_7 : decode cX5_takeBack 7 = .ok (.iconst (-1), 1) := by decide +kernel
theorem dX5_takeBack_8 : decode cX5_takeBack 8 = .ok (.ireturn, 1) := by decide +kernel
theorem dX5_takeBack_9 : decode cX5_takeBack 9 = .ok (.aload_n 0, 1) := by decide +kernel
theorem dX5_takeBack_10 : decode cX5_takeBack 10 = .ok (.dup, 1) := by decide +kernel
theorem dX5_takeBack_11 : decode cX5_takeBack 11 = .ok (.getfield 34, 3) := by decide +kernel
theorem dX5_takeBack_14 : decode cX5_takeBack 14 = .ok (.iconst 1, 1) := by decide +kernel
theorem dX5_takeBack_15 : decode cX5_takeBack 15 = .ok (.isub, 1) := by decide +kernel
theorem dX5_takeBack_16 : decode cX5_takeBack 16 = .ok (.putfield 34, 3) := by decide +kernel
theorem dX5_takeBack_19 : decode cX5_takeBack 19 = .ok (.aload_n 0, 1) := by decide +kernel
theorem dX5_takeBack_20 : decode cX5_takeBack 20 = .ok (.getfield 23, 3) := by decide +kernel
theorem dX5_takeBack_23 : decode cX5_takeBack 23 = .ok (.aload_n 0, 1) := by decide +kernel
theorem dX5_takeBack_24 : decode cX5_takeBack 24 = .ok (.getfield 34, 3) := by decide +kernel
theorem dX5_takeBack_27 : decode cX5_takeBack 27 = .ok (.iaload, 1) := by decide +kernel
theorem dX5_takeBack_28 : decode cX5_takeBack 28 = .ok (.istore_n 1, 1) := by decide +kernel
theorem dX5_takeBack_29 : decode cX5_takeBack 29 = .ok (.aload_n 0, 1) := by decide +kernel
theorem dX5_takeBack_30 : decode cX5_takeBack 30 = .ok (.getfield 14, 3) := by decide +kernel
theorem dX5_takeBack_33 : decode cX5_takeBack 33 = .ok (.iload_n 1, 1) := by decide +kernel
theorem dX5_takeBack_34 : decode cX5_takeBack 34 = .ok (.aload_n 0, 1) := by decide +kernel
theorem dX5_takeBack_35 : decode cX5_takeBack 35 = .ok (.getfield 27, 3) := by decide +kernel
theorem dX5_takeBack_38 : decode cX5_takeBack 38 = .ok (.aload_n 0, 1) := by decide +kernel
theorem dX5_takeBack_39 : decode cX5_takeBack 39 = .ok (.getfield 34, 3) := by decide +kernel
theorem dX5_takeBack_42 : decode cX5_takeBack 42 = .ok (.iaload, 1) := by decide +kernel
theorem dX5_takeBack_43 : decode cX5_takeBack 43 = .ok (.invokevirtual 56, 3) := by decide +kernel
theorem dX5_takeBack_46 : decode cX5_takeBack 46 = .ok (.iload_n 1, 1) := by decide +kernel
theorem dX5_takeBack_47 : decode cX5_takeBack 47 = .ok (.ireturn, 1) := by decide +kernel
theorem dX5_isNoted_0 : decode cX5_isNoted 0 = .ok (.iconst 0, 1) := by decide +kernel
theorem dX5_isNoted_1 : decode cX5_isNoted 1 = .ok (.istore_n 2, 1) := by decide +kernel
theorem dX5_isNoted_2 : decode cX5_isNoted 2 = .ok (.iload_n 2, 1) := by decide +kernel
theorem dX5_isNoted_3 : decode cX5_isNoted 3 = .ok (.aload_n 0, 1) := by decide +kernel
theorem dX5_isNoted_4 : decode cX5_isNoted 4 = .ok (.getfield 34, 3) := by decide +kernel
theorem dX5_isNoted_7 : decode cX5_isNoted 7 = .ok (.if_icmp .ge 21, 3) := by decide +kernel
theorem dX5_isNoted_10 : decode cX5_isNoted 10 = .ok (.aload_n 0, 1) := by decide +kernel
theorem dX5_isNoted_11 : decode cX5_isNoted 11 = .ok (.getfield 23, 3) := by decide +kernel
theorem dX5_isNoted_14 : decode cX5_isNoted 14 = .ok (.iload_n 2, 1) := by decide +kernel
theorem dX5_isNoted_15 : decode cX5_isNoted 15 = .ok (.iaload, 1) := by decide +kernel
theorem dX5_isNoted_16 : decode cX5_isNoted 16 = .ok (.iload_n 1, 1) := by decide +kernel
theorem dX5_isNoted_17 : decode cX5_isNoted 17 = .ok (.if_icmp .ne 5, 3) := by decide +kernel
theorem dX5_isNoted_20 : decode cX5_isNoted 20 = .ok (.iconst 1, 1) := by decide +kernel
theorem dX5_isNoted_21 : decode cX5_isNoted 21 = .ok (.ireturn, 1) := by decide +kernel
theorem dX5_isNoted_22 : decode cX5_isNoted 22 = .ok (.iinc 2 1, 3) := by decide +kernel
theorem dX5_isNoted_25 : decode cX5_isNoted 25 = .ok (.goto (-23), 3) := by decide +kernel
theorem dX5_isNoted_28 : decode cX5_isNoted 28 = .ok (.iconst 0, 1) := by decide +kernel
theorem dX5_isNoted_29 : decode cX5_isNoted 29 = .ok (.ireturn, 1) := by decide +kernel
set_option maxRecDepth 20000 in
theorem ggX5_nameLooks_X4_many : GoodIn wsX5_nameLooks wsX4_many := goodIn_r _ [7, 8, 25, 26] (by decide +kernel) (by decide +kernel)
set_option maxRecDepth 20000 in
theorem gX5_nameLooks_X4_many : GoodIn wsX5_nameLooks (wsV RX5 41 RX4 yX4_many wsX4_many) := goodIn_app (goodIn_of _ (by decide +kernel)) ggX5_nameLooks_X4_many
set_option maxRecDepth 20000 in
theorem ggX5_nameLooks_X5_firstLike : GoodIn wsX5_nameLooks wsX5_firstLike := goodIn_r _ [13, 1, 14, 15, 16, 6, 17, 8, 18, 19, 20, 21, 22, 23, 24, 25, 26] (by decide +kernel) (by decide +kernel)
set_option maxRecDepth 20000 in
theorem gX5_nameLooks_X5_firstLike : GoodIn wsX5_nameLooks (wsV RX5 59 RX5 yX5_firstLike wsX5_firstLike) := goodIn_app (goodIn_of _ (by decide +kernel)) ggX5_nameLooks_X5_firstLike
theorem dX5_nameLooks_0 : decode cX5_nameLooks 0 = .ok (.iconst 0, 1) := by decide +kernel
theorem dX5_nameLooks_1 : decode cX5_nameLooks 1 = .ok (.istore_n 1, 1) := by decide +kernel
theorem dX5_nameLooks_2 : decode cX5_nameLooks 2 = .ok (.iconst 0, 1) := by decide +kernel
theorem dX5_nameLooks_3 : decode cX5_nameLooks 3 = .ok (.istore_n 2, 1) := by decide +kernel
theorem dX5_nameLooks_4 : decode cX5_nameLooks 4 = .ok (.iload_n 2, 1) := by decide +kernel
theorem dX5_nameLooks_5 : decode cX5_nameLooks 5 = .ok (.aload_n 0, 1) := by decide +kernel
theorem dX5_nameLooks_6 : decode cX5_nameLooks 6 = .ok (.getfield 14, 3) := by decide +kernel
theorem dX5_nameLooks_9 : decode cX5_nameLooks 9 = .ok (.invokevirtual 41, 3) := by decide +kernel
theorem dX5_nameLooks_12 : decode cX5_nameLooks 12 = .ok (.if_icmp .ge 60, 3) := by decide +kernel
theorem dX5_nameLooks_15 : decode cX5_nameLooks 15 = .ok (.aload_n 0, 1) := by decide +kernel
theorem dX5_nameLooks_16 : decode cX5_nameLooks 16 = .ok (.iload_n 2, 1) := by decide +kernel
theorem dX5_nameLooks_17 : decode cX5_nameLooks 17 = .ok (.invokevirtual 59, 3) := by decide +kernel
theorem dX5_nameLooks_20 : decode cX5_nameLooks 20 = .ok (.istore_n 3, 1) := by decide +kernel
theorem dX5_nameLooks_21 : decode cX5_nameLooks 21 = .ok (.iload_n 3, 1) := by decide +kernel
theorem dX5_nameLooks_22 : decode cX5_nameLooks 22 = .ok (.iload_n 2, 1) := by decide +kernel
theorem dX5_nameLooks_23 : decode cX5_nameLooks 23 = .ok (.if_icmp .ge 18, 3) := by decide +kernel
theorem dX5_nameLooks_26 : decode cX5_nameLooks 26 = .ok (.aload_n 0, 1) := by decide +kernel
theorem dX5_nameLooks_27 : decode cX5_nameLooks 27 = .ok (.getfield 30, 3) := by decide +kernel
theorem dX5_nameLooks_30 : decode cX5_nameLooks 30 = .ok (.iload_n 2, 1) := by decide +kernel
theorem dX5_nameLooks_31 : decode cX5_nameLooks 31 = .ok (.aload_n 0, 1) := by decide +kernel
theorem dX5_nameLooks_32 : decode cX5_nameLooks 32 = .ok (.getfield 30, 3) := by decide +kernel
theorem dX5_nameLooks_35 : decode cX5_nameLooks 35 = .ok (.iload_n 3, 1) := by decide +kernel
theorem dX5_nameLooks_36 : decode cX5_nameLooks 36 = .ok (.caload, 1) := by decide +kernel
theorem dX5_nameLooks_37 : decode cX5_nameLooks 37 = .ok (.castore, 1) := by decide +kernel
theorem dX5_nameLooks_38 : decode cX5_nameLooks 38 = .ok (.goto 28, 3) := by decide +kernel
theorem dX5_nameLooks_41 : decode cX5_nameLooks 41 = .ok (.aload_n 0, 1) := by decide +kernel
theorem dX5_nameLooks_42 : decode cX5_nameLooks 42 = .ok (.getfield 30, 3) := by decide +kernel
theorem dX5_nameLooks_45 : decode cX5_nameLooks 45 = .ok (.iload_n 2, 1) := by decide +kernel
theorem dX5_nameLooks_46 : decode cX5_nameLooks 46 = .ok (.iload_n 1, 1) := by decide +kernel
theorem dX5_nameLooks_47 : decode cX5_nameLooks 47 = .ok (.bipush 26, 2) := by decide +kernel
theorem dX5_nameLooks_49 : decode cX5_nameLooks 49 = .ok (.if_icmp .ge 11, 3) := by decide +kernel
theorem dX5_nameLooks_52 : decode cX5_nameLooks 52 = .ok (.bipush 97, 2) := by decide +kernel
theorem dX5_nameLooks_54 : decode cX5_nameLooks 54 = .ok (.iload_n 1, 1) := by decide +kernel
theorem dX5_nameLooks_55 : decode cX5_nameLooks 55 = .ok (.iadd, 1) := by decide +kernel
theorem dX5_nameLooks_56 : decode cX5_nameLooks 56 = .ok (.i2c, 1) := by decide +kernel
theorem dX5_nameLooks_57 : decode cX5_nameLooks 57 = .ok (.goto 5, 3) := by decide +kernel
theorem dX5_nameLooks_60 : decode cX5_nameLooks 60 = .ok (.bipush 63, 2) := by decide +kernel
theorem dX5_nameLooks_62 : decode cX5_nameLooks 62 = .ok (.castore, 1) := by decide +kernel
theorem dX5_nameLooks_63 : decode cX5_nameLooks 63 = .ok (.iinc 1 1, 3) := by decide +kernel
theorem dX5_nameLooks_66 : decode cX5_nameLooks 66 = .ok (.iinc 2 1, 3) := by decide +kernel
theorem dX5_nameLooks_69 : decode cX5_nameLooks 69 = .ok (.goto (-65), 3) := by decide +kernel
theorem dX5_nameLooks_72 : decode cX5_nameLooks 72 = .ok (.aload_n 0, 1) := by decide +kernel
theorem dX5_nameLooks_73 : decode cX5_nameLooks 73 = .ok (.getfield 14, 3) := by decide +kernel
theorem dX5_nameLooks_76 : decode cX5_nameLooks 76 = .ok (.invokevirtual 41, 3) := by decide +kernel
theorem dX5_nameLooks_79 : decode cX5_nameLooks 79 = .ok (.ireturn, 1) := by decide +kernel
set_option maxRecDepth 20000 in
theorem ggX5_firstLike_X4_at : GoodIn wsX5_firstLike wsX4_at := goodIn_r _ [6, 7, 8, 15, 16] (by decide +kernel) (by decide +kernel)
set_option maxRecDepth 20000 in
theorem gX5_firstLike_X4_at : GoodIn wsX5_firstLike (wsV RX5 45 RX4 yX4_at wsX4_at) := goodIn_app (goodIn_of _ (by decide +kernel)) ggX5_firstLike_X4_at
theorem dX5_firstLike_0 : decode cX5_firstLike 0 = .ok (.iconst 0, 1) := by decide +kernel
theorem dX5_firstLike_1 : decode cX5_firstLike 1 = .ok (.istore_n 2, 1) := by decide +kernel
theorem dX5_firstLike_2 : decode cX5_firstLike 2 = .ok (.iload_n 2, 1) := by decide +kernel
theorem dX5_firstLike_3 : decode cX5_firstLike 3 = .ok (.iload_n 1, 1) := by decide +kernel
theorem dX5_firstLike_4 : decode cX5_firstLike 4 = .ok (.if_icmp .ge 28, 3) := by decide +kernel
theorem dX5_firstLike_7 : decode cX5_firstLike 7 = .ok (.aload_n 0, 1) := by decide +kernel
theorem dX5_firstLike_8 : decode cX5_firstLike 8 = .ok (.getfield 14, 3) := by decide +kernel
theorem dX5_firstLike_11 : decode cX5_firstLike 11 = .ok (.iload_n 2, 1) := by decide +kernel
theorem dX5_firstLike_12 : decode cX5_firstLike 12 = .ok (.invokevirtual 45, 3) := by decide +kernel
theorem dX5_firstLike_15 : decode cX5_firstLike 15 = .ok (.aload_n 0, 1) := by decide +kernel
theorem dX5_firstLike_16 : decode cX5_firstLike 16 = .ok (.getfield 14, 3) := by decide +kernel
theorem dX5_firstLike_19 : decode cX5_firstLike 19 = .ok (.iload_n 1, 1) := by decide +kernel
theorem dX5_firstLike_20 : decode cX5_firstLike 20 = .ok (.invokevirtual 45, 3) := by decide +kernel
theorem dX5_firstLike_23 : decode cX5_firstLike 23 = .ok (.if_icmp .eq 9, 3) := by decide +kernel
theorem dX5_firstLike_26 : decode cX5_firstLike 26 = .ok (.iinc 2 1, 3) := by decide +kernel
theorem dX5_firstLike_29 : decode cX5_firstLike 29 = .ok (.goto (-27), 3) := by decide +kernel
theorem dX5_firstLike_32 : decode cX5_firstLike 32 = .ok (.iload_n 2, 1) := by decide +kernel
theorem dX5_firstLike_33 : decode cX5_firstLike 33 = .ok (.ireturn, 1) := by decide +kernel
