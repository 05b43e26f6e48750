theorem dX0_init_0 : decode cX0_init 0 = .ok (.aload_n 0, 1) := by decide +kernel
theorem dX0_init_1 : decode cX0_init 1 = .ok (.invokespecial 3, 3) := by decide +kernel
theorem dX0_init_4 : decode cX0_init 4 = .ok (.aload_n 0, 1) := by decide +kernel
theorem dX0_init_5 : decode cX0_init 5 = .ok (.bipush 10, 2) := by decide +kernel
theorem dX0_init_7 : decode cX0_init 7 = .ok (.newarray .int, 2) := by decide +kernel
theorem dX0_init_9 : decode cX0_init 9 = .ok (.putfield 9, 3) := by decide +kernel
theorem dX0_init_12 : decode cX0_init 12 = .ok (.aload_n 0, 1) := by decide +kernel
theorem dX0_init_13 : decode cX0_init 13 = .ok (.bipush 10, 2) := by decide +kernel
theorem dX0_init_15 : decode cX0_init 15 = .ok (.newarray .int, 2) := by decide +kernel
theorem dX0_init_17 : decode cX0_init 17 = .ok (.putfield 15, 3) := by decide +kernel
theorem dX0_init_20 : decode cX0_init 20 = .ok (.aload_n 0, 1) := by decide +kernel
theorem dX0_init_21 : decode cX0_init 21 = .ok (.iconst 0, 1) := by decide +kernel
theorem dX0_init_22 : decode cX0_init 22 = .ok (.putfield 18, 3) := by decide +kernel
theorem dX0_init_25 : decode cX0_init 25 = .ok (.return_, 1) := by decide +kernel
theorem dX0_roads_0 : decode cX0_roads 0 = .ok (.aload_n 0, 1) := by decide +kernel
theorem dX0_roads_1 : decode cX0_roads 1 = .ok (.getfield 18, 3) := by decide +kernel
theorem dX0_roads_4 : decode cX0_roads 4 = .ok (.ireturn, 1) := by decide +kernel
set_option maxRecDepth 20000 in
theorem ggX0_joins_X0_nextOverOpen : GoodIn wsX0_joins wsX0_nextOverOpen := goodIn_r _ [5, 6, 7, 8, 9, 10, 16, 17, 18] (by decide +kernel) (by decide +kernel)
set_option maxRecDepth 20000 in
theorem gX0_joins_X0_nextOverOpen : GoodIn wsX0_joins (wsV RX0 22 RX0 yX0_nextOverOpen wsX0_nextOverOpen) := goodIn_app (goodIn_of _ (by decide +kernel)) ggX0_joins_X0_nextOverOpen
set_option maxRecDepth 20000 in
theorem ggX0_joins_X3_has : GoodIn wsX0_joins wsX3_has := goodIn_r _ [12, 13, 14, 9, 15] (by decide +kernel) (by decide +kernel)
set_option maxRecDepth 20000 in
theorem gX0_joins_X3_has_n26 : GoodIn wsX0_joins (wsX3_has) := ggX0_joins_X3_has
theorem dX0_joins_0 : decode cX0_joins 0 = .ok (.aload_n 0, 1) := by decide +kernel
theorem dX0_joins_1 : decode cX0_joins 1 = .ok (.iload_n 1, 1) := by decide +kernel
theorem dX0_joins_2 : decode cX0_joins 2 = .ok (.iconst 0, 1) := by decide +kernel
theorem dX0_joins_3 : decode cX0_joins 3 = .ok (.invokevirtual 22, 3) := by decide +kernel
theorem dX0_joins_6 : decode cX0_joins 6 = .ok (.iload_n 2, 1) := by decide +kernel
theorem dX0_joins_7 : decode cX0_joins 7 = .ok (.invokestatic 26, 3) := by decide +kernel
theorem dX0_joins_10 : decode cX0_joins 10 = .ok (.ireturn, 1) := by decide +kernel
set_option maxRecDepth 20000 in
theorem ggX0_join_X3_below : GoodIn wsX0_join wsX3_below := goodIn_r _ [6] (by decide +kernel) (by decide +kernel)
set_option maxRecDepth 20000 in
theorem gX0_join_X3_below_n30 : GoodIn wsX0_join (wsX3_below) := ggX0_join_X3_below
set_option maxRecDepth 20000 in
theorem ggX0_join_X3_bit : GoodIn wsX0_join wsX3_bit := goodIn_r _ [8] (by decide +kernel) (by decide +kernel)
set_option maxRecDepth 20000 in
theorem gX0_join_X3_bit_n33 : GoodIn wsX0_join (wsX3_bit) := ggX0_join_X3_bit
theorem dX0_join_0 : decode cX0_join 0 = .ok (.iload_n 1, 1) := by decide +kernel
theorem dX0_join_1 : decode cX0_join 1 = .ok (.bipush 10, 2) := by decide +kernel
theorem dX0_join_3 : decode cX0_join 3 = .ok (.invokestatic 30, 3) := by decide +kernel
theorem dX0_join_6 : decode cX0_join 6 = .ok (.ifCond .eq 12, 3) := by decide +kernel
theorem dX0_join_9 : decode cX0_join 9 = .ok (.iload_n 2, 1) := by decide +kernel
theorem dX0_join_10 : decode cX0_join 10 = .ok (.bipush 10, 2) := by decide +kernel
theorem dX0_join_12 : decode cX0_join 12 = .ok (.invokestatic 30, 3) := by decide +kernel
theorem dX0_join_15 : decode cX0_join 15 = .ok (.ifCond .ne 4, 3) := by decide +kernel
theorem dX0_join_18 : decode cX0_join 18 = .ok (.return_, 1) := by decide +kernel
theorem dX0_join_19 : decode cX0_join 19 = .ok (.iload_n 3, 1) := by decide +kernel
theorem dX0_join_20 : decode cX0_join 20 = .ok (.ifCond .eq 10, 3) := by decide +kernel
theorem dX0_join_23 : decode cX0_join 23 = .ok (.aload_n 0, 1) := by decide +kernel
theorem dX0_join_24 : decode cX0_join 24 = .ok (.getfield 9, 3) := by decide +kernel
theorem dX0_join_27 : decode cX0_join 27 = .ok (.goto 7, 3) := by decide +kernel
theorem dX0_join_30 : decode cX0_join 30 = .ok (.aload_n 0, 1) := by decide +kernel
theorem dX0_join_31 : decode cX0_join 31 = .ok (.getfield 15, 3) := by decide +kernel
theorem dX0_join_34 : decode cX0_join 34 = .ok (.astore 4, 2) := by decide +kernel
theorem dX0_join_36 : decode cX0_join 36 = .ok (.aload 4, 2) := by decide +kernel
theorem dX0_join_38 : decode cX0_join 38 = .ok (.iload_n 1, 1) := by decide +kernel
theorem dX0_join_39 : decode cX0_join 39 = .ok (.dup2, 1) := by decide +kernel
theorem dX0_join_40 : decode cX0_join 40 = .ok (.iaload, 1) := by decide +kernel
theorem dX0_join_41 : decode cX0_join 41 = .ok (.iload_n 2, 1) := by decide +kernel
theorem dX0_join_42 : decode cX0_join 42 = .ok (.invokestatic 33, 3) := by decide +kernel
theorem dX0_join_45 : decode cX0_join 45 = .ok (.ior, 1) := by decide +kernel
theorem dX0_join_46 : decode cX0_join 46 = .ok (.iastore, 1) := by decide +kernel
theorem dX0_join_47 : decode cX0_join 47 = .ok (.aload 4, 2) := by decide +kernel
theorem dX0_join_49 : decode cX0_join 49 = .ok (.iload_n 2, 1) := by decide +kernel
theorem dX0_join_50 : decode cX0_join 50 = .ok (.dup2, 1) := by decide +kernel
theorem dX0_join_51 : decode cX0_join 51 = .ok (.iaload, 1) := by decide +kernel
theorem dX0_join_52 : decode cX0_join 52 = .ok (.iload_n 1, 1) := by decide +kernel
theorem dX0_join_53 : decode cX0_join 53 = .ok (.invokestatic 33, 3) := by decide +kernel
theorem dX0_join_56 : decode cX0_join 56 = .ok (.ior, 1) := by decide +kernel
theorem dX0_join_57 : decode cX0_join 57 = .ok (.iastore, 1) := by decide +kernel
theorem dX0_join_58 : decode cX0_join 58 = .ok (.aload_n 0, 1) := by decide +kernel
theorem dX0_join_59 : decode cX0_join 59 = .ok (.dup, 1) := by decide +kernel
theorem dX0_join_60 : decode cX0_join 60 = .ok (.getfield 18, 3) := by decide +kernel
theorem dX0_join_63 : decode cX0_join 63 = .ok (.iconst 1, 1) := by decide +kernel
theorem dX0_join_64 : decode cX0_join 64 = .ok (.iadd, 1) := by decide +kernel
theorem dX0_join_65 : decode cX0_join 65 = .ok (.putfield 18, 3) := by decide +kernel
theorem dX0_join_68 : decode cX0_join 68 = .ok (.return_, 1) := by decide +kernel
set_option maxRecDepth 20000 in
theorem ggX0_nextOverOpen_X3_below : GoodIn wsX0_nextOverOpen wsX3_below := goodIn_r _ [5] (by decide +kernel) (by decide +kernel)
set_option maxRecDepth 20000 in
theorem gX0_nextOverOpen_X3_below_n30 : GoodIn wsX0_nextOverOpen (wsX3_below) := ggX0_nextOverOpen_X3_below
theorem dX0_nextOverOpen_0 : decode cX0_nextOverOpen 0 = .ok (.iload_n 1, 1) := by decide +kernel
theorem dX0_nextOverOpen_1 : decode cX0_nextOverOpen 1 = .ok (.bipush 10, 2) := by decide +kernel
theorem dX0_nextOverOpen_3 : decode cX0_nextOverOpen 3 = .ok (.invokestatic 30, 3) := by decide +kernel
theorem dX0_nextOverOpen_6 : decode cX0_nextOverOpen 6 = .ok (.ifCond .eq 8, 3) := by decide +kernel
theorem dX0_nextOverOpen_9 : decode cX0_nextOverOpen 9 = .ok (.iload_n 2, 1) := by decide +kernel
theorem dX0_nextOverOpen_10 : decode cX0_nextOverOpen 10 = .ok (.iconst 2, 1) := by decide +kernel
theorem dX0_nextOverOpen_11 : decode cX0_nextOverOpen 11 = .ok (.if_icmp .ne 5, 3) := by decide +kernel
theorem dX0_nextOverOpen_14 : decode cX0_nextOverOpen 14 = .ok (.iconst 0, 1) := by decide +kernel
theorem dX0_nextOverOpen_15 : decode cX0_nextOverOpen 15 = .ok (.ireturn, 1) := by decide +kernel
theorem dX0_nextOverOpen_16 : decode cX0_nextOverOpen 16 = .ok (.iload_n 2, 1) := by decide +kernel
theorem dX0_nextOverOpen_17 : decode cX0_nextOverOpen 17 = .ok (.iconst 1, 1) := by decide +kernel
theorem dX0_nextOverOpen_18 : decode cX0_nextOverOpen 18 = .ok (.if_icmp .ne 12, 3) := by decide +kernel
theorem dX0_nextOverOpen_21 : decode cX0_nextOverOpen 21 = .ok (.aload_n 0, 1) := by decide +kernel
theorem dX0_nextOverOpen_22 : decode cX0_nextOverOpen 22 = .ok (.getfield 9, 3) := by decide +kernel
theorem dX0_nextOverOpen_25 : decode cX0_nextOverOpen 25 = .ok (.iload_n 1, 1) := by decide +kernel
theorem dX0_nextOverOpen_26 : decode cX0_nextOverOpen 26 = .ok (.iaload, 1) := by decide +kernel
theorem dX0_nextOverOpen_27 : decode cX0_nextOverOpen 27 = .ok (.goto 16, 3) := by decide +kernel
theorem dX0_nextOverOpen_30 : decode cX0_nextOverOpen 30 = .ok (.aload_n 0, 1) := by decide +kernel
theorem dX0_nextOverOpen_31 : decode cX0_nextOverOpen 31 = .ok (.getfield 9, 3) := by decide +kernel
theorem dX0_nextOverOpen_34 : decode cX0_nextOverOpen 34 = .ok (.iload_n 1, 1) := by decide +kernel
theorem dX0_nextOverOpen_35 : decode cX0_nextOverOpen 35 = .ok (.iaload, 1) := by decide +kernel
theorem dX0_nextOverOpen_36 : decode cX0_nextOverOpen 36 = .ok (.aload_n 0, 1) := by decide +kernel
theorem dX0_nextOverOpen_37 : decode cX0_nextOverOpen 37 = .ok (.getfield 15, 3) := by decide +kernel
theorem dX0_nextOverOpen_40 : decode cX0_nextOverOpen 40 = .ok (.iload_n 1, 1) := by decide +kernel
theorem dX0_nextOverOpen_41 : decode cX0_nextOverOpen 41 = .ok (.iaload, 1) := by decide +kernel
theorem dX0_nextOverOpen_42 : decode cX0_nextOverOpen 42 = .ok (.ior, 1) := by decide +kernel
theorem dX0_nextOverOpen_43 : decode cX0_nextOverOpen 43 = .ok (.ireturn, 1) := by decide +kernel
set_option maxRecDepth 20000 in
theorem ggX0_widened_X3_has : GoodIn wsX0_widened wsX3_has := goodIn_r _ [3, 4, 5, 2, 6] (by decide +kernel) (by decide +kernel)
set_option maxRecDepth 20000 in
theorem gX0_widened_X3_has_n26 : GoodIn wsX0_widened (wsX3_has) := ggX0_widened_X3_has
set_option maxRecDepth 20000 in
theorem ggX0_widened_X0_nextOverOpen : GoodIn wsX0_widened wsX0_nextOverOpen := goodIn_r _ [11, 12, 13, 14, 2, 15, 16, 17, 18] (by decide +kernel) (by decide +kernel)
set_option maxRecDepth 20000 in
theorem gX0_widened_X0_nextOverOpen : GoodIn wsX0_widened (wsV RX0 22 RX0 yX0_nextOverOpen wsX0_nextOverOpen) := goodIn_app (goodIn_of _ (by decide +kernel)) ggX0_widened_X0_nextOverOpen
theorem dX0_widened_0 : decode cX0_widened 0 = .ok (.iload_n 1, 1) := by decide +kernel
theorem dX0_widened_1 : decode cX0_widened 1 = .ok (.istore_n 3, 1) := by decide +kernel
theorem dX0_widened_2 : decode cX0_widened 2 = .ok (.iconst 0, 1) := by decide +kernel
theorem dX0_widened_3 : decode cX0_widened 3 = .ok (.istore 4, 2) := by decide +kernel
theorem dX0_widened_5 : decode cX0_widened 5 = .ok (.iload 4, 2) := by decide +kernel
theorem dX0_widened_7 : decode cX0_widened 7 = .ok (.bipush 10, 2) := by decide +kernel
theorem dX0_widened_9 : decode cX0_widened 9 = .ok (.if_icmp .ge 28, 3) := by decide +kernel
theorem dX0_widened_12 : decode cX0_widened 12 = .ok (.iload_n 1, 1) := by decide +kernel
theorem dX0_widened_13 : decode cX0_widened 13 = .ok (.iload 4, 2) := by decide +kernel
theorem dX0_widened_15 : decode cX0_widened 15 = .ok (.invokestatic 26, 3) := by decide +kernel
theorem dX0_widened_18 : decode cX0_widened 18 = .ok (.ifCond .eq 13, 3) := by decide +kernel
theorem dX0_widened_21 : decode cX0_widened 21 = .ok (.iload_n 3, 1) := by decide +kernel
theorem dX0_widened_22 : decode cX0_widened 22 = .ok (.aload_n 0, 1) := by decide +kernel
theorem dX0_widened_23 : decode cX0_widened 23 = .ok (.iload 4, 2) := by decide +kernel
theorem dX0_widened_25 : decode cX0_widened 25 = .ok (.iload_n 2, 1) := by decide +kernel
theorem dX0_widened_26 : decode cX0_widened 26 = .ok (.invokevirtual 22, 3) := by decide +kernel
theorem dX0_widened_29 : decode cX0_widened 29 = .ok (.ior, 1) := by decide +kernel
theorem dX0_widened_30 : decode cX0_widened 30 = .ok (.istore_n 3, 1) := by decide +kernel
theorem dX0_widened_31 : decode cX0_widened 31 = .ok (.iinc 4 1, 3) := by decide +kernel
theorem dX0_widened_34 : decode cX0_widened 34 = .ok (.goto (-29), 3) := by decide +kernel
theorem dX0_widened_37 : decode cX0_widened 37 = .ok (.iload_n 3, 1) := by decide +kernel
theorem dX0_widened_38 : decode cX0_widened 38 = .ok (.ireturn, 1) := by decide +kernel
theorem dX1_init_0 : decode cX1_init 0 = .ok (.aload_n 0, 1) := by decide +kernel
theorem dX1_init_1 : decode cX1_init 1 = .ok (.invokespecial 3, 3) := by decide +kernel
theorem dX1_init_4 : decode cX1_init 4 = .ok (.aload_n 0, 1) := by decide +kernel
theorem dX1_init_5 : decode cX1_init 5 = .ok (.sipush 512, 3) := by decide +kernel
theorem dX1_init_8 : decode cX1_init 8 = .ok (.newarray .int, 2) := by decide +kernel
theorem dX1_init_10 : decode cX1_init 10 = .ok (.putfield 9, 3) := by decide +kernel
theorem dX1_init_13 : decode cX1_init 13 = .ok (.aload_n 0, 1) := by decide +kernel
theorem dX1_init_14 : decode cX1_init 14 = .ok (.sipush 512, 3) := by decide +kernel
theorem dX1_init_17 : decode cX1_init 17 = .ok (.newarray .int, 2) := by decide +kernel
theorem dX1_init_19 : decode cX1_init 19 = .ok (.putfield 15, 3) := by decide +kernel
theorem dX1_init_22 : decode cX1_init 22 = .ok (.aload_n 0, 1) := by decide +kernel
theorem dX1_init_23 : decode cX1_init 23 = .ok (.iconst 0, 1) := by decide +kernel
theorem dX1_init_24 : decode cX1_init 24 = .ok (.putfield 18, 3) := by decide +kernel
theorem dX1_init_27 : decode cX1_init 27 = .ok (.return_, 1) := by decide +kernel
theorem dX2_init_0 : decode cX2_init 0 = .ok (.aload_n 0, 1) := by decide +kernel
theorem dX2_init_1 : decode cX2_init 1 = .ok (.invokespecial 3, 3) := by decide +kernel
theorem dX2_init_4 : decode cX2_init 4 = .ok (.aload_n 0, 1) := by decide +kernel
theorem dX2_init_5 : decode cX2_init 5 = .ok (.bipush 12, 2) := by decide +kernel
theorem dX2_init_7 : decode cX2_init 7 = .ok (.newarray .int, 2) := by decide +kernel
theorem dX2_init_9 : decode cX2_init 9 = .ok (.putfield 9, 3) := by decide +kernel
theorem dX2_init_12 : decode cX2_init 12 = .ok (.aload_n 0, 1) := by decide +kernel
theorem dX2_init_13 : decode cX2_init 13 = .ok (.sipush 264, 3) := by decide +kernel
theorem dX2_init_16 : decode cX2_init 16 = .ok (.newarray .int, 2) := by decide +kernel
theorem dX2_init_18 : decode cX2_init 18 = .ok (.putfield 15, 3) := by decide +kernel
theorem dX2_init_21 : decode cX2_init 21 = .ok (.aload_n 0, 1) := by decide +kernel
theorem dX2_init_22 : decode cX2_init 22 = .ok (.sipush 264, 3) := by decide +kernel
theorem dX2_init_25 : decode cX2_init 25 = .ok (.newarray .int, 2) := by decide +kernel
theorem dX2_init_27 : decode cX2_init 27 = .ok (.putfield 18, 3) := by decide +kernel
theorem dX2_init_30 : decode cX2_init 30 = .ok (.aload_n 0, 1) := by decide +kernel
theorem dX2_init_31 : decode cX2_init 31 = .ok (.sipush 264, 3) := by decide +kernel
theorem dX2_init_34 : decode cX2_init 34 = .ok (.newarray .int, 2) := by decide +kernel
theorem dX2_init_36 : decode cX2_init 36 = .ok (.putfield 21, 3) := by decide +kernel
theorem dX2_init_39 : decode cX2_init 39 = .ok (.aload_n 0, 1) := by decide +kernel
theorem dX2_init_40 : decode cX2_init 40 = .ok (.iconst 0, 1) := by decide +kernel
theorem dX2_init_41 : decode cX2_init 41 = .ok (.putfield 24, 3) := by decide +kernel
theorem dX2_init_44 : decode cX2_init 44 = .ok (.return_, 1) := by decide +kernel
theorem dX2_count_0 : decode cX2_count 0 = .ok (.aload_n 0, 1) := by decide +kernel
theorem dX2_count_1 : decode cX2_count 1 = .ok (.getfield 24, 3) := by decide +kernel
theorem dX2_count_4 : decode cX2_count 4 = .ok (.ireturn, 1) := by decide +kernel
set_option maxRecDepth 20000 in
theorem ggX2_add_X3_below : GoodIn wsX2_add wsX3_below := goodIn_r _ [5] (by decide +kernel) (by decide +kernel)
set_option maxRecDepth 20000 in
theorem gX2_add_X3_below_n28 : GoodIn wsX2_add (wsX3_below) := ggX2_add_X3_below
set_option maxRecDepth 20000 in
theorem ggX2_add_X2_place : GoodIn wsX2_add wsX2_place := goodIn_r _ [10, 11, 12, 13, 14, 15, 16, 17, 18, 9, 19, 20, 21, 22, 23, 24, 25, 26, 27] (by decide +kernel) (by decide +kernel)
set_option maxRecDepth 20000 in
theorem gX2_add_X2_place : GoodIn wsX2_add (wsV RX2 32 RX2 yX2_place wsX2_place) := goodIn_app (goodIn_of _ (by decide +kernel)) ggX2_add_X2_place
theorem dX2_add_0 : decode cX2_add 0 = .ok (.aload_n 0, 1) := by decide +kernel
theorem dX2_add_1 : decode cX2_add 1 = .ok (.getfield 24, 3) := by decide +kernel
theorem dX2_add_4 : decode cX2_add 4 = .ok (.istore 4, 2) := by decide +kernel
theorem dX2_add_6 : decode cX2_add 6 = .ok (.iload 4, 2) := by decide +kernel
theorem dX2_add_8 : decode cX2_add 8 = .ok (.bipush 12, 2) := by decide +kernel
theorem dX2_add_10 : decode cX2_add 10 = .ok (.invokestatic 28, 3) := by decide +kernel
theorem dX2_add_13 : decode cX2_add 13 = .ok (.ifCond .ne 5, 3) := by decide +kernel
theorem dX2_add_16 : decode cX2_add 16 = .ok (.iconst (-1), 1) := by decide +kernel
theorem dX2_add_17 : decode cX2_add 17 = .ok (.ireturn, 1) := by decide +kernel
theorem dX2_add_18 : decode cX2_add 18 = .ok (.aload_n 0, 1) := by decide +kernel
theorem dX2_add_19 : decode cX2_add 19 = .ok (.getfield 9, 3) := by decide +kernel
theorem dX2_add_22 : decode cX2_add 22 = .ok (.iload 4, 2) := by decide +kernel
theorem dX2_add_24 : decode cX2_add 24 = .ok (.iload_n 1, 1) := by decide +kernel
theorem dX2_add_25 : decode cX2_add 25 = .ok (.iastore, 1) := by decide +kernel
theorem dX2_add_26 : decode cX2_add 26 = .ok (.aload_n 0, 1) := by decide +kernel
theorem dX2_add_27 : decode cX2_add 27 = .ok (.iload 4, 2) := by decide +kernel
theorem dX2_add_29 : decode cX2_add 29 = .ok (.iconst 1, 1) := by decide +kernel
theorem dX2_add_30 : decode cX2_add 30 = .ok (.iadd, 1) := by decide +kernel
theorem dX2_add_31 : decode cX2_add 31 = .ok (.putfield 24, 3) := by decide +kernel
theorem dX2_add_34 : decode cX2_add 34 = .ok (.aload_n 0, 1) := by decide +kernel
theorem dX2_add_35 : decode cX2_add 35 = .ok (.iconst 0, 1) := by decide +kernel
theorem dX2_add_36 : decode cX2_add 36 = .ok (.iload 4, 2) := by decide +kernel
theorem dX2_add_38 : decode cX2_add 38 = .ok (.iload_n 2, 1) := by decide +kernel
theorem dX2_add_39 : decode cX2_add 39 = .ok (.iload_n 3, 1) := by decide +kernel
theorem dX2_add_40 : decode cX2_add 40 = .ok (.invokevirtual 32, 3) := by decide +kernel
theorem dX2_add_43 : decode cX2_add 43 = .ok (.iload 4, 2) := by decide +kernel
theorem dX2_add_45 : decode cX2_add 45 = .ok (.ireturn, 1) := by decide +kernel
set_option maxRecDepth 20000 in
theorem ggX2_sideOf_X3_below : GoodIn wsX2_sideOf wsX3_below := goodIn_r _ [4] (by decide +kernel) (by decide +kernel)
set_option maxRecDepth 20000 in
theorem gX2_sideOf_X3_below_n28 : GoodIn wsX2_sideOf (wsX3_below) := ggX2_sideOf_X3_below
theorem dX2_sideOf_0 : decode cX2_sideOf 0 = .ok (.iload_n 1, 1) := by decide +kernel
theorem dX2_sideOf_1 : decode cX2_sideOf 1 = .ok (.bipush 12, 2) := by decide +kernel
theorem dX2_sideOf_3 : decode cX2_sideOf 3 = .ok (.invokestatic 28, 3) := by decide +kernel
theorem dX2_sideOf_6 : decode cX2_sideOf 6 = .ok (.ifCond .eq 12, 3) := by decide +kernel
theorem dX2_sideOf_9 : decode cX2_sideOf 9 = .ok (.aload_n 0, 1) := by decide +kernel
theorem dX2_sideOf_10 : decode cX2_sideOf 10 = .ok (.getfield 9, 3) := by decide +kernel
theorem dX2_sideOf_13 : decode cX2_sideOf 13 = .ok (.iload_n 1, 1) := by decide +kernel
theorem dX2_sideOf_14 : decode cX2_sideOf 14 = .ok (.iaload, 1) := by decide +kernel
theorem dX2_sideOf_15 : decode cX2_sideOf 15 = .ok (.goto 4, 3) := by decide +kernel
theorem dX2_sideOf_18 : decode cX2_sideOf 18 = .ok (.iconst (-1), 1) := by decide +kernel
theorem dX2_sideOf_19 : decode cX2_sideOf 19 = .ok (.ireturn, 1) := by decide +kernel
set_option maxRecDepth 20000 in
theorem ggX2_townAt_X2_isKept : GoodIn wsX2_townAt wsX2_isKept := goodIn_r _ [5] (by decide +kernel) (by decide +kernel)
set_option maxRecDepth 20000 in
theorem gX2_townAt_X2_isKept : GoodIn wsX2_townAt (va_wsS RX2 36 yX2_isKept wsX2_isKept) := goodIn_app (goodIn_of _ (by decide +kernel)) ggX2_townAt_X2_isKept
set_option maxRecDepth 20000 in
theorem ggX2_townAt_X2_index : GoodIn wsX2_townAt wsX2_index := goodIn_r _ [8] (by decide +kernel) (by decide +kernel)
set_option maxRecDepth 20000 in
theorem gX2_townAt_X2_index : GoodIn wsX2_townAt (va_wsS RX2 39 yX2_index wsX2_index) := goodIn_app (goodIn_of _ (by decide +kernel)) ggX2_townAt_X2_index
theorem dX2_townAt_0 : decode cX2_townAt 0 = .ok (.iload_n 1, 1) := by decide +kernel
theorem dX2_townAt_1 : decode cX2_townAt 1 = .ok (.iload_n 2, 1) := by decide +kernel
theorem dX2_townAt_2 : decode cX2_townAt 2 = .ok (.invokestatic 36, 3) := by decide +kernel
theorem dX2_townAt_5 : decode cX2_townAt 5 = .ok (.ifCond .eq 16, 3) := by decide +kernel
theorem dX2_townAt_8 : decode cX2_townAt 8 = .ok (.aload_n 0, 1) := by decide +kernel
theorem dX2_townAt_9 : decode cX2_townAt 9 = .ok (.getfield 15, 3) := by decide +kernel
theorem dX2_townAt_12 : decode cX2_townAt 12 = .ok (.iload_n 1, 1) := by decide +kernel
theorem dX2_townAt_13 : decode cX2_townAt 13 = .ok (.iload_n 2, 1) := by decide +kernel
theorem dX2_townAt_14 : decode cX2_townAt 14 = .ok (.invokestatic 39, 3) := by decide +kernel
theorem dX2_townAt_17 : decode cX2_townAt 17 = .ok (.iaload, 1) := by decide +kernel
theorem dX2_townAt_18 : decode cX2_townAt 18 = .ok (.goto 4, 3) := by decide +kernel
theorem dX2_townAt_21 : decode cX2_townAt 21 = .ok (.iconst (-1), 1) := by decide +kernel
theorem dX2_townAt_22 : decode cX2_townAt 22 = .ok (.ireturn, 1) := by decide +kernel
set_option maxRecDepth 20000 in
theorem ggX2_strengthAt_X2_isKept : GoodIn wsX2_strengthAt wsX2_isKept := goodIn_r _ [5] (by decide +kernel) (by decide +kernel)
set_option maxRecDepth 20000 in
theorem gX2_strengthAt_X2_isKept : GoodIn wsX2_strengthAt (va_wsS RX2 36 yX2_isKept wsX2_isKept) := goodIn_app (goodIn_of _ (by decide +kernel)) ggX2_strengthAt_X2_isKept
set_option maxRecDepth 20000 in
theorem ggX2_strengthAt_X2_index : GoodIn wsX2_strengthAt wsX2_index := goodIn_r _ [8] (by decide +kernel) (by decide +kernel)
set_option maxRecDepth 20000 in
theorem gX2_strengthAt_X2_index : GoodIn wsX2_strengthAt (va_wsS RX2 39 yX2_index wsX2_index) := goodIn_app (goodIn_of _ (by decide +kernel)) ggX2_strengthAt_X2_index
theorem dX2_strengthAt_0 : decode cX2_strengthAt 0 = .ok (.iload_n 1, 1) := by decide +kernel
theorem dX2_strengthAt_1 : decode cX2_strengthAt 1 = .ok (.iload_n 2, 1) := by decide +kernel
theorem dX2_strengthAt_2 : decode cX2_strengthAt 2 = .ok (.invokestatic 36, 3) := by decide +kernel
theorem dX2_strengthAt_5 : decode cX2_strengthAt 5 = .ok (.ifCond .eq 16, 3) := by decide +kernel
theorem dX2_strengthAt_8 : decode cX2_strengthAt 8 = .ok (.aload_n 0, 1) := by decide +kernel
theorem dX2_strengthAt_9 : decode cX2_strengthAt 9 = .ok (.getfield 18, 3) := by decide +kernel
theorem dX2_strengthAt_12 : decode cX2_strengthAt 12 = .ok (.iload_n 1, 1) := by decide +kernel
theorem dX2_strengthAt_13 : decode cX2_strengthAt 13 = .ok (.iload_n 2, 1) := by decide +kernel
theorem dX2_strengthAt_14 : decode cX2_strengthAt 14 = .ok (.invokestatic 39, 3) := by decide +kernel
theorem dX2_strengthAt_17 : decode cX2_strengthAt 17 = .ok (.iaload, 1) := by decide +kernel
theorem dX2_strengthAt_18 : decode cX2_strengthAt 18 = .ok (.goto 4, 3) := by decide +kernel
theorem dX2_strengthAt_21 : decode cX2_strengthAt 21 = .ok (.iconst 0, 1) := by decide +kernel
theorem dX2_strengthAt_22 : decode cX2_strengthAt 22 = .ok (.ireturn, 1) := by decide +kernel
set_option maxRecDepth 20000 in
theorem ggX2_orderFor_X2_isKept : GoodIn wsX2_orderFor wsX2_isKept := goodIn_r _ [5] (by decide +kernel) (by decide +kernel)
set_option maxRecDepth 20000 in
theorem gX2_orderFor_X2_isKept : GoodIn wsX2_orderFor (va_wsS RX2 36 yX2_isKept wsX2_isKept) := goodIn_app (goodIn_of _ (by decide +kernel)) ggX2_orderFor_X2_isKept
set_option maxRecDepth 20000 in
theorem ggX2_orderFor_X2_index : GoodIn wsX2_orderFor wsX2_index := goodIn_r _ [8] (by decide +kernel) (by decide +kernel)
set_option maxRecDepth 20000 in
theorem gX2_orderFor_X2_index : GoodIn wsX2_orderFor (va_wsS RX2 39 yX2_index wsX2_index) := goodIn_app (goodIn_of _ (by decide +kernel)) ggX2_orderFor_X2_index
theorem dX2_orderFor_0 : decode cX2_orderFor 0 = .ok (.iload_n 1, 1) := by decide +kernel
theorem dX2_orderFor_1 : decode cX2_orderFor 1 = .ok (.iload_n 2, 1) := by decide +kernel
theorem dX2_orderFor_2 : decode cX2_orderFor 2 = .ok (.invokestatic 36, 3) := by decide +kernel
theorem dX2_orderFor_5 : decode cX2_orderFor 5 = .ok (.ifCond .eq 18, 3) := by decide +kernel
theorem dX2_orderFor_8 : decode cX2_orderFor 8 = .ok (.aload_n 0, 1) := by decide +kernel
theorem dX2_orderFor_9 : decode cX2_orderFor 9 = .ok (.getfield 21, 3) := by decide +kernel
theorem dX2_orderFor_12 : decode cX2_orderFor 12 = .ok (.iload_n 1, 1) := by decide +kernel
theorem dX2_orderFor_13 : decode cX2_orderFor 13 = .ok (.iload_n 2, 1) := by decide +kernel
theorem dX2_orderFor_14 : decode cX2_orderFor 14 = .ok (.invokestatic 39, 3) := by decide +kernel
theorem dX2_orderFor_17 : decode cX2_orderFor 17 = .ok (.iaload, 1) := by decide +kernel
theorem dX2_orderFor_18 : decode cX2_orderFor 18 = .ok (.iconst 1, 1) := by decide +kernel
theorem dX2_orderFor_19 : decode cX2_orderFor 19 = .ok (.isub, 1) := by decide +kernel
theorem dX2_orderFor_20 : decode cX2_orderFor 20 = .ok (.goto 4, 3) := by decide +kernel
theorem dX2_orderFor_23 : decode cX2_orderFor 23 = .ok (.iconst (-1), 1) := by decide +kernel
theorem dX2_orderFor_24 : decode cX2_orderFor 24 = .ok (.ireturn, 1) := by decide +kernel
set_option maxRecDepth 20000 in
theorem ggX2_giveOrder_X2_isKept : GoodIn wsX2_giveOrder wsX2_isKept := goodIn_r _ [5] (by decide +kernel) (by decide +kernel)
set_option maxRecDepth 20000 in
theorem gX2_giveOrder_X2_isKept : GoodIn wsX2_giveOrder (va_wsS RX2 36 yX2_isKept wsX2_isKept) := goodIn_app (goodIn_of _ (by decide +kernel)) ggX2_giveOrder_X2_isKept
set_option maxRecDepth 20000 in
theorem ggX2_giveOrder_X2_index : GoodIn wsX2_giveOrder wsX2_index := goodIn_r _ [8] (by decide +kernel) (by decide +kernel)
set_option maxRecDepth 20000 in
theorem gX2_giveOrder_X2_index : GoodIn wsX2_giveOrder (va_wsS RX2 39 yX2_index wsX2_index) := goodIn_app (goodIn_of _ (by decide +kernel)) ggX2_giveOrder_X2_index
theorem dX2_giveOrder_0 : decode cX2_giveOrder 0 = .ok (.iload_n 1, 1) := by decide +kernel
theorem dX2_giveOrder_1 : decode cX2_giveOrder 1 = .ok (.iload_n 2, 1) := by decide +kernel
theorem dX2_giveOrder_2 : decode cX2_giveOrder 2 = .ok (.invokestatic 36, 3) := by decide +kernel
theorem dX2_giveOrder_5 : decode cX2_giveOrder 5 = .ok (.ifCond .eq 16, 3) := by decide +kernel
theorem dX2_giveOrder_8 : decode cX2_giveOrder 8 = .ok (.aload_n 0, 1) := by decide +kernel
theorem dX2_giveOrder_9 : decode cX2_giveOrder 9 = .ok (.getfield 21, 3) := by decide +kernel
theorem dX2_giveOrder_12 : decode cX2_giveOrder 12 = .ok (.iload_n 1, 1) := by decide +kernel
theorem dX2_giveOrder_13 : decode cX2_giveOrder 13 = .ok (.iload_n 2, 1) := by decide +kernel
theorem dX2_giveOrder_14 : decode cX2_giveOrder 14 = .ok (.invokestatic 39, 3) := by decide +kernel
theorem dX2_giveOrder_17 : decode cX2_giveOrder 17 = .ok (.iload_n 3, 1) := by decide +kernel
theorem dX2_giveOrder_18 : decode cX2_giveOrder 18 = .ok (.iconst 1, 1) := by decide +kernel
theorem dX2_giveOrder_19 : decode cX2_giveOrder 19 = .ok (.iadd, 1) := by decide +kernel
theorem dX2_giveOrder_20 : decode cX2_giveOrder 20 = .ok (.iastore, 1) := by decide +kernel
theorem dX2_giveOrder_21 : decode cX2_giveOrder 21 = .ok (.return_, 1) := by decide +kernel
set_option maxRecDepth 20000 in
theorem ggX2_place_X2_isKept : GoodIn wsX2_place wsX2_isKept := goodIn_r _ [10] (by decide +kernel) (by decide +kernel)
set_option maxRecDepth 20000 in
theorem gX2_place_X2_isKept : GoodIn wsX2_place (va_wsS RX2 36 yX2_isKept wsX2_isKept) := goodIn_app (goodIn_of _ (by decide +kernel)) ggX2_place_X2_isKept
set_option maxRecDepth 20000 in
theorem ggX2_place_X2_index : GoodIn wsX2_place wsX2_index := goodIn_r _ [13] (by decide +kernel) (by decide +kernel)
set_option maxRecDepth 20000 in
theorem gX2_place_X2_index : GoodIn wsX2_place (va_wsS RX2 39 yX2_index wsX2_index) := goodIn_app (goodIn_of _ (by decide +kernel)) ggX2_place_X2_index
theorem dX2_place_0 : decode cX2_place 0 = .ok (.iload_n 1, 1) := by decide +kernel
theorem dX2_place_1 : decode cX2_place 1 = .ok (.iload_n 2, 1) := by decide +kernel
theorem dX2_place_2 : decode cX2_place 2 = .ok (.invokestatic 36, 3) := by decide +kernel
theorem dX2_place_5 : decode cX2_place 5 = .ok (.ifCond .eq 39, 3) := by decide +kernel
theorem dX2_place_8 : decode cX2_place 8 = .ok (.aload_n 0, 1) := by decide +kernel
theorem dX2_place_9 : decode cX2_place 9 = .ok (.getfield 15, 3) := by decide +kernel
theorem dX2_place_12 : decode cX2_place 12 = .ok (.iload_n 1, 1) := by decide +kernel
theorem dX2_place_13 : decode cX2_place 13 = .ok (.iload_n 2, 1) := by decide +kernel
theorem dX2_place_14 : decode cX2_place 14 = .ok (.invokestatic 39, 3) := by decide +kernel
theorem dX2_place_17 : decode cX2_place 17 = .ok (.iload 4, 2) := by decide +kernel
theorem dX2_place_19 : decode cX2_place 19 = .ok (.ifCond .le 7, 3) := by decide +kernel
theorem dX2_place_22 : decode cX2_place 22 = .ok (.iload_n 3, 1) := by decide +kernel
theorem dX2_place_23 : decode cX2_place 23 = .ok (.goto 4, 3) := by decide +kernel
theorem dX2_place_26 : decode cX2_place 26 = .ok (.iconst (-1), 1) := by decide +kernel
theorem dX2_place_27 : decode cX2_place 27 = .ok (.iastore, 1) := by decide +kernel
theorem dX2_place_28 : decode cX2_place 28 = .ok (.aload_n 0, 1) := by decide +kernel
theorem dX2_place_29 : decode cX2_place 29 = .ok (.getfield 18, 3) := by decide +kernel
theorem dX2_place_32 : decode cX2_place 32 = .ok (.iload_n 1, 1) := by decide +kernel
theorem dX2_place_33 : decode cX2_place 33 = .ok (.iload_n 2, 1) := by decide +kernel
theorem dX2_place_34 : decode cX2_place 34 = .ok (.invokestatic 39, 3) := by decide +kernel
theorem dX2_place_37 : decode cX2_place 37 = .ok (.iload 4, 2) := by decide +kernel
theorem dX2_place_39 : decode cX2_place 39 = .ok (.iconst 0, 1) := by decide +kernel
theorem dX2_place_40 : decode cX2_place 40 = .ok (.invokestatic 43, 3) := by decide +kernel
theorem dX2_place_43 : decode cX2_place 43 = .ok (.iastore, 1) := by decide +kernel
theorem dX2_place_44 : decode cX2_place 44 = .ok (.return_, 1) := by decide +kernel
set_option maxRecDepth 20000 in
theorem ggX2_livingAt_X2_townAt : GoodIn wsX2_livingAt wsX2_townAt := goodIn_r _ [6, 7, 8, 9, 5, 10, 11, 12, 13, 14, 15, 16, 17, 18] (by decide +kernel) (by decide +kernel)
set_option maxRecDepth 20000 in
theorem gX2_livingAt_X2_townAt : GoodIn wsX2_livingAt (wsV RX2 48 RX2 yX2_townAt wsX2_townAt) := goodIn_app (goodIn_of _ (by decide +kernel)) ggX2_livingAt_X2_townAt
theorem dX2_livingAt_0 : decode cX2_livingAt 0 = .ok (.iconst 0, 1) := by decide +kernel
theorem dX2_livingAt_1 : decode cX2_livingAt 1 = .ok (.istore_n 2, 1) := by decide +kernel
theorem dX2_livingAt_2 : decode cX2_livingAt 2 = .ok (.iconst 0, 1) := by decide +kernel
theorem dX2_livingAt_3 : decode cX2_livingAt 3 = .ok (.istore_n 3, 1) := by decide +kernel
theorem dX2_livingAt_4 : decode cX2_livingAt 4 = .ok (.iload_n 3, 1) := by decide +kernel
theorem dX2_livingAt_5 : decode cX2_livingAt 5 = .ok (.aload_n 0, 1) := by decide +kernel
theorem dX2_livingAt_6 : decode cX2_livingAt 6 = .ok (.getfield 24, 3) := by decide +kernel
theorem dX2_livingAt_9 : decode cX2_livingAt 9 = .ok (.if_icmp .ge 22, 3) := by decide +kernel
theorem dX2_livingAt_12 : decode cX2_livingAt 12 = .ok (.aload_n 0, 1) := by decide +kernel
theorem dX2_livingAt_13 : decode cX2_livingAt 13 = .ok (.iload_n 1, 1) := by decide +kernel
theorem dX2_livingAt_14 : decode cX2_livingAt 14 = .ok (.iload_n 3, 1) := by decide +kernel
theorem dX2_livingAt_15 : decode cX2_livingAt 15 = .ok (.invokevirtual 48, 3) := by decide +kernel
theorem dX2_livingAt_18 : decode cX2_livingAt 18 = .ok (.iconst (-1), 1) := by decide +kernel
theorem dX2_livingAt_19 : decode cX2_livingAt 19 = .ok (.if_icmp .eq 6, 3) := by decide +kernel
theorem dX2_livingAt_22 : decode cX2_livingAt 22 = .ok (.iinc 2 1, 3) := by decide +kernel
theorem dX2_livingAt_25 : decode cX2_livingAt 25 = .ok (.iinc 3 1, 3) := by decide +kernel
theorem dX2_livingAt_28 : decode cX2_livingAt 28 = .ok (.goto (-24), 3) := by decide +kernel
theorem dX2_livingAt_31 : decode cX2_livingAt 31 = .ok (.iload_n 2, 1) := by decide +kernel
theorem dX2_livingAt_32 : decode cX2_livingAt 32 = .ok (.ireturn, 1) := by decide +kernel
set_option maxRecDepth 20000 in
theorem ggX2_townsHeld_X2_townAt : GoodIn wsX2_townsHeld wsX2_townAt := goodIn_r _ [6, 7, 8, 9, 5, 10, 11, 12, 13, 24, 25, 26, 27, 28] (by decide +kernel) (by decide +kernel)
set_option maxRecDepth 20000 in
theorem gX2_townsHeld_X2_townAt : GoodIn wsX2_townsHeld (wsV RX2 48 RX2 yX2_townAt wsX2_townAt) := goodIn_app (goodIn_of _ (by decide +kernel)) ggX2_townsHeld_X2_townAt
set_option maxRecDepth 20000 in
theorem ggX2_townsHeld_X2_sideOf : GoodIn wsX2_townsHeld wsX2_sideOf := goodIn_r _ [17, 18, 19, 20, 21, 24, 25, 26, 27, 28] (by decide +kernel) (by decide +kernel)
set_option maxRecDepth 20000 in
theorem gX2_townsHeld_X2_sideOf : GoodIn wsX2_townsHeld (wsV RX2 54 RX2 yX2_sideOf wsX2_sideOf) := goodIn_app (goodIn_of _ (by decide +kernel)) ggX2_townsHeld_X2_sideOf
set_option maxRecDepth 20000 in
theorem ggX2_townsHeld_X3_bit : GoodIn wsX2_townsHeld wsX3_bit := goodIn_r _ [23] (by decide +kernel) (by decide +kernel)
set_option maxRecDepth 20000 in
theorem gX2_townsHeld_X3_bit_n58 : GoodIn wsX2_townsHeld (wsX3_bit) := ggX2_townsHeld_X3_bit
theorem dX2_townsHeld_0 : decode cX2_townsHeld 0 = .ok (.iconst 0, 1) := by decide +kernel
theorem dX2_townsHeld_1 : decode cX2_townsHeld 1 = .ok (.istore_n 3, 1) := by decide +kernel
theorem dX2_townsHeld_2 : decode cX2_townsHeld 2 = .ok (.iconst 0, 1) := by decide +kernel
theorem dX2_townsHeld_3 : decode cX2_townsHeld 3 = .ok (.istore 4, 2) := by decide +kernel
theorem dX2_townsHeld_5 : decode cX2_townsHeld 5 = .ok (.iload 4, 2) := by decide +kernel
theorem dX2_townsHeld_7 : decode cX2_townsHeld 7 = .ok (.aload_n 0, 1) := by decide +kernel
theorem dX2_townsHeld_8 : decode cX2_townsHeld 8 = .ok (.getfield 24, 3) := by decide +kernel
theorem dX2_townsHeld_11 : decode cX2_townsHeld 11 = .ok (.if_icmp .ge 42, 3) := by decide +kernel
theorem dX2_townsHeld_14 : decode cX2_townsHeld 14 = .ok (.aload_n 0, 1) := by decide +kernel
theorem dX2_townsHeld_15 : decode cX2_townsHeld 15 = .ok (.iload_n 1, 1) := by decide +kernel
theorem dX2_townsHeld_16 : decode cX2_townsHeld 16 = .ok (.iload 4, 2) := by decide +kernel
theorem dX2_townsHeld_18 : decode cX2_townsHeld 18 = .ok (.invokevirtual 48, 3) := by decide +kernel
theorem dX2_townsHeld_21 : decode cX2_townsHeld 21 = .ok (.istore 5, 2) := by decide +kernel
theorem dX2_townsHeld_23 : decode cX2_townsHeld 23 = .ok (.aload_n 0, 1) := by decide +kernel
theorem dX2_townsHeld_24 : decode cX2_townsHeld 24 = .ok (.iload 4, 2) := by decide +kernel
theorem dX2_townsHeld_26 : decode cX2_townsHeld 26 = .ok (.invokevirtual 54, 3) := by decide +kernel
theorem dX2_townsHeld_29 : decode cX2_townsHeld 29 = .ok (.iload_n 2, 1) := by decide +kernel
theorem dX2_townsHeld_30 : decode cX2_townsHeld 30 = .ok (.if_icmp .ne 17, 3) := by decide +kernel
theorem dX2_townsHeld_33 : decode cX2_townsHeld 33 = .ok (.iload 5, 2) := by decide +kernel
theorem dX2_townsHeld_35 : decode cX2_townsHeld 35 = .ok (.iconst (-1), 1) := by decide +kernel
theorem dX2_townsHeld_36 : decode cX2_townsHeld 36 = .ok (.if_icmp .eq 11, 3) := by decide +kernel
theorem dX2_townsHeld_39 : decode cX2_townsHeld 39 = .ok (.iload_n 3, 1) := by decide +kernel
theorem dX2_townsHeld_40 : decode cX2_townsHeld 40 = .ok (.iload 5, 2) := by decide +kernel
theorem dX2_townsHeld_42 : decode cX2_townsHeld 42 = .ok (.invokestatic 58, 3) := by decide +kernel
theorem dX2_townsHeld_45 : decode cX2_townsHeld 45 = .ok (.ior, 1) := by decide +kernel
theorem dX2_townsHeld_46 : decode cX2_townsHeld 46 = .ok (.istore_n 3, 1) := by decide +kernel
theorem dX2_townsHeld_47 : decode cX2_townsHeld 47 = .ok (.iinc 4 1, 3) := by decide +kernel
theorem dX2_townsHeld_50 : decode cX2_townsHeld 50 = .ok (.goto (-45), 3) := by decide +kernel
theorem dX2_townsHeld_53 : decode cX2_townsHeld 53 = .ok (.iload_n 3, 1) := by decide +kernel
theorem dX2_townsHeld_54 : decode cX2_townsHeld 54 = .ok (.ireturn, 1) := by decide +kernel
theorem dX2_isKept_0 : decode cX2_isKept 0 = .ok (.iload_n 0, 1) := by decide +kernel
theorem dX2_isKept_1 : decode cX2_isKept 1 = .ok (.ifCond .lt 23, 3) := by decide +kernel
theorem dX2_isKept_4 : decode cX2_isKept 4 = .ok (.iload_n 0, 1) := by decide +kernel
theorem dX2_isKept_5 : decode cX2_isKept 5 = .ok (.bipush 22, 2) := by decide +kernel
theorem dX2_isKept_7 : decode cX2_isKept 7 = .ok (.if_icmp .ge 17, 3) := by decide +kernel
theorem dX2_isKept_10 : decode cX2_isKept 10 = .ok (.iload_n 1, 1) := by decide +kernel
theorem dX2_isKept_11 : decode cX2_isKept 11 = .ok (.ifCond .lt 13, 3) := by decide +kernel
theorem dX2_isKept_14 : decode cX2_isKept 14 = .ok (.iload_n 1, 1) := by decide +kernel
theorem dX2_isKept_15 : decode cX2_isKept 15 = .ok (.bipush 12, 2) := by decide +kernel
theorem dX2_isKept_17 : decode cX2_isKept 17 = .ok (.if_icmp .ge 7, 3) := by decide +kernel
theorem dX2_isKept_20 : decode cX2_isKept 20 = .ok (.iconst 1, 1) := by decide +kernel
theorem dX2_isKept_21 : decode cX2_isKept 21 = .ok (.goto 4, 3) := by decide +kernel
theorem dX2_isKept_24 : decode cX2_isKept 24 = .ok (.iconst 0, 1) := by decide +kernel
theorem dX2_isKept_25 : decode cX2_isKept 25 = .ok (.ireturn, 1) := by decide +kernel
theorem dX2_index_0 : decode cX2_index 0 = .ok (.iload_n 0, 1) := by decide +kernel
theorem dX2_index_1 : decode cX2_index 1 = .ok (.bipush 12, 2) := by decide +kernel
theorem dX2_index_3 : decode cX2_index 3 = .ok (.imul, 1) := by decide +kernel
theorem dX2_index_4 : decode cX2_index 4 = .ok (.iload_n 1, 1) := by decide +kernel
theorem dX2_index_5 : decode cX2_index 5 = .ok (.iadd, 1) := by decide +kernel
theorem dX2_index_6 : decode cX2_index 6 = .ok (.ireturn, 1) := by decide +kernel
