set_option maxRecDepth 20000 in
theorem ggX3_init_X0_init : GoodIn wsX3_init wsX0_init := goodIn_r _ [22, 23, 2, 3, 8, 24, 25, 26, 41, 42, 43] (by decide +kernel) (by decide +kernel)
set_option maxRecDepth 20000 in
theorem gX3_init_X0_init_n11 : GoodIn wsX3_init (wsX0_init) := ggX3_init_X0_init
set_option maxRecDepth 20000 in
theorem ggX3_init_X2_init : GoodIn wsX3_init wsX2_init := goodIn_r _ [28, 29, 2, 3, 8, 30, 31, 32, 33, 34, 51, 52, 53, 54, 55] (by decide +kernel) (by decide +kernel)
set_option maxRecDepth 20000 in
theorem gX3_init_X2_init_n22 : GoodIn wsX3_init (wsX2_init) := ggX3_init_X2_init
set_option maxRecDepth 20000 in
theorem ggX3_init_X1_init : GoodIn wsX3_init wsX1_init := goodIn_r _ [36, 37, 2, 3, 8, 38, 39, 40, 56, 57, 58] (by decide +kernel) (by decide +kernel)
set_option maxRecDepth 20000 in
theorem gX3_init_X1_init_n35 : GoodIn wsX3_init (wsX1_init) := ggX3_init_X1_init
theorem dX3_init_0 : decode cX3_init 0 = .ok (.aload_n 0, 1) := by decide +kernel
theorem dX3_init_1 : decode cX3_init 1 = .ok (.invokespecial 3, 3) := by decide +kernel
theorem dX3_init_4 : decode cX3_init 4 = .ok (.aload_n 0, 1) := by decide +kernel
theorem dX3_init_5 : decode cX3_init 5 = .ok (.new 9, 3) := by decide +kernel
theorem dX3_init_8 : decode cX3_init 8 = .ok (.dup, 1) := by decide +kernel
theorem dX3_init_9 : decode cX3_init 9 = .ok (.invokespecial 11, 3) := by decide +kernel
theorem dX3_init_12 : decode cX3_init 12 = .ok (.putfield 12, 3) := by decide +kernel
theorem dX3_init_15 : decode cX3_init 15 = .ok (.aload_n 0, 1) := by decide +kernel
theorem dX3_init_16 : decode cX3_init 16 = .ok (.iconst 2, 1) := by decide +kernel
theorem dX3_init_17 : decode cX3_init 17 = .ok (.newarray .int, 2) := by decide +kernel
theorem dX3_init_19 : decode cX3_init 19 = .ok (.putfield 16, 3) := by decide +kernel
theorem dX3_init_22 : decode cX3_init 22 = .ok (.aload_n 0, 1) := by decide +kernel
theorem dX3_init_23 : decode cX3_init 23 = .ok (.new 20, 3) := by decide +kernel
theorem dX3_init_26 : decode cX3_init 26 = .ok (.dup, 1) := by decide +kernel
theorem dX3_init_27 : decode cX3_init 27 = .ok (.invokespecial 22, 3) := by decide +kernel
theorem dX3_init_30 : decode cX3_init 30 = .ok (.putfield 23, 3) := by decide +kernel
theorem dX3_init_33 : decode cX3_init 33 = .ok (.aload_n 0, 1) := by decide +kernel
theorem dX3_init_34 : decode cX3_init 34 = .ok (.bipush 20, 2) := by decide +kernel
theorem dX3_init_36 : decode cX3_init 36 = .ok (.newarray .int, 2) := by decide +kernel
theorem dX3_init_38 : decode cX3_init 38 = .ok (.putfield 27, 3) := by decide +kernel
theorem dX3_init_41 : decode cX3_init 41 = .ok (.aload_n 0, 1) := by decide +kernel
theorem dX3_init_42 : decode cX3_init 42 = .ok (.bipush 20, 2) := by decide +kernel
theorem dX3_init_44 : decode cX3_init 44 = .ok (.newarray .int, 2) := by decide +kernel
theorem dX3_init_46 : decode cX3_init 46 = .ok (.putfield 30, 3) := by decide +kernel
theorem dX3_init_49 : decode cX3_init 49 = .ok (.aload_n 0, 1) := by decide +kernel
theorem dX3_init_50 : decode cX3_init 50 = .ok (.new 33, 3) := by decide +kernel
theorem dX3_init_53 : decode cX3_init 53 = .ok (.dup, 1) := by decide +kernel
theorem dX3_init_54 : decode cX3_init 54 = .ok (.invokespecial 35, 3) := by decide +kernel
theorem dX3_init_57 : decode cX3_init 57 = .ok (.putfield 36, 3) := by decide +kernel
theorem dX3_init_60 : decode cX3_init 60 = .ok (.aload_n 0, 1) := by decide +kernel
theorem dX3_init_61 : decode cX3_init 61 = .ok (.iconst 0, 1) := by decide +kernel
theorem dX3_init_62 : decode cX3_init 62 = .ok (.putfield 40, 3) := by decide +kernel
theorem dX3_init_65 : decode cX3_init 65 = .ok (.aload_n 0, 1) := by decide +kernel
theorem dX3_init_66 : decode cX3_init 66 = .ok (.getfield 16, 3) := by decide +kernel
theorem dX3_init_69 : decode cX3_init 69 = .ok (.iconst 1, 1) := by decide +kernel
theorem dX3_init_70 : decode cX3_init 70 = .ok (.bipush 9, 2) := by decide +kernel
theorem dX3_init_72 : decode cX3_init 72 = .ok (.iastore, 1) := by decide +kernel
theorem dX3_init_73 : decode cX3_init 73 = .ok (.return_, 1) := by decide +kernel
set_option maxRecDepth 20000 in
theorem ggX3_addRoad_X3_below : GoodIn wsX3_addRoad wsX3_below := goodIn_r _ [10] (by decide +kernel) (by decide +kernel)
set_option maxRecDepth 20000 in
theorem gX3_addRoad_X3_below : GoodIn wsX3_addRoad (va_wsS RX3 44 yX3_below wsX3_below) := goodIn_app (goodIn_of _ (by decide +kernel)) ggX3_addRoad_X3_below
set_option maxRecDepth 20000 in
theorem ggX3_addRoad_X0_joins : GoodIn wsX3_addRoad wsX0_joins := goodIn_r _ [15, 16, 17, 18, 14, 19, 20, 21, 8, 9, 10, 22, 23, 24, 25, 26, 43, 44, 45] (by decide +kernel) (by decide +kernel)
set_option maxRecDepth 20000 in
theorem gX3_addRoad_X0_joins : GoodIn wsX3_addRoad (wsV RX3 55 RX0 yX0_joins wsX0_joins) := goodIn_app (goodIn_of _ (by decide +kernel)) ggX3_addRoad_X0_joins
set_option maxRecDepth 20000 in
theorem ggX3_addRoad_X0_roads : GoodIn wsX3_addRoad wsX0_roads := goodIn_r _ [30, 31, 43, 44, 45] (by decide +kernel) (by decide +kernel)
set_option maxRecDepth 20000 in
theorem gX3_addRoad_X0_roads : GoodIn wsX3_addRoad (wsV RX3 58 RX0 yX0_roads wsX0_roads) := goodIn_app (goodIn_of _ (by decide +kernel)) ggX3_addRoad_X0_roads
set_option maxRecDepth 20000 in
theorem ggX3_addRoad_X0_join : GoodIn wsX3_addRoad wsX0_join := goodIn_r _ [35, 20, 21, 31, 8, 9, 10, 25, 26, 43, 44, 45] (by decide +kernel) (by decide +kernel)
set_option maxRecDepth 20000 in
theorem gX3_addRoad_X0_join : GoodIn wsX3_addRoad (wsV RX3 67 RX0 yX0_join wsX0_join) := goodIn_app (goodIn_of _ (by decide +kernel)) ggX3_addRoad_X0_join
theorem dX3_addRoad_0 : decode cX3_addRoad 0 = .ok (.iload_n 1, 1) := by decide +kernel
theorem dX3_addRoad_1 : decode cX3_addRoad 1 = .ok (.bipush 10, 2) := by decide +kernel
theorem dX3_addRoad_3 : decode cX3_addRoad 3 = .ok (.invokestatic 44, 3) := by decide +kernel
theorem dX3_addRoad_6 : decode cX3_addRoad 6 = .ok (.ifCond .eq 17, 3) := by decide +kernel
theorem dX3_addRoad_9 : decode cX3_addRoad 9 = .ok (.iload_n 2, 1) := by decide +kernel
theorem dX3_addRoad_10 : decode cX3_addRoad 10 = .ok (.bipush 10, 2) := by decide +kernel
theorem dX3_addRoad_12 : decode cX3_addRoad 12 = .ok (.invokestatic 44, 3) := by decide +kernel
theorem dX3_addRoad_15 : decode cX3_addRoad 15 = .ok (.ifCond .eq 8, 3) := by decide +kernel
theorem dX3_addRoad_18 : decode cX3_addRoad 18 = .ok (.iload_n 1, 1) := by decide +kernel
theorem dX3_addRoad_19 : decode cX3_addRoad 19 = .ok (.iload_n 2, 1) := by decide +kernel
theorem dX3_addRoad_20 : decode cX3_addRoad 20 = .ok (.if_icmp .ne 13, 3) := by decide +kernel
theorem dX3_addRoad_23 : decode cX3_addRoad 23 = .ok (.new 48, 3) := by decide +kernel
theorem dX3_addRoad_26 : decode cX3_addRoad 26 = .ok (.dup, 1) := by decide +kernel
theorem dX3_addRoad_27 : decode cX3_addRoad 27 = .ok (.ldc 50, 2) := by decide +kernel
theorem dX3_addRoad_29 : decode cX3_addRoad 29 = .ok (.invokespecial 52, 3) := by decide +kernel
theorem dX3_addRoad_32 : decode cX3_addRoad 32 = .ok (.athrow, 1) := by decide +kernel
theorem dX3_addRoad_33 : decode cX3_addRoad 33 = .ok (.aload_n 0, 1) := by decide +kernel
theorem dX3_addRoad_34 : decode cX3_addRoad 34 = .ok (.getfield 40, 3) := by decide +kernel
theorem dX3_addRoad_37 : decode cX3_addRoad 37 = .ok (.ifCond .gt 27, 3) := by decide +kernel
theorem dX3_addRoad_40 : decode cX3_addRoad 40 = .ok (.aload_n 0, 1) := by decide +kernel
theorem dX3_addRoad_41 : decode cX3_addRoad 41 = .ok (.getfield 12, 3) := by decide +kernel
theorem dX3_addRoad_44 : decode cX3_addRoad 44 = .ok (.iload_n 1, 1) := by decide +kernel
theorem dX3_addRoad_45 : decode cX3_addRoad 45 = .ok (.iload_n 2, 1) := by decide +kernel
theorem dX3_addRoad_46 : decode cX3_addRoad 46 = .ok (.invokevirtual 55, 3) := by decide +kernel
theorem dX3_addRoad_49 : decode cX3_addRoad 49 = .ok (.ifCond .ne 15, 3) := by decide +kernel
theorem dX3_addRoad_52 : decode cX3_addRoad 52 = .ok (.aload_n 0, 1) := by decide +kernel
theorem dX3_addRoad_53 : decode cX3_addRoad 53 = .ok (.getfield 12, 3) := by decide +kernel
theorem dX3_addRoad_56 : decode cX3_addRoad 56 = .ok (.invokevirtual 58, 3) := by decide +kernel
theorem dX3_addRoad_59 : decode cX3_addRoad 59 = .ok (.bipush 15, 2) := by decide +kernel
theorem dX3_addRoad_61 : decode cX3_addRoad 61 = .ok (.if_icmp .lt 13, 3) := by decide +kernel
theorem dX3_addRoad_64 : decode cX3_addRoad 64 = .ok (.new 62, 3) := by decide +kernel
theorem dX3_addRoad_67 : decode cX3_addRoad 67 = .ok (.dup, 1) := by decide +kernel
theorem dX3_addRoad_68 : decode cX3_addRoad 68 = .ok (.ldc 64, 2) := by decide +kernel
theorem dX3_addRoad_70 : decode cX3_addRoad 70 = .ok (.invokespecial 66, 3) := by decide +kernel
theorem dX3_addRoad_73 : decode cX3_addRoad 73 = .ok (.athrow, 1) := by decide +kernel
theorem dX3_addRoad_74 : decode cX3_addRoad 74 = .ok (.aload_n 0, 1) := by decide +kernel
theorem dX3_addRoad_75 : decode cX3_addRoad 75 = .ok (.getfield 12, 3) := by decide +kernel
theorem dX3_addRoad_78 : decode cX3_addRoad 78 = .ok (.iload_n 1, 1) := by decide +kernel
theorem dX3_addRoad_79 : decode cX3_addRoad 79 = .ok (.iload_n 2, 1) := by decide +kernel
theorem dX3_addRoad_80 : decode cX3_addRoad 80 = .ok (.iload_n 3, 1) := by decide +kernel
theorem dX3_addRoad_81 : decode cX3_addRoad 81 = .ok (.invokevirtual 67, 3) := by decide +kernel
theorem dX3_addRoad_84 : decode cX3_addRoad 84 = .ok (.aload_n 0, 1) := by decide +kernel
theorem dX3_addRoad_85 : decode cX3_addRoad 85 = .ok (.getfield 12, 3) := by decide +kernel
theorem dX3_addRoad_88 : decode cX3_addRoad 88 = .ok (.invokevirtual 58, 3) := by decide +kernel
theorem dX3_addRoad_91 : decode cX3_addRoad 91 = .ok (.ireturn, 1) := by decide +kernel
set_option maxRecDepth 20000 in
theorem ggX3_addUnit_X3_below : GoodIn wsX3_addUnit wsX3_below := goodIn_r _ [10] (by decide +kernel) (by decide +kernel)
set_option maxRecDepth 20000 in
theorem gX3_addUnit_X3_below : GoodIn wsX3_addUnit (va_wsS RX3 44 yX3_below wsX3_below) := goodIn_app (goodIn_of _ (by decide +kernel)) ggX3_addUnit_X3_below
set_option maxRecDepth 20000 in
theorem ggX3_addUnit_X3_opponent : GoodIn wsX3_addUnit wsX3_opponent := goodIn_r _ [13] (by decide +kernel) (by decide +kernel)
set_option maxRecDepth 20000 in
theorem gX3_addUnit_X3_opponent : GoodIn wsX3_addUnit (va_wsS RX3 77 yX3_opponent wsX3_opponent) := goodIn_app (goodIn_of _ (by decide +kernel)) ggX3_addUnit_X3_opponent
set_option maxRecDepth 20000 in
theorem ggX3_addUnit_X2_townsHeld : GoodIn wsX3_addUnit wsX2_townsHeld := goodIn_r _ [18, 19, 20, 21, 22, 17, 23, 24, 25, 26, 27, 28, 29, 30, 31, 32, 33, 34, 35, 8, 9, 10, 36, 37, 66, 67, 68, 69, 70] (by decide +kernel) (by decide +kernel)
set_option maxRecDepth 20000 in
theorem gX3_addUnit_X2_townsHeld : GoodIn wsX3_addUnit (wsV RX3 81 RX2 yX2_townsHeld wsX2_townsHeld) := goodIn_app (goodIn_of _ (by decide +kernel)) ggX3_addUnit_X2_townsHeld
set_option maxRecDepth 20000 in
theorem ggX3_addUnit_X3_has : GoodIn wsX3_addUnit wsX3_has := goodIn_r _ [40, 41, 36, 9, 37] (by decide +kernel) (by decide +kernel)
set_option maxRecDepth 20000 in
theorem gX3_addUnit_X3_has : GoodIn wsX3_addUnit (va_wsS RX3 85 yX3_has wsX3_has) := goodIn_app (goodIn_of _ (by decide +kernel)) ggX3_addUnit_X3_has
set_option maxRecDepth 20000 in
theorem ggX3_addUnit_X2_count : GoodIn wsX3_addUnit wsX2_count := goodIn_r _ [45, 19, 66, 67, 68, 69, 70] (by decide +kernel) (by decide +kernel)
set_option maxRecDepth 20000 in
theorem gX3_addUnit_X2_count : GoodIn wsX3_addUnit (wsV RX3 88 RX2 yX2_count wsX2_count) := goodIn_app (goodIn_of _ (by decide +kernel)) ggX3_addUnit_X2_count
set_option maxRecDepth 20000 in
theorem ggX3_addUnit_X2_add : GoodIn wsX3_addUnit wsX2_add := goodIn_r _ [49, 19, 35, 8, 9, 10, 50, 51, 52, 17, 53, 24, 54, 55, 56, 57, 58, 25, 26, 27, 28, 29, 30, 66, 67, 68, 69, 70] (by decide +kernel) (by decide +kernel)
set_option maxRecDepth 20000 in
theorem gX3_addUnit_X2_add : GoodIn wsX3_addUnit (wsV RX3 93 RX2 yX2_add wsX2_add) := goodIn_app (goodIn_of _ (by decide +kernel)) ggX3_addUnit_X2_add
theorem dX3_addUnit_0 : decode cX3_addUnit 0 = .ok (.iload_n 1, 1) := by decide +kernel
theorem dX3_addUnit_1 : decode cX3_addUnit 1 = .ok (.iconst 2, 1) := by decide +kernel
theorem dX3_addUnit_2 : decode cX3_addUnit 2 = .ok (.invokestatic 44, 3) := by decide +kernel
theorem dX3_addUnit_5 : decode cX3_addUnit 5 = .ok (.ifCond .eq 23, 3) := by decide +kernel
theorem dX3_addUnit_8 : decode cX3_addUnit 8 = .ok (.iload_n 2, 1) := by decide +kernel
theorem dX3_addUnit_9 : decode cX3_addUnit 9 = .ok (.bipush 10, 2) := by decide +kernel
theorem dX3_addUnit_11 : decode cX3_addUnit 11 = .ok (.invokestatic 44, 3) := by decide +kernel
theorem dX3_addUnit_14 : decode cX3_addUnit 14 = .ok (.ifCond .eq 14, 3) := by decide +kernel
theorem dX3_addUnit_17 : decode cX3_addUnit 17 = .ok (.iload_n 3, 1) := by decide +kernel
theorem dX3_addUnit_18 : decode cX3_addUnit 18 = .ok (.iconst 1, 1) := by decide +kernel
theorem dX3_addUnit_19 : decode cX3_addUnit 19 = .ok (.if_icmp .lt 9, 3) := by decide +kernel
theorem dX3_addUnit_22 : decode cX3_addUnit 22 = .ok (.iload_n 3, 1) := by decide +kernel
theorem dX3_addUnit_23 : decode cX3_addUnit 23 = .ok (.bipush 9, 2) := by decide +kernel
theorem dX3_addUnit_25 : decode cX3_addUnit 25 = .ok (.if_icmp .le 13, 3) := by decide +kernel
theorem dX3_addUnit_28 : decode cX3_addUnit 28 = .ok (.new 48, 3) := by decide +kernel
theorem dX3_addUnit_31 : decode cX3_addUnit 31 = .ok (.dup, 1) := by decide +kernel
theorem dX3_addUnit_32 : decode cX3_addUnit 32 = .ok (.ldc 75, 2) := by decide +kernel
theorem dX3_addUnit_34 : decode cX3_addUnit 34 = .ok (.invokespecial 52, 3) := by decide +kernel
theorem dX3_addUnit_37 : decode cX3_addUnit 37 = .ok (.athrow, 1) := by decide +kernel
theorem dX3_addUnit_38 : decode cX3_addUnit 38 = .ok (.aload_n 0, 1) := by decide +kernel
theorem dX3_addUnit_39 : decode cX3_addUnit 39 = .ok (.getfield 40, 3) := by decide +kernel
theorem dX3_addUnit_42 : decode cX3_addUnit 42 = .ok (.ifCond .gt 37, 3) := by decide +kernel
theorem dX3_addUnit_45 : decode cX3_addUnit 45 = .ok (.aload_n 0, 1) := by decide +kernel
theorem dX3_addUnit_46 : decode cX3_addUnit 46 = .ok (.getfield 23, 3) := by decide +kernel
theorem dX3_addUnit_49 : decode cX3_addUnit 49 = .ok (.aload_n 0, 1) := by decide +kernel
theorem dX3_addUnit_50 : decode cX3_addUnit 50 = .ok (.getfield 40, 3) := by decide +kernel
theorem dX3_addUnit_53 : decode cX3_addUnit 53 = .ok (.iload_n 1, 1) := by decide +kernel
theorem dX3_addUnit_54 : decode cX3_addUnit 54 = .ok (.invokestatic 77, 3) := by decide +kernel
theorem dX3_addUnit_57 : decode cX3_addUnit 57 = .ok (.invokevirtual 81, 3) := by decide +kernel
theorem dX3_addUnit_60 : decode cX3_addUnit 60 = .ok (.iload_n 2, 1) := by decide +kernel
theorem dX3_addUnit_61 : decode cX3_addUnit 61 = .ok (.invokestatic 85, 3) := by decide +kernel
theorem dX3_addUnit_64 : decode cX3_addUnit 64 = .ok (.ifCond .ne 15, 3) := by decide +kernel
theorem dX3_addUnit_67 : decode cX3_addUnit 67 = .ok (.aload_n 0, 1) := by decide +kernel
theorem dX3_addUnit_68 : decode cX3_addUnit 68 = .ok (.getfield 23, 3) := by decide +kernel
theorem dX3_addUnit_71 : decode cX3_addUnit 71 = .ok (.invokevirtual 88, 3) := by decide +kernel
theorem dX3_addUnit_74 : decode cX3_addUnit 74 = .ok (.bipush 12, 2) := by decide +kernel
theorem dX3_addUnit_76 : decode cX3_addUnit 76 = .ok (.if_icmp .lt 13, 3) := by decide +kernel
theorem dX3_addUnit_79 : decode cX3_addUnit 79 = .ok (.new 62, 3) := by decide +kernel
theorem dX3_addUnit_82 : decode cX3_addUnit 82 = .ok (.dup, 1) := by decide +kernel
theorem dX3_addUnit_83 : decode cX3_addUnit 83 = .ok (.ldc 91, 2) := by decide +kernel
theorem dX3_addUnit_85 : decode cX3_addUnit 85 = .ok (.invokespecial 66, 3) := by decide +kernel
theorem dX3_addUnit_88 : decode cX3_addUnit 88 = .ok (.athrow, 1) := by decide +kernel
theorem dX3_addUnit_89 : decode cX3_addUnit 89 = .ok (.aload_n 0, 1) := by decide +kernel
theorem dX3_addUnit_90 : decode cX3_addUnit 90 = .ok (.getfield 23, 3) := by decide +kernel
theorem dX3_addUnit_93 : decode cX3_addUnit 93 = .ok (.iload_n 1, 1) := by decide +kernel
theorem dX3_addUnit_94 : decode cX3_addUnit 94 = .ok (.iload_n 2, 1) := by decide +kernel
theorem dX3_addUnit_95 : decode cX3_addUnit 95 = .ok (.iload_n 3, 1) := by decide +kernel
theorem dX3_addUnit_96 : decode cX3_addUnit 96 = .ok (.invokevirtual 93, 3) := by decide +kernel
theorem dX3_addUnit_99 : decode cX3_addUnit 99 = .ok (.ireturn, 1) := by decide +kernel
set_option maxRecDepth 20000 in
theorem ggX3_order_X3_checkUnit : GoodIn wsX3_order wsX3_checkUnit := goodIn_ca (goodIn_r _ [9, 10, 11, 3, 12, 13, 14, 15, 16, 17, 18, 19, 8, 20, 36, 37, 38, 39, 40, 41, 42, 43, 44, 45, 46, 47] (by decide +kernel) (by decide +kernel)) (goodIn_sub (fun _ h => List.mem_cons_of_mem _ (List.mem_append_right _ h)) (by decide +kernel))
set_option maxRecDepth 20000 in
theorem gX3_order_X3_checkUnit : GoodIn wsX3_order (wsV RX3 97 RX3 yX3_checkUnit wsX3_checkUnit) := goodIn_app (goodIn_of _ (by decide +kernel)) ggX3_order_X3_checkUnit
set_option maxRecDepth 20000 in
theorem ggX3_order_X3_below : GoodIn wsX3_order wsX3_below := goodIn_r _ [20] (by decide +kernel) (by decide +kernel)
set_option maxRecDepth 20000 in
theorem gX3_order_X3_below : GoodIn wsX3_order (va_wsS RX3 44 yX3_below wsX3_below) := goodIn_app (goodIn_of _ (by decide +kernel)) ggX3_order_X3_below
set_option maxRecDepth 20000 in
theorem ggX3_order_X2_orderFor : GoodIn wsX3_order wsX2_orderFor := goodIn_r _ [24, 25, 26, 27, 15, 28, 29, 30, 31, 43, 44, 45, 46, 47] (by decide +kernel) (by decide +kernel)
set_option maxRecDepth 20000 in
theorem gX3_order_X2_orderFor : GoodIn wsX3_order (wsV RX3 103 RX2 yX2_orderFor wsX2_orderFor) := goodIn_app (goodIn_of _ (by decide +kernel)) ggX3_order_X2_orderFor
set_option maxRecDepth 20000 in
theorem ggX3_order_X2_giveOrder : GoodIn wsX3_order wsX2_giveOrder := goodIn_r _ [35, 25, 26, 27, 15, 28, 29, 30, 31, 43, 44, 45, 46, 47] (by decide +kernel) (by decide +kernel)
set_option maxRecDepth 20000 in
theorem gX3_order_X2_giveOrder : GoodIn wsX3_order (wsV RX3 106 RX2 yX2_giveOrder wsX2_giveOrder) := goodIn_app (goodIn_of _ (by decide +kernel)) ggX3_order_X2_giveOrder
theorem dX3_order_0 : decode cX3_order 0 = .ok (.aload_n 0, 1) := by decide +kernel
theorem dX3_order_1 : decode cX3_order 1 = .ok (.iload_n 1, 1) := by decide +kernel
theorem dX3_order_2 : decode cX3_order 2 = .ok (.invokevirtual 97, 3) := by decide +kernel
theorem dX3_order_5 : decode cX3_order 5 = .ok (.iload_n 2, 1) := by decide +kernel
theorem dX3_order_6 : decode cX3_order 6 = .ok (.iconst (-1), 1) := by decide +kernel
theorem dX3_order_7 : decode cX3_order 7 = .ok (.if_icmp .eq 22, 3) := by decide +kernel
theorem dX3_order_10 : decode cX3_order 10 = .ok (.iload_n 2, 1) := by decide +kernel
theorem dX3_order_11 : decode cX3_order 11 = .ok (.bipush 10, 2) := by decide +kernel
theorem dX3_order_13 : decode cX3_order 13 = .ok (.invokestatic 44, 3) := by decide +kernel
theorem dX3_order_16 : decode cX3_order 16 = .ok (.ifCond .ne 13, 3) := by decide +kernel
theorem dX3_order_19 : decode cX3_order 19 = .ok (.new 48, 3) := by decide +kernel
theorem dX3_order_22 : decode cX3_order 22 = .ok (.dup, 1) := by decide +kernel
theorem dX3_order_23 : decode cX3_order 23 = .ok (.ldc 101, 2) := by decide +kernel
theorem dX3_order_25 : decode cX3_order 25 = .ok (.invokespecial 52, 3) := by decide +kernel
theorem dX3_order_28 : decode cX3_order 28 = .ok (.athrow, 1) := by decide +kernel
theorem dX3_order_29 : decode cX3_order 29 = .ok (.aload_n 0, 1) := by decide +kernel
theorem dX3_order_30 : decode cX3_order 30 = .ok (.getfield 23, 3) := by decide +kernel
theorem dX3_order_33 : decode cX3_order 33 = .ok (.aload_n 0, 1) := by decide +kernel
theorem dX3_order_34 : decode cX3_order 34 = .ok (.getfield 40, 3) := by decide +kernel
theorem dX3_order_37 : decode cX3_order 37 = .ok (.iload_n 1, 1) := by decide +kernel
theorem dX3_order_38 : decode cX3_order 38 = .ok (.invokevirtual 103, 3) := by decide +kernel
theorem dX3_order_41 : decode cX3_order 41 = .ok (.istore_n 3, 1) := by decide +kernel
theorem dX3_order_42 : decode cX3_order 42 = .ok (.aload_n 0, 1) := by decide +kernel
theorem dX3_order_43 : decode cX3_order 43 = .ok (.getfield 23, 3) := by decide +kernel
theorem dX3_order_46 : decode cX3_order 46 = .ok (.aload_n 0, 1) := by decide +kernel
theorem dX3_order_47 : decode cX3_order 47 = .ok (.getfield 40, 3) := by decide +kernel
theorem dX3_order_50 : decode cX3_order 50 = .ok (.iload_n 1, 1) := by decide +kernel
theorem dX3_order_51 : decode cX3_order 51 = .ok (.iload_n 2, 1) := by decide +kernel
theorem dX3_order_52 : decode cX3_order 52 = .ok (.invokevirtual 106, 3) := by decide +kernel
theorem dX3_order_55 : decode cX3_order 55 = .ok (.iload_n 3, 1) := by decide +kernel
theorem dX3_order_56 : decode cX3_order 56 = .ok (.ireturn, 1) := by decide +kernel
set_option maxRecDepth 20000 in
theorem ggX3_play_X3_checkWeather : GoodIn wsX3_play wsX3_checkWeather := goodIn_ca (goodIn_r _ [9, 10, 11, 12, 13, 8, 14] (by decide +kernel) (by decide +kernel)) (goodIn_sub (fun _ h => List.mem_cons_of_mem _ (List.mem_append_right _ h)) (by decide +kernel))
set_option maxRecDepth 20000 in
theorem gX3_play_X3_checkWeather : GoodIn wsX3_play (va_wsS RX3 110 yX3_checkWeather wsX3_checkWeather) := goodIn_app (goodIn_of _ (by decide +kernel)) ggX3_play_X3_checkWeather
set_option maxRecDepth 20000 in
theorem ggX3_play_X3_below : GoodIn wsX3_play wsX3_below := goodIn_r _ [14] (by decide +kernel) (by decide +kernel)
set_option maxRecDepth 20000 in
theorem gX3_play_X3_below : GoodIn wsX3_play (va_wsS RX3 44 yX3_below wsX3_below) := goodIn_app (goodIn_of _ (by decide +kernel)) ggX3_play_X3_below
set_option maxRecDepth 20000 in
theorem ggX3_play_X3_playFrom : GoodIn wsX3_play wsX3_playFrom := goodIn_r _ [18, 19, 20, 21, 22, 3, 4, 23, 24, 25, 26, 8, 27, 5, 28, 29, 30, 31, 32, 33, 12, 13, 14, 34, 35, 36, 37, 38, 39, 40, 41, 42, 43, 44, 45, 46, 47, 48, 49, 50, 51, 52, 53, 54, 55, 56, 57, 58, 59, 60, 61, 62, 63, 64, 65, 66, 67, 68, 69, 70, 71, 72, 73, 74, 75, 76, 77, 78, 79, 80, 81, 82, 83, 84, 85, 86, 87, 88, 89, 90, 91, 92, 93, 94, 95, 96, 97, 98, 99, 100, 101, 102, 103, 104, 105, 106, 107, 108, 109, 110, 111, 112, 113, 114, 115, 116, 117, 118, 119, 120, 121, 122, 123, 124, 125, 126, 127, 128, 133, 134, 135, 136, 137, 138, 139, 140, 141, 142, 143, 144, 145, 146, 147] (by decide +kernel) (by decide +kernel)
set_option maxRecDepth 20000 in
theorem gX3_play_X3_playFrom : GoodIn wsX3_play (wsV RX3 115 RX3 yX3_playFrom wsX3_playFrom) := goodIn_app (goodIn_of _ (by decide +kernel)) ggX3_play_X3_playFrom
set_option maxRecDepth 20000 in
theorem ggX3_play_X2_livingAt : GoodIn wsX3_play wsX2_livingAt := goodIn_r _ [132, 42, 43, 44, 45, 40, 46, 47, 48, 49, 50, 51, 52, 53, 140, 141, 142, 143, 144] (by decide +kernel) (by decide +kernel)
set_option maxRecDepth 20000 in
theorem gX3_play_X2_livingAt : GoodIn wsX3_play (wsV RX3 118 RX2 yX2_livingAt wsX2_livingAt) := goodIn_app (goodIn_of _ (by decide +kernel)) ggX3_play_X2_livingAt
theorem dX3_play_0 : decode cX3_play 0 = .ok (.iload_n 1, 1) := by decide +kernel
theorem dX3_play_1 : decode cX3_play 1 = .ok (.invokestatic 110, 3) := by decide +kernel
theorem dX3_play_4 : decode cX3_play 4 = .ok (.aload_n 0, 1) := by decide +kernel
theorem dX3_play_5 : decode cX3_play 5 = .ok (.getfield 40, 3) := by decide +kernel
theorem dX3_play_8 : decode cX3_play 8 = .ok (.bipush 20, 2) := by decide +kernel
theorem dX3_play_10 : decode cX3_play 10 = .ok (.invokestatic 44, 3) := by decide +kernel
theorem dX3_play_13 : decode cX3_play 13 = .ok (.ifCond .ne 13, 3) := by decide +kernel
theorem dX3_play_16 : decode cX3_play 16 = .ok (.new 62, 3) := by decide +kernel
theorem dX3_play_19 : decode cX3_play 19 = .ok (.dup, 1) := by decide +kernel
theorem dX3_play_20 : decode cX3_play 20 = .ok (.ldc 113, 2) := by decide +kernel
theorem dX3_play_22 : decode cX3_play 22 = .ok (.invokespecial 66, 3) := by decide +kernel
theorem dX3_play_25 : decode cX3_play 25 = .ok (.athrow, 1) := by decide +kernel
theorem dX3_play_26 : decode cX3_play 26 = .ok (.aload_n 0, 1) := by decide +kernel
theorem dX3_play_27 : decode cX3_play 27 = .ok (.getfield 40, 3) := by decide +kernel
theorem dX3_play_30 : decode cX3_play 30 = .ok (.istore_n 2, 1) := by decide +kernel
theorem dX3_play_31 : decode cX3_play 31 = .ok (.aload_n 0, 1) := by decide +kernel
theorem dX3_play_32 : decode cX3_play 32 = .ok (.getfield 27, 3) := by decide +kernel
theorem dX3_play_35 : decode cX3_play 35 = .ok (.iload_n 2, 1) := by decide +kernel
theorem dX3_play_36 : decode cX3_play 36 = .ok (.iload_n 1, 1) := by decide +kernel
theorem dX3_play_37 : decode cX3_play 37 = .ok (.iastore, 1) := by decide +kernel
theorem dX3_play_38 : decode cX3_play 38 = .ok (.aload_n 0, 1) := by decide +kernel
theorem dX3_play_39 : decode cX3_play 39 = .ok (.iload_n 2, 1) := by decide +kernel
theorem dX3_play_40 : decode cX3_play 40 = .ok (.iconst 1, 1) := by decide +kernel
theorem dX3_play_41 : decode cX3_play 41 = .ok (.iadd, 1) := by decide +kernel
theorem dX3_play_42 : decode cX3_play 42 = .ok (.putfield 40, 3) := by decide +kernel
theorem dX3_play_45 : decode cX3_play 45 = .ok (.aload_n 0, 1) := by decide +kernel
theorem dX3_play_46 : decode cX3_play 46 = .ok (.iload_n 2, 1) := by decide +kernel
theorem dX3_play_47 : decode cX3_play 47 = .ok (.invokevirtual 115, 3) := by decide +kernel
theorem dX3_play_50 : decode cX3_play 50 = .ok (.aload_n 0, 1) := by decide +kernel
theorem dX3_play_51 : decode cX3_play 51 = .ok (.getfield 23, 3) := by decide +kernel
theorem dX3_play_54 : decode cX3_play 54 = .ok (.iload_n 2, 1) := by decide +kernel
theorem dX3_play_55 : decode cX3_play 55 = .ok (.invokevirtual 118, 3) := by decide +kernel
theorem dX3_play_58 : decode cX3_play 58 = .ok (.aload_n 0, 1) := by decide +kernel
theorem dX3_play_59 : decode cX3_play 59 = .ok (.getfield 23, 3) := by decide +kernel
theorem dX3_play_62 : decode cX3_play 62 = .ok (.iload_n 2, 1) := by decide +kernel
theorem dX3_play_63 : decode cX3_play 63 = .ok (.iconst 1, 1) := by decide +kernel
theorem dX3_play_64 : decode cX3_play 64 = .ok (.iadd, 1) := by decide +kernel
theorem dX3_play_65 : decode cX3_play 65 = .ok (.invokevirtual 118, 3) := by decide +kernel
theorem dX3_play_68 : decode cX3_play 68 = .ok (.isub, 1) := by decide +kernel
theorem dX3_play_69 : decode cX3_play 69 = .ok (.ireturn, 1) := by decide +kernel
theorem dX3_played_0 : decode cX3_played 0 = .ok (.aload_n 0, 1) := by decide +kernel
theorem dX3_played_1 : decode cX3_played 1 = .ok (.getfield 40, 3) := by decide +kernel
theorem dX3_played_4 : decode cX3_played 4 = .ok (.ireturn, 1) := by decide +kernel
set_option maxRecDepth 20000 in
theorem ggX3_townOf_X3_checkUnit : GoodIn wsX3_townOf wsX3_checkUnit := goodIn_ca (goodIn_r _ [7, 8, 9, 1, 10, 11, 12, 13, 14, 15, 16, 17, 6, 18, 30, 31, 32, 33, 34, 35, 36, 37, 38, 39, 40, 41] (by decide +kernel) (by decide +kernel)) (goodIn_sub (fun _ h => List.mem_cons_of_mem _ (List.mem_append_right _ h)) (by decide +kernel))
set_option maxRecDepth 20000 in
theorem gX3_townOf_X3_checkUnit : GoodIn wsX3_townOf (wsV RX3 97 RX3 yX3_checkUnit wsX3_checkUnit) := goodIn_app (goodIn_of _ (by decide +kernel)) ggX3_townOf_X3_checkUnit
set_option maxRecDepth 20000 in
theorem ggX3_townOf_X2_townAt : GoodIn wsX3_townOf wsX2_townAt := goodIn_r _ [22, 23, 24, 25, 13, 26, 27, 28, 29, 37, 38, 39, 40, 41] (by decide +kernel) (by decide +kernel)
set_option maxRecDepth 20000 in
theorem gX3_townOf_X2_townAt : GoodIn wsX3_townOf (wsV RX3 149 RX2 yX2_townAt wsX2_townAt) := goodIn_app (goodIn_of _ (by decide +kernel)) ggX3_townOf_X2_townAt
theorem dX3_townOf_0 : decode cX3_townOf 0 = .ok (.aload_n 0, 1) := by decide +kernel
theorem dX3_townOf_1 : decode cX3_townOf 1 = .ok (.iload_n 1, 1) := by decide +kernel
theorem dX3_townOf_2 : decode cX3_townOf 2 = .ok (.invokevirtual 97, 3) := by decide +kernel
theorem dX3_townOf_5 : decode cX3_townOf 5 = .ok (.aload_n 0, 1) := by decide +kernel
theorem dX3_townOf_6 : decode cX3_townOf 6 = .ok (.getfield 23, 3) := by decide +kernel
theorem dX3_townOf_9 : decode cX3_townOf 9 = .ok (.aload_n 0, 1) := by decide +kernel
theorem dX3_townOf_10 : decode cX3_townOf 10 = .ok (.getfield 40, 3) := by decide +kernel
theorem dX3_townOf_13 : decode cX3_townOf 13 = .ok (.iload_n 1, 1) := by decide +kernel
theorem dX3_townOf_14 : decode cX3_townOf 14 = .ok (.invokevirtual 149, 3) := by decide +kernel
theorem dX3_townOf_17 : decode cX3_townOf 17 = .ok (.ireturn, 1) := by decide +kernel
set_option maxRecDepth 20000 in
theorem ggX3_strength_X3_checkUnit : GoodIn wsX3_strength wsX3_checkUnit := goodIn_ca (goodIn_r _ [7, 8, 9, 1, 10, 11, 12, 13, 14, 15, 16, 17, 6, 18, 30, 31, 32, 33, 34, 35, 36, 37, 38, 39, 40, 41] (by decide +kernel) (by decide +kernel)) (goodIn_sub (fun _ h => List.mem_cons_of_mem _ (List.mem_append_right _ h)) (by decide +kernel))
set_option maxRecDepth 20000 in
theorem gX3_strength_X3_checkUnit : GoodIn wsX3_strength (wsV RX3 97 RX3 yX3_checkUnit wsX3_checkUnit) := goodIn_app (goodIn_of _ (by decide +kernel)) ggX3_strength_X3_checkUnit
set_option maxRecDepth 20000 in
theorem ggX3_strength_X2_strengthAt : GoodIn wsX3_strength wsX2_strengthAt := goodIn_r _ [22, 23, 24, 25, 13, 26, 27, 28, 29, 37, 38, 39, 40, 41] (by decide +kernel) (by decide +kernel)
set_option maxRecDepth 20000 in
theorem gX3_strength_X2_strengthAt : GoodIn wsX3_strength (wsV RX3 152 RX2 yX2_strengthAt wsX2_strengthAt) := goodIn_app (goodIn_of _ (by decide +kernel)) ggX3_strength_X2_strengthAt
theorem dX3_strength_0 : decode cX3_strength 0 = .ok (.aload_n 0, 1) := by decide +kernel
theorem dX3_strength_1 : decode cX3_strength 1 = .ok (.iload_n 1, 1) := by decide +kernel
theorem dX3_strength_2 : decode cX3_strength 2 = .ok (.invokevirtual 97, 3) := by decide +kernel
theorem dX3_strength_5 : decode cX3_strength 5 = .ok (.aload_n 0, 1) := by decide +kernel
theorem dX3_strength_6 : decode cX3_strength 6 = .ok (.getfield 23, 3) := by decide +kernel
theorem dX3_strength_9 : decode cX3_strength 9 = .ok (.aload_n 0, 1) := by decide +kernel
theorem dX3_strength_10 : decode cX3_strength 10 = .ok (.getfield 40, 3) := by decide +kernel
theorem dX3_strength_13 : decode cX3_strength 13 = .ok (.iload_n 1, 1) := by decide +kernel
theorem dX3_strength_14 : decode cX3_strength 14 = .ok (.invokevirtual 152, 3) := by decide +kernel
theorem dX3_strength_17 : decode cX3_strength 17 = .ok (.ireturn, 1) := by decide +kernel
set_option maxRecDepth 20000 in
theorem ggX3_supply_X3_checkUnit : GoodIn wsX3_supply wsX3_checkUnit := goodIn_ca (goodIn_r _ [7, 8, 9, 1, 10, 11, 12, 13, 14, 15, 16, 17, 6, 18, 72, 73, 74, 75, 76, 77, 78, 79, 80, 81, 82, 83] (by decide +kernel) (by decide +kernel)) (goodIn_sub (fun _ h => List.mem_cons_of_mem _ (List.mem_append_left _ (List.mem_append_right _ h))) (by decide +kernel))
set_option maxRecDepth 20000 in
theorem gX3_supply_X3_checkUnit : GoodIn wsX3_supply (wsV RX3 97 RX3 yX3_checkUnit wsX3_checkUnit) := goodIn_app (goodIn_of _ (by decide +kernel)) ggX3_supply_X3_checkUnit
set_option maxRecDepth 20000 in
theorem ggX3_supply_X3_checkWeather : GoodIn wsX3_supply wsX3_checkWeather := goodIn_ca (goodIn_r _ [21, 22, 23, 16, 17, 6, 18] (by decide +kernel) (by decide +kernel)) (goodIn_sub (fun _ h => List.mem_cons_of_mem _ (List.mem_append_right _ h)) (by decide +kernel))
set_option maxRecDepth 20000 in
theorem gX3_supply_X3_checkWeather : GoodIn wsX3_supply (va_wsS RX3 110 yX3_checkWeather wsX3_checkWeather) := goodIn_app (goodIn_of _ (by decide +kernel)) ggX3_supply_X3_checkWeather
set_option maxRecDepth 20000 in
theorem ggX3_supply_X2_townAt : GoodIn wsX3_supply wsX2_townAt := goodIn_r _ [27, 28, 29, 30, 13, 31, 32, 33, 34, 79, 80, 81, 82, 83] (by decide +kernel) (by decide +kernel)
set_option maxRecDepth 20000 in
theorem gX3_supply_X2_townAt : GoodIn wsX3_supply (wsV RX3 149 RX2 yX2_townAt wsX2_townAt) := goodIn_app (goodIn_of _ (by decide +kernel)) ggX3_supply_X2_townAt
set_option maxRecDepth 20000 in
theorem ggX3_supply_X2_sideOf : GoodIn wsX3_supply wsX2_sideOf := goodIn_r _ [38, 39, 17, 6, 18, 79, 80, 81, 82, 83] (by decide +kernel) (by decide +kernel)
set_option maxRecDepth 20000 in
theorem gX3_supply_X2_sideOf : GoodIn wsX3_supply (wsV RX3 155 RX2 yX2_sideOf wsX2_sideOf) := goodIn_app (goodIn_of _ (by decide +kernel)) ggX3_supply_X2_sideOf
set_option maxRecDepth 20000 in
theorem ggX3_supply_X3_suppliedTowns : GoodIn wsX3_supply wsX3_suppliedTowns := goodIn_r _ [43, 1, 44, 45, 16, 17, 6, 18, 46, 47, 48, 49, 50, 51, 13, 52, 15, 53, 25, 26, 27, 28, 29, 30, 31, 32, 33, 34, 54, 36, 37, 38, 39, 55, 56, 57, 58, 59, 60, 61, 62, 63, 64, 65, 66, 67, 68, 69, 70, 72, 73, 74, 75, 76, 77, 78, 79, 80, 81, 82, 83, 84, 85, 86] (by decide +kernel) (by decide +kernel)
set_option maxRecDepth 20000 in
theorem gX3_supply_X3_suppliedTowns : GoodIn wsX3_supply (wsV RX3 158 RX3 yX3_suppliedTowns wsX3_suppliedTowns) := goodIn_app (goodIn_of _ (by decide +kernel)) ggX3_supply_X3_suppliedTowns
set_option maxRecDepth 20000 in
theorem ggX3_supply_X3_has : GoodIn wsX3_supply wsX3_has := goodIn_r _ [64, 57, 55, 6, 56] (by decide +kernel) (by decide +kernel)
set_option maxRecDepth 20000 in
theorem gX3_supply_X3_has : GoodIn wsX3_supply (va_wsS RX3 85 yX3_has wsX3_has) := goodIn_app (goodIn_of _ (by decide +kernel)) ggX3_supply_X3_has
theorem dX3_supply_0 : decode cX3_supply 0 = .ok (.aload_n 0, 1) := by decide +kernel
theorem dX3_supply_1 : decode cX3_supply 1 = .ok (.iload_n 1, 1) := by decide +kernel
theorem dX3_supply_2 : decode cX3_supply 2 = .ok (.invokevirtual 97, 3) := by decide +kernel
theorem dX3_supply_5 : decode cX3_supply 5 = .ok (.iload_n 2, 1) := by decide +kernel
theorem dX3_supply_6 : decode cX3_supply 6 = .ok (.invokestatic 110, 3) := by decide +kernel
theorem dX3_supply_9 : decode cX3_supply 9 = .ok (.aload_n 0, 1) := by decide +kernel
theorem dX3_supply_10 : decode cX3_supply 10 = .ok (.getfield 23, 3) := by decide +kernel
theorem dX3_supply_13 : decode cX3_supply 13 = .ok (.aload_n 0, 1) := by decide +kernel
theorem dX3_supply_14 : decode cX3_supply 14 = .ok (.getfield 40, 3) := by decide +kernel
theorem dX3_supply_17 : decode cX3_supply 17 = .ok (.iload_n 1, 1) := by decide +kernel
theorem dX3_supply_18 : decode cX3_supply 18 = .ok (.invokevirtual 149, 3) := by decide +kernel
theorem dX3_supply_21 : decode cX3_supply 21 = .ok (.istore_n 3, 1) := by decide +kernel
theorem dX3_supply_22 : decode cX3_supply 22 = .ok (.iconst 0, 1) := by decide +kernel
theorem dX3_supply_23 : decode cX3_supply 23 = .ok (.istore 4, 2) := by decide +kernel
theorem dX3_supply_25 : decode cX3_supply 25 = .ok (.iload 4, 2) := by decide +kernel
theorem dX3_supply_27 : decode cX3_supply 27 = .ok (.iconst 4, 1) := by decide +kernel
theorem dX3_supply_28 : decode cX3_supply 28 = .ok (.if_icmp .gt 38, 3) := by decide +kernel
theorem dX3_supply_31 : decode cX3_supply 31 = .ok (.aload_n 0, 1) := by decide +kernel
theorem dX3_supply_32 : decode cX3_supply 32 = .ok (.aload_n 0, 1) := by decide +kernel
theorem dX3_supply_33 : decode cX3_supply 33 = .ok (.getfield 40, 3) := by decide +kernel
theorem dX3_supply_36 : decode cX3_supply 36 = .ok (.aload_n 0, 1) := by decide +kernel
theorem dX3_supply_37 : decode cX3_supply 37 = .ok (.getfield 23, 3) := by decide +kernel
theorem dX3_supply_40 : decode cX3_supply 40 = .ok (.iload_n 1, 1) := by decide +kernel
theorem dX3_supply_41 : decode cX3_supply 41 = .ok (.invokevirtual 155, 3) := by decide +kernel
theorem dX3_supply_44 : decode cX3_supply 44 = .ok (.iload_n 2, 1) := by decide +kernel
theorem dX3_supply_45 : decode cX3_supply 45 = .ok (.iload 4, 2) := by decide +kernel
theorem dX3_supply_47 : decode cX3_supply 47 = .ok (.invokevirtual 158, 3) := by decide +kernel
theorem dX3_supply_50 : decode cX3_supply 50 = .ok (.iload_n 3, 1) := by decide +kernel
theorem dX3_supply_51 : decode cX3_supply 51 = .ok (.invokestatic 85, 3) := by decide +kernel
theorem dX3_supply_54 : decode cX3_supply 54 = .ok (.ifCond .eq 6, 3) := by decide +kernel
theorem dX3_supply_57 : decode cX3_supply 57 = .ok (.iload 4, 2) := by decide +kernel
theorem dX3_supply_59 : decode cX3_supply 59 = .ok (.ireturn, 1) := by decide +kernel
theorem dX3_supply_60 : decode cX3_supply 60 = .ok (.iinc 4 1, 3) := by decide +kernel
theorem dX3_supply_63 : decode cX3_supply 63 = .ok (.goto (-38), 3) := by decide +kernel
theorem dX3_supply_66 : decode cX3_supply 66 = .ok (.iconst (-1), 1) := by decide +kernel
theorem dX3_supply_67 : decode cX3_supply 67 = .ok (.ireturn, 1) := by decide +kernel
set_option maxRecDepth 20000 in
theorem ggX3_townAfter_X3_checkUnit : GoodIn wsX3_townAfter wsX3_checkUnit := goodIn_ca (goodIn_r _ [6, 7, 8, 1, 9, 10, 11, 12, 13, 14, 15, 16, 5, 17, 38, 39, 40, 41, 42, 43, 44, 45, 46, 47, 48, 49] (by decide +kernel) (by decide +kernel)) (goodIn_sub (fun _ h => List.mem_cons_of_mem _ (List.mem_append_right _ h)) (by decide +kernel))
set_option maxRecDepth 20000 in
theorem gX3_townAfter_X3_checkUnit : GoodIn wsX3_townAfter (wsV RX3 97 RX3 yX3_checkUnit wsX3_checkUnit) := goodIn_app (goodIn_of _ (by decide +kernel)) ggX3_townAfter_X3_checkUnit
set_option maxRecDepth 20000 in
theorem ggX3_townAfter_X3_checkTurn : GoodIn wsX3_townAfter wsX3_checkTurn := goodIn_ca (goodIn_r _ [21, 7, 8, 22, 23, 24, 25, 26, 15, 16, 5, 17, 38, 39, 40, 41, 42, 43, 44] (by decide +kernel) (by decide +kernel)) (goodIn_sub (fun _ h => List.mem_cons_of_mem _ (List.mem_append_right _ h)) (by decide +kernel))
set_option maxRecDepth 20000 in
theorem gX3_townAfter_X3_checkTurn : GoodIn wsX3_townAfter (wsV RX3 121 RX3 yX3_checkTurn wsX3_checkTurn) := goodIn_app (goodIn_of _ (by decide +kernel)) ggX3_townAfter_X3_checkTurn
set_option maxRecDepth 20000 in
theorem ggX3_townAfter_X2_townAt : GoodIn wsX3_townAfter wsX2_townAt := goodIn_r _ [30, 31, 32, 33, 12, 34, 35, 36, 37, 45, 46, 47, 48, 49] (by decide +kernel) (by decide +kernel)
set_option maxRecDepth 20000 in
theorem gX3_townAfter_X2_townAt : GoodIn wsX3_townAfter (wsV RX3 149 RX2 yX2_townAt wsX2_townAt) := goodIn_app (goodIn_of _ (by decide +kernel)) ggX3_townAfter_X2_townAt
theorem dX3_townAfter_0 : decode cX3_townAfter 0 = .ok (.aload_n 0, 1) := by decide +kernel
theorem dX3_townAfter_1 : decode cX3_townAfter 1 = .ok (.iload_n 1, 1) := by decide +kernel
theorem dX3_townAfter_2 : decode cX3_townAfter 2 = .ok (.invokevirtual 97, 3) := by decide +kernel
theorem dX3_townAfter_5 : decode cX3_townAfter 5 = .ok (.aload_n 0, 1) := by decide +kernel
theorem dX3_townAfter_6 : decode cX3_townAfter 6 = .ok (.iload_n 2, 1) := by decide +kernel
theorem dX3_townAfter_7 : decode cX3_townAfter 7 = .ok (.invokevirtual 121, 3) := by decide +kernel
theorem dX3_townAfter_10 : decode cX3_townAfter 10 = .ok (.aload_n 0, 1) := by decide +kernel
theorem dX3_townAfter_11 : decode cX3_townAfter 11 = .ok (.getfield 23, 3) := by decide +kernel
theorem dX3_townAfter_14 : decode cX3_townAfter 14 = .ok (.iload_n 2, 1) := by decide +kernel
theorem dX3_townAfter_15 : decode cX3_townAfter 15 = .ok (.iconst 1, 1) := by decide +kernel
theorem dX3_townAfter_16 : decode cX3_townAfter 16 = .ok (.iadd, 1) := by decide +kernel
theorem dX3_townAfter_17 : decode cX3_townAfter 17 = .ok (.iload_n 1, 1) := by decide +kernel
theorem dX3_townAfter_18 : decode cX3_townAfter 18 = .ok (.invokevirtual 149, 3) := by decide +kernel
theorem dX3_townAfter_21 : decode cX3_townAfter 21 = .ok (.ireturn, 1) := by decide +kernel
set_option maxRecDepth 20000 in
theorem ggX3_reported_X3_checkSide : GoodIn wsX3_reported wsX3_checkSide := goodIn_ca (goodIn_r _ [13, 14, 15, 16, 17, 12, 18] (by decide +kernel) (by decide +kernel)) (goodIn_sub (fun _ h => List.mem_cons_of_mem _ (List.mem_append_right _ h)) (by decide +kernel))
set_option maxRecDepth 20000 in
theorem gX3_reported_X3_checkSide : GoodIn wsX3_reported (va_wsS RX3 162 yX3_checkSide wsX3_checkSide) := goodIn_app (goodIn_of _ (by decide +kernel)) ggX3_reported_X3_checkSide
set_option maxRecDepth 20000 in
theorem ggX3_reported_X3_checkUnit : GoodIn wsX3_reported wsX3_checkUnit := goodIn_ca (goodIn_r _ [22, 1, 2, 3, 23, 24, 25, 26, 27, 28, 16, 17, 12, 18, 51, 52, 53, 54, 55, 56, 57, 58, 59, 60, 61, 62] (by decide +kernel) (by decide +kernel)) (goodIn_sub (fun _ h => List.mem_cons_of_mem _ (List.mem_append_left _ (List.mem_append_right _ h))) (by decide +kernel))
set_option maxRecDepth 20000 in
theorem gX3_reported_X3_checkUnit : GoodIn wsX3_reported (wsV RX3 97 RX3 yX3_checkUnit wsX3_checkUnit) := goodIn_app (goodIn_of _ (by decide +kernel)) ggX3_reported_X3_checkUnit
set_option maxRecDepth 20000 in
theorem ggX3_reported_X2_sideOf : GoodIn wsX3_reported wsX2_sideOf := goodIn_r _ [32, 33, 17, 12, 18, 58, 59, 60, 61, 62] (by decide +kernel) (by decide +kernel)
set_option maxRecDepth 20000 in
theorem gX3_reported_X2_sideOf : GoodIn wsX3_reported (wsV RX3 155 RX2 yX2_sideOf wsX2_sideOf) := goodIn_app (goodIn_of _ (by decide +kernel)) ggX3_reported_X2_sideOf
set_option maxRecDepth 20000 in
theorem ggX3_reported_X3_has : GoodIn wsX3_reported wsX3_has := goodIn_r _ [36, 37, 38, 12, 39] (by decide +kernel) (by decide +kernel)
set_option maxRecDepth 20000 in
theorem gX3_reported_X3_has : GoodIn wsX3_reported (va_wsS RX3 85 yX3_has wsX3_has) := goodIn_app (goodIn_of _ (by decide +kernel)) ggX3_reported_X3_has
set_option maxRecDepth 20000 in
theorem ggX3_reported_X2_townAt : GoodIn wsX3_reported wsX2_townAt := goodIn_r _ [43, 44, 45, 46, 26, 47, 48, 49, 50, 58, 59, 60, 61, 62] (by decide +kernel) (by decide +kernel)
set_option maxRecDepth 20000 in
theorem gX3_reported_X2_townAt : GoodIn wsX3_reported (wsV RX3 149 RX2 yX2_townAt wsX2_townAt) := goodIn_app (goodIn_of _ (by decide +kernel)) ggX3_reported_X2_townAt
theorem dX3_reported_0 : decode cX3_reported 0 = .ok (.iload_n 1, 1) := by decide +kernel
theorem dX3_reported_1 : decode cX3_reported 1 = .ok (.invokestatic 162, 3) := by decide +kernel
theorem dX3_reported_4 : decode cX3_reported 4 = .ok (.aload_n 0, 1) := by decide +kernel
theorem dX3_reported_5 : decode cX3_reported 5 = .ok (.iload_n 2, 1) := by decide +kernel
theorem dX3_reported_6 : decode cX3_reported 6 = .ok (.invokevirtual 97, 3) := by decide +kernel
theorem dX3_reported_9 : decode cX3_reported 9 = .ok (.aload_n 0, 1) := by decide +kernel
theorem dX3_reported_10 : decode cX3_reported 10 = .ok (.getfield 23, 3) := by decide +kernel
theorem dX3_reported_13 : decode cX3_reported 13 = .ok (.iload_n 2, 1) := by decide +kernel
theorem dX3_reported_14 : decode cX3_reported 14 = .ok (.invokevirtual 155, 3) := by decide +kernel
theorem dX3_reported_17 : decode cX3_reported 17 = .ok (.iload_n 1, 1) := by decide +kernel
theorem dX3_reported_18 : decode cX3_reported 18 = .ok (.if_icmp .ne 13, 3) := by decide +kernel
theorem dX3_reported_21 : decode cX3_reported 21 = .ok (.new 165, 3) := by decide +kernel
theorem dX3_reported_24 : decode cX3_reported 24 = .ok (.dup, 1) := by decide +kernel
theorem dX3_reported_25 : decode cX3_reported 25 = .ok (.ldc 167, 2) := by decide +kernel
theorem dX3_reported_27 : decode cX3_reported 27 = .ok (.invokespecial 169, 3) := by decide +kernel
theorem dX3_reported_30 : decode cX3_reported 30 = .ok (.athrow, 1) := by decide +kernel
theorem dX3_reported_31 : decode cX3_reported 31 = .ok (.aload_n 0, 1) := by decide +kernel
theorem dX3_reported_32 : decode cX3_reported 32 = .ok (.getfield 40, 3) := by decide +kernel
theorem dX3_reported_35 : decode cX3_reported 35 = .ok (.bipush 20, 2) := by decide +kernel
theorem dX3_reported_37 : decode cX3_reported 37 = .ok (.invokestatic 170, 3) := by decide +kernel
theorem dX3_reported_40 : decode cX3_reported 40 = .ok (.iconst 1, 1) := by decide +kernel
theorem dX3_reported_41 : decode cX3_reported 41 = .ok (.isub, 1) := by decide +kernel
theorem dX3_reported_42 : decode cX3_reported 42 = .ok (.iconst 2, 1) := by decide +kernel
theorem dX3_reported_43 : decode cX3_reported 43 = .ok (.isub, 1) := by decide +kernel
theorem dX3_reported_44 : decode cX3_reported 44 = .ok (.istore_n 3, 1) := by decide +kernel
theorem dX3_reported_45 : decode cX3_reported 45 = .ok (.iload_n 3, 1) := by decide +kernel
theorem dX3_reported_46 : decode cX3_reported 46 = .ok (.ifCond .lt 34, 3) := by decide +kernel
theorem dX3_reported_49 : decode cX3_reported 49 = .ok (.aload_n 0, 1) := by decide +kernel
theorem dX3_reported_50 : decode cX3_reported 50 = .ok (.getfield 30, 3) := by decide +kernel
theorem dX3_reported_53 : decode cX3_reported 53 = .ok (.iload_n 3, 1) := by decide +kernel
theorem dX3_reported_54 : decode cX3_reported 54 = .ok (.iaload, 1) := by decide +kernel
theorem dX3_reported_55 : decode cX3_reported 55 = .ok (.iload_n 2, 1) := by decide +kernel
theorem dX3_reported_56 : decode cX3_reported 56 = .ok (.invokestatic 85, 3) := by decide +kernel
theorem dX3_reported_59 : decode cX3_reported 59 = .ok (.ifCond .eq 15, 3) := by decide +kernel
theorem dX3_reported_62 : decode cX3_reported 62 = .ok (.aload_n 0, 1) := by decide +kernel
theorem dX3_reported_63 : decode cX3_reported 63 = .ok (.getfield 23, 3) := by decide +kernel
theorem dX3_reported_66 : decode cX3_reported 66 = .ok (.iload_n 3, 1) := by decide +kernel
theorem dX3_reported_67 : decode cX3_reported 67 = .ok (.iconst 1, 1) := by decide +kernel
theorem dX3_reported_68 : decode cX3_reported 68 = .ok (.iadd, 1) := by decide +kernel
theorem dX3_reported_69 : decode cX3_reported 69 = .ok (.iload_n 2, 1) := by decide +kernel
theorem dX3_reported_70 : decode cX3_reported 70 = .ok (.invokevirtual 149, 3) := by decide +kernel
theorem dX3_reported_73 : decode cX3_reported 73 = .ok (.ireturn, 1) := by decide +kernel
theorem dX3_reported_74 : decode cX3_reported 74 = .ok (.iinc 3 (-1), 3) := by decide +kernel
theorem dX3_reported_77 : decode cX3_reported 77 = .ok (.goto (-32), 3) := by decide +kernel
theorem dX3_reported_80 : decode cX3_reported 80 = .ok (.iconst (-1), 1) := by decide +kernel
theorem dX3_reported_81 : decode cX3_reported 81 = .ok (.ireturn, 1) := by decide +kernel
set_option maxRecDepth 20000 in
theorem ggX3_force_X3_checkSide : GoodIn wsX3_force wsX3_checkSide := goodIn_ca (goodIn_r _ [6, 7, 8, 9, 10, 5, 11] (by decide +kernel) (by decide +kernel)) (goodIn_sub (fun _ h => List.mem_cons_of_mem _ (List.mem_append_right _ h)) (by decide +kernel))
set_option maxRecDepth 20000 in
theorem gX3_force_X3_checkSide : GoodIn wsX3_force (va_wsS RX3 162 yX3_checkSide wsX3_checkSide) := goodIn_app (goodIn_of _ (by decide +kernel)) ggX3_force_X3_checkSide
set_option maxRecDepth 20000 in
theorem ggX3_force_X2_count : GoodIn wsX3_force wsX2_count := goodIn_r _ [16, 17, 41, 42, 43, 44, 45] (by decide +kernel) (by decide +kernel)
set_option maxRecDepth 20000 in
theorem gX3_force_X2_count : GoodIn wsX3_force (wsV RX3 88 RX2 yX2_count wsX2_count) := goodIn_app (goodIn_of _ (by decide +kernel)) ggX3_force_X2_count
set_option maxRecDepth 20000 in
theorem ggX3_force_X2_sideOf : GoodIn wsX3_force wsX2_sideOf := goodIn_r _ [21, 22, 10, 5, 11, 41, 42, 43, 44, 45] (by decide +kernel) (by decide +kernel)
set_option maxRecDepth 20000 in
theorem gX3_force_X2_sideOf : GoodIn wsX3_force (wsV RX3 155 RX2 yX2_sideOf wsX2_sideOf) := goodIn_app (goodIn_of _ (by decide +kernel)) ggX3_force_X2_sideOf
set_option maxRecDepth 20000 in
theorem ggX3_force_X2_strengthAt : GoodIn wsX3_force wsX2_strengthAt := goodIn_r _ [26, 27, 28, 29, 15, 30, 31, 32, 33, 41, 42, 43, 44, 45] (by decide +kernel) (by decide +kernel)
set_option maxRecDepth 20000 in
theorem gX3_force_X2_strengthAt : GoodIn wsX3_force (wsV RX3 152 RX2 yX2_strengthAt wsX2_strengthAt) := goodIn_app (goodIn_of _ (by decide +kernel)) ggX3_force_X2_strengthAt
theorem dX3_force_0 : decode cX3_force 0 = .ok (.iload_n 1, 1) := by decide +kernel
theorem dX3_force_1 : decode cX3_force 1 = .ok (.invokestatic 162, 3) := by decide +kernel
theorem dX3_force_4 : decode cX3_force 4 = .ok (.iconst 0, 1) := by decide +kernel
theorem dX3_force_5 : decode cX3_force 5 = .ok (.istore_n 2, 1) := by decide +kernel
theorem dX3_force_6 : decode cX3_force 6 = .ok (.iconst 0, 1) := by decide +kernel
theorem dX3_force_7 : decode cX3_force 7 = .ok (.istore_n 3, 1) := by decide +kernel
theorem dX3_force_8 : decode cX3_force 8 = .ok (.iload_n 3, 1) := by decide +kernel
theorem dX3_force_9 : decode cX3_force 9 = .ok (.aload_n 0, 1) := by decide +kernel
theorem dX3_force_10 : decode cX3_force 10 = .ok (.getfield 23, 3) := by decide +kernel
theorem dX3_force_13 : decode cX3_force 13 = .ok (.invokevirtual 88, 3) := by decide +kernel
theorem dX3_force_16 : decode cX3_force 16 = .ok (.if_icmp .ge 36, 3) := by decide +kernel
theorem dX3_force_19 : decode cX3_force 19 = .ok (.aload_n 0, 1) := by decide +kernel
theorem dX3_force_20 : decode cX3_force 20 = .ok (.getfield 23, 3) := by decide +kernel
theorem dX3_force_23 : decode cX3_force 23 = .ok (.iload_n 3, 1) := by decide +kernel
theorem dX3_force_24 : decode cX3_force 24 = .ok (.invokevirtual 155, 3) := by decide +kernel
theorem dX3_force_27 : decode cX3_force 27 = .ok (.iload_n 1, 1) := by decide +kernel
theorem dX3_force_28 : decode cX3_force 28 = .ok (.if_icmp .ne 18, 3) := by decide +kernel
theorem dX3_force_31 : decode cX3_force 31 = .ok (.iload_n 2, 1) := by decide +kernel
theorem dX3_force_32 : decode cX3_force 32 = .ok (.aload_n 0, 1) := by decide +kernel
theorem dX3_force_33 : decode cX3_force 33 = .ok (.getfield 23, 3) := by decide +kernel
theorem dX3_force_36 : decode cX3_force 36 = .ok (.aload_n 0, 1) := by decide +kernel
theorem dX3_force_37 : decode cX3_force 37 = .ok (.getfield 40, 3) := by decide +kernel
theorem dX3_force_40 : decode cX3_force 40 = .ok (.iload_n 3, 1) := by decide +kernel
theorem dX3_force_41 : decode cX3_force 41 = .ok (.invokevirtual 152, 3) := by decide +kernel
theorem dX3_force_44 : decode cX3_force 44 = .ok (.iadd, 1) := by decide +kernel
theorem dX3_force_45 : decode cX3_force 45 = .ok (.istore_n 2, 1) := by decide +kernel
theorem dX3_force_46 : decode cX3_force 46 = .ok (.iinc 3 1, 3) := by decide +kernel
theorem dX3_force_49 : decode cX3_force 49 = .ok (.goto (-41), 3) := by decide +kernel
theorem dX3_force_52 : decode cX3_force 52 = .ok (.iload_n 2, 1) := by decide +kernel
theorem dX3_force_53 : decode cX3_force 53 = .ok (.ireturn, 1) := by decide +kernel
set_option maxRecDepth 20000 in
theorem ggX3_checkSide_X3_below : GoodIn wsX3_checkSide wsX3_below := goodIn_r _ [6] (by decide +kernel) (by decide +kernel)
set_option maxRecDepth 20000 in
theorem gX3_checkSide_X3_below : GoodIn wsX3_checkSide (va_wsS RX3 44 yX3_below wsX3_below) := goodIn_app (goodIn_of _ (by decide +kernel)) ggX3_checkSide_X3_below
theorem dX3_checkSide_0 : decode cX3_checkSide 0 = .ok (.iload_n 0, 1) := by decide +kernel
theorem dX3_checkSide_1 : decode cX3_checkSide 1 = .ok (.iconst 2, 1) := by decide +kernel
theorem dX3_checkSide_2 : decode cX3_checkSide 2 = .ok (.invokestatic 44, 3) := by decide +kernel
theorem dX3_checkSide_5 : decode cX3_checkSide 5 = .ok (.ifCond .ne 13, 3) := by decide +kernel
theorem dX3_checkSide_8 : decode cX3_checkSide 8 = .ok (.new 48, 3) := by decide +kernel
theorem dX3_checkSide_11 : decode cX3_checkSide 11 = .ok (.dup, 1) := by decide +kernel
theorem dX3_checkSide_12 : decode cX3_checkSide 12 = .ok (.ldc 176, 2) := by decide +kernel
theorem dX3_checkSide_14 : decode cX3_checkSide 14 = .ok (.invokespecial 52, 3) := by decide +kernel
theorem dX3_checkSide_17 : decode cX3_checkSide 17 = .ok (.athrow, 1) := by decide +kernel
theorem dX3_checkSide_18 : decode cX3_checkSide 18 = .ok (.return_, 1) := by decide +kernel
set_option maxRecDepth 20000 in
theorem ggX3_checkWeather_X3_below : GoodIn wsX3_checkWeather wsX3_below := goodIn_r _ [6] (by decide +kernel) (by decide +kernel)
set_option maxRecDepth 20000 in
theorem gX3_checkWeather_X3_below : GoodIn wsX3_checkWeather (va_wsS RX3 44 yX3_below wsX3_below) := goodIn_app (goodIn_of _ (by decide +kernel)) ggX3_checkWeather_X3_below
theorem dX3_checkWeather_0 : decode cX3_checkWeather 0 = .ok (.iload_n 0, 1) := by decide +kernel
theorem dX3_checkWeather_1 : decode cX3_checkWeather 1 = .ok (.iconst 3, 1) := by decide +kernel
theorem dX3_checkWeather_2 : decode cX3_checkWeather 2 = .ok (.invokestatic 44, 3) := by decide +kernel
theorem dX3_checkWeather_5 : decode cX3_checkWeather 5 = .ok (.ifCond .ne 13, 3) := by decide +kernel
theorem dX3_checkWeather_8 : decode cX3_checkWeather 8 = .ok (.new 48, 3) := by decide +kernel
theorem dX3_checkWeather_11 : decode cX3_checkWeather 11 = .ok (.dup, 1) := by decide +kernel
theorem dX3_checkWeather_12 : decode cX3_checkWeather 12 = .ok (.ldc 178, 2) := by decide +kernel
theorem dX3_checkWeather_14 : decode cX3_checkWeather 14 = .ok (.invokespecial 52, 3) := by decide +kernel
theorem dX3_checkWeather_17 : decode cX3_checkWeather 17 = .ok (.athrow, 1) := by decide +kernel
theorem dX3_checkWeather_18 : decode cX3_checkWeather 18 = .ok (.return_, 1) := by decide +kernel
set_option maxRecDepth 20000 in
theorem ggX3_checkUnit_X2_count : GoodIn wsX3_checkUnit wsX2_count := goodIn_r _ [8, 9, 21, 22, 23, 24, 25] (by decide +kernel) (by decide +kernel)
set_option maxRecDepth 20000 in
theorem gX3_checkUnit_X2_count : GoodIn wsX3_checkUnit (wsV RX3 88 RX2 yX2_count wsX2_count) := goodIn_app (goodIn_of _ (by decide +kernel)) ggX3_checkUnit_X2_count
set_option maxRecDepth 20000 in
theorem ggX3_checkUnit_X3_below : GoodIn wsX3_checkUnit wsX3_below := goodIn_r _ [13] (by decide +kernel) (by decide +kernel)
set_option maxRecDepth 20000 in
theorem gX3_checkUnit_X3_below : GoodIn wsX3_checkUnit (va_wsS RX3 44 yX3_below wsX3_below) := goodIn_app (goodIn_of _ (by decide +kernel)) ggX3_checkUnit_X3_below
theorem dX3_checkUnit_0 : decode cX3_checkUnit 0 = .ok (.iload_n 1, 1) := by decide +kernel
theorem dX3_checkUnit_1 : decode cX3_checkUnit 1 = .ok (.aload_n 0, 1) := by decide +kernel
theorem dX3_checkUnit_2 : decode cX3_checkUnit 2 = .ok (.getfield 23, 3) := by decide +kernel
theorem dX3_checkUnit_5 : decode cX3_checkUnit 5 = .ok (.invokevirtual 88, 3) := by decide +kernel
theorem dX3_checkUnit_8 : decode cX3_checkUnit 8 = .ok (.invokestatic 44, 3) := by decide +kernel
theorem dX3_checkUnit_11 : decode cX3_checkUnit 11 = .ok (.ifCond .ne 13, 3) := by decide +kernel
theorem dX3_checkUnit_14 : decode cX3_checkUnit 14 = .ok (.new 165, 3) := by decide +kernel
theorem dX3_checkUnit_17 : decode cX3_checkUnit 17 = .ok (.dup, 1) := by decide +kernel
theorem dX3_checkUnit_18 : decode cX3_checkUnit 18 = .ok (.ldc 180, 2) := by decide +kernel
theorem dX3_checkUnit_20 : decode cX3_checkUnit 20 = .ok (.invokespecial 169, 3) := by decide +kernel
theorem dX3_checkUnit_23 : decode cX3_checkUnit 23 = .ok (.athrow, 1) := by decide +kernel
theorem dX3_checkUnit_24 : decode cX3_checkUnit 24 = .ok (.return_, 1) := by decide +kernel
set_option maxRecDepth 20000 in
theorem ggX3_checkTurn_X3_below : GoodIn wsX3_checkTurn wsX3_below := goodIn_r _ [11] (by decide +kernel) (by decide +kernel)
set_option maxRecDepth 20000 in
theorem gX3_checkTurn_X3_below : GoodIn wsX3_checkTurn (va_wsS RX3 44 yX3_below wsX3_below) := goodIn_app (goodIn_of _ (by decide +kernel)) ggX3_checkTurn_X3_below
theorem dX3_checkTurn_0 : decode cX3_checkTurn 0 = .ok (.iload_n 1, 1) := by decide +kernel
theorem dX3_checkTurn_1 : decode cX3_checkTurn 1 = .ok (.aload_n 0, 1) := by decide +kernel
theorem dX3_checkTurn_2 : decode cX3_checkTurn 2 = .ok (.getfield 40, 3) := by decide +kernel
theorem dX3_checkTurn_5 : decode cX3_checkTurn 5 = .ok (.bipush 20, 2) := by decide +kernel
theorem dX3_checkTurn_7 : decode cX3_checkTurn 7 = .ok (.invokestatic 170, 3) := by decide +kernel
theorem dX3_checkTurn_10 : decode cX3_checkTurn 10 = .ok (.invokestatic 44, 3) := by decide +kernel
theorem dX3_checkTurn_13 : decode cX3_checkTurn 13 = .ok (.ifCond .ne 13, 3) := by decide +kernel
theorem dX3_checkTurn_16 : decode cX3_checkTurn 16 = .ok (.new 165, 3) := by decide +kernel
theorem dX3_checkTurn_19 : decode cX3_checkTurn 19 = .ok (.dup, 1) := by decide +kernel
theorem dX3_checkTurn_20 : decode cX3_checkTurn 20 = .ok (.ldc 182, 2) := by decide +kernel
theorem dX3_checkTurn_22 : decode cX3_checkTurn 22 = .ok (.invokespecial 169, 3) := by decide +kernel
theorem dX3_checkTurn_25 : decode cX3_checkTurn 25 = .ok (.athrow, 1) := by decide +kernel
theorem dX3_checkTurn_26 : decode cX3_checkTurn 26 = .ok (.return_, 1) := by decide +kernel
set_option maxRecDepth 20000 in
theorem ggX3_playFrom_X3_suppliedUnits : GoodIn wsX3_playFrom wsX3_suppliedUnits := goodIn_r _ [12, 13, 14, 15, 16, 11, 17, 18, 19, 20, 21, 22, 23, 24, 25, 26, 27, 28, 29, 30, 31, 32, 33, 34, 35, 36, 37, 38, 39, 40, 41, 42, 43, 44, 45, 46, 47, 48, 49, 50, 51, 52, 53, 54, 55, 56, 57, 58, 59, 60, 61, 62, 63, 64, 65, 66, 67, 68, 69, 70, 118, 119, 120, 121, 122, 123, 124, 125, 126, 127, 128, 129, 130, 131, 132] (by decide +kernel) (by decide +kernel)
set_option maxRecDepth 20000 in
theorem gX3_playFrom_X3_suppliedUnits : GoodIn wsX3_playFrom (wsV RX3 187 RX3 yX3_suppliedUnits wsX3_suppliedUnits) := goodIn_app (goodIn_of _ (by decide +kernel)) ggX3_playFrom_X3_suppliedUnits
set_option maxRecDepth 20000 in
theorem ggX3_playFrom_X3_goers : GoodIn wsX3_playFrom wsX3_goers := goodIn_r _ [74, 13, 19, 64, 65, 66, 29, 67, 31, 69, 33, 34, 35, 36, 37, 38, 39, 40, 41, 42, 75, 59, 60, 54, 61, 62, 63, 21, 11, 22, 70, 56, 57, 50, 48, 49, 76, 77, 78, 79, 80, 118, 119, 120, 121, 122, 123, 124, 125, 126, 127, 128, 129, 130, 131, 132] (by decide +kernel) (by decide +kernel)
set_option maxRecDepth 20000 in
theorem gX3_playFrom_X3_goers : GoodIn wsX3_playFrom (wsV RX3 190 RX3 yX3_goers wsX3_goers) := goodIn_app (goodIn_of _ (by decide +kernel)) ggX3_playFrom_X3_goers
set_option maxRecDepth 20000 in
theorem ggX3_playFrom_X3_march : GoodIn wsX3_playFrom wsX3_march := goodIn_r _ [84, 13, 64, 65, 66, 29, 67, 31, 70, 56, 11, 57, 50, 48, 49, 85, 86, 87, 88, 68, 44, 45, 46, 47, 21, 22, 69, 33, 34, 35, 36, 37, 38, 39, 40, 41, 42, 76, 77, 78, 79, 80, 89, 90, 91, 92, 93, 94, 95, 96, 97, 98, 2, 3, 4, 118, 119, 120, 121, 122, 123, 124, 125, 126, 127, 128, 129] (by decide +kernel) (by decide +kernel)
set_option maxRecDepth 20000 in
theorem gX3_playFrom_X3_march : GoodIn wsX3_playFrom (wsV RX3 193 RX3 yX3_march wsX3_march) := goodIn_app (goodIn_of _ (by decide +kernel)) ggX3_playFrom_X3_march
set_option maxRecDepth 20000 in
theorem ggX3_playFrom_X3_fightEverywhere : GoodIn wsX3_playFrom wsX3_fightEverywhere := goodIn_r _ [102, 13, 26, 27, 28, 29, 30, 31, 32, 33, 34, 35, 36, 37, 38, 39, 40, 41, 42, 43, 44, 45, 46, 47, 21, 11, 22, 48, 49, 70, 56, 57, 50, 103, 104, 105, 106, 107, 108, 109, 110, 64, 65, 66, 67, 68, 69, 89, 90, 91, 92, 93, 111, 112, 113, 94, 95, 96, 97, 98, 2, 3, 4, 118, 119, 120, 121, 122, 123, 124, 125, 126, 127, 128, 129] (by decide +kernel) (by decide +kernel)
set_option maxRecDepth 20000 in
theorem gX3_playFrom_X3_fightEverywhere : GoodIn wsX3_playFrom (wsV RX3 196 RX3 yX3_fightEverywhere wsX3_fightEverywhere) := goodIn_app (goodIn_of _ (by decide +kernel)) ggX3_playFrom_X3_fightEverywhere
set_option maxRecDepth 20000 in
theorem ggX3_playFrom_X3_unitsInSight : GoodIn wsX3_playFrom wsX3_unitsInSight := goodIn_r _ [117, 19, 13, 26, 27, 28, 29, 30, 31, 32, 33, 34, 35, 36, 37, 38, 39, 40, 41, 42, 43, 44, 45, 46, 47, 21, 11, 22, 48, 49, 51, 52, 53, 54, 55, 56, 57, 50, 58, 59, 60, 61, 62, 63, 64, 65, 66, 67, 68, 69, 70, 118, 119, 120, 121, 122, 123, 124, 125, 126, 127, 128, 129, 130, 131, 132] (by decide +kernel) (by decide +kernel)
set_option maxRecDepth 20000 in
theorem gX3_playFrom_X3_unitsInSight : GoodIn wsX3_playFrom (wsV RX3 199 RX3 yX3_unitsInSight wsX3_unitsInSight) := goodIn_app (goodIn_of _ (by decide +kernel)) ggX3_playFrom_X3_unitsInSight
theorem dX3_playFrom_0 : decode cX3_playFrom 0 = .ok (.iload_n 1, 1) := by decide +kernel
theorem dX3_playFrom_1 : decode cX3_playFrom 1 = .ok (.iconst 0, 1) := by decide +kernel
theorem dX3_playFrom_2 : decode cX3_playFrom 2 = .ok (.invokestatic 184, 3) := by decide +kernel
theorem dX3_playFrom_5 : decode cX3_playFrom 5 = .ok (.istore_n 2, 1) := by decide +kernel
theorem dX3_playFrom_6 : decode cX3_playFrom 6 = .ok (.iload_n 2, 1) := by decide +kernel
theorem dX3_playFrom_7 : decode cX3_playFrom 7 = .ok (.aload_n 0, 1) := by decide +kernel
theorem dX3_playFrom_8 : decode cX3_playFrom 8 = .ok (.getfield 40, 3) := by decide +kernel
theorem dX3_playFrom_11 : decode cX3_playFrom 11 = .ok (.if_icmp .ge 65, 3) := by decide +kernel
theorem dX3_playFrom_14 : decode cX3_playFrom 14 = .ok (.iload_n 2, 1) := by decide +kernel
theorem dX3_playFrom_15 : decode cX3_playFrom 15 = .ok (.bipush 20, 2) := by decide +kernel
theorem dX3_playFrom_17 : decode cX3_playFrom 17 = .ok (.if_icmp .ge 59, 3) := by decide +kernel
theorem dX3_playFrom_20 : decode cX3_playFrom 20 = .ok (.aload_n 0, 1) := by decide +kernel
theorem dX3_playFrom_21 : decode cX3_playFrom 21 = .ok (.getfield 27, 3) := by decide +kernel
theorem dX3_playFrom_24 : decode cX3_playFrom 24 = .ok (.iload_n 2, 1) := by decide +kernel
theorem dX3_playFrom_25 : decode cX3_playFrom 25 = .ok (.iaload, 1) := by decide +kernel
theorem dX3_playFrom_26 : decode cX3_playFrom 26 = .ok (.istore_n 3, 1) := by decide +kernel
theorem dX3_playFrom_27 : decode cX3_playFrom 27 = .ok (.aload_n 0, 1) := by decide +kernel
theorem dX3_playFrom_28 : decode cX3_playFrom 28 = .ok (.iload_n 2, 1) := by decide +kernel
theorem dX3_playFrom_29 : decode cX3_playFrom 29 = .ok (.iload_n 3, 1) := by decide +kernel
theorem dX3_playFrom_30 : decode cX3_playFrom 30 = .ok (.invokevirtual 187, 3) := by decide +kernel
theorem dX3_playFrom_33 : decode cX3_playFrom 33 = .ok (.istore 4, 2) := by decide +kernel
theorem dX3_playFrom_35 : decode cX3_playFrom 35 = .ok (.aload_n 0, 1) := by decide +kernel
theorem dX3_playFrom_36 : decode cX3_playFrom 36 = .ok (.iload_n 2, 1) := by decide +kernel
theorem dX3_playFrom_37 : decode cX3_playFrom 37 = .ok (.aload_n 0, 1) := by decide +kernel
theorem dX3_playFrom_38 : decode cX3_playFrom 38 = .ok (.iload_n 2, 1) := by decide +kernel
theorem dX3_playFrom_39 : decode cX3_playFrom 39 = .ok (.iload_n 3, 1) := by decide +kernel
theorem dX3_playFrom_40 : decode cX3_playFrom 40 = .ok (.iload 4, 2) := by decide +kernel
theorem dX3_playFrom_42 : decode cX3_playFrom 42 = .ok (.invokevirtual 190, 3) := by decide +kernel
theorem dX3_playFrom_45 : decode cX3_playFrom 45 = .ok (.invokevirtual 193, 3) := by decide +kernel
theorem dX3_playFrom_48 : decode cX3_playFrom 48 = .ok (.aload_n 0, 1) := by decide +kernel
theorem dX3_playFrom_49 : decode cX3_playFrom 49 = .ok (.iload_n 2, 1) := by decide +kernel
theorem dX3_playFrom_50 : decode cX3_playFrom 50 = .ok (.iconst 1, 1) := by decide +kernel
theorem dX3_playFrom_51 : decode cX3_playFrom 51 = .ok (.iadd, 1) := by decide +kernel
theorem dX3_playFrom_52 : decode cX3_playFrom 52 = .ok (.iload 4, 2) := by decide +kernel
theorem dX3_playFrom_54 : decode cX3_playFrom 54 = .ok (.invokevirtual 196, 3) := by decide +kernel
theorem dX3_playFrom_57 : decode cX3_playFrom 57 = .ok (.aload_n 0, 1) := by decide +kernel
theorem dX3_playFrom_58 : decode cX3_playFrom 58 = .ok (.getfield 30, 3) := by decide +kernel
theorem dX3_playFrom_61 : decode cX3_playFrom 61 = .ok (.iload_n 2, 1) := by decide +kernel
theorem dX3_playFrom_62 : decode cX3_playFrom 62 = .ok (.aload_n 0, 1) := by decide +kernel
theorem dX3_playFrom_63 : decode cX3_playFrom 63 = .ok (.iload_n 2, 1) := by decide +kernel
theorem dX3_playFrom_64 : decode cX3_playFrom 64 = .ok (.iconst 1, 1) := by decide +kernel
theorem dX3_playFrom_65 : decode cX3_playFrom 65 = .ok (.iadd, 1) := by decide +kernel
theorem dX3_playFrom_66 : decode cX3_playFrom 66 = .ok (.invokevirtual 199, 3) := by decide +kernel
theorem dX3_playFrom_69 : decode cX3_playFrom 69 = .ok (.iastore, 1) := by decide +kernel
theorem dX3_playFrom_70 : decode cX3_playFrom 70 = .ok (.iinc 2 1, 3) := by decide +kernel
theorem dX3_playFrom_73 : decode cX3_playFrom 73 = .ok (.goto (-67), 3) := by decide +kernel
theorem dX3_playFrom_76 : decode cX3_playFrom 76 = .ok (.return_, 1) := by decide +kernel
set_option maxRecDepth 20000 in
theorem ggX3_suppliedTowns_X3_below : GoodIn wsX3_suppliedTowns wsX3_below := goodIn_r _ [7] (by decide +kernel) (by decide +kernel)
set_option maxRecDepth 20000 in
theorem gX3_suppliedTowns_X3_below : GoodIn wsX3_suppliedTowns (va_wsS RX3 44 yX3_below wsX3_below) := goodIn_app (goodIn_of _ (by decide +kernel)) ggX3_suppliedTowns_X3_below
set_option maxRecDepth 20000 in
theorem ggX3_suppliedTowns_X3_opponent : GoodIn wsX3_suppliedTowns wsX3_opponent := goodIn_r _ [10] (by decide +kernel) (by decide +kernel)
set_option maxRecDepth 20000 in
theorem gX3_suppliedTowns_X3_opponent : GoodIn wsX3_suppliedTowns (va_wsS RX3 77 yX3_opponent wsX3_opponent) := goodIn_app (goodIn_of _ (by decide +kernel)) ggX3_suppliedTowns_X3_opponent
set_option maxRecDepth 20000 in
theorem ggX3_suppliedTowns_X2_townsHeld : GoodIn wsX3_suppliedTowns wsX2_townsHeld := goodIn_r _ [15, 16, 17, 18, 19, 14, 20, 21, 22, 23, 24, 25, 26, 27, 28, 29, 30, 31, 32, 5, 6, 7, 33, 34, 56, 57, 58, 59, 60] (by decide +kernel) (by decide +kernel)
set_option maxRecDepth 20000 in
theorem gX3_suppliedTowns_X2_townsHeld : GoodIn wsX3_suppliedTowns (wsV RX3 81 RX2 yX2_townsHeld wsX2_townsHeld) := goodIn_app (goodIn_of _ (by decide +kernel)) ggX3_suppliedTowns_X2_townsHeld
set_option maxRecDepth 20000 in
theorem ggX3_suppliedTowns_X3_bit : GoodIn wsX3_suppliedTowns wsX3_bit := goodIn_r _ [34] (by decide +kernel) (by decide +kernel)
set_option maxRecDepth 20000 in
theorem gX3_suppliedTowns_X3_bit : GoodIn wsX3_suppliedTowns (va_wsS RX3 202 yX3_bit wsX3_bit) := goodIn_app (goodIn_of _ (by decide +kernel)) ggX3_suppliedTowns_X3_bit
set_option maxRecDepth 20000 in
theorem ggX3_suppliedTowns_X0_widened : GoodIn wsX3_suppliedTowns wsX0_widened := goodIn_r _ [40, 41, 6, 42, 35, 33, 34, 43, 44, 45, 39, 46, 47, 48, 5, 7, 61, 62, 63] (by decide +kernel) (by decide +kernel)
set_option maxRecDepth 20000 in
theorem gX3_suppliedTowns_X0_widened : GoodIn wsX3_suppliedTowns (wsV RX3 205 RX0 yX0_widened wsX0_widened) := goodIn_app (goodIn_of _ (by decide +kernel)) ggX3_suppliedTowns_X0_widened
theorem dX3_suppliedTowns_0 : decode cX3_suppliedTowns 0 = .ok (.iload_n 2, 1) := by decide +kernel
theorem dX3_suppliedTowns_1 : decode cX3_suppliedTowns 1 = .ok (.iconst 2, 1) := by decide +kernel
theorem dX3_suppliedTowns_2 : decode cX3_suppliedTowns 2 = .ok (.invokestatic 44, 3) := by decide +kernel
theorem dX3_suppliedTowns_5 : decode cX3_suppliedTowns 5 = .ok (.ifCond .ne 5, 3) := by decide +kernel
theorem dX3_suppliedTowns_8 : decode cX3_suppliedTowns 8 = .ok (.iconst 0, 1) := by decide +kernel
theorem dX3_suppliedTowns_9 : decode cX3_suppliedTowns 9 = .ok (.ireturn, 1) := by decide +kernel
theorem dX3_suppliedTowns_10 : decode cX3_suppliedTowns 10 = .ok (.aload_n 0, 1) := by decide +kernel
theorem dX3_suppliedTowns_11 : decode cX3_suppliedTowns 11 = .ok (.getfield 23, 3) := by decide +kernel
theorem dX3_suppliedTowns_14 : decode cX3_suppliedTowns 14 = .ok (.iload_n 1, 1) := by decide +kernel
theorem dX3_suppliedTowns_15 : decode cX3_suppliedTowns 15 = .ok (.iload_n 2, 1) := by decide +kernel
theorem dX3_suppliedTowns_16 : decode cX3_suppliedTowns 16 = .ok (.invokestatic 77, 3) := by decide +kernel
theorem dX3_suppliedTowns_19 : decode cX3_suppliedTowns 19 = .ok (.invokevirtual 81, 3) := by decide +kernel
theorem dX3_suppliedTowns_22 : decode cX3_suppliedTowns 22 = .ok (.iconst (-1), 1) := by decide +kernel
theorem dX3_suppliedTowns_23 : decode cX3_suppliedTowns 23 = .ok (.ixor, 1) := by decide +kernel
theorem dX3_suppliedTowns_24 : decode cX3_suppliedTowns 24 = .ok (.istore 5, 2) := by decide +kernel
theorem dX3_suppliedTowns_26 : decode cX3_suppliedTowns 26 = .ok (.aload_n 0, 1) := by decide +kernel
theorem dX3_suppliedTowns_27 : decode cX3_suppliedTowns 27 = .ok (.getfield 16, 3) := by decide +kernel
theorem dX3_suppliedTowns_30 : decode cX3_suppliedTowns 30 = .ok (.iload_n 2, 1) := by decide +kernel
theorem dX3_suppliedTowns_31 : decode cX3_suppliedTowns 31 = .ok (.iaload, 1) := by decide +kernel
theorem dX3_suppliedTowns_32 : decode cX3_suppliedTowns 32 = .ok (.invokestatic 202, 3) := by decide +kernel
theorem dX3_suppliedTowns_35 : decode cX3_suppliedTowns 35 = .ok (.iload 5, 2) := by decide +kernel
theorem dX3_suppliedTowns_37 : decode cX3_suppliedTowns 37 = .ok (.iand, 1) := by decide +kernel
theorem dX3_suppliedTowns_38 : decode cX3_suppliedTowns 38 = .ok (.istore 6, 2) := by decide +kernel
theorem dX3_suppliedTowns_40 : decode cX3_suppliedTowns 40 = .ok (.iconst 0, 1) := by decide +kernel
theorem dX3_suppliedTowns_41 : decode cX3_suppliedTowns 41 = .ok (.istore 7, 2) := by decide +kernel
theorem dX3_suppliedTowns_43 : decode cX3_suppliedTowns 43 = .ok (.iload 7, 2) := by decide +kernel
theorem dX3_suppliedTowns_45 : decode cX3_suppliedTowns 45 = .ok (.iload 4, 2) := by decide +kernel
theorem dX3_suppliedTowns_47 : decode cX3_suppliedTowns 47 = .ok (.if_icmp .ge 24, 3) := by decide +kernel
theorem dX3_suppliedTowns_50 : decode cX3_suppliedTowns 50 = .ok (.aload_n 0, 1) := by decide +kernel
theorem dX3_suppliedTowns_51 : decode cX3_suppliedTowns 51 = .ok (.getfield 12, 3) := by decide +kernel
theorem dX3_suppliedTowns_54 : decode cX3_suppliedTowns 54 = .ok (.iload 6, 2) := by decide +kernel
theorem dX3_suppliedTowns_56 : decode cX3_suppliedTowns 56 = .ok (.iload_n 3, 1) := by decide +kernel
theorem dX3_suppliedTowns_57 : decode cX3_suppliedTowns 57 = .ok (.invokevirtual 205, 3) := by decide +kernel
theorem dX3_suppliedTowns_60 : decode cX3_suppliedTowns 60 = .ok (.iload 5, 2) := by decide +kernel
theorem dX3_suppliedTowns_62 : decode cX3_suppliedTowns 62 = .ok (.iand, 1) := by decide +kernel
theorem dX3_suppliedTowns_63 : decode cX3_suppliedTowns 63 = .ok (.istore 6, 2) := by decide +kernel
theorem dX3_suppliedTowns_65 : decode cX3_suppliedTowns 65 = .ok (.iinc 7 1, 3) := by decide +kernel
theorem dX3_suppliedTowns_68 : decode cX3_suppliedTowns 68 = .ok (.goto (-25), 3) := by decide +kernel
theorem dX3_suppliedTowns_71 : decode cX3_suppliedTowns 71 = .ok (.iload 6, 2) := by decide +kernel
theorem dX3_suppliedTowns_73 : decode cX3_suppliedTowns 73 = .ok (.ireturn, 1) := by decide +kernel
set_option maxRecDepth 20000 in
theorem ggX3_suppliedUnits_X3_suppliedTowns : GoodIn wsX3_suppliedUnits wsX3_suppliedTowns := goodIn_r _ [6, 1, 7, 8, 9, 10, 5, 11, 12, 13, 14, 15, 16, 17, 18, 19, 20, 21, 22, 23, 24, 25, 26, 27, 28, 29, 30, 31, 32, 33, 34, 35, 36, 37, 38, 39, 40, 41, 42, 43, 44, 45, 46, 47, 48, 49, 50, 51, 52, 60, 61, 62, 63, 64, 65, 66, 67, 68, 69, 70, 71, 72, 73, 74] (by decide +kernel) (by decide +kernel)
set_option maxRecDepth 20000 in
theorem gX3_suppliedUnits_X3_suppliedTowns : GoodIn wsX3_suppliedUnits (wsV RX3 158 RX3 yX3_suppliedTowns wsX3_suppliedTowns) := goodIn_app (goodIn_of _ (by decide +kernel)) ggX3_suppliedUnits_X3_suppliedTowns
set_option maxRecDepth 20000 in
theorem ggX3_suppliedUnits_X2_count : GoodIn wsX3_suppliedUnits wsX2_count := goodIn_r _ [56, 20, 67, 68, 69, 70, 71] (by decide +kernel) (by decide +kernel)
set_option maxRecDepth 20000 in
theorem gX3_suppliedUnits_X2_count : GoodIn wsX3_suppliedUnits (wsV RX3 88 RX2 yX2_count wsX2_count) := goodIn_app (goodIn_of _ (by decide +kernel)) ggX3_suppliedUnits_X2_count
set_option maxRecDepth 20000 in
theorem ggX3_suppliedUnits_X2_sideOf : GoodIn wsX3_suppliedUnits wsX2_sideOf := goodIn_r _ [35, 36, 10, 5, 11, 67, 68, 69, 70, 71] (by decide +kernel) (by decide +kernel)
set_option maxRecDepth 20000 in
theorem gX3_suppliedUnits_X2_sideOf : GoodIn wsX3_suppliedUnits (wsV RX3 155 RX2 yX2_sideOf wsX2_sideOf) := goodIn_app (goodIn_of _ (by decide +kernel)) ggX3_suppliedUnits_X2_sideOf
set_option maxRecDepth 20000 in
theorem ggX3_suppliedUnits_X2_townAt : GoodIn wsX3_suppliedUnits wsX2_townAt := goodIn_r _ [24, 25, 26, 27, 18, 28, 29, 30, 31, 67, 68, 69, 70, 71] (by decide +kernel) (by decide +kernel)
set_option maxRecDepth 20000 in
theorem gX3_suppliedUnits_X2_townAt : GoodIn wsX3_suppliedUnits (wsV RX3 149 RX2 yX2_townAt wsX2_townAt) := goodIn_app (goodIn_of _ (by decide +kernel)) ggX3_suppliedUnits_X2_townAt
set_option maxRecDepth 20000 in
theorem ggX3_suppliedUnits_X3_has : GoodIn wsX3_suppliedUnits wsX3_has := goodIn_r _ [46, 39, 37, 5, 38] (by decide +kernel) (by decide +kernel)
set_option maxRecDepth 20000 in
theorem gX3_suppliedUnits_X3_has : GoodIn wsX3_suppliedUnits (va_wsS RX3 85 yX3_has wsX3_has) := goodIn_app (goodIn_of _ (by decide +kernel)) ggX3_suppliedUnits_X3_has
set_option maxRecDepth 20000 in
theorem ggX3_suppliedUnits_X3_bit : GoodIn wsX3_suppliedUnits wsX3_bit := goodIn_r _ [38] (by decide +kernel) (by decide +kernel)
set_option maxRecDepth 20000 in
theorem gX3_suppliedUnits_X3_bit : GoodIn wsX3_suppliedUnits (va_wsS RX3 202 yX3_bit wsX3_bit) := goodIn_app (goodIn_of _ (by decide +kernel)) ggX3_suppliedUnits_X3_bit
theorem dX3_suppliedUnits_0 : decode cX3_suppliedUnits 0 = .ok (.aload_n 0, 1) := by decide +kernel
theorem dX3_suppliedUnits_1 : decode cX3_suppliedUnits 1 = .ok (.iload_n 1, 1) := by decide +kernel
theorem dX3_suppliedUnits_2 : decode cX3_suppliedUnits 2 = .ok (.iconst 0, 1) := by decide +kernel
theorem dX3_suppliedUnits_3 : decode cX3_suppliedUnits 3 = .ok (.iload_n 2, 1) := by decide +kernel
theorem dX3_suppliedUnits_4 : decode cX3_suppliedUnits 4 = .ok (.iconst 4, 1) := by decide +kernel
theorem dX3_suppliedUnits_5 : decode cX3_suppliedUnits 5 = .ok (.invokevirtual 158, 3) := by decide +kernel
theorem dX3_suppliedUnits_8 : decode cX3_suppliedUnits 8 = .ok (.istore_n 3, 1) := by decide +kernel
theorem dX3_suppliedUnits_9 : decode cX3_suppliedUnits 9 = .ok (.aload_n 0, 1) := by decide +kernel
theorem dX3_suppliedUnits_10 : decode cX3_suppliedUnits 10 = .ok (.iload_n 1, 1) := by decide +kernel
theorem dX3_suppliedUnits_11 : decode cX3_suppliedUnits 11 = .ok (.iconst 1, 1) := by decide +kernel
theorem dX3_suppliedUnits_12 : decode cX3_suppliedUnits 12 = .ok (.iload_n 2, 1) := by decide +kernel
theorem dX3_suppliedUnits_13 : decode cX3_suppliedUnits 13 = .ok (.iconst 4, 1) := by decide +kernel
theorem dX3_suppliedUnits_14 : decode cX3_suppliedUnits 14 = .ok (.invokevirtual 158, 3) := by decide +kernel
theorem dX3_suppliedUnits_17 : decode cX3_suppliedUnits 17 = .ok (.istore 4, 2) := by decide +kernel
theorem dX3_suppliedUnits_19 : decode cX3_suppliedUnits 19 = .ok (.iconst 0, 1) := by decide +kernel
theorem dX3_suppliedUnits_20 : decode cX3_suppliedUnits 20 = .ok (.istore 5, 2) := by decide +kernel
theorem dX3_suppliedUnits_22 : decode cX3_suppliedUnits 22 = .ok (.iconst 0, 1) := by decide +kernel
theorem dX3_suppliedUnits_23 : decode cX3_suppliedUnits 23 = .ok (.istore 6, 2) := by decide +kernel
theorem dX3_suppliedUnits_25 : decode cX3_suppliedUnits 25 = .ok (.iload 6, 2) := by decide +kernel
theorem dX3_suppliedUnits_27 : decode cX3_suppliedUnits 27 = .ok (.aload_n 0, 1) := by decide +kernel
theorem dX3_suppliedUnits_28 : decode cX3_suppliedUnits 28 = .ok (.getfield 23, 3) := by decide +kernel
theorem dX3_suppliedUnits_31 : decode cX3_suppliedUnits 31 = .ok (.invokevirtual 88, 3) := by decide +kernel
theorem dX3_suppliedUnits_34 : decode cX3_suppliedUnits 34 = .ok (.if_icmp .ge 53, 3) := by decide +kernel
theorem dX3_suppliedUnits_37 : decode cX3_suppliedUnits 37 = .ok (.aload_n 0, 1) := by decide +kernel
theorem dX3_suppliedUnits_38 : decode cX3_suppliedUnits 38 = .ok (.getfield 23, 3) := by decide +kernel
theorem dX3_suppliedUnits_41 : decode cX3_suppliedUnits 41 = .ok (.iload 6, 2) := by decide +kernel
theorem dX3_suppliedUnits_43 : decode cX3_suppliedUnits 43 = .ok (.invokevirtual 155, 3) := by decide +kernel
theorem dX3_suppliedUnits_46 : decode cX3_suppliedUnits 46 = .ok (.ifCond .ne 7, 3) := by decide +kernel
theorem dX3_suppliedUnits_49 : decode cX3_suppliedUnits 49 = .ok (.iload_n 3, 1) := by decide +kernel
theorem dX3_suppliedUnits_50 : decode cX3_suppliedUnits 50 = .ok (.goto 5, 3) := by decide +kernel
theorem dX3_suppliedUnits_53 : decode cX3_suppliedUnits 53 = .ok (.iload 4, 2) := by decide +kernel
theorem dX3_suppliedUnits_55 : decode cX3_suppliedUnits 55 = .ok (.aload_n 0, 1) := by decide +kernel
theorem dX3_suppliedUnits_56 : decode cX3_suppliedUnits 56 = .ok (.getfield 23, 3) := by decide +kernel
theorem dX3_suppliedUnits_59 : decode cX3_suppliedUnits 59 = .ok (.iload_n 1, 1) := by decide +kernel
theorem dX3_suppliedUnits_60 : decode cX3_suppliedUnits 60 = .ok (.iload 6, 2) := by decide +kernel
theorem dX3_suppliedUnits_62 : decode cX3_suppliedUnits 62 = .ok (.invokevirtual 149, 3) := by decide +kernel
theorem dX3_suppliedUnits_65 : decode cX3_suppliedUnits 65 = .ok (.invokestatic 85, 3) := by decide +kernel
theorem dX3_suppliedUnits_68 : decode cX3_suppliedUnits 68 = .ok (.ifCond .eq 13, 3) := by decide +kernel
theorem dX3_suppliedUnits_71 : decode cX3_suppliedUnits 71 = .ok (.iload 5, 2) := by decide +kernel
theorem dX3_suppliedUnits_73 : decode cX3_suppliedUnits 73 = .ok (.iload 6, 2) := by decide +kernel
theorem dX3_suppliedUnits_75 : decode cX3_suppliedUnits 75 = .ok (.invokestatic 202, 3) := by decide +kernel
theorem dX3_suppliedUnits_78 : decode cX3_suppliedUnits 78 = .ok (.ior, 1) := by decide +kernel
theorem dX3_suppliedUnits_79 : decode cX3_suppliedUnits 79 = .ok (.istore 5, 2) := by decide +kernel
theorem dX3_suppliedUnits_81 : decode cX3_suppliedUnits 81 = .ok (.iinc 6 1, 3) := by decide +kernel
theorem dX3_suppliedUnits_84 : decode cX3_suppliedUnits 84 = .ok (.goto (-59), 3) := by decide +kernel
theorem dX3_suppliedUnits_87 : decode cX3_suppliedUnits 87 = .ok (.iload 5, 2) := by decide +kernel
theorem dX3_suppliedUnits_89 : decode cX3_suppliedUnits 89 = .ok (.ireturn, 1) := by decide +kernel
set_option maxRecDepth 20000 in
theorem ggX3_goers_X2_count : GoodIn wsX3_goers wsX2_count := goodIn_r _ [7, 8, 48, 49, 50, 51, 52] (by decide +kernel) (by decide +kernel)
set_option maxRecDepth 20000 in
theorem gX3_goers_X2_count : GoodIn wsX3_goers (wsV RX3 88 RX2 yX2_count wsX2_count) := goodIn_app (goodIn_of _ (by decide +kernel)) ggX3_goers_X2_count
set_option maxRecDepth 20000 in
theorem ggX3_goers_X2_townAt : GoodIn wsX3_goers wsX2_townAt := goodIn_r _ [12, 13, 14, 15, 6, 16, 17, 18, 19, 48, 49, 50, 51, 52] (by decide +kernel) (by decide +kernel)
set_option maxRecDepth 20000 in
theorem gX3_goers_X2_townAt : GoodIn wsX3_goers (wsV RX3 149 RX2 yX2_townAt wsX2_townAt) := goodIn_app (goodIn_of _ (by decide +kernel)) ggX3_goers_X2_townAt
set_option maxRecDepth 20000 in
theorem ggX3_goers_X0_nextOverOpen : GoodIn wsX3_goers wsX0_nextOverOpen := goodIn_r _ [24, 25, 26, 27, 28, 29, 53, 54, 55] (by decide +kernel) (by decide +kernel)
set_option maxRecDepth 20000 in
theorem gX3_goers_X0_nextOverOpen : GoodIn wsX3_goers (wsV RX3 208 RX0 yX0_nextOverOpen wsX0_nextOverOpen) := goodIn_app (goodIn_of _ (by decide +kernel)) ggX3_goers_X0_nextOverOpen
set_option maxRecDepth 20000 in
theorem ggX3_goers_X3_has : GoodIn wsX3_goers wsX3_has := goodIn_r _ [32, 33, 34, 28, 35] (by decide +kernel) (by decide +kernel)
set_option maxRecDepth 20000 in
theorem gX3_goers_X3_has : GoodIn wsX3_goers (va_wsS RX3 85 yX3_has wsX3_has) := goodIn_app (goodIn_of _ (by decide +kernel)) ggX3_goers_X3_has
set_option maxRecDepth 20000 in
theorem ggX3_goers_X2_orderFor : GoodIn wsX3_goers wsX2_orderFor := goodIn_r _ [39, 40, 14, 15, 6, 16, 17, 18, 19, 48, 49, 50, 51, 52] (by decide +kernel) (by decide +kernel)
set_option maxRecDepth 20000 in
theorem gX3_goers_X2_orderFor : GoodIn wsX3_goers (wsV RX3 103 RX2 yX2_orderFor wsX2_orderFor) := goodIn_app (goodIn_of _ (by decide +kernel)) ggX3_goers_X2_orderFor
set_option maxRecDepth 20000 in
theorem ggX3_goers_X3_bit : GoodIn wsX3_goers wsX3_bit := goodIn_r _ [35] (by decide +kernel) (by decide +kernel)
set_option maxRecDepth 20000 in
theorem gX3_goers_X3_bit : GoodIn wsX3_goers (va_wsS RX3 202 yX3_bit wsX3_bit) := goodIn_app (goodIn_of _ (by decide +kernel)) ggX3_goers_X3_bit
theorem dX3_goers_0 : decode cX3_goers 0 = .ok (.iconst 0, 1) := by decide +kernel
theorem dX3_goers_1 : decode cX3_goers 1 = .ok (.istore 4, 2) := by decide +kernel
theorem dX3_goers_3 : decode cX3_goers 3 = .ok (.iconst 0, 1) := by decide +kernel
theorem dX3_goers_4 : decode cX3_goers 4 = .ok (.istore 5, 2) := by decide +kernel
theorem dX3_goers_6 : decode cX3_goers 6 = .ok (.iload 5, 2) := by decide +kernel
theorem dX3_goers_8 : decode cX3_goers 8 = .ok (.aload_n 0, 1) := by decide +kernel
theorem dX3_goers_9 : decode cX3_goers 9 = .ok (.getfield 23, 3) := by decide +kernel
theorem dX3_goers_12 : decode cX3_goers 12 = .ok (.invokevirtual 88, 3) := by decide +kernel
theorem dX3_goers_15 : decode cX3_goers 15 = .ok (.if_icmp .ge 66, 3) := by decide +kernel
theorem dX3_goers_18 : decode cX3_goers 18 = .ok (.aload_n 0, 1) := by decide +kernel
theorem dX3_goers_19 : decode cX3_goers 19 = .ok (.getfield 12, 3) := by decide +kernel
theorem dX3_goers_22 : decode cX3_goers 22 = .ok (.aload_n 0, 1) := by decide +kernel
theorem dX3_goers_23 : decode cX3_goers 23 = .ok (.getfield 23, 3) := by decide +kernel
theorem dX3_goers_26 : decode cX3_goers 26 = .ok (.iload_n 1, 1) := by decide +kernel
theorem dX3_goers_27 : decode cX3_goers 27 = .ok (.iload 5, 2) := by decide +kernel
theorem dX3_goers_29 : decode cX3_goers 29 = .ok (.invokevirtual 149, 3) := by decide +kernel
theorem dX3_goers_32 : decode cX3_goers 32 = .ok (.iload_n 2, 1) := by decide +kernel
theorem dX3_goers_33 : decode cX3_goers 33 = .ok (.invokevirtual 208, 3) := by decide +kernel
theorem dX3_goers_36 : decode cX3_goers 36 = .ok (.istore 6, 2) := by decide +kernel
theorem dX3_goers_38 : decode cX3_goers 38 = .ok (.iload_n 3, 1) := by decide +kernel
theorem dX3_goers_39 : decode cX3_goers 39 = .ok (.iload 5, 2) := by decide +kernel
theorem dX3_goers_41 : decode cX3_goers 41 = .ok (.invokestatic 85, 3) := by decide +kernel
theorem dX3_goers_44 : decode cX3_goers 44 = .ok (.ifCond .eq 31, 3) := by decide +kernel
theorem dX3_goers_47 : decode cX3_goers 47 = .ok (.iload 6, 2) := by decide +kernel
theorem dX3_goers_49 : decode cX3_goers 49 = .ok (.aload_n 0, 1) := by decide +kernel
theorem dX3_goers_50 : decode cX3_goers 50 = .ok (.getfield 23, 3) := by decide +kernel
theorem dX3_goers_53 : decode cX3_goers 53 = .ok (.iload_n 1, 1) := by decide +kernel
theorem dX3_goers_54 : decode cX3_goers 54 = .ok (.iload 5, 2) := by decide +kernel
theorem dX3_goers_56 : decode cX3_goers 56 = .ok (.invokevirtual 103, 3) := by decide +kernel
theorem dX3_goers_59 : decode cX3_goers 59 = .ok (.invokestatic 85, 3) := by decide +kernel
theorem dX3_goers_62 : decode cX3_goers 62 = .ok (.ifCond .eq 13, 3) := by decide +kernel
theorem dX3_goers_65 : decode cX3_goers 65 = .ok (.iload 4, 2) := by decide +kernel
theorem dX3_goers_67 : decode cX3_goers 67 = .ok (.iload 5, 2) := by decide +kernel
theorem dX3_goers_69 : decode cX3_goers 69 = .ok (.invokestatic 202, 3) := by decide +kernel
theorem dX3_goers_72 : decode cX3_goers 72 = .ok (.ior, 1) := by decide +kernel
theorem dX3_goers_73 : decode cX3_goers 73 = .ok (.istore 4, 2) := by decide +kernel
theorem dX3_goers_75 : decode cX3_goers 75 = .ok (.iinc 5 1, 3) := by decide +kernel
theorem dX3_goers_78 : decode cX3_goers 78 = .ok (.goto (-72), 3) := by decide +kernel
theorem dX3_goers_81 : decode cX3_goers 81 = .ok (.iload 4, 2) := by decide +kernel
theorem dX3_goers_83 : decode cX3_goers 83 = .ok (.ireturn, 1) := by decide +kernel
set_option maxRecDepth 20000 in
theorem ggX3_march_X2_count : GoodIn wsX3_march wsX2_count := goodIn_r _ [6, 7, 62, 63, 64, 65, 66] (by decide +kernel) (by decide +kernel)
set_option maxRecDepth 20000 in
theorem gX3_march_X2_count : GoodIn wsX3_march (wsV RX3 88 RX2 yX2_count wsX2_count) := goodIn_app (goodIn_of _ (by decide +kernel)) ggX3_march_X2_count
set_option maxRecDepth 20000 in
theorem ggX3_march_X3_has : GoodIn wsX3_march wsX3_has := goodIn_r _ [11, 12, 13, 10, 14] (by decide +kernel) (by decide +kernel)
set_option maxRecDepth 20000 in
theorem gX3_march_X3_has : GoodIn wsX3_march (va_wsS RX3 85 yX3_has wsX3_has) := goodIn_app (goodIn_of _ (by decide +kernel)) ggX3_march_X3_has
set_option maxRecDepth 20000 in
theorem ggX3_march_X3_isMetOnRoad : GoodIn wsX3_march wsX3_isMetOnRoad := goodIn_r _ [18, 1, 2, 3, 4, 5, 6, 7, 8, 9, 10, 11, 12, 13, 14, 19, 20, 21, 22, 23, 24, 25, 26, 27, 28, 29, 30, 31, 32, 33, 34, 35, 36, 37, 38, 39, 40, 41, 55, 56, 57, 58, 59, 60, 61, 62, 63, 64, 65, 66] (by decide +kernel) (by decide +kernel)
set_option maxRecDepth 20000 in
theorem gX3_march_X3_isMetOnRoad : GoodIn wsX3_march (wsV RX3 211 RX3 yX3_isMetOnRoad wsX3_isMetOnRoad) := goodIn_app (goodIn_of _ (by decide +kernel)) ggX3_march_X3_isMetOnRoad
set_option maxRecDepth 20000 in
theorem ggX3_march_X2_orderFor : GoodIn wsX3_march wsX2_orderFor := goodIn_r _ [40, 41, 31, 32, 5, 33, 34, 35, 36, 62, 63, 64, 65, 66] (by decide +kernel) (by decide +kernel)
set_option maxRecDepth 20000 in
theorem gX3_march_X2_orderFor : GoodIn wsX3_march (wsV RX3 103 RX2 yX2_orderFor wsX2_orderFor) := goodIn_app (goodIn_of _ (by decide +kernel)) ggX3_march_X2_orderFor
set_option maxRecDepth 20000 in
theorem ggX3_march_X2_townAt : GoodIn wsX3_march wsX2_townAt := goodIn_r _ [29, 30, 31, 32, 5, 33, 34, 35, 36, 62, 63, 64, 65, 66] (by decide +kernel) (by decide +kernel)
set_option maxRecDepth 20000 in
theorem gX3_march_X2_townAt : GoodIn wsX3_march (wsV RX3 149 RX2 yX2_townAt wsX2_townAt) := goodIn_app (goodIn_of _ (by decide +kernel)) ggX3_march_X2_townAt
set_option maxRecDepth 20000 in
theorem ggX3_march_X2_strengthAt : GoodIn wsX3_march wsX2_strengthAt := goodIn_r _ [45, 46, 31, 32, 5, 33, 34, 35, 36, 62, 63, 64, 65, 66] (by decide +kernel) (by decide +kernel)
set_option maxRecDepth 20000 in
theorem gX3_march_X2_strengthAt : GoodIn wsX3_march (wsV RX3 152 RX2 yX2_strengthAt wsX2_strengthAt) := goodIn_app (goodIn_of _ (by decide +kernel)) ggX3_march_X2_strengthAt
set_option maxRecDepth 20000 in
theorem ggX3_march_X2_place : GoodIn wsX3_march wsX2_place := goodIn_r _ [50, 30, 46, 51, 52, 53, 54, 31, 32, 5, 33, 34, 35, 36, 62, 63, 64, 65, 66] (by decide +kernel) (by decide +kernel)
set_option maxRecDepth 20000 in
theorem gX3_march_X2_place : GoodIn wsX3_march (wsV RX3 215 RX2 yX2_place wsX2_place) := goodIn_app (goodIn_of _ (by decide +kernel)) ggX3_march_X2_place
theorem dX3_march_0 : decode cX3_march 0 = .ok (.iconst 0, 1) := by decide +kernel
theorem dX3_march_1 : decode cX3_march 1 = .ok (.istore_n 3, 1) := by decide +kernel
theorem dX3_march_2 : decode cX3_march 2 = .ok (.iload_n 3, 1) := by decide +kernel
theorem dX3_march_3 : decode cX3_march 3 = .ok (.aload_n 0, 1) := by decide +kernel
theorem dX3_march_4 : decode cX3_march 4 = .ok (.getfield 23, 3) := by decide +kernel
theorem dX3_march_7 : decode cX3_march 7 = .ok (.invokevirtual 88, 3) := by decide +kernel
theorem dX3_march_10 : decode cX3_march 10 = .ok (.if_icmp .ge 84, 3) := by decide +kernel
theorem dX3_march_13 : decode cX3_march 13 = .ok (.iload_n 2, 1) := by decide +kernel
theorem dX3_march_14 : decode cX3_march 14 = .ok (.iload_n 3, 1) := by decide +kernel
theorem dX3_march_15 : decode cX3_march 15 = .ok (.invokestatic 85, 3) := by decide +kernel
theorem dX3_march_18 : decode cX3_march 18 = .ok (.ifCond .eq 17, 3) := by decide +kernel
theorem dX3_march_21 : decode cX3_march 21 = .ok (.aload_n 0, 1) := by decide +kernel
theorem dX3_march_22 : decode cX3_march 22 = .ok (.iload_n 1, 1) := by decide +kernel
theorem dX3_march_23 : decode cX3_march 23 = .ok (.iload_n 3, 1) := by decide +kernel
theorem dX3_march_24 : decode cX3_march 24 = .ok (.iload_n 2, 1) := by decide +kernel
theorem dX3_march_25 : decode cX3_march 25 = .ok (.invokevirtual 211, 3) := by decide +kernel
theorem dX3_march_28 : decode cX3_march 28 = .ok (.ifCond .ne 7, 3) := by decide +kernel
theorem dX3_march_31 : decode cX3_march 31 = .ok (.iconst 1, 1) := by decide +kernel
theorem dX3_march_32 : decode cX3_march 32 = .ok (.goto 4, 3) := by decide +kernel
theorem dX3_march_35 : decode cX3_march 35 = .ok (.iconst 0, 1) := by decide +kernel
theorem dX3_march_36 : decode cX3_march 36 = .ok (.istore 4, 2) := by decide +kernel
theorem dX3_march_38 : decode cX3_march 38 = .ok (.iload 4, 2) := by decide +kernel
theorem dX3_march_40 : decode cX3_march 40 = .ok (.ifCond .eq 15, 3) := by decide +kernel
theorem dX3_march_43 : decode cX3_march 43 = .ok (.aload_n 0, 1) := by decide +kernel
theorem dX3_march_44 : decode cX3_march 44 = .ok (.getfield 23, 3) := by decide +kernel
theorem dX3_march_47 : decode cX3_march 47 = .ok (.iload_n 1, 1) := by decide +kernel
theorem dX3_march_48 : decode cX3_march 48 = .ok (.iload_n 3, 1) := by decide +kernel
theorem dX3_march_49 : decode cX3_march 49 = .ok (.invokevirtual 103, 3) := by decide +kernel
theorem dX3_march_52 : decode cX3_march 52 = .ok (.goto 12, 3) := by decide +kernel
theorem dX3_march_55 : decode cX3_march 55 = .ok (.aload_n 0, 1) := by decide +kernel
theorem dX3_march_56 : decode cX3_march 56 = .ok (.getfield 23, 3) := by decide +kernel
theorem dX3_march_59 : decode cX3_march 59 = .ok (.iload_n 1, 1) := by decide +kernel
theorem dX3_march_60 : decode cX3_march 60 = .ok (.iload_n 3, 1) := by decide +kernel
theorem dX3_march_61 : decode cX3_march 61 = .ok (.invokevirtual 149, 3) := by decide +kernel
theorem dX3_march_64 : decode cX3_march 64 = .ok (.istore 5, 2) := by decide +kernel
theorem dX3_march_66 : decode cX3_march 66 = .ok (.aload_n 0, 1) := by decide +kernel
theorem dX3_march_67 : decode cX3_march 67 = .ok (.getfield 23, 3) := by decide +kernel
theorem dX3_march_70 : decode cX3_march 70 = .ok (.iload_n 1, 1) := by decide +kernel
theorem dX3_march_71 : decode cX3_march 71 = .ok (.iconst 1, 1) := by decide +kernel
theorem dX3_march_72 : decode cX3_march 72 = .ok (.iadd, 1) := by decide +kernel
theorem dX3_march_73 : decode cX3_march 73 = .ok (.iload_n 3, 1) := by decide +kernel
theorem dX3_march_74 : decode cX3_march 74 = .ok (.iload 5, 2) := by decide +kernel
theorem dX3_march_76 : decode cX3_march 76 = .ok (.aload_n 0, 1) := by decide +kernel
theorem dX3_march_77 : decode cX3_march 77 = .ok (.getfield 23, 3) := by decide +kernel
theorem dX3_march_80 : decode cX3_march 80 = .ok (.iload_n 1, 1) := by decide +kernel
theorem dX3_march_81 : decode cX3_march 81 = .ok (.iload_n 3, 1) := by decide +kernel
theorem dX3_march_82 : decode cX3_march 82 = .ok (.invokevirtual 152, 3) := by decide +kernel
theorem dX3_march_85 : decode cX3_march 85 = .ok (.invokevirtual 215, 3) := by decide +kernel
theorem dX3_march_88 : decode cX3_march 88 = .ok (.iinc 3 1, 3) := by decide +kernel
theorem dX3_march_91 : decode cX3_march 91 = .ok (.goto (-89), 3) := by decide +kernel
theorem dX3_march_94 : decode cX3_march 94 = .ok (.return_, 1) := by decide +kernel
set_option maxRecDepth 20000 in
theorem ggX3_isMetOnRoad_X2_count : GoodIn wsX3_isMetOnRoad wsX2_count := goodIn_r _ [6, 7, 45, 46, 47, 48, 49] (by decide +kernel) (by decide +kernel)
set_option maxRecDepth 20000 in
theorem gX3_isMetOnRoad_X2_count : GoodIn wsX3_isMetOnRoad (wsV RX3 88 RX2 yX2_count wsX2_count) := goodIn_app (goodIn_of _ (by decide +kernel)) ggX3_isMetOnRoad_X2_count
set_option maxRecDepth 20000 in
theorem ggX3_isMetOnRoad_X3_has : GoodIn wsX3_isMetOnRoad wsX3_has := goodIn_r _ [11, 12, 13, 10, 14] (by decide +kernel) (by decide +kernel)
set_option maxRecDepth 20000 in
theorem gX3_isMetOnRoad_X3_has : GoodIn wsX3_isMetOnRoad (va_wsS RX3 85 yX3_has wsX3_has) := goodIn_app (goodIn_of _ (by decide +kernel)) ggX3_isMetOnRoad_X3_has
set_option maxRecDepth 20000 in
theorem ggX3_isMetOnRoad_X2_sideOf : GoodIn wsX3_isMetOnRoad wsX2_sideOf := goodIn_r _ [18, 19, 20, 10, 21, 45, 46, 47, 48, 49] (by decide +kernel) (by decide +kernel)
set_option maxRecDepth 20000 in
theorem gX3_isMetOnRoad_X2_sideOf : GoodIn wsX3_isMetOnRoad (wsV RX3 155 RX2 yX2_sideOf wsX2_sideOf) := goodIn_app (goodIn_of _ (by decide +kernel)) ggX3_isMetOnRoad_X2_sideOf
set_option maxRecDepth 20000 in
theorem ggX3_isMetOnRoad_X2_townAt : GoodIn wsX3_isMetOnRoad wsX2_townAt := goodIn_r _ [25, 26, 27, 28, 5, 29, 30, 31, 32, 45, 46, 47, 48, 49] (by decide +kernel) (by decide +kernel)
set_option maxRecDepth 20000 in
theorem gX3_isMetOnRoad_X2_townAt : GoodIn wsX3_isMetOnRoad (wsV RX3 149 RX2 yX2_townAt wsX2_townAt) := goodIn_app (goodIn_of _ (by decide +kernel)) ggX3_isMetOnRoad_X2_townAt
set_option maxRecDepth 20000 in
theorem ggX3_isMetOnRoad_X2_orderFor : GoodIn wsX3_isMetOnRoad wsX2_orderFor := goodIn_r _ [36, 37, 27, 28, 5, 29, 30, 31, 32, 45, 46, 47, 48, 49] (by decide +kernel) (by decide +kernel)
set_option maxRecDepth 20000 in
theorem gX3_isMetOnRoad_X2_orderFor : GoodIn wsX3_isMetOnRoad (wsV RX3 103 RX2 yX2_orderFor wsX2_orderFor) := goodIn_app (goodIn_of _ (by decide +kernel)) ggX3_isMetOnRoad_X2_orderFor
theorem dX3_isMetOnRoad_0 : decode cX3_isMetOnRoad 0 = .ok (.iconst 0, 1) := by decide +kernel
theorem dX3_isMetOnRoad_1 : decode cX3_isMetOnRoad 1 = .ok (.istore 4, 2) := by decide +kernel
theorem dX3_isMetOnRoad_3 : decode cX3_isMetOnRoad 3 = .ok (.iload 4, 2) := by decide +kernel
theorem dX3_isMetOnRoad_5 : decode cX3_isMetOnRoad 5 = .ok (.aload_n 0, 1) := by decide +kernel
theorem dX3_isMetOnRoad_6 : decode cX3_isMetOnRoad 6 = .ok (.getfield 23, 3) := by decide +kernel
theorem dX3_isMetOnRoad_9 : decode cX3_isMetOnRoad 9 = .ok (.invokevirtual 88, 3) := by decide +kernel
theorem dX3_isMetOnRoad_12 : decode cX3_isMetOnRoad 12 = .ok (.if_icmp .ge 84, 3) := by decide +kernel
theorem dX3_isMetOnRoad_15 : decode cX3_isMetOnRoad 15 = .ok (.iload_n 3, 1) := by decide +kernel
theorem dX3_isMetOnRoad_16 : decode cX3_isMetOnRoad 16 = .ok (.iload 4, 2) := by decide +kernel
theorem dX3_isMetOnRoad_18 : decode cX3_isMetOnRoad 18 = .ok (.invokestatic 85, 3) := by decide +kernel
theorem dX3_isMetOnRoad_21 : decode cX3_isMetOnRoad 21 = .ok (.ifCond .eq 69, 3) := by decide +kernel
theorem dX3_isMetOnRoad_24 : decode cX3_isMetOnRoad 24 = .ok (.aload_n 0, 1) := by decide +kernel
theorem dX3_isMetOnRoad_25 : decode cX3_isMetOnRoad 25 = .ok (.getfield 23, 3) := by decide +kernel
theorem dX3_isMetOnRoad_28 : decode cX3_isMetOnRoad 28 = .ok (.iload 4, 2) := by decide +kernel
theorem dX3_isMetOnRoad_30 : decode cX3_isMetOnRoad 30 = .ok (.invokevirtual 155, 3) := by decide +kernel
theorem dX3_isMetOnRoad_33 : decode cX3_isMetOnRoad 33 = .ok (.aload_n 0, 1) := by decide +kernel
theorem dX3_isMetOnRoad_34 : decode cX3_isMetOnRoad 34 = .ok (.getfield 23, 3) := by decide +kernel
theorem dX3_isMetOnRoad_37 : decode cX3_isMetOnRoad 37 = .ok (.iload_n 2, 1) := by decide +kernel
theorem dX3_isMetOnRoad_38 : decode cX3_isMetOnRoad 38 = .ok (.invokevirtual 155, 3) := by decide +kernel
theorem dX3_isMetOnRoad_41 : decode cX3_isMetOnRoad 41 = .ok (.if_icmp .eq 49, 3) := by decide +kernel
theorem dX3_isMetOnRoad_44 : decode cX3_isMetOnRoad 44 = .ok (.aload_n 0, 1) := by decide +kernel
theorem dX3_isMetOnRoad_45 : decode cX3_isMetOnRoad 45 = .ok (.getfield 23, 3) := by decide +kernel
theorem dX3_isMetOnRoad_48 : decode cX3_isMetOnRoad 48 = .ok (.iload_n 1, 1) := by decide +kernel
theorem dX3_isMetOnRoad_49 : decode cX3_isMetOnRoad 49 = .ok (.iload 4, 2) := by decide +kernel
theorem dX3_isMetOnRoad_51 : decode cX3_isMetOnRoad 51 = .ok (.invokevirtual 149, 3) := by decide +kernel
theorem dX3_isMetOnRoad_54 : decode cX3_isMetOnRoad 54 = .ok (.aload_n 0, 1) := by decide +kernel
theorem dX3_isMetOnRoad_55 : decode cX3_isMetOnRoad 55 = .ok (.getfield 23, 3) := by decide +kernel
theorem dX3_isMetOnRoad_58 : decode cX3_isMetOnRoad 58 = .ok (.iload_n 1, 1) := by decide +kernel
theorem dX3_isMetOnRoad_59 : decode cX3_isMetOnRoad 59 = .ok (.iload_n 2, 1) := by decide +kernel
theorem dX3_isMetOnRoad_60 : decode cX3_isMetOnRoad 60 = .ok (.invokevirtual 103, 3) := by decide +kernel
theorem dX3_isMetOnRoad_63 : decode cX3_isMetOnRoad 63 = .ok (.if_icmp .ne 27, 3) := by decide +kernel
theorem dX3_isMetOnRoad_66 : decode cX3_isMetOnRoad 66 = .ok (.aload_n 0, 1) := by decide +kernel
theorem dX3_isMetOnRoad_67 : decode cX3_isMetOnRoad 67 = .ok (.getfield 23, 3) := by decide +kernel
theorem dX3_isMetOnRoad_70 : decode cX3_isMetOnRoad 70 = .ok (.iload_n 1, 1) := by decide +kernel
theorem dX3_isMetOnRoad_71 : decode cX3_isMetOnRoad 71 = .ok (.iload 4, 2) := by decide +kernel
theorem dX3_isMetOnRoad_73 : decode cX3_isMetOnRoad 73 = .ok (.invokevirtual 103, 3) := by decide +kernel
theorem dX3_isMetOnRoad_76 : decode cX3_isMetOnRoad 76 = .ok (.aload_n 0, 1) := by decide +kernel
theorem dX3_isMetOnRoad_77 : decode cX3_isMetOnRoad 77 = .ok (.getfield 23, 3) := by decide +kernel
theorem dX3_isMetOnRoad_80 : decode cX3_isMetOnRoad 80 = .ok (.iload_n 1, 1) := by decide +kernel
theorem dX3_isMetOnRoad_81 : decode cX3_isMetOnRoad 81 = .ok (.iload_n 2, 1) := by decide +kernel
theorem dX3_isMetOnRoad_82 : decode cX3_isMetOnRoad 82 = .ok (.invokevirtual 149, 3) := by decide +kernel
theorem dX3_isMetOnRoad_85 : decode cX3_isMetOnRoad 85 = .ok (.if_icmp .ne 5, 3) := by decide +kernel
theorem dX3_isMetOnRoad_88 : decode cX3_isMetOnRoad 88 = .ok (.iconst 1, 1) := by decide +kernel
theorem dX3_isMetOnRoad_89 : decode cX3_isMetOnRoad 89 = .ok (.ireturn, 1) := by decide +kernel
theorem dX3_isMetOnRoad_90 : decode cX3_isMetOnRoad 90 = .ok (.iinc 4 1, 3) := by decide +kernel
theorem dX3_isMetOnRoad_93 : decode cX3_isMetOnRoad 93 = .ok (.goto (-90), 3) := by decide +kernel
theorem dX3_isMetOnRoad_96 : decode cX3_isMetOnRoad 96 = .ok (.iconst 0, 1) := by decide +kernel
theorem dX3_isMetOnRoad_97 : decode cX3_isMetOnRoad 97 = .ok (.ireturn, 1) := by decide +kernel
set_option maxRecDepth 20000 in
theorem ggX3_fightEverywhere_X2_townsHeld : GoodIn wsX3_fightEverywhere wsX2_townsHeld := goodIn_r _ [6, 7, 8, 9, 10, 5, 11, 12, 13, 14, 15, 16, 17, 18, 19, 20, 21, 22, 23, 24, 25, 26, 27, 28, 70, 71, 72, 73, 74] (by decide +kernel) (by decide +kernel)
set_option maxRecDepth 20000 in
theorem gX3_fightEverywhere_X2_townsHeld : GoodIn wsX3_fightEverywhere (wsV RX3 81 RX2 yX2_townsHeld wsX2_townsHeld) := goodIn_app (goodIn_of _ (by decide +kernel)) ggX3_fightEverywhere_X2_townsHeld
set_option maxRecDepth 20000 in
theorem ggX3_fightEverywhere_X3_has : GoodIn wsX3_fightEverywhere wsX3_has := goodIn_r _ [31, 32, 27, 25, 28] (by decide +kernel) (by decide +kernel)
set_option maxRecDepth 20000 in
theorem gX3_fightEverywhere_X3_has : GoodIn wsX3_fightEverywhere (va_wsS RX3 85 yX3_has wsX3_has) := goodIn_app (goodIn_of _ (by decide +kernel)) ggX3_fightEverywhere_X3_has
set_option maxRecDepth 20000 in
theorem ggX3_fightEverywhere_X3_fight : GoodIn wsX3_fightEverywhere wsX3_fight := goodIn_r _ [36, 1, 37, 38, 39, 25, 40, 41, 42, 43, 5, 44, 7, 45, 20, 21, 22, 23, 24, 26, 46, 9, 10, 11, 12, 13, 14, 15, 16, 17, 18, 47, 48, 49, 50, 51, 29, 30, 31, 32, 27, 28, 52, 53, 54, 55, 56, 57, 58, 59, 60, 61, 62, 63, 64, 65, 66, 67, 68, 69, 70, 71, 72, 73, 74] (by decide +kernel) (by decide +kernel)
set_option maxRecDepth 20000 in
theorem gX3_fightEverywhere_X3_fight : GoodIn wsX3_fightEverywhere (wsV RX3 219 RX3 yX3_fight wsX3_fight) := goodIn_app (goodIn_of _ (by decide +kernel)) ggX3_fightEverywhere_X3_fight
theorem dX3_fightEverywhere_0 : decode cX3_fightEverywhere 0 = .ok (.aload_n 0, 1) := by decide +kernel
theorem dX3_fightEverywhere_1 : decode cX3_fightEverywhere 1 = .ok (.getfield 23, 3) := by decide +kernel
theorem dX3_fightEverywhere_4 : decode cX3_fightEverywhere 4 = .ok (.iload_n 1, 1) := by decide +kernel
theorem dX3_fightEverywhere_5 : decode cX3_fightEverywhere 5 = .ok (.iconst 0, 1) := by decide +kernel
theorem dX3_fightEverywhere_6 : decode cX3_fightEverywhere 6 = .ok (.invokevirtual 81, 3) := by decide +kernel
theorem dX3_fightEverywhere_9 : decode cX3_fightEverywhere 9 = .ok (.aload_n 0, 1) := by decide +kernel
theorem dX3_fightEverywhere_10 : decode cX3_fightEverywhere 10 = .ok (.getfield 23, 3) := by decide +kernel
theorem dX3_fightEverywhere_13 : decode cX3_fightEverywhere 13 = .ok (.iload_n 1, 1) := by decide +kernel
theorem dX3_fightEverywhere_14 : decode cX3_fightEverywhere 14 = .ok (.iconst 1, 1) := by decide +kernel
theorem dX3_fightEverywhere_15 : decode cX3_fightEverywhere 15 = .ok (.invokevirtual 81, 3) := by decide +kernel
theorem dX3_fightEverywhere_18 : decode cX3_fightEverywhere 18 = .ok (.iand, 1) := by decide +kernel
theorem dX3_fightEverywhere_19 : decode cX3_fightEverywhere 19 = .ok (.istore_n 3, 1) := by decide +kernel
theorem dX3_fightEverywhere_20 : decode cX3_fightEverywhere 20 = .ok (.iconst 0, 1) := by decide +kernel
theorem dX3_fightEverywhere_21 : decode cX3_fightEverywhere 21 = .ok (.istore 4, 2) := by decide +kernel
theorem dX3_fightEverywhere_23 : decode cX3_fightEverywhere 23 = .ok (.iload 4, 2) := by decide +kernel
theorem dX3_fightEverywhere_25 : decode cX3_fightEverywhere 25 = .ok (.bipush 10, 2) := by decide +kernel
theorem dX3_fightEverywhere_27 : decode cX3_fightEverywhere 27 = .ok (.if_icmp .ge 26, 3) := by decide +kernel
theorem dX3_fightEverywhere_30 : decode cX3_fightEverywhere 30 = .ok (.iload_n 3, 1) := by decide +kernel
theorem dX3_fightEverywhere_31 : decode cX3_fightEverywhere 31 = .ok (.iload 4, 2) := by decide +kernel
theorem dX3_fightEverywhere_33 : decode cX3_fightEverywhere 33 = .ok (.invokestatic 85, 3) := by decide +kernel
theorem dX3_fightEverywhere_36 : decode cX3_fightEverywhere 36 = .ok (.ifCond .eq 11, 3) := by decide +kernel
theorem dX3_fightEverywhere_39 : decode cX3_fightEverywhere 39 = .ok (.aload_n 0, 1) := by decide +kernel
theorem dX3_fightEverywhere_40 : decode cX3_fightEverywhere 40 = .ok (.iload_n 1, 1) := by decide +kernel
theorem dX3_fightEverywhere_41 : decode cX3_fightEverywhere 41 = .ok (.iload 4, 2) := by decide +kernel
theorem dX3_fightEverywhere_43 : decode cX3_fightEverywhere 43 = .ok (.iload_n 2, 1) := by decide +kernel
theorem dX3_fightEverywhere_44 : decode cX3_fightEverywhere 44 = .ok (.invokevirtual 219, 3) := by decide +kernel
theorem dX3_fightEverywhere_47 : decode cX3_fightEverywhere 47 = .ok (.iinc 4 1, 3) := by decide +kernel
theorem dX3_fightEverywhere_50 : decode cX3_fightEverywhere 50 = .ok (.goto (-27), 3) := by decide +kernel
theorem dX3_fightEverywhere_53 : decode cX3_fightEverywhere 53 = .ok (.return_, 1) := by decide +kernel
set_option maxRecDepth 20000 in
theorem ggX3_fight_X3_sumInFight : GoodIn wsX3_fight wsX3_sumInFight := goodIn_r _ [6, 1, 7, 8, 9, 10, 11, 12, 13, 14, 15, 16, 17, 18, 5, 19, 20, 21, 22, 23, 24, 25, 26, 27, 28, 29, 30, 31, 32, 33, 34, 35, 36, 37, 38, 39, 40, 41, 53, 54, 55, 56, 57, 58, 59, 60, 61, 62, 63, 64] (by decide +kernel) (by decide +kernel)
set_option maxRecDepth 20000 in
theorem gX3_fight_X3_sumInFight : GoodIn wsX3_fight (wsV RX3 222 RX3 yX3_sumInFight wsX3_sumInFight) := goodIn_app (goodIn_of _ (by decide +kernel)) ggX3_fight_X3_sumInFight
set_option maxRecDepth 20000 in
theorem ggX3_fight_X2_count : GoodIn wsX3_fight wsX2_count := goodIn_r _ [11, 12, 60, 61, 62, 63, 64] (by decide +kernel) (by decide +kernel)
set_option maxRecDepth 20000 in
theorem gX3_fight_X2_count : GoodIn wsX3_fight (wsV RX3 88 RX2 yX2_count wsX2_count) := goodIn_app (goodIn_of _ (by decide +kernel)) ggX3_fight_X2_count
set_option maxRecDepth 20000 in
theorem ggX3_fight_X2_townAt : GoodIn wsX3_fight wsX2_townAt := goodIn_r _ [23, 24, 25, 26, 10, 27, 28, 29, 30, 60, 61, 62, 63, 64] (by decide +kernel) (by decide +kernel)
set_option maxRecDepth 20000 in
theorem gX3_fight_X2_townAt : GoodIn wsX3_fight (wsV RX3 149 RX2 yX2_townAt wsX2_townAt) := goodIn_app (goodIn_of _ (by decide +kernel)) ggX3_fight_X2_townAt
set_option maxRecDepth 20000 in
theorem ggX3_fight_X2_sideOf : GoodIn wsX3_fight wsX2_sideOf := goodIn_r _ [16, 17, 18, 5, 19, 60, 61, 62, 63, 64] (by decide +kernel) (by decide +kernel)
set_option maxRecDepth 20000 in
theorem gX3_fight_X2_sideOf : GoodIn wsX3_fight (wsV RX3 155 RX2 yX2_sideOf wsX2_sideOf) := goodIn_app (goodIn_of _ (by decide +kernel)) ggX3_fight_X2_sideOf
set_option maxRecDepth 20000 in
theorem ggX3_fight_X3_loss : GoodIn wsX3_fight wsX3_loss := goodIn_r _ [44] (by decide +kernel) (by decide +kernel)
set_option maxRecDepth 20000 in
theorem gX3_fight_X3_loss : GoodIn wsX3_fight (va_wsS RX3 225 yX3_loss wsX3_loss) := goodIn_app (goodIn_of _ (by decide +kernel)) ggX3_fight_X3_loss
set_option maxRecDepth 20000 in
theorem ggX3_fight_X2_strengthAt : GoodIn wsX3_fight wsX2_strengthAt := goodIn_r _ [34, 35, 25, 26, 10, 27, 28, 29, 30, 60, 61, 62, 63, 64] (by decide +kernel) (by decide +kernel)
set_option maxRecDepth 20000 in
theorem gX3_fight_X2_strengthAt : GoodIn wsX3_fight (wsV RX3 152 RX2 yX2_strengthAt wsX2_strengthAt) := goodIn_app (goodIn_of _ (by decide +kernel)) ggX3_fight_X2_strengthAt
set_option maxRecDepth 20000 in
theorem ggX3_fight_X2_place : GoodIn wsX3_fight wsX2_place := goodIn_r _ [48, 24, 35, 49, 50, 51, 52, 25, 26, 10, 27, 28, 29, 30, 60, 61, 62, 63, 64] (by decide +kernel) (by decide +kernel)
set_option maxRecDepth 20000 in
theorem gX3_fight_X2_place : GoodIn wsX3_fight (wsV RX3 215 RX2 yX2_place wsX2_place) := goodIn_app (goodIn_of _ (by decide +kernel)) ggX3_fight_X2_place
theorem dX3_fight_0 : decode cX3_fight 0 = .ok (.aload_n 0, 1) := by decide +kernel
theorem dX3_fight_1 : decode cX3_fight 1 = .ok (.iload_n 1, 1) := by decide +kernel
theorem dX3_fight_2 : decode cX3_fight 2 = .ok (.iload_n 2, 1) := by decide +kernel
theorem dX3_fight_3 : decode cX3_fight 3 = .ok (.iconst 0, 1) := by decide +kernel
theorem dX3_fight_4 : decode cX3_fight 4 = .ok (.iload_n 3, 1) := by decide +kernel
theorem dX3_fight_5 : decode cX3_fight 5 = .ok (.invokevirtual 222, 3) := by decide +kernel
theorem dX3_fight_8 : decode cX3_fight 8 = .ok (.istore 4, 2) := by decide +kernel
theorem dX3_fight_10 : decode cX3_fight 10 = .ok (.aload_n 0, 1) := by decide +kernel
theorem dX3_fight_11 : decode cX3_fight 11 = .ok (.iload_n 1, 1) := by decide +kernel
theorem dX3_fight_12 : decode cX3_fight 12 = .ok (.iload_n 2, 1) := by decide +kernel
theorem dX3_fight_13 : decode cX3_fight 13 = .ok (.iconst 1, 1) := by decide +kernel
theorem dX3_fight_14 : decode cX3_fight 14 = .ok (.iload_n 3, 1) := by decide +kernel
theorem dX3_fight_15 : decode cX3_fight 15 = .ok (.invokevirtual 222, 3) := by decide +kernel
theorem dX3_fight_18 : decode cX3_fight 18 = .ok (.istore 5, 2) := by decide +kernel
theorem dX3_fight_20 : decode cX3_fight 20 = .ok (.iconst 0, 1) := by decide +kernel
theorem dX3_fight_21 : decode cX3_fight 21 = .ok (.istore 6, 2) := by decide +kernel
theorem dX3_fight_23 : decode cX3_fight 23 = .ok (.iload 6, 2) := by decide +kernel
theorem dX3_fight_25 : decode cX3_fight 25 = .ok (.aload_n 0, 1) := by decide +kernel
theorem dX3_fight_26 : decode cX3_fight 26 = .ok (.getfield 23, 3) := by decide +kernel
theorem dX3_fight_29 : decode cX3_fight 29 = .ok (.invokevirtual 88, 3) := by decide +kernel
theorem dX3_fight_32 : decode cX3_fight 32 = .ok (.if_icmp .ge 78, 3) := by decide +kernel
theorem dX3_fight_35 : decode cX3_fight 35 = .ok (.aload_n 0, 1) := by decide +kernel
theorem dX3_fight_36 : decode cX3_fight 36 = .ok (.getfield 23, 3) := by decide +kernel
theorem dX3_fight_39 : decode cX3_fight 39 = .ok (.iload_n 1, 1) := by decide +kernel
theorem dX3_fight_40 : decode cX3_fight 40 = .ok (.iload 6, 2) := by decide +kernel
theorem dX3_fight_42 : decode cX3_fight 42 = .ok (.invokevirtual 149, 3) := by decide +kernel
theorem dX3_fight_45 : decode cX3_fight 45 = .ok (.iload_n 2, 1) := by decide +kernel
theorem dX3_fight_46 : decode cX3_fight 46 = .ok (.if_icmp .ne 58, 3) := by decide +kernel
theorem dX3_fight_49 : decode cX3_fight 49 = .ok (.aload_n 0, 1) := by decide +kernel
theorem dX3_fight_50 : decode cX3_fight 50 = .ok (.getfield 23, 3) := by decide +kernel
theorem dX3_fight_53 : decode cX3_fight 53 = .ok (.iload 6, 2) := by decide +kernel
theorem dX3_fight_55 : decode cX3_fight 55 = .ok (.invokevirtual 155, 3) := by decide +kernel
theorem dX3_fight_58 : decode cX3_fight 58 = .ok (.ifCond .ne 13, 3) := by decide +kernel
theorem dX3_fight_61 : decode cX3_fight 61 = .ok (.iload 4, 2) := by decide +kernel
theorem dX3_fight_63 : decode cX3_fight 63 = .ok (.iload 5, 2) := by decide +kernel
theorem dX3_fight_65 : decode cX3_fight 65 = .ok (.invokestatic 225, 3) := by decide +kernel
theorem dX3_fight_68 : decode cX3_fight 68 = .ok (.goto 10, 3) := by decide +kernel
theorem dX3_fight_71 : decode cX3_fight 71 = .ok (.iload 5, 2) := by decide +kernel
theorem dX3_fight_73 : decode cX3_fight 73 = .ok (.iload 4, 2) := by decide +kernel
theorem dX3_fight_75 : decode cX3_fight 75 = .ok (.invokestatic 225, 3) := by decide +kernel
theorem dX3_fight_78 : decode cX3_fight 78 = .ok (.istore 7, 2) := by decide +kernel
theorem dX3_fight_80 : decode cX3_fight 80 = .ok (.aload_n 0, 1) := by decide +kernel
theorem dX3_fight_81 : decode cX3_fight 81 = .ok (.getfield 23, 3) := by decide +kernel
theorem dX3_fight_84 : decode cX3_fight 84 = .ok (.iload_n 1, 1) := by decide +kernel
theorem dX3_fight_85 : decode cX3_fight 85 = .ok (.iload 6, 2) := by decide +kernel
theorem dX3_fight_87 : decode cX3_fight 87 = .ok (.iload_n 2, 1) := by decide +kernel
theorem dX3_fight_88 : decode cX3_fight 88 = .ok (.aload_n 0, 1) := by decide +kernel
theorem dX3_fight_89 : decode cX3_fight 89 = .ok (.getfield 23, 3) := by decide +kernel
theorem dX3_fight_92 : decode cX3_fight 92 = .ok (.iload_n 1, 1) := by decide +kernel
theorem dX3_fight_93 : decode cX3_fight 93 = .ok (.iload 6, 2) := by decide +kernel
theorem dX3_fight_95 : decode cX3_fight 95 = .ok (.invokevirtual 152, 3) := by decide +kernel
theorem dX3_fight_98 : decode cX3_fight 98 = .ok (.iload 7, 2) := by decide +kernel
theorem dX3_fight_100 : decode cX3_fight 100 = .ok (.isub, 1) := by decide +kernel
theorem dX3_fight_101 : decode cX3_fight 101 = .ok (.invokevirtual 215, 3) := by decide +kernel
theorem dX3_fight_104 : decode cX3_fight 104 = .ok (.iinc 6 1, 3) := by decide +kernel
theorem dX3_fight_107 : decode cX3_fight 107 = .ok (.goto (-84), 3) := by decide +kernel
theorem dX3_fight_110 : decode cX3_fight 110 = .ok (.return_, 1) := by decide +kernel
set_option maxRecDepth 20000 in
theorem ggX3_sumInFight_X2_count : GoodIn wsX3_sumInFight wsX2_count := goodIn_r _ [6, 7, 45, 46, 47, 48, 49] (by decide +kernel) (by decide +kernel)
set_option maxRecDepth 20000 in
theorem gX3_sumInFight_X2_count : GoodIn wsX3_sumInFight (wsV RX3 88 RX2 yX2_count wsX2_count) := goodIn_app (goodIn_of _ (by decide +kernel)) ggX3_sumInFight_X2_count
set_option maxRecDepth 20000 in
theorem ggX3_sumInFight_X2_sideOf : GoodIn wsX3_sumInFight wsX2_sideOf := goodIn_r _ [11, 12, 13, 14, 15, 45, 46, 47, 48, 49] (by decide +kernel) (by decide +kernel)
set_option maxRecDepth 20000 in
theorem gX3_sumInFight_X2_sideOf : GoodIn wsX3_sumInFight (wsV RX3 155 RX2 yX2_sideOf wsX2_sideOf) := goodIn_app (goodIn_of _ (by decide +kernel)) ggX3_sumInFight_X2_sideOf
set_option maxRecDepth 20000 in
theorem ggX3_sumInFight_X2_townAt : GoodIn wsX3_sumInFight wsX2_townAt := goodIn_r _ [19, 20, 21, 22, 5, 23, 24, 25, 26, 45, 46, 47, 48, 49] (by decide +kernel) (by decide +kernel)
set_option maxRecDepth 20000 in
theorem gX3_sumInFight_X2_townAt : GoodIn wsX3_sumInFight (wsV RX3 149 RX2 yX2_townAt wsX2_townAt) := goodIn_app (goodIn_of _ (by decide +kernel)) ggX3_sumInFight_X2_townAt
set_option maxRecDepth 20000 in
theorem ggX3_sumInFight_X2_strengthAt : GoodIn wsX3_sumInFight wsX2_strengthAt := goodIn_r _ [30, 31, 21, 22, 5, 23, 24, 25, 26, 45, 46, 47, 48, 49] (by decide +kernel) (by decide +kernel)
set_option maxRecDepth 20000 in
theorem gX3_sumInFight_X2_strengthAt : GoodIn wsX3_sumInFight (wsV RX3 152 RX2 yX2_strengthAt wsX2_strengthAt) := goodIn_app (goodIn_of _ (by decide +kernel)) ggX3_sumInFight_X2_strengthAt
set_option maxRecDepth 20000 in
theorem ggX3_sumInFight_X3_has : GoodIn wsX3_sumInFight wsX3_has := goodIn_r _ [34, 35, 36, 14, 37] (by decide +kernel) (by decide +kernel)
set_option maxRecDepth 20000 in
theorem gX3_sumInFight_X3_has : GoodIn wsX3_sumInFight (va_wsS RX3 85 yX3_has wsX3_has) := goodIn_app (goodIn_of _ (by decide +kernel)) ggX3_sumInFight_X3_has
theorem dX3_sumInFight_0 : decode cX3_sumInFight 0 = .ok (.iconst 0, 1) := by decide +kernel
theorem dX3_sumInFight_1 : decode cX3_sumInFight 1 = .ok (.istore 5, 2) := by decide +kernel
theorem dX3_sumInFight_3 : decode cX3_sumInFight 3 = .ok (.iconst 0, 1) := by decide +kernel
theorem dX3_sumInFight_4 : decode cX3_sumInFight 4 = .ok (.istore 6, 2) := by decide +kernel
theorem dX3_sumInFight_6 : decode cX3_sumInFight 6 = .ok (.iload 6, 2) := by decide +kernel
theorem dX3_sumInFight_8 : decode cX3_sumInFight 8 = .ok (.aload_n 0, 1) := by decide +kernel
theorem dX3_sumInFight_9 : decode cX3_sumInFight 9 = .ok (.getfield 23, 3) := by decide +kernel
theorem dX3_sumInFight_12 : decode cX3_sumInFight 12 = .ok (.invokevirtual 88, 3) := by decide +kernel
theorem dX3_sumInFight_15 : decode cX3_sumInFight 15 = .ok (.if_icmp .ge 72, 3) := by decide +kernel
theorem dX3_sumInFight_18 : decode cX3_sumInFight 18 = .ok (.aload_n 0, 1) := by decide +kernel
theorem dX3_sumInFight_19 : decode cX3_sumInFight 19 = .ok (.getfield 23, 3) := by decide +kernel
theorem dX3_sumInFight_22 : decode cX3_sumInFight 22 = .ok (.iload 6, 2) := by decide +kernel
theorem dX3_sumInFight_24 : decode cX3_sumInFight 24 = .ok (.invokevirtual 155, 3) := by decide +kernel
theorem dX3_sumInFight_27 : decode cX3_sumInFight 27 = .ok (.iload_n 3, 1) := by decide +kernel
theorem dX3_sumInFight_28 : decode cX3_sumInFight 28 = .ok (.if_icmp .ne 53, 3) := by decide +kernel
theorem dX3_sumInFight_31 : decode cX3_sumInFight 31 = .ok (.aload_n 0, 1) := by decide +kernel
theorem dX3_sumInFight_32 : decode cX3_sumInFight 32 = .ok (.getfield 23, 3) := by decide +kernel
theorem dX3_sumInFight_35 : decode cX3_sumInFight 35 = .ok (.iload_n 1, 1) := by decide +kernel
theorem dX3_sumInFight_36 : decode cX3_sumInFight 36 = .ok (.iload 6, 2) := by decide +kernel
theorem dX3_sumInFight_38 : decode cX3_sumInFight 38 = .ok (.invokevirtual 149, 3) := by decide +kernel
theorem dX3_sumInFight_41 : decode cX3_sumInFight 41 = .ok (.iload_n 2, 1) := by decide +kernel
theorem dX3_sumInFight_42 : decode cX3_sumInFight 42 = .ok (.if_icmp .ne 39, 3) := by decide +kernel
theorem dX3_sumInFight_45 : decode cX3_sumInFight 45 = .ok (.aload_n 0, 1) := by decide +kernel
theorem dX3_sumInFight_46 : decode cX3_sumInFight 46 = .ok (.getfield 23, 3) := by decide +kernel
theorem dX3_sumInFight_49 : decode cX3_sumInFight 49 = .ok (.iload_n 1, 1) := by decide +kernel
theorem dX3_sumInFight_50 : decode cX3_sumInFight 50 = .ok (.iload 6, 2) := by decide +kernel
theorem dX3_sumInFight_52 : decode cX3_sumInFight 52 = .ok (.invokevirtual 152, 3) := by decide +kernel
theorem dX3_sumInFight_55 : decode cX3_sumInFight 55 = .ok (.istore 7, 2) := by decide +kernel
theorem dX3_sumInFight_57 : decode cX3_sumInFight 57 = .ok (.iload 5, 2) := by decide +kernel
theorem dX3_sumInFight_59 : decode cX3_sumInFight 59 = .ok (.iload 4, 2) := by decide +kernel
theorem dX3_sumInFight_61 : decode cX3_sumInFight 61 = .ok (.iload 6, 2) := by decide +kernel
theorem dX3_sumInFight_63 : decode cX3_sumInFight 63 = .ok (.invokestatic 85, 3) := by decide +kernel
theorem dX3_sumInFight_66 : decode cX3_sumInFight 66 = .ok (.ifCond .eq 8, 3) := by decide +kernel
theorem dX3_sumInFight_69 : decode cX3_sumInFight 69 = .ok (.iload 7, 2) := by decide +kernel
theorem dX3_sumInFight_71 : decode cX3_sumInFight 71 = .ok (.goto 7, 3) := by decide +kernel
theorem dX3_sumInFight_74 : decode cX3_sumInFight 74 = .ok (.iload 7, 2) := by decide +kernel
theorem dX3_sumInFight_76 : decode cX3_sumInFight 76 = .ok (.iconst 2, 1) := by decide +kernel
theorem dX3_sumInFight_77 : decode cX3_sumInFight 77 = .ok (.idiv, 1) := by decide +kernel
theorem dX3_sumInFight_78 : decode cX3_sumInFight 78 = .ok (.iadd, 1) := by decide +kernel
theorem dX3_sumInFight_79 : decode cX3_sumInFight 79 = .ok (.istore 5, 2) := by decide +kernel
theorem dX3_sumInFight_81 : decode cX3_sumInFight 81 = .ok (.iinc 6 1, 3) := by decide +kernel
theorem dX3_sumInFight_84 : decode cX3_sumInFight 84 = .ok (.goto (-78), 3) := by decide +kernel
theorem dX3_sumInFight_87 : decode cX3_sumInFight 87 = .ok (.iload 5, 2) := by decide +kernel
theorem dX3_sumInFight_89 : decode cX3_sumInFight 89 = .ok (.ireturn, 1) := by decide +kernel
theorem dX3_loss_0 : decode cX3_loss 0 = .ok (.iload_n 0, 1) := by decide +kernel
theorem dX3_loss_1 : decode cX3_loss 1 = .ok (.iload_n 1, 1) := by decide +kernel
theorem dX3_loss_2 : decode cX3_loss 2 = .ok (.if_icmp .ge 5, 3) := by decide +kernel
theorem dX3_loss_5 : decode cX3_loss 5 = .ok (.iconst 2, 1) := by decide +kernel
theorem dX3_loss_6 : decode cX3_loss 6 = .ok (.ireturn, 1) := by decide +kernel
theorem dX3_loss_7 : decode cX3_loss 7 = .ok (.iload_n 0, 1) := by decide +kernel
theorem dX3_loss_8 : decode cX3_loss 8 = .ok (.iload_n 1, 1) := by decide +kernel
theorem dX3_loss_9 : decode cX3_loss 9 = .ok (.if_icmp .ne 5, 3) := by decide +kernel
theorem dX3_loss_12 : decode cX3_loss 12 = .ok (.iconst 1, 1) := by decide +kernel
theorem dX3_loss_13 : decode cX3_loss 13 = .ok (.ireturn, 1) := by decide +kernel
theorem dX3_loss_14 : decode cX3_loss 14 = .ok (.iconst 2, 1) := by decide +kernel
theorem dX3_loss_15 : decode cX3_loss 15 = .ok (.iload_n 1, 1) := by decide +kernel
theorem dX3_loss_16 : decode cX3_loss 16 = .ok (.imul, 1) := by decide +kernel
theorem dX3_loss_17 : decode cX3_loss 17 = .ok (.iload_n 0, 1) := by decide +kernel
theorem dX3_loss_18 : decode cX3_loss 18 = .ok (.if_icmp .le 7, 3) := by decide +kernel
theorem dX3_loss_21 : decode cX3_loss 21 = .ok (.iconst 1, 1) := by decide +kernel
theorem dX3_loss_22 : decode cX3_loss 22 = .ok (.goto 4, 3) := by decide +kernel
theorem dX3_loss_25 : decode cX3_loss 25 = .ok (.iconst 0, 1) := by decide +kernel
theorem dX3_loss_26 : decode cX3_loss 26 = .ok (.ireturn, 1) := by decide +kernel
set_option maxRecDepth 20000 in
theorem ggX3_unitsInSight_X2_townsHeld : GoodIn wsX3_unitsInSight wsX2_townsHeld := goodIn_r _ [7, 8, 9, 10, 11, 6, 12, 13, 14, 15, 16, 17, 18, 19, 20, 21, 22, 23, 24, 25, 26, 27, 28, 29, 58, 59, 60, 61, 62] (by decide +kernel) (by decide +kernel)
set_option maxRecDepth 20000 in
theorem gX3_unitsInSight_X2_townsHeld : GoodIn wsX3_unitsInSight (wsV RX3 81 RX2 yX2_townsHeld wsX2_townsHeld) := goodIn_app (goodIn_of _ (by decide +kernel)) ggX3_unitsInSight_X2_townsHeld
set_option maxRecDepth 20000 in
theorem ggX3_unitsInSight_X0_widened : GoodIn wsX3_unitsInSight wsX0_widened := goodIn_r _ [34, 35, 26, 36, 37, 28, 29, 38, 39, 40, 33, 41, 42, 43, 25, 27, 63, 64, 65] (by decide +kernel) (by decide +kernel)
set_option maxRecDepth 20000 in
theorem gX3_unitsInSight_X0_widened : GoodIn wsX3_unitsInSight (wsV RX3 205 RX0 yX0_widened wsX0_widened) := goodIn_app (goodIn_of _ (by decide +kernel)) ggX3_unitsInSight_X0_widened
set_option maxRecDepth 20000 in
theorem ggX3_unitsInSight_X2_count : GoodIn wsX3_unitsInSight wsX2_count := goodIn_r _ [47, 8, 58, 59, 60, 61, 62] (by decide +kernel) (by decide +kernel)
set_option maxRecDepth 20000 in
theorem gX3_unitsInSight_X2_count : GoodIn wsX3_unitsInSight (wsV RX3 88 RX2 yX2_count wsX2_count) := goodIn_app (goodIn_of _ (by decide +kernel)) ggX3_unitsInSight_X2_count
set_option maxRecDepth 20000 in
theorem ggX3_unitsInSight_X2_sideOf : GoodIn wsX3_unitsInSight wsX2_sideOf := goodIn_r _ [23, 24, 25, 26, 27, 58, 59, 60, 61, 62] (by decide +kernel) (by decide +kernel)
set_option maxRecDepth 20000 in
theorem gX3_unitsInSight_X2_sideOf : GoodIn wsX3_unitsInSight (wsV RX3 155 RX2 yX2_sideOf wsX2_sideOf) := goodIn_app (goodIn_of _ (by decide +kernel)) ggX3_unitsInSight_X2_sideOf
set_option maxRecDepth 20000 in
theorem ggX3_unitsInSight_X2_townAt : GoodIn wsX3_unitsInSight wsX2_townAt := goodIn_r _ [12, 13, 14, 15, 6, 16, 17, 18, 19, 58, 59, 60, 61, 62] (by decide +kernel) (by decide +kernel)
set_option maxRecDepth 20000 in
theorem gX3_unitsInSight_X2_townAt : GoodIn wsX3_unitsInSight (wsV RX3 149 RX2 yX2_townAt wsX2_townAt) := goodIn_app (goodIn_of _ (by decide +kernel)) ggX3_unitsInSight_X2_townAt
set_option maxRecDepth 20000 in
theorem ggX3_unitsInSight_X3_has : GoodIn wsX3_unitsInSight wsX3_has := goodIn_r _ [36, 37, 28, 26, 29] (by decide +kernel) (by decide +kernel)
set_option maxRecDepth 20000 in
theorem gX3_unitsInSight_X3_has : GoodIn wsX3_unitsInSight (va_wsS RX3 85 yX3_has wsX3_has) := goodIn_app (goodIn_of _ (by decide +kernel)) ggX3_unitsInSight_X3_has
set_option maxRecDepth 20000 in
theorem ggX3_unitsInSight_X3_bit : GoodIn wsX3_unitsInSight wsX3_bit := goodIn_r _ [29] (by decide +kernel) (by decide +kernel)
set_option maxRecDepth 20000 in
theorem gX3_unitsInSight_X3_bit : GoodIn wsX3_unitsInSight (va_wsS RX3 202 yX3_bit wsX3_bit) := goodIn_app (goodIn_of _ (by decide +kernel)) ggX3_unitsInSight_X3_bit
theorem dX3_unitsInSight_0 : decode cX3_unitsInSight 0 = .ok (.aload_n 0, 1) := by decide +kernel
theorem dX3_unitsInSight_1 : decode cX3_unitsInSight 1 = .ok (.getfield 12, 3) := by decide +kernel
theorem dX3_unitsInSight_4 : decode cX3_unitsInSight 4 = .ok (.aload_n 0, 1) := by decide +kernel
theorem dX3_unitsInSight_5 : decode cX3_unitsInSight 5 = .ok (.getfield 23, 3) := by decide +kernel
theorem dX3_unitsInSight_8 : decode cX3_unitsInSight 8 = .ok (.iload_n 1, 1) := by decide +kernel
theorem dX3_unitsInSight_9 : decode cX3_unitsInSight 9 = .ok (.iconst 0, 1) := by decide +kernel
theorem dX3_unitsInSight_10 : decode cX3_unitsInSight 10 = .ok (.invokevirtual 81, 3) := by decide +kernel
theorem dX3_unitsInSight_13 : decode cX3_unitsInSight 13 = .ok (.iconst 0, 1) := by decide +kernel
theorem dX3_unitsInSight_14 : decode cX3_unitsInSight 14 = .ok (.invokevirtual 205, 3) := by decide +kernel
theorem dX3_unitsInSight_17 : decode cX3_unitsInSight 17 = .ok (.istore_n 2, 1) := by decide +kernel
theorem dX3_unitsInSight_18 : decode cX3_unitsInSight 18 = .ok (.aload_n 0, 1) := by decide +kernel
theorem dX3_unitsInSight_19 : decode cX3_unitsInSight 19 = .ok (.getfield 12, 3) := by decide +kernel
theorem dX3_unitsInSight_22 : decode cX3_unitsInSight 22 = .ok (.aload_n 0, 1) := by decide +kernel
theorem dX3_unitsInSight_23 : decode cX3_unitsInSight 23 = .ok (.getfield 23, 3) := by decide +kernel
theorem dX3_unitsInSight_26 : decode cX3_unitsInSight 26 = .ok (.iload_n 1, 1) := by decide +kernel
theorem dX3_unitsInSight_27 : decode cX3_unitsInSight 27 = .ok (.iconst 1, 1) := by decide +kernel
theorem dX3_unitsInSight_28 : decode cX3_unitsInSight 28 = .ok (.invokevirtual 81, 3) := by decide +kernel
theorem dX3_unitsInSight_31 : decode cX3_unitsInSight 31 = .ok (.iconst 0, 1) := by decide +kernel
theorem dX3_unitsInSight_32 : decode cX3_unitsInSight 32 = .ok (.invokevirtual 205, 3) := by decide +kernel
theorem dX3_unitsInSight_35 : decode cX3_unitsInSight 35 = .ok (.istore_n 3, 1) := by decide +kernel
theorem dX3_unitsInSight_36 : decode cX3_unitsInSight 36 = .ok (.iconst 0, 1) := by decide +kernel
theorem dX3_unitsInSight_37 : decode cX3_unitsInSight 37 = .ok (.istore 4, 2) := by decide +kernel
theorem dX3_unitsInSight_39 : decode cX3_unitsInSight 39 = .ok (.iconst 0, 1) := by decide +kernel
theorem dX3_unitsInSight_40 : decode cX3_unitsInSight 40 = .ok (.istore 5, 2) := by decide +kernel
theorem dX3_unitsInSight_42 : decode cX3_unitsInSight 42 = .ok (.iload 5, 2) := by decide +kernel
theorem dX3_unitsInSight_44 : decode cX3_unitsInSight 44 = .ok (.aload_n 0, 1) := by decide +kernel
theorem dX3_unitsInSight_45 : decode cX3_unitsInSight 45 = .ok (.getfield 23, 3) := by decide +kernel
theorem dX3_unitsInSight_48 : decode cX3_unitsInSight 48 = .ok (.invokevirtual 88, 3) := by decide +kernel
theorem dX3_unitsInSight_51 : decode cX3_unitsInSight 51 = .ok (.if_icmp .ge 52, 3) := by decide +kernel
theorem dX3_unitsInSight_54 : decode cX3_unitsInSight 54 = .ok (.aload_n 0, 1) := by decide +kernel
theorem dX3_unitsInSight_55 : decode cX3_unitsInSight 55 = .ok (.getfield 23, 3) := by decide +kernel
theorem dX3_unitsInSight_58 : decode cX3_unitsInSight 58 = .ok (.iload 5, 2) := by decide +kernel
theorem dX3_unitsInSight_60 : decode cX3_unitsInSight 60 = .ok (.invokevirtual 155, 3) := by decide +kernel
theorem dX3_unitsInSight_63 : decode cX3_unitsInSight 63 = .ok (.ifCond .ne 7, 3) := by decide +kernel
theorem dX3_unitsInSight_66 : decode cX3_unitsInSight 66 = .ok (.iload_n 3, 1) := by decide +kernel
theorem dX3_unitsInSight_67 : decode cX3_unitsInSight 67 = .ok (.goto 4, 3) := by decide +kernel
theorem dX3_unitsInSight_70 : decode cX3_unitsInSight 70 = .ok (.iload_n 2, 1) := by decide +kernel
theorem dX3_unitsInSight_71 : decode cX3_unitsInSight 71 = .ok (.aload_n 0, 1) := by decide +kernel
theorem dX3_unitsInSight_72 : decode cX3_unitsInSight 72 = .ok (.getfield 23, 3) := by decide +kernel
theorem dX3_unitsInSight_75 : decode cX3_unitsInSight 75 = .ok (.iload_n 1, 1) := by decide +kernel
theorem dX3_unitsInSight_76 : decode cX3_unitsInSight 76 = .ok (.iload 5, 2) := by decide +kernel
theorem dX3_unitsInSight_78 : decode cX3_unitsInSight 78 = .ok (.invokevirtual 149, 3) := by decide +kernel
theorem dX3_unitsInSight_81 : decode cX3_unitsInSight 81 = .ok (.invokestatic 85, 3) := by decide +kernel
theorem dX3_unitsInSight_84 : decode cX3_unitsInSight 84 = .ok (.ifCond .eq 13, 3) := by decide +kernel
theorem dX3_unitsInSight_87 : decode cX3_unitsInSight 87 = .ok (.iload 4, 2) := by decide +kernel
theorem dX3_unitsInSight_89 : decode cX3_unitsInSight 89 = .ok (.iload 5, 2) := by decide +kernel
theorem dX3_unitsInSight_91 : decode cX3_unitsInSight 91 = .ok (.invokestatic 202, 3) := by decide +kernel
theorem dX3_unitsInSight_94 : decode cX3_unitsInSight 94 = .ok (.ior, 1) := by decide +kernel
theorem dX3_unitsInSight_95 : decode cX3_unitsInSight 95 = .ok (.istore 4, 2) := by decide +kernel
theorem dX3_unitsInSight_97 : decode cX3_unitsInSight 97 = .ok (.iinc 5 1, 3) := by decide +kernel
theorem dX3_unitsInSight_100 : decode cX3_unitsInSight 100 = .ok (.goto (-58), 3) := by decide +kernel
theorem dX3_unitsInSight_103 : decode cX3_unitsInSight 103 = .ok (.iload 4, 2) := by decide +kernel
theorem dX3_unitsInSight_105 : decode cX3_unitsInSight 105 = .ok (.ireturn, 1) := by decide +kernel
theorem dX3_below_0 : decode cX3_below 0 = .ok (.iload_n 0, 1) := by decide +kernel
theorem dX3_below_1 : decode cX3_below 1 = .ok (.ifCond .lt 12, 3) := by decide +kernel
theorem dX3_below_4 : decode cX3_below 4 = .ok (.iload_n 0, 1) := by decide +kernel
theorem dX3_below_5 : decode cX3_below 5 = .ok (.iload_n 1, 1) := by decide +kernel
theorem dX3_below_6 : decode cX3_below 6 = .ok (.if_icmp .ge 7, 3) := by decide +kernel
theorem dX3_below_9 : decode cX3_below 9 = .ok (.iconst 1, 1) := by decide +kernel
theorem dX3_below_10 : decode cX3_below 10 = .ok (.goto 4, 3) := by decide +kernel
theorem dX3_below_13 : decode cX3_below 13 = .ok (.iconst 0, 1) := by decide +kernel
theorem dX3_below_14 : decode cX3_below 14 = .ok (.ireturn, 1) := by decide +kernel
theorem dX3_opponent_0 : decode cX3_opponent 0 = .ok (.iconst 1, 1) := by decide +kernel
theorem dX3_opponent_1 : decode cX3_opponent 1 = .ok (.iload_n 0, 1) := by decide +kernel
theorem dX3_opponent_2 : decode cX3_opponent 2 = .ok (.isub, 1) := by decide +kernel
theorem dX3_opponent_3 : decode cX3_opponent 3 = .ok (.ireturn, 1) := by decide +kernel
theorem dX3_bit_0 : decode cX3_bit 0 = .ok (.iconst 1, 1) := by decide +kernel
theorem dX3_bit_1 : decode cX3_bit 1 = .ok (.iload_n 0, 1) := by decide +kernel
theorem dX3_bit_2 : decode cX3_bit 2 = .ok (.ishl, 1) := by decide +kernel
theorem dX3_bit_3 : decode cX3_bit 3 = .ok (.ireturn, 1) := by decide +kernel
set_option maxRecDepth 20000 in
theorem ggX3_has_X3_bit : GoodIn wsX3_has wsX3_bit := goodIn_r _ [4] (by decide +kernel) (by decide +kernel)
set_option maxRecDepth 20000 in
theorem gX3_has_X3_bit : GoodIn wsX3_has (va_wsS RX3 202 yX3_bit wsX3_bit) := goodIn_app (goodIn_of _ (by decide +kernel)) ggX3_has_X3_bit
theorem dX3_has_0 : decode cX3_has 0 = .ok (.iload_n 1, 1) := by decide +kernel
theorem dX3_has_1 : decode cX3_has 1 = .ok (.ifCond .lt 22, 3) := by decide +kernel
theorem dX3_has_4 : decode cX3_has 4 = .ok (.iload_n 1, 1) := by decide +kernel
theorem dX3_has_5 : decode cX3_has 5 = .ok (.bipush 32, 2) := by decide +kernel
theorem dX3_has_7 : decode cX3_has 7 = .ok (.if_icmp .ge 16, 3) := by decide +kernel
theorem dX3_has_10 : decode cX3_has 10 = .ok (.iload_n 0, 1) := by decide +kernel
theorem dX3_has_11 : decode cX3_has 11 = .ok (.iload_n 1, 1) := by decide +kernel
theorem dX3_has_12 : decode cX3_has 12 = .ok (.invokestatic 202, 3) := by decide +kernel
theorem dX3_has_15 : decode cX3_has 15 = .ok (.iand, 1) := by decide +kernel
theorem dX3_has_16 : decode cX3_has 16 = .ok (.ifCond .eq 7, 3) := by decide +kernel
theorem dX3_has_19 : decode cX3_has 19 = .ok (.iconst 1, 1) := by decide +kernel
theorem dX3_has_20 : decode cX3_has 20 = .ok (.goto 4, 3) := by decide +kernel
theorem dX3_has_23 : decode cX3_has 23 = .ok (.iconst 0, 1) := by decide +kernel
theorem dX3_has_24 : decode cX3_has 24 = .ok (.ireturn, 1) := by decide +kernel
theorem dJ9_max_7cf53_0 : decode cJ9_max_7cf53 0 = .ok (.iload_n 0, 1) := by decide +kernel
theorem dJ9_max_7cf53_1 : decode cJ9_max_7cf53 1 = .ok (.iload_n 1, 1) := by decide +kernel
theorem dJ9_max_7cf53_2 : decode cJ9_max_7cf53 2 = .ok (.if_icmp .lt 7, 3) := by decide +kernel
theorem dJ9_max_7cf53_5 : decode cJ9_max_7cf53 5 = .ok (.iload_n 0, 1) := by decide +kernel
theorem dJ9_max_7cf53_6 : decode cJ9_max_7cf53 6 = .ok (.goto 4, 3) := by decide +kernel
theorem dJ9_max_7cf53_9 : decode cJ9_max_7cf53 9 = .ok (.iload_n 1, 1) := by decide +kernel
theorem dJ9_max_7cf53_10 : decode cJ9_max_7cf53 10 = .ok (.ireturn, 1) := by decide +kernel
theorem dJ9_min_7cf53_0 : decode cJ9_min_7cf53 0 = .ok (.iload_n 0, 1) := by decide +kernel
theorem dJ9_min_7cf53_1 : decode cJ9_min_7cf53 1 = .ok (.iload_n 1, 1) := by decide +kernel
theorem dJ9_min_7cf53_2 : decode cJ9_min_7cf53 2 = .ok (.if_icmp .gt 7, 3) := by decide +kernel
theorem dJ9_min_7cf53_5 : decode cJ9_min_7cf53 5 = .ok (.iload_n 0, 1) := by decide +kernel
theorem dJ9_min_7cf53_6 : decode cJ9_min_7cf53 6 = .ok (.goto 4, 3) := by decide +kernel
theorem dJ9_min_7cf53_9 : decode cJ9_min_7cf53 9 = .ok (.iload_n 1, 1) := by decide +kernel
theorem dJ9_min_7cf53_10 : decode cJ9_min_7cf53 10 = .ok (.ireturn, 1) := by decide +kernel
