theorem dX4_init_0 : decode cX4_init 0 = .ok (.aload_n 0, 1) := by decide +kernel
theorem dX4_init_1 : decode cX4_init 1 = .ok (.invokespecial 1, 3) := by decide +kernel
theorem dX4_init_4 : decode cX4_init 4 = .ok (.aload_n 0, 1) := by decide +kernel
theorem dX4_init_5 : decode cX4_init 5 = .ok (.bipush 100, 2) := by decide +kernel
theorem dX4_init_7 : decode cX4_init 7 = .ok (.newarray .int, 2) := by decide +kernel
theorem dX4_init_9 : decode cX4_init 9 = .ok (.putfield 7, 3) := by decide +kernel
theorem dX4_init_12 : decode cX4_init 12 = .ok (.aload_n 0, 1) := by decide +kernel
theorem dX4_init_13 : decode cX4_init 13 = .ok (.iconst 2, 1) := by decide +kernel
theorem dX4_init_14 : decode cX4_init 14 = .ok (.newarray .int, 2) := by decide +kernel
theorem dX4_init_16 : decode cX4_init 16 = .ok (.putfield 13, 3) := by decide +kernel
theorem dX4_init_19 : decode cX4_init 19 = .ok (.aload_n 0, 1) := by decide +kernel
theorem dX4_init_20 : decode cX4_init 20 = .ok (.bipush 12, 2) := by decide +kernel
theorem dX4_init_22 : decode cX4_init 22 = .ok (.newarray .int, 2) := by decide +kernel
theorem dX4_init_24 : decode cX4_init 24 = .ok (.putfield 16, 3) := by decide +kernel
theorem dX4_init_27 : decode cX4_init 27 = .ok (.aload_n 0, 1) := by decide +kernel
theorem dX4_init_28 : decode cX4_init 28 = .ok (.sipush 252, 3) := by decide +kernel
theorem dX4_init_31 : decode cX4_init 31 = .ok (.newarray .int, 2) := by decide +kernel
theorem dX4_init_33 : decode cX4_init 33 = .ok (.putfield 19, 3) := by decide +kernel
theorem dX4_init_36 : decode cX4_init 36 = .ok (.aload_n 0, 1) := by decide +kernel
theorem dX4_init_37 : decode cX4_init 37 = .ok (.sipush 252, 3) := by decide +kernel
theorem dX4_init_40 : decode cX4_init 40 = .ok (.newarray .int, 2) := by decide +kernel
theorem dX4_init_42 : decode cX4_init 42 = .ok (.putfield 22, 3) := by decide +kernel
theorem dX4_init_45 : decode cX4_init 45 = .ok (.aload_n 0, 1) := by decide +kernel
theorem dX4_init_46 : decode cX4_init 46 = .ok (.sipush 240, 3) := by decide +kernel
theorem dX4_init_49 : decode cX4_init 49 = .ok (.newarray .int, 2) := by decide +kernel
theorem dX4_init_51 : decode cX4_init 51 = .ok (.putfield 25, 3) := by decide +kernel
theorem dX4_init_54 : decode cX4_init 54 = .ok (.aload_n 0, 1) := by decide +kernel
theorem dX4_init_55 : decode cX4_init 55 = .ok (.bipush 12, 2) := by decide +kernel
theorem dX4_init_57 : decode cX4_init 57 = .ok (.newarray .int, 2) := by decide +kernel
theorem dX4_init_59 : decode cX4_init 59 = .ok (.putfield 28, 3) := by decide +kernel
theorem dX4_init_62 : decode cX4_init 62 = .ok (.aload_n 0, 1) := by decide +kernel
theorem dX4_init_63 : decode cX4_init 63 = .ok (.bipush 20, 2) := by decide +kernel
theorem dX4_init_65 : decode cX4_init 65 = .ok (.newarray .int, 2) := by decide +kernel
theorem dX4_init_67 : decode cX4_init 67 = .ok (.putfield 31, 3) := by decide +kernel
theorem dX4_init_70 : decode cX4_init 70 = .ok (.aload_n 0, 1) := by decide +kernel
theorem dX4_init_71 : decode cX4_init 71 = .ok (.sipush 240, 3) := by decide +kernel
theorem dX4_init_74 : decode cX4_init 74 = .ok (.newarray .int, 2) := by decide +kernel
theorem dX4_init_76 : decode cX4_init 76 = .ok (.putfield 34, 3) := by decide +kernel
theorem dX4_init_79 : decode cX4_init 79 = .ok (.aload_n 0, 1) := by decide +kernel
theorem dX4_init_80 : decode cX4_init 80 = .ok (.sipush 4000, 3) := by decide +kernel
theorem dX4_init_83 : decode cX4_init 83 = .ok (.newarray .int, 2) := by decide +kernel
theorem dX4_init_85 : decode cX4_init 85 = .ok (.putfield 37, 3) := by decide +kernel
theorem dX4_init_88 : decode cX4_init 88 = .ok (.aload_n 0, 1) := by decide +kernel
theorem dX4_init_89 : decode cX4_init 89 = .ok (.sipush 4000, 3) := by decide +kernel
theorem dX4_init_92 : decode cX4_init 92 = .ok (.newarray .int, 2) := by decide +kernel
theorem dX4_init_94 : decode cX4_init 94 = .ok (.putfield 40, 3) := by decide +kernel
theorem dX4_init_97 : decode cX4_init 97 = .ok (.aload_n 0, 1) := by decide +kernel
theorem dX4_init_98 : decode cX4_init 98 = .ok (.bipush 12, 2) := by decide +kernel
theorem dX4_init_100 : decode cX4_init 100 = .ok (.newarray .int, 2) := by decide +kernel
theorem dX4_init_102 : decode cX4_init 102 = .ok (.putfield 43, 3) := by decide +kernel
theorem dX4_init_105 : decode cX4_init 105 = .ok (.aload_n 0, 1) := by decide +kernel
theorem dX4_init_106 : decode cX4_init 106 = .ok (.bipush 12, 2) := by decide +kernel
theorem dX4_init_108 : decode cX4_init 108 = .ok (.newarray .int, 2) := by decide +kernel
theorem dX4_init_110 : decode cX4_init 110 = .ok (.putfield 46, 3) := by decide +kernel
theorem dX4_init_113 : decode cX4_init 113 = .ok (.aload_n 0, 1) := by decide +kernel
theorem dX4_init_114 : decode cX4_init 114 = .ok (.bipush 12, 2) := by decide +kernel
theorem dX4_init_116 : decode cX4_init 116 = .ok (.newarray .int, 2) := by decide +kernel
theorem dX4_init_118 : decode cX4_init 118 = .ok (.putfield 49, 3) := by decide +kernel
theorem dX4_init_121 : decode cX4_init 121 = .ok (.aload_n 0, 1) := by decide +kernel
theorem dX4_init_122 : decode cX4_init 122 = .ok (.bipush 12, 2) := by decide +kernel
theorem dX4_init_124 : decode cX4_init 124 = .ok (.newarray .int, 2) := by decide +kernel
theorem dX4_init_126 : decode cX4_init 126 = .ok (.putfield 52, 3) := by decide +kernel
theorem dX4_init_129 : decode cX4_init 129 = .ok (.aload_n 0, 1) := by decide +kernel
theorem dX4_init_130 : decode cX4_init 130 = .ok (.bipush 10, 2) := by decide +kernel
theorem dX4_init_132 : decode cX4_init 132 = .ok (.newarray .int, 2) := by decide +kernel
theorem dX4_init_134 : decode cX4_init 134 = .ok (.putfield 55, 3) := by decide +kernel
theorem dX4_init_137 : decode cX4_init 137 = .ok (.aload_n 0, 1) := by decide +kernel
theorem dX4_init_138 : decode cX4_init 138 = .ok (.bipush 12, 2) := by decide +kernel
theorem dX4_init_140 : decode cX4_init 140 = .ok (.newarray .int, 2) := by decide +kernel
theorem dX4_init_142 : decode cX4_init 142 = .ok (.putfield 58, 3) := by decide +kernel
theorem dX4_init_145 : decode cX4_init 145 = .ok (.aload_n 0, 1) := by decide +kernel
theorem dX4_init_146 : decode cX4_init 146 = .ok (.getfield 13, 3) := by decide +kernel
theorem dX4_init_149 : decode cX4_init 149 = .ok (.iconst 1, 1) := by decide +kernel
theorem dX4_init_150 : decode cX4_init 150 = .ok (.bipush 9, 2) := by decide +kernel
theorem dX4_init_152 : decode cX4_init 152 = .ok (.iastore, 1) := by decide +kernel
theorem dX4_init_153 : decode cX4_init 153 = .ok (.iconst 0, 1) := by decide +kernel
theorem dX4_init_154 : decode cX4_init 154 = .ok (.istore_n 1, 1) := by decide +kernel
theorem dX4_init_155 : decode cX4_init 155 = .ok (.iload_n 1, 1) := by decide +kernel
theorem dX4_init_156 : decode cX4_init 156 = .ok (.bipush 12, 2) := by decide +kernel
theorem dX4_init_158 : decode cX4_init 158 = .ok (.if_icmp .ge 16, 3) := by decide +kernel
theorem dX4_init_161 : decode cX4_init 161 = .ok (.aload_n 0, 1) := by decide +kernel
theorem dX4_init_162 : decode cX4_init 162 = .ok (.getfield 28, 3) := by decide +kernel
theorem dX4_init_165 : decode cX4_init 165 = .ok (.iload_n 1, 1) := by decide +kernel
theorem dX4_init_166 : decode cX4_init 166 = .ok (.iconst (-1), 1) := by decide +kernel
theorem dX4_init_167 : decode cX4_init 167 = .ok (.iastore, 1) := by decide +kernel
theorem dX4_init_168 : decode cX4_init 168 = .ok (.iinc 1 1, 3) := by decide +kernel
theorem dX4_init_171 : decode cX4_init 171 = .ok (.goto (-16), 3) := by decide +kernel
theorem dX4_init_174 : decode cX4_init 174 = .ok (.return_, 1) := by decide +kernel
theorem dX4_thrown_0 : decode cX4_thrown 0 = .ok (.aload_n 0, 1) := by decide +kernel
theorem dX4_thrown_1 : decode cX4_thrown 1 = .ok (.getfield 61, 3) := by decide +kernel
theorem dX4_thrown_4 : decode cX4_thrown 4 = .ok (.ireturn, 1) := by decide +kernel
theorem dX4_fails_0 : decode cX4_fails 0 = .ok (.aload_n 0, 1) := by decide +kernel
theorem dX4_fails_1 : decode cX4_fails 1 = .ok (.iload_n 1, 1) := by decide +kernel
theorem dX4_fails_2 : decode cX4_fails 2 = .ok (.putfield 61, 3) := by decide +kernel
theorem dX4_fails_5 : decode cX4_fails 5 = .ok (.iconst 0, 1) := by decide +kernel
theorem dX4_fails_6 : decode cX4_fails 6 = .ok (.ireturn, 1) := by decide +kernel
theorem dX4_in_0 : decode cX4_in 0 = .ok (.iload_n 0, 1) := by decide +kernel
theorem dX4_in_1 : decode cX4_in 1 = .ok (.iload_n 1, 1) := by decide +kernel
theorem dX4_in_2 : decode cX4_in 2 = .ok (.if_icmp .lt 12, 3) := by decide +kernel
theorem dX4_in_5 : decode cX4_in 5 = .ok (.iload_n 0, 1) := by decide +kernel
theorem dX4_in_6 : decode cX4_in 6 = .ok (.iload_n 2, 1) := by decide +kernel
theorem dX4_in_7 : decode cX4_in 7 = .ok (.if_icmp .gt 7, 3) := by decide +kernel
theorem dX4_in_10 : decode cX4_in 10 = .ok (.iconst 1, 1) := by decide +kernel
theorem dX4_in_11 : decode cX4_in 11 = .ok (.goto 4, 3) := by decide +kernel
theorem dX4_in_14 : decode cX4_in 14 = .ok (.iconst 0, 1) := by decide +kernel
theorem dX4_in_15 : decode cX4_in 15 = .ok (.ireturn, 1) := by decide +kernel
set_option maxRecDepth 20000 in
theorem ggX4_isTown_X4_in : GoodIn wsX4_isTown wsX4_in := goodIn_r _ [4] (by decide +kernel) (by decide +kernel)
set_option maxRecDepth 20000 in
theorem gX4_isTown_X4_in : GoodIn wsX4_isTown (va_wsS RX4 65 yX4_in wsX4_in) := goodIn_app (goodIn_of _ (by decide +kernel)) ggX4_isTown_X4_in
theorem dX4_isTown_0 : decode cX4_isTown 0 = .ok (.iload_n 0, 1) := by decide +kernel
theorem dX4_isTown_1 : decode cX4_isTown 1 = .ok (.iconst 0, 1) := by decide +kernel
theorem dX4_isTown_2 : decode cX4_isTown 2 = .ok (.bipush 9, 2) := by decide +kernel
theorem dX4_isTown_4 : decode cX4_isTown 4 = .ok (.invokestatic 65, 3) := by decide +kernel
theorem dX4_isTown_7 : decode cX4_isTown 7 = .ok (.ireturn, 1) := by decide +kernel
set_option maxRecDepth 20000 in
theorem ggX4_isUnit_X4_in : GoodIn wsX4_isUnit wsX4_in := goodIn_r _ [5] (by decide +kernel) (by decide +kernel)
set_option maxRecDepth 20000 in
theorem gX4_isUnit_X4_in : GoodIn wsX4_isUnit (va_wsS RX4 65 yX4_in wsX4_in) := goodIn_app (goodIn_of _ (by decide +kernel)) ggX4_isUnit_X4_in
theorem dX4_isUnit_0 : decode cX4_isUnit 0 = .ok (.iload_n 1, 1) := by decide +kernel
theorem dX4_isUnit_1 : decode cX4_isUnit 1 = .ok (.iconst 0, 1) := by decide +kernel
theorem dX4_isUnit_2 : decode cX4_isUnit 2 = .ok (.aload_n 0, 1) := by decide +kernel
theorem dX4_isUnit_3 : decode cX4_isUnit 3 = .ok (.getfield 69, 3) := by decide +kernel
theorem dX4_isUnit_6 : decode cX4_isUnit 6 = .ok (.iconst 1, 1) := by decide +kernel
theorem dX4_isUnit_7 : decode cX4_isUnit 7 = .ok (.isub, 1) := by decide +kernel
theorem dX4_isUnit_8 : decode cX4_isUnit 8 = .ok (.invokestatic 65, 3) := by decide +kernel
theorem dX4_isUnit_11 : decode cX4_isUnit 11 = .ok (.ireturn, 1) := by decide +kernel
set_option maxRecDepth 20000 in
theorem ggX4_addRoad_X4_isTown : GoodIn wsX4_addRoad wsX4_isTown := goodIn_r _ [8, 9, 10, 7, 11] (by decide +kernel) (by decide +kernel)
set_option maxRecDepth 20000 in
theorem gX4_addRoad_X4_isTown : GoodIn wsX4_addRoad (va_wsS RX4 72 yX4_isTown wsX4_isTown) := goodIn_app (goodIn_of _ (by decide +kernel)) ggX4_addRoad_X4_isTown
set_option maxRecDepth 20000 in
theorem ggX4_addRoad_X4_fails : GoodIn wsX4_addRoad wsX4_fails := goodIn_r _ [15, 1, 16, 17, 18, 19, 20, 21, 22, 23, 24, 25, 26, 27, 28, 29, 30, 31, 32, 33, 34, 35, 36, 37] (by decide +kernel) (by decide +kernel)
set_option maxRecDepth 20000 in
theorem gX4_addRoad_X4_fails : GoodIn wsX4_addRoad (wsV RX4 76 RX4 yX4_fails wsX4_fails) := goodIn_app (goodIn_of _ (by decide +kernel)) ggX4_addRoad_X4_fails
theorem dX4_addRoad_0 : decode cX4_addRoad 0 = .ok (.aload_n 0, 1) := by decide +kernel
theorem dX4_addRoad_1 : decode cX4_addRoad 1 = .ok (.iconst 0, 1) := by decide +kernel
theorem dX4_addRoad_2 : decode cX4_addRoad 2 = .ok (.putfield 61, 3) := by decide +kernel
theorem dX4_addRoad_5 : decode cX4_addRoad 5 = .ok (.iload_n 1, 1) := by decide +kernel
theorem dX4_addRoad_6 : decode cX4_addRoad 6 = .ok (.invokestatic 72, 3) := by decide +kernel
theorem dX4_addRoad_9 : decode cX4_addRoad 9 = .ok (.ifCond .eq 15, 3) := by decide +kernel
theorem dX4_addRoad_12 : decode cX4_addRoad 12 = .ok (.iload_n 2, 1) := by decide +kernel
theorem dX4_addRoad_13 : decode cX4_addRoad 13 = .ok (.invokestatic 72, 3) := by decide +kernel
theorem dX4_addRoad_16 : decode cX4_addRoad 16 = .ok (.ifCond .eq 8, 3) := by decide +kernel
theorem dX4_addRoad_19 : decode cX4_addRoad 19 = .ok (.iload_n 1, 1) := by decide +kernel
theorem dX4_addRoad_20 : decode cX4_addRoad 20 = .ok (.iload_n 2, 1) := by decide +kernel
theorem dX4_addRoad_21 : decode cX4_addRoad 21 = .ok (.if_icmp .ne 9, 3) := by decide +kernel
theorem dX4_addRoad_24 : decode cX4_addRoad 24 = .ok (.aload_n 0, 1) := by decide +kernel
theorem dX4_addRoad_25 : decode cX4_addRoad 25 = .ok (.iconst 1, 1) := by decide +kernel
theorem dX4_addRoad_26 : decode cX4_addRoad 26 = .ok (.invokevirtual 76, 3) := by decide +kernel
theorem dX4_addRoad_29 : decode cX4_addRoad 29 = .ok (.ireturn, 1) := by decide +kernel
theorem dX4_addRoad_30 : decode cX4_addRoad 30 = .ok (.aload_n 0, 1) := by decide +kernel
theorem dX4_addRoad_31 : decode cX4_addRoad 31 = .ok (.getfield 80, 3) := by decide +kernel
theorem dX4_addRoad_34 : decode cX4_addRoad 34 = .ok (.ifCond .gt 26, 3) := by decide +kernel
theorem dX4_addRoad_37 : decode cX4_addRoad 37 = .ok (.aload_n 0, 1) := by decide +kernel
theorem dX4_addRoad_38 : decode cX4_addRoad 38 = .ok (.getfield 7, 3) := by decide +kernel
theorem dX4_addRoad_41 : decode cX4_addRoad 41 = .ok (.bipush 10, 2) := by decide +kernel
theorem dX4_addRoad_43 : decode cX4_addRoad 43 = .ok (.iload_n 1, 1) := by decide +kernel
theorem dX4_addRoad_44 : decode cX4_addRoad 44 = .ok (.imul, 1) := by decide +kernel
theorem dX4_addRoad_45 : decode cX4_addRoad 45 = .ok (.iload_n 2, 1) := by decide +kernel
theorem dX4_addRoad_46 : decode cX4_addRoad 46 = .ok (.iadd, 1) := by decide +kernel
theorem dX4_addRoad_47 : decode cX4_addRoad 47 = .ok (.iaload, 1) := by decide +kernel
theorem dX4_addRoad_48 : decode cX4_addRoad 48 = .ok (.ifCond .gt 12, 3) := by decide +kernel
theorem dX4_addRoad_51 : decode cX4_addRoad 51 = .ok (.aload_n 0, 1) := by decide +kernel
theorem dX4_addRoad_52 : decode cX4_addRoad 52 = .ok (.getfield 83, 3) := by decide +kernel
theorem dX4_addRoad_55 : decode cX4_addRoad 55 = .ok (.bipush 15, 2) := by decide +kernel
theorem dX4_addRoad_57 : decode cX4_addRoad 57 = .ok (.if_icmp .ne 9, 3) := by decide +kernel
theorem dX4_addRoad_60 : decode cX4_addRoad 60 = .ok (.aload_n 0, 1) := by decide +kernel
theorem dX4_addRoad_61 : decode cX4_addRoad 61 = .ok (.iconst 2, 1) := by decide +kernel
theorem dX4_addRoad_62 : decode cX4_addRoad 62 = .ok (.invokevirtual 76, 3) := by decide +kernel
theorem dX4_addRoad_65 : decode cX4_addRoad 65 = .ok (.ireturn, 1) := by decide +kernel
theorem dX4_addRoad_66 : decode cX4_addRoad 66 = .ok (.aload_n 0, 1) := by decide +kernel
theorem dX4_addRoad_67 : decode cX4_addRoad 67 = .ok (.getfield 7, 3) := by decide +kernel
theorem dX4_addRoad_70 : decode cX4_addRoad 70 = .ok (.bipush 10, 2) := by decide +kernel
theorem dX4_addRoad_72 : decode cX4_addRoad 72 = .ok (.iload_n 1, 1) := by decide +kernel
theorem dX4_addRoad_73 : decode cX4_addRoad 73 = .ok (.imul, 1) := by decide +kernel
theorem dX4_addRoad_74 : decode cX4_addRoad 74 = .ok (.iload_n 2, 1) := by decide +kernel
theorem dX4_addRoad_75 : decode cX4_addRoad 75 = .ok (.iadd, 1) := by decide +kernel
theorem dX4_addRoad_76 : decode cX4_addRoad 76 = .ok (.iload_n 3, 1) := by decide +kernel
theorem dX4_addRoad_77 : decode cX4_addRoad 77 = .ok (.ifCond .eq 7, 3) := by decide +kernel
theorem dX4_addRoad_80 : decode cX4_addRoad 80 = .ok (.iconst 2, 1) := by decide +kernel
theorem dX4_addRoad_81 : decode cX4_addRoad 81 = .ok (.goto 4, 3) := by decide +kernel
theorem dX4_addRoad_84 : decode cX4_addRoad 84 = .ok (.iconst 1, 1) := by decide +kernel
theorem dX4_addRoad_85 : decode cX4_addRoad 85 = .ok (.iastore, 1) := by decide +kernel
theorem dX4_addRoad_86 : decode cX4_addRoad 86 = .ok (.aload_n 0, 1) := by decide +kernel
theorem dX4_addRoad_87 : decode cX4_addRoad 87 = .ok (.getfield 7, 3) := by decide +kernel
theorem dX4_addRoad_90 : decode cX4_addRoad 90 = .ok (.bipush 10, 2) := by decide +kernel
theorem dX4_addRoad_92 : decode cX4_addRoad 92 = .ok (.iload_n 2, 1) := by decide +kernel
theorem dX4_addRoad_93 : decode cX4_addRoad 93 = .ok (.imul, 1) := by decide +kernel
theorem dX4_addRoad_94 : decode cX4_addRoad 94 = .ok (.iload_n 1, 1) := by decide +kernel
theorem dX4_addRoad_95 : decode cX4_addRoad 95 = .ok (.iadd, 1) := by decide +kernel
theorem dX4_addRoad_96 : decode cX4_addRoad 96 = .ok (.iload_n 3, 1) := by decide +kernel
theorem dX4_addRoad_97 : decode cX4_addRoad 97 = .ok (.ifCond .eq 7, 3) := by decide +kernel
theorem dX4_addRoad_100 : decode cX4_addRoad 100 = .ok (.iconst 2, 1) := by decide +kernel
theorem dX4_addRoad_101 : decode cX4_addRoad 101 = .ok (.goto 4, 3) := by decide +kernel
theorem dX4_addRoad_104 : decode cX4_addRoad 104 = .ok (.iconst 1, 1) := by decide +kernel
theorem dX4_addRoad_105 : decode cX4_addRoad 105 = .ok (.iastore, 1) := by decide +kernel
theorem dX4_addRoad_106 : decode cX4_addRoad 106 = .ok (.aload_n 0, 1) := by decide +kernel
theorem dX4_addRoad_107 : decode cX4_addRoad 107 = .ok (.dup, 1) := by decide +kernel
theorem dX4_addRoad_108 : decode cX4_addRoad 108 = .ok (.getfield 83, 3) := by decide +kernel
theorem dX4_addRoad_111 : decode cX4_addRoad 111 = .ok (.iconst 1, 1) := by decide +kernel
theorem dX4_addRoad_112 : decode cX4_addRoad 112 = .ok (.iadd, 1) := by decide +kernel
theorem dX4_addRoad_113 : decode cX4_addRoad 113 = .ok (.putfield 83, 3) := by decide +kernel
theorem dX4_addRoad_116 : decode cX4_addRoad 116 = .ok (.aload_n 0, 1) := by decide +kernel
theorem dX4_addRoad_117 : decode cX4_addRoad 117 = .ok (.getfield 83, 3) := by decide +kernel
theorem dX4_addRoad_120 : decode cX4_addRoad 120 = .ok (.ireturn, 1) := by decide +kernel
set_option maxRecDepth 20000 in
theorem ggX4_setDepot_X4_in : GoodIn wsX4_setDepot wsX4_in := goodIn_r _ [7] (by decide +kernel) (by decide +kernel)
set_option maxRecDepth 20000 in
theorem gX4_setDepot_X4_in : GoodIn wsX4_setDepot (va_wsS RX4 65 yX4_in wsX4_in) := goodIn_app (goodIn_of _ (by decide +kernel)) ggX4_setDepot_X4_in
set_option maxRecDepth 20000 in
theorem ggX4_setDepot_X4_isTown : GoodIn wsX4_setDepot wsX4_isTown := goodIn_r _ [10, 4, 5, 6, 7] (by decide +kernel) (by decide +kernel)
set_option maxRecDepth 20000 in
theorem gX4_setDepot_X4_isTown : GoodIn wsX4_setDepot (va_wsS RX4 72 yX4_isTown wsX4_isTown) := goodIn_app (goodIn_of _ (by decide +kernel)) ggX4_setDepot_X4_isTown
set_option maxRecDepth 20000 in
theorem ggX4_setDepot_X4_fails : GoodIn wsX4_setDepot wsX4_fails := goodIn_r _ [14, 1, 15, 16, 17, 18, 19, 20, 21, 22, 23, 24, 25, 26, 27, 28, 29, 30, 31, 32, 33, 34, 35, 36] (by decide +kernel) (by decide +kernel)
set_option maxRecDepth 20000 in
theorem gX4_setDepot_X4_fails : GoodIn wsX4_setDepot (wsV RX4 76 RX4 yX4_fails wsX4_fails) := goodIn_app (goodIn_of _ (by decide +kernel)) ggX4_setDepot_X4_fails
theorem dX4_setDepot_0 : decode cX4_setDepot 0 = .ok (.aload_n 0, 1) := by decide +kernel
theorem dX4_setDepot_1 : decode cX4_setDepot 1 = .ok (.iconst 0, 1) := by decide +kernel
theorem dX4_setDepot_2 : decode cX4_setDepot 2 = .ok (.putfield 61, 3) := by decide +kernel
theorem dX4_setDepot_5 : decode cX4_setDepot 5 = .ok (.iload_n 1, 1) := by decide +kernel
theorem dX4_setDepot_6 : decode cX4_setDepot 6 = .ok (.iconst 0, 1) := by decide +kernel
theorem dX4_setDepot_7 : decode cX4_setDepot 7 = .ok (.iconst 1, 1) := by decide +kernel
theorem dX4_setDepot_8 : decode cX4_setDepot 8 = .ok (.invokestatic 65, 3) := by decide +kernel
theorem dX4_setDepot_11 : decode cX4_setDepot 11 = .ok (.ifCond .eq 10, 3) := by decide +kernel
theorem dX4_setDepot_14 : decode cX4_setDepot 14 = .ok (.iload_n 2, 1) := by decide +kernel
theorem dX4_setDepot_15 : decode cX4_setDepot 15 = .ok (.invokestatic 72, 3) := by decide +kernel
theorem dX4_setDepot_18 : decode cX4_setDepot 18 = .ok (.ifCond .ne 9, 3) := by decide +kernel
theorem dX4_setDepot_21 : decode cX4_setDepot 21 = .ok (.aload_n 0, 1) := by decide +kernel
theorem dX4_setDepot_22 : decode cX4_setDepot 22 = .ok (.iconst 1, 1) := by decide +kernel
theorem dX4_setDepot_23 : decode cX4_setDepot 23 = .ok (.invokevirtual 76, 3) := by decide +kernel
theorem dX4_setDepot_26 : decode cX4_setDepot 26 = .ok (.ireturn, 1) := by decide +kernel
theorem dX4_setDepot_27 : decode cX4_setDepot 27 = .ok (.aload_n 0, 1) := by decide +kernel
theorem dX4_setDepot_28 : decode cX4_setDepot 28 = .ok (.getfield 80, 3) := by decide +kernel
theorem dX4_setDepot_31 : decode cX4_setDepot 31 = .ok (.ifCond .le 9, 3) := by decide +kernel
theorem dX4_setDepot_34 : decode cX4_setDepot 34 = .ok (.aload_n 0, 1) := by decide +kernel
theorem dX4_setDepot_35 : decode cX4_setDepot 35 = .ok (.iconst 2, 1) := by decide +kernel
theorem dX4_setDepot_36 : decode cX4_setDepot 36 = .ok (.invokevirtual 76, 3) := by decide +kernel
theorem dX4_setDepot_39 : decode cX4_setDepot 39 = .ok (.ireturn, 1) := by decide +kernel
theorem dX4_setDepot_40 : decode cX4_setDepot 40 = .ok (.aload_n 0, 1) := by decide +kernel
theorem dX4_setDepot_41 : decode cX4_setDepot 41 = .ok (.getfield 13, 3) := by decide +kernel
theorem dX4_setDepot_44 : decode cX4_setDepot 44 = .ok (.iload_n 1, 1) := by decide +kernel
theorem dX4_setDepot_45 : decode cX4_setDepot 45 = .ok (.iaload, 1) := by decide +kernel
theorem dX4_setDepot_46 : decode cX4_setDepot 46 = .ok (.istore_n 3, 1) := by decide +kernel
theorem dX4_setDepot_47 : decode cX4_setDepot 47 = .ok (.aload_n 0, 1) := by decide +kernel
theorem dX4_setDepot_48 : decode cX4_setDepot 48 = .ok (.getfield 13, 3) := by decide +kernel
theorem dX4_setDepot_51 : decode cX4_setDepot 51 = .ok (.iload_n 1, 1) := by decide +kernel
theorem dX4_setDepot_52 : decode cX4_setDepot 52 = .ok (.iload_n 2, 1) := by decide +kernel
theorem dX4_setDepot_53 : decode cX4_setDepot 53 = .ok (.iastore, 1) := by decide +kernel
theorem dX4_setDepot_54 : decode cX4_setDepot 54 = .ok (.iload_n 3, 1) := by decide +kernel
theorem dX4_setDepot_55 : decode cX4_setDepot 55 = .ok (.ireturn, 1) := by decide +kernel
theorem dX4_isHeld_0 : decode cX4_isHeld 0 = .ok (.iconst 0, 1) := by decide +kernel
theorem dX4_isHeld_1 : decode cX4_isHeld 1 = .ok (.istore_n 3, 1) := by decide +kernel
theorem dX4_isHeld_2 : decode cX4_isHeld 2 = .ok (.iload_n 3, 1) := by decide +kernel
theorem dX4_isHeld_3 : decode cX4_isHeld 3 = .ok (.aload_n 0, 1) := by decide +kernel
theorem dX4_isHeld_4 : decode cX4_isHeld 4 = .ok (.getfield 69, 3) := by decide +kernel
theorem dX4_isHeld_7 : decode cX4_isHeld 7 = .ok (.if_icmp .ge 31, 3) := by decide +kernel
theorem dX4_isHeld_10 : decode cX4_isHeld 10 = .ok (.aload_n 0, 1) := by decide +kernel
theorem dX4_isHeld_11 : decode cX4_isHeld 11 = .ok (.getfield 16, 3) := by decide +kernel
theorem dX4_isHeld_14 : decode cX4_isHeld 14 = .ok (.iload_n 3, 1) := by decide +kernel
theorem dX4_isHeld_15 : decode cX4_isHeld 15 = .ok (.iaload, 1) := by decide +kernel
theorem dX4_isHeld_16 : decode cX4_isHeld 16 = .ok (.iload_n 2, 1) := by decide +kernel
theorem dX4_isHeld_17 : decode cX4_isHeld 17 = .ok (.if_icmp .ne 15, 3) := by decide +kernel
theorem dX4_isHeld_20 : decode cX4_isHeld 20 = .ok (.aload_n 0, 1) := by decide +kernel
theorem dX4_isHeld_21 : decode cX4_isHeld 21 = .ok (.getfield 43, 3) := by decide +kernel
theorem dX4_isHeld_24 : decode cX4_isHeld 24 = .ok (.iload_n 3, 1) := by decide +kernel
theorem dX4_isHeld_25 : decode cX4_isHeld 25 = .ok (.iaload, 1) := by decide +kernel
theorem dX4_isHeld_26 : decode cX4_isHeld 26 = .ok (.iload_n 1, 1) := by decide +kernel
theorem dX4_isHeld_27 : decode cX4_isHeld 27 = .ok (.if_icmp .ne 5, 3) := by decide +kernel
theorem dX4_isHeld_30 : decode cX4_isHeld 30 = .ok (.iconst 1, 1) := by decide +kernel
theorem dX4_isHeld_31 : decode cX4_isHeld 31 = .ok (.ireturn, 1) := by decide +kernel
theorem dX4_isHeld_32 : decode cX4_isHeld 32 = .ok (.iinc 3 1, 3) := by decide +kernel
theorem dX4_isHeld_35 : decode cX4_isHeld 35 = .ok (.goto (-33), 3) := by decide +kernel
theorem dX4_isHeld_38 : decode cX4_isHeld 38 = .ok (.iconst 0, 1) := by decide +kernel
theorem dX4_isHeld_39 : decode cX4_isHeld 39 = .ok (.ireturn, 1) := by decide +kernel
theorem dX4_take_0 : decode cX4_take 0 = .ok (.iconst 0, 1) := by decide +kernel
theorem dX4_take_1 : decode cX4_take 1 = .ok (.istore_n 2, 1) := by decide +kernel
theorem dX4_take_2 : decode cX4_take 2 = .ok (.iload_n 2, 1) := by decide +kernel
theorem dX4_take_3 : decode cX4_take 3 = .ok (.aload_n 0, 1) := by decide +kernel
theorem dX4_take_4 : decode cX4_take 4 = .ok (.getfield 69, 3) := by decide +kernel
theorem dX4_take_7 : decode cX4_take 7 = .ok (.if_icmp .ge 43, 3) := by decide +kernel
theorem dX4_take_10 : decode cX4_take 10 = .ok (.aload_n 0, 1) := by decide +kernel
theorem dX4_take_11 : decode cX4_take 11 = .ok (.getfield 43, 3) := by decide +kernel
theorem dX4_take_14 : decode cX4_take 14 = .ok (.iload_n 2, 1) := by decide +kernel
theorem dX4_take_15 : decode cX4_take 15 = .ok (.aload_n 0, 1) := by decide +kernel
theorem dX4_take_16 : decode cX4_take 16 = .ok (.getfield 19, 3) := by decide +kernel
theorem dX4_take_19 : decode cX4_take 19 = .ok (.bipush 12, 2) := by decide +kernel
theorem dX4_take_21 : decode cX4_take 21 = .ok (.iload_n 1, 1) := by decide +kernel
theorem dX4_take_22 : decode cX4_take 22 = .ok (.imul, 1) := by decide +kernel
theorem dX4_take_23 : decode cX4_take 23 = .ok (.iload_n 2, 1) := by decide +kernel
theorem dX4_take_24 : decode cX4_take 24 = .ok (.iadd, 1) := by decide +kernel
theorem dX4_take_25 : decode cX4_take 25 = .ok (.iaload, 1) := by decide +kernel
theorem dX4_take_26 : decode cX4_take 26 = .ok (.iastore, 1) := by decide +kernel
theorem dX4_take_27 : decode cX4_take 27 = .ok (.aload_n 0, 1) := by decide +kernel
theorem dX4_take_28 : decode cX4_take 28 = .ok (.getfield 46, 3) := by decide +kernel
theorem dX4_take_31 : decode cX4_take 31 = .ok (.iload_n 2, 1) := by decide +kernel
theorem dX4_take_32 : decode cX4_take 32 = .ok (.aload_n 0, 1) := by decide +kernel
theorem dX4_take_33 : decode cX4_take 33 = .ok (.getfield 22, 3) := by decide +kernel
theorem dX4_take_36 : decode cX4_take 36 = .ok (.bipush 12, 2) := by decide +kernel
theorem dX4_take_38 : decode cX4_take 38 = .ok (.iload_n 1, 1) := by decide +kernel
theorem dX4_take_39 : decode cX4_take 39 = .ok (.imul, 1) := by decide +kernel
theorem dX4_take_40 : decode cX4_take 40 = .ok (.iload_n 2, 1) := by decide +kernel
theorem dX4_take_41 : decode cX4_take 41 = .ok (.iadd, 1) := by decide +kernel
theorem dX4_take_42 : decode cX4_take 42 = .ok (.iaload, 1) := by decide +kernel
theorem dX4_take_43 : decode cX4_take 43 = .ok (.iastore, 1) := by decide +kernel
theorem dX4_take_44 : decode cX4_take 44 = .ok (.iinc 2 1, 3) := by decide +kernel
theorem dX4_take_47 : decode cX4_take 47 = .ok (.goto (-45), 3) := by decide +kernel
theorem dX4_take_50 : decode cX4_take 50 = .ok (.return_, 1) := by decide +kernel
set_option maxRecDepth 20000 in
theorem ggX4_addUnit_X4_in : GoodIn wsX4_addUnit wsX4_in := goodIn_r _ [10] (by decide +kernel) (by decide +kernel)
set_option maxRecDepth 20000 in
theorem gX4_addUnit_X4_in : GoodIn wsX4_addUnit (va_wsS RX4 65 yX4_in wsX4_in) := goodIn_app (goodIn_of _ (by decide +kernel)) ggX4_addUnit_X4_in
set_option maxRecDepth 20000 in
theorem ggX4_addUnit_X4_isTown : GoodIn wsX4_addUnit wsX4_isTown := goodIn_r _ [13, 7, 8, 9, 10] (by decide +kernel) (by decide +kernel)
set_option maxRecDepth 20000 in
theorem gX4_addUnit_X4_isTown : GoodIn wsX4_addUnit (va_wsS RX4 72 yX4_isTown wsX4_isTown) := goodIn_app (goodIn_of _ (by decide +kernel)) ggX4_addUnit_X4_isTown
set_option maxRecDepth 20000 in
theorem ggX4_addUnit_X4_fails : GoodIn wsX4_addUnit wsX4_fails := goodIn_r _ [17, 1, 28, 29, 30, 31, 32, 33, 34, 35, 36, 37, 38, 39, 40, 41, 42, 43, 44, 45, 46, 47, 48, 49] (by decide +kernel) (by decide +kernel)
set_option maxRecDepth 20000 in
theorem gX4_addUnit_X4_fails : GoodIn wsX4_addUnit (wsV RX4 76 RX4 yX4_fails wsX4_fails) := goodIn_app (goodIn_of _ (by decide +kernel)) ggX4_addUnit_X4_fails
set_option maxRecDepth 20000 in
theorem ggX4_addUnit_X4_take : GoodIn wsX4_addUnit wsX4_take := goodIn_r _ [21, 3, 22, 5, 23, 6, 28, 29, 30, 31, 32, 33, 34, 35, 36, 37, 38, 39, 40, 41, 42, 43, 44, 45, 46, 47, 48, 49] (by decide +kernel) (by decide +kernel)
set_option maxRecDepth 20000 in
theorem gX4_addUnit_X4_take : GoodIn wsX4_addUnit (wsV RX4 86 RX4 yX4_take wsX4_take) := goodIn_app (goodIn_of _ (by decide +kernel)) ggX4_addUnit_X4_take
set_option maxRecDepth 20000 in
theorem ggX4_addUnit_X4_isHeld : GoodIn wsX4_addUnit wsX4_isHeld := goodIn_r _ [27, 3, 4, 22, 28, 29, 30, 31, 32, 33, 34, 35, 36, 37, 38, 39, 40, 41, 42, 43, 44, 45, 46, 47, 48, 49] (by decide +kernel) (by decide +kernel)
set_option maxRecDepth 20000 in
theorem gX4_addUnit_X4_isHeld : GoodIn wsX4_addUnit (wsV RX4 90 RX4 yX4_isHeld wsX4_isHeld) := goodIn_app (goodIn_of _ (by decide +kernel)) ggX4_addUnit_X4_isHeld
theorem dX4_addUnit_0 : decode cX4_addUnit 0 = .ok (.aload_n 0, 1) := by decide +kernel
theorem dX4_addUnit_1 : decode cX4_addUnit 1 = .ok (.iconst 0, 1) := by decide +kernel
theorem dX4_addUnit_2 : decode cX4_addUnit 2 = .ok (.putfield 61, 3) := by decide +kernel
theorem dX4_addUnit_5 : decode cX4_addUnit 5 = .ok (.iload_n 1, 1) := by decide +kernel
theorem dX4_addUnit_6 : decode cX4_addUnit 6 = .ok (.iconst 0, 1) := by decide +kernel
theorem dX4_addUnit_7 : decode cX4_addUnit 7 = .ok (.iconst 1, 1) := by decide +kernel
theorem dX4_addUnit_8 : decode cX4_addUnit 8 = .ok (.invokestatic 65, 3) := by decide +kernel
theorem dX4_addUnit_11 : decode cX4_addUnit 11 = .ok (.ifCond .eq 20, 3) := by decide +kernel
theorem dX4_addUnit_14 : decode cX4_addUnit 14 = .ok (.iload_n 2, 1) := by decide +kernel
theorem dX4_addUnit_15 : decode cX4_addUnit 15 = .ok (.invokestatic 72, 3) := by decide +kernel
theorem dX4_addUnit_18 : decode cX4_addUnit 18 = .ok (.ifCond .eq 13, 3) := by decide +kernel
theorem dX4_addUnit_21 : decode cX4_addUnit 21 = .ok (.iload_n 3, 1) := by decide +kernel
theorem dX4_addUnit_22 : decode cX4_addUnit 22 = .ok (.iconst 1, 1) := by decide +kernel
theorem dX4_addUnit_23 : decode cX4_addUnit 23 = .ok (.bipush 9, 2) := by decide +kernel
theorem dX4_addUnit_25 : decode cX4_addUnit 25 = .ok (.invokestatic 65, 3) := by decide +kernel
theorem dX4_addUnit_28 : decode cX4_addUnit 28 = .ok (.ifCond .ne 9, 3) := by decide +kernel
theorem dX4_addUnit_31 : decode cX4_addUnit 31 = .ok (.aload_n 0, 1) := by decide +kernel
theorem dX4_addUnit_32 : decode cX4_addUnit 32 = .ok (.iconst 1, 1) := by decide +kernel
theorem dX4_addUnit_33 : decode cX4_addUnit 33 = .ok (.invokevirtual 76, 3) := by decide +kernel
theorem dX4_addUnit_36 : decode cX4_addUnit 36 = .ok (.ireturn, 1) := by decide +kernel
theorem dX4_addUnit_37 : decode cX4_addUnit 37 = .ok (.aload_n 0, 1) := by decide +kernel
theorem dX4_addUnit_38 : decode cX4_addUnit 38 = .ok (.iconst 0, 1) := by decide +kernel
theorem dX4_addUnit_39 : decode cX4_addUnit 39 = .ok (.invokevirtual 86, 3) := by decide +kernel
theorem dX4_addUnit_42 : decode cX4_addUnit 42 = .ok (.aload_n 0, 1) := by decide +kernel
theorem dX4_addUnit_43 : decode cX4_addUnit 43 = .ok (.getfield 80, 3) := by decide +kernel
theorem dX4_addUnit_46 : decode cX4_addUnit 46 = .ok (.ifCond .gt 23, 3) := by decide +kernel
theorem dX4_addUnit_49 : decode cX4_addUnit 49 = .ok (.aload_n 0, 1) := by decide +kernel
theorem dX4_addUnit_50 : decode cX4_addUnit 50 = .ok (.iload_n 2, 1) := by decide +kernel
theorem dX4_addUnit_51 : decode cX4_addUnit 51 = .ok (.iconst 1, 1) := by decide +kernel
theorem dX4_addUnit_52 : decode cX4_addUnit 52 = .ok (.iload_n 1, 1) := by decide +kernel
theorem dX4_addUnit_53 : decode cX4_addUnit 53 = .ok (.isub, 1) := by decide +kernel
theorem dX4_addUnit_54 : decode cX4_addUnit 54 = .ok (.invokevirtual 90, 3) := by decide +kernel
theorem dX4_addUnit_57 : decode cX4_addUnit 57 = .ok (.ifCond .ne 12, 3) := by decide +kernel
theorem dX4_addUnit_60 : decode cX4_addUnit 60 = .ok (.aload_n 0, 1) := by decide +kernel
theorem dX4_addUnit_61 : decode cX4_addUnit 61 = .ok (.getfield 69, 3) := by decide +kernel
theorem dX4_addUnit_64 : decode cX4_addUnit 64 = .ok (.bipush 12, 2) := by decide +kernel
theorem dX4_addUnit_66 : decode cX4_addUnit 66 = .ok (.if_icmp .ne 9, 3) := by decide +kernel
theorem dX4_addUnit_69 : decode cX4_addUnit 69 = .ok (.aload_n 0, 1) := by decide +kernel
theorem dX4_addUnit_70 : decode cX4_addUnit 70 = .ok (.iconst 2, 1) := by decide +kernel
theorem dX4_addUnit_71 : decode cX4_addUnit 71 = .ok (.invokevirtual 76, 3) := by decide +kernel
theorem dX4_addUnit_74 : decode cX4_addUnit 74 = .ok (.ireturn, 1) := by decide +kernel
theorem dX4_addUnit_75 : decode cX4_addUnit 75 = .ok (.aload_n 0, 1) := by decide +kernel
theorem dX4_addUnit_76 : decode cX4_addUnit 76 = .ok (.getfield 16, 3) := by decide +kernel
theorem dX4_addUnit_79 : decode cX4_addUnit 79 = .ok (.aload_n 0, 1) := by decide +kernel
theorem dX4_addUnit_80 : decode cX4_addUnit 80 = .ok (.getfield 69, 3) := by decide +kernel
theorem dX4_addUnit_83 : decode cX4_addUnit 83 = .ok (.iload_n 1, 1) := by decide +kernel
theorem dX4_addUnit_84 : decode cX4_addUnit 84 = .ok (.iastore, 1) := by decide +kernel
theorem dX4_addUnit_85 : decode cX4_addUnit 85 = .ok (.aload_n 0, 1) := by decide +kernel
theorem dX4_addUnit_86 : decode cX4_addUnit 86 = .ok (.getfield 19, 3) := by decide +kernel
theorem dX4_addUnit_89 : decode cX4_addUnit 89 = .ok (.aload_n 0, 1) := by decide +kernel
theorem dX4_addUnit_90 : decode cX4_addUnit 90 = .ok (.getfield 69, 3) := by decide +kernel
theorem dX4_addUnit_93 : decode cX4_addUnit 93 = .ok (.iload_n 2, 1) := by decide +kernel
theorem dX4_addUnit_94 : decode cX4_addUnit 94 = .ok (.iastore, 1) := by decide +kernel
theorem dX4_addUnit_95 : decode cX4_addUnit 95 = .ok (.aload_n 0, 1) := by decide +kernel
theorem dX4_addUnit_96 : decode cX4_addUnit 96 = .ok (.getfield 22, 3) := by decide +kernel
theorem dX4_addUnit_99 : decode cX4_addUnit 99 = .ok (.aload_n 0, 1) := by decide +kernel
theorem dX4_addUnit_100 : decode cX4_addUnit 100 = .ok (.getfield 69, 3) := by decide +kernel
theorem dX4_addUnit_103 : decode cX4_addUnit 103 = .ok (.iload_n 3, 1) := by decide +kernel
theorem dX4_addUnit_104 : decode cX4_addUnit 104 = .ok (.iastore, 1) := by decide +kernel
theorem dX4_addUnit_105 : decode cX4_addUnit 105 = .ok (.aload_n 0, 1) := by decide +kernel
theorem dX4_addUnit_106 : decode cX4_addUnit 106 = .ok (.dup, 1) := by decide +kernel
theorem dX4_addUnit_107 : decode cX4_addUnit 107 = .ok (.getfield 69, 3) := by decide +kernel
theorem dX4_addUnit_110 : decode cX4_addUnit 110 = .ok (.iconst 1, 1) := by decide +kernel
theorem dX4_addUnit_111 : decode cX4_addUnit 111 = .ok (.iadd, 1) := by decide +kernel
theorem dX4_addUnit_112 : decode cX4_addUnit 112 = .ok (.putfield 69, 3) := by decide +kernel
theorem dX4_addUnit_115 : decode cX4_addUnit 115 = .ok (.aload_n 0, 1) := by decide +kernel
theorem dX4_addUnit_116 : decode cX4_addUnit 116 = .ok (.getfield 69, 3) := by decide +kernel
theorem dX4_addUnit_119 : decode cX4_addUnit 119 = .ok (.iconst 1, 1) := by decide +kernel
theorem dX4_addUnit_120 : decode cX4_addUnit 120 = .ok (.isub, 1) := by decide +kernel
theorem dX4_addUnit_121 : decode cX4_addUnit 121 = .ok (.ireturn, 1) := by decide +kernel
set_option maxRecDepth 20000 in
theorem ggX4_order_X4_isUnit : GoodIn wsX4_order wsX4_isUnit := goodIn_r _ [7, 8, 9, 10, 6, 11, 16, 17, 18, 19, 20, 21, 22, 23, 24, 25, 26, 27, 28, 29, 30, 31, 32, 33, 34, 35, 36, 37] (by decide +kernel) (by decide +kernel)
set_option maxRecDepth 20000 in
theorem gX4_order_X4_isUnit : GoodIn wsX4_order (wsV RX4 94 RX4 yX4_isUnit wsX4_isUnit) := goodIn_app (goodIn_of _ (by decide +kernel)) ggX4_order_X4_isUnit
set_option maxRecDepth 20000 in
theorem ggX4_order_X4_fails : GoodIn wsX4_order wsX4_fails := goodIn_r _ [15, 1, 16, 17, 18, 19, 20, 21, 22, 23, 24, 25, 26, 27, 28, 29, 30, 31, 32, 33, 34, 35, 36, 37] (by decide +kernel) (by decide +kernel)
set_option maxRecDepth 20000 in
theorem gX4_order_X4_fails : GoodIn wsX4_order (wsV RX4 76 RX4 yX4_fails wsX4_fails) := goodIn_app (goodIn_of _ (by decide +kernel)) ggX4_order_X4_fails
set_option maxRecDepth 20000 in
theorem ggX4_order_X4_in : GoodIn wsX4_order wsX4_in := goodIn_r _ [11] (by decide +kernel) (by decide +kernel)
set_option maxRecDepth 20000 in
theorem gX4_order_X4_in : GoodIn wsX4_order (va_wsS RX4 65 yX4_in wsX4_in) := goodIn_app (goodIn_of _ (by decide +kernel)) ggX4_order_X4_in
theorem dX4_order_0 : decode cX4_order 0 = .ok (.aload_n 0, 1) := by decide +kernel
theorem dX4_order_1 : decode cX4_order 1 = .ok (.iconst 0, 1) := by decide +kernel
theorem dX4_order_2 : decode cX4_order 2 = .ok (.putfield 61, 3) := by decide +kernel
theorem dX4_order_5 : decode cX4_order 5 = .ok (.aload_n 0, 1) := by decide +kernel
theorem dX4_order_6 : decode cX4_order 6 = .ok (.iload_n 1, 1) := by decide +kernel
theorem dX4_order_7 : decode cX4_order 7 = .ok (.invokevirtual 94, 3) := by decide +kernel
theorem dX4_order_10 : decode cX4_order 10 = .ok (.ifCond .ne 9, 3) := by decide +kernel
theorem dX4_order_13 : decode cX4_order 13 = .ok (.aload_n 0, 1) := by decide +kernel
theorem dX4_order_14 : decode cX4_order 14 = .ok (.iconst 1, 1) := by decide +kernel
theorem dX4_order_15 : decode cX4_order 15 = .ok (.invokevirtual 76, 3) := by decide +kernel
theorem dX4_order_18 : decode cX4_order 18 = .ok (.ireturn, 1) := by decide +kernel
theorem dX4_order_19 : decode cX4_order 19 = .ok (.iload_n 2, 1) := by decide +kernel
theorem dX4_order_20 : decode cX4_order 20 = .ok (.iconst (-1), 1) := by decide +kernel
theorem dX4_order_21 : decode cX4_order 21 = .ok (.bipush 9, 2) := by decide +kernel
theorem dX4_order_23 : decode cX4_order 23 = .ok (.invokestatic 65, 3) := by decide +kernel
theorem dX4_order_26 : decode cX4_order 26 = .ok (.ifCond .ne 9, 3) := by decide +kernel
theorem dX4_order_29 : decode cX4_order 29 = .ok (.aload_n 0, 1) := by decide +kernel
theorem dX4_order_30 : decode cX4_order 30 = .ok (.iconst 2, 1) := by decide +kernel
theorem dX4_order_31 : decode cX4_order 31 = .ok (.invokevirtual 76, 3) := by decide +kernel
theorem dX4_order_34 : decode cX4_order 34 = .ok (.ireturn, 1) := by decide +kernel
theorem dX4_order_35 : decode cX4_order 35 = .ok (.aload_n 0, 1) := by decide +kernel
theorem dX4_order_36 : decode cX4_order 36 = .ok (.getfield 28, 3) := by decide +kernel
theorem dX4_order_39 : decode cX4_order 39 = .ok (.iload_n 1, 1) := by decide +kernel
theorem dX4_order_40 : decode cX4_order 40 = .ok (.iaload, 1) := by decide +kernel
theorem dX4_order_41 : decode cX4_order 41 = .ok (.istore_n 3, 1) := by decide +kernel
theorem dX4_order_42 : decode cX4_order 42 = .ok (.aload_n 0, 1) := by decide +kernel
theorem dX4_order_43 : decode cX4_order 43 = .ok (.getfield 28, 3) := by decide +kernel
theorem dX4_order_46 : decode cX4_order 46 = .ok (.iload_n 1, 1) := by decide +kernel
theorem dX4_order_47 : decode cX4_order 47 = .ok (.iload_n 2, 1) := by decide +kernel
theorem dX4_order_48 : decode cX4_order 48 = .ok (.iastore, 1) := by decide +kernel
theorem dX4_order_49 : decode cX4_order 49 = .ok (.iload_n 3, 1) := by decide +kernel
theorem dX4_order_50 : decode cX4_order 50 = .ok (.ireturn, 1) := by decide +kernel
theorem dX4_isOpen_0 : decode cX4_isOpen 0 = .ok (.aload_n 0, 1) := by decide +kernel
theorem dX4_isOpen_1 : decode cX4_isOpen 1 = .ok (.getfield 7, 3) := by decide +kernel
theorem dX4_isOpen_4 : decode cX4_isOpen 4 = .ok (.bipush 10, 2) := by decide +kernel
theorem dX4_isOpen_6 : decode cX4_isOpen 6 = .ok (.iload_n 1, 1) := by decide +kernel
theorem dX4_isOpen_7 : decode cX4_isOpen 7 = .ok (.imul, 1) := by decide +kernel
theorem dX4_isOpen_8 : decode cX4_isOpen 8 = .ok (.iload_n 2, 1) := by decide +kernel
theorem dX4_isOpen_9 : decode cX4_isOpen 9 = .ok (.iadd, 1) := by decide +kernel
theorem dX4_isOpen_10 : decode cX4_isOpen 10 = .ok (.iaload, 1) := by decide +kernel
theorem dX4_isOpen_11 : decode cX4_isOpen 11 = .ok (.istore 4, 2) := by decide +kernel
theorem dX4_isOpen_13 : decode cX4_isOpen 13 = .ok (.iload 4, 2) := by decide +kernel
theorem dX4_isOpen_15 : decode cX4_isOpen 15 = .ok (.ifCond .le 22, 3) := by decide +kernel
theorem dX4_isOpen_18 : decode cX4_isOpen 18 = .ok (.iload_n 3, 1) := by decide +kernel
theorem dX4_isOpen_19 : decode cX4_isOpen 19 = .ok (.ifCond .eq 14, 3) := by decide +kernel
theorem dX4_isOpen_22 : decode cX4_isOpen 22 = .ok (.iload_n 3, 1) := by decide +kernel
theorem dX4_isOpen_23 : decode cX4_isOpen 23 = .ok (.iconst 1, 1) := by decide +kernel
theorem dX4_isOpen_24 : decode cX4_isOpen 24 = .ok (.if_icmp .ne 13, 3) := by decide +kernel
theorem dX4_isOpen_27 : decode cX4_isOpen 27 = .ok (.iload 4, 2) := by decide +kernel
theorem dX4_isOpen_29 : decode cX4_isOpen 29 = .ok (.iconst 2, 1) := by decide +kernel
theorem dX4_isOpen_30 : decode cX4_isOpen 30 = .ok (.if_icmp .ne 7, 3) := by decide +kernel
theorem dX4_isOpen_33 : decode cX4_isOpen 33 = .ok (.iconst 1, 1) := by decide +kernel
theorem dX4_isOpen_34 : decode cX4_isOpen 34 = .ok (.goto 4, 3) := by decide +kernel
theorem dX4_isOpen_37 : decode cX4_isOpen 37 = .ok (.iconst 0, 1) := by decide +kernel
theorem dX4_isOpen_38 : decode cX4_isOpen 38 = .ok (.ireturn, 1) := by decide +kernel
set_option maxRecDepth 20000 in
theorem ggX4_supplyOf_X4_isHeld : GoodIn wsX4_supplyOf wsX4_isHeld := goodIn_r _ [9, 10, 1, 3, 16, 17, 18, 19, 20, 21, 22, 23, 24, 25, 26, 27, 28, 29, 30, 31, 32, 33, 34, 35, 36, 37] (by decide +kernel) (by decide +kernel)
set_option maxRecDepth 20000 in
theorem gX4_supplyOf_X4_isHeld : GoodIn wsX4_supplyOf (wsV RX4 90 RX4 yX4_isHeld wsX4_isHeld) := goodIn_app (goodIn_of _ (by decide +kernel)) ggX4_supplyOf_X4_isHeld
set_option maxRecDepth 20000 in
theorem ggX4_supplyOf_X4_isOpen : GoodIn wsX4_supplyOf wsX4_isOpen := goodIn_r _ [14, 15, 16, 17, 18, 19, 20, 21, 22, 23, 24, 25, 26, 27, 28, 29, 30, 31, 32, 33, 34, 35, 36, 37] (by decide +kernel) (by decide +kernel)
set_option maxRecDepth 20000 in
theorem gX4_supplyOf_X4_isOpen : GoodIn wsX4_supplyOf (wsV RX4 97 RX4 yX4_isOpen wsX4_isOpen) := goodIn_app (goodIn_of _ (by decide +kernel)) ggX4_supplyOf_X4_isOpen
theorem dX4_supplyOf_0 : decode cX4_supplyOf 0 = .ok (.iconst 1, 1) := by decide +kernel
theorem dX4_supplyOf_1 : decode cX4_supplyOf 1 = .ok (.aload_n 0, 1) := by decide +kernel
theorem dX4_supplyOf_2 : decode cX4_supplyOf 2 = .ok (.getfield 16, 3) := by decide +kernel
theorem dX4_supplyOf_5 : decode cX4_supplyOf 5 = .ok (.iload_n 1, 1) := by decide +kernel
theorem dX4_supplyOf_6 : decode cX4_supplyOf 6 = .ok (.iaload, 1) := by decide +kernel
theorem dX4_supplyOf_7 : decode cX4_supplyOf 7 = .ok (.isub, 1) := by decide +kernel
theorem dX4_supplyOf_8 : decode cX4_supplyOf 8 = .ok (.istore_n 3, 1) := by decide +kernel
theorem dX4_supplyOf_9 : decode cX4_supplyOf 9 = .ok (.iconst 0, 1) := by decide +kernel
theorem dX4_supplyOf_10 : decode cX4_supplyOf 10 = .ok (.istore 4, 2) := by decide +kernel
theorem dX4_supplyOf_12 : decode cX4_supplyOf 12 = .ok (.iload 4, 2) := by decide +kernel
theorem dX4_supplyOf_14 : decode cX4_supplyOf 14 = .ok (.bipush 10, 2) := by decide +kernel
theorem dX4_supplyOf_16 : decode cX4_supplyOf 16 = .ok (.if_icmp .ge 42, 3) := by decide +kernel
theorem dX4_supplyOf_19 : decode cX4_supplyOf 19 = .ok (.aload_n 0, 1) := by decide +kernel
theorem dX4_supplyOf_20 : decode cX4_supplyOf 20 = .ok (.getfield 55, 3) := by decide +kernel
theorem dX4_supplyOf_23 : decode cX4_supplyOf 23 = .ok (.iload 4, 2) := by decide +kernel
theorem dX4_supplyOf_25 : decode cX4_supplyOf 25 = .ok (.iload 4, 2) := by decide +kernel
theorem dX4_supplyOf_27 : decode cX4_supplyOf 27 = .ok (.aload_n 0, 1) := by decide +kernel
theorem dX4_supplyOf_28 : decode cX4_supplyOf 28 = .ok (.getfield 43, 3) := by decide +kernel
theorem dX4_supplyOf_31 : decode cX4_supplyOf 31 = .ok (.iload_n 1, 1) := by decide +kernel
theorem dX4_supplyOf_32 : decode cX4_supplyOf 32 = .ok (.iaload, 1) := by decide +kernel
theorem dX4_supplyOf_33 : decode cX4_supplyOf 33 = .ok (.if_icmp .ne 17, 3) := by decide +kernel
theorem dX4_supplyOf_36 : decode cX4_supplyOf 36 = .ok (.aload_n 0, 1) := by decide +kernel
theorem dX4_supplyOf_37 : decode cX4_supplyOf 37 = .ok (.iload 4, 2) := by decide +kernel
theorem dX4_supplyOf_39 : decode cX4_supplyOf 39 = .ok (.iload_n 3, 1) := by decide +kernel
theorem dX4_supplyOf_40 : decode cX4_supplyOf 40 = .ok (.invokevirtual 90, 3) := by decide +kernel
theorem dX4_supplyOf_43 : decode cX4_supplyOf 43 = .ok (.ifCond .ne 7, 3) := by decide +kernel
theorem dX4_supplyOf_46 : decode cX4_supplyOf 46 = .ok (.iconst 0, 1) := by decide +kernel
theorem dX4_supplyOf_47 : decode cX4_supplyOf 47 = .ok (.goto 4, 3) := by decide +kernel
theorem dX4_supplyOf_50 : decode cX4_supplyOf 50 = .ok (.iconst (-1), 1) := by decide +kernel
theorem dX4_supplyOf_51 : decode cX4_supplyOf 51 = .ok (.iastore, 1) := by decide +kernel
theorem dX4_supplyOf_52 : decode cX4_supplyOf 52 = .ok (.iinc 4 1, 3) := by decide +kernel
theorem dX4_supplyOf_55 : decode cX4_supplyOf 55 = .ok (.goto (-43), 3) := by decide +kernel
theorem dX4_supplyOf_58 : decode cX4_supplyOf 58 = .ok (.iconst 0, 1) := by decide +kernel
theorem dX4_supplyOf_59 : decode cX4_supplyOf 59 = .ok (.istore 4, 2) := by decide +kernel
theorem dX4_supplyOf_61 : decode cX4_supplyOf 61 = .ok (.iload 4, 2) := by decide +kernel
theorem dX4_supplyOf_63 : decode cX4_supplyOf 63 = .ok (.iconst 4, 1) := by decide +kernel
theorem dX4_supplyOf_64 : decode cX4_supplyOf 64 = .ok (.if_icmp .ge 97, 3) := by decide +kernel
theorem dX4_supplyOf_67 : decode cX4_supplyOf 67 = .ok (.iconst 0, 1) := by decide +kernel
theorem dX4_supplyOf_68 : decode cX4_supplyOf 68 = .ok (.istore 5, 2) := by decide +kernel
theorem dX4_supplyOf_70 : decode cX4_supplyOf 70 = .ok (.iload 5, 2) := by decide +kernel
theorem dX4_supplyOf_72 : decode cX4_supplyOf 72 = .ok (.bipush 10, 2) := by decide +kernel
theorem dX4_supplyOf_74 : decode cX4_supplyOf 74 = .ok (.if_icmp .ge 81, 3) := by decide +kernel
theorem dX4_supplyOf_77 : decode cX4_supplyOf 77 = .ok (.iconst 0, 1) := by decide +kernel
theorem dX4_supplyOf_78 : decode cX4_supplyOf 78 = .ok (.istore 6, 2) := by decide +kernel
theorem dX4_supplyOf_80 : decode cX4_supplyOf 80 = .ok (.iload 6, 2) := by decide +kernel
theorem dX4_supplyOf_82 : decode cX4_supplyOf 82 = .ok (.bipush 10, 2) := by decide +kernel
theorem dX4_supplyOf_84 : decode cX4_supplyOf 84 = .ok (.if_icmp .ge 65, 3) := by decide +kernel
theorem dX4_supplyOf_87 : decode cX4_supplyOf 87 = .ok (.aload_n 0, 1) := by decide +kernel
theorem dX4_supplyOf_88 : decode cX4_supplyOf 88 = .ok (.getfield 55, 3) := by decide +kernel
theorem dX4_supplyOf_91 : decode cX4_supplyOf 91 = .ok (.iload 5, 2) := by decide +kernel
theorem dX4_supplyOf_93 : decode cX4_supplyOf 93 = .ok (.iaload, 1) := by decide +kernel
theorem dX4_supplyOf_94 : decode cX4_supplyOf 94 = .ok (.iload 4, 2) := by decide +kernel
theorem dX4_supplyOf_96 : decode cX4_supplyOf 96 = .ok (.if_icmp .ne 47, 3) := by decide +kernel
theorem dX4_supplyOf_99 : decode cX4_supplyOf 99 = .ok (.aload_n 0, 1) := by decide +kernel
theorem dX4_supplyOf_100 : decode cX4_supplyOf 100 = .ok (.getfield 55, 3) := by decide +kernel
theorem dX4_supplyOf_103 : decode cX4_supplyOf 103 = .ok (.iload 6, 2) := by decide +kernel
theorem dX4_supplyOf_105 : decode cX4_supplyOf 105 = .ok (.iaload, 1) := by decide +kernel
theorem dX4_supplyOf_106 : decode cX4_supplyOf 106 = .ok (.iconst (-1), 1) := by decide +kernel
theorem dX4_supplyOf_107 : decode cX4_supplyOf 107 = .ok (.if_icmp .ne 36, 3) := by decide +kernel
theorem dX4_supplyOf_110 : decode cX4_supplyOf 110 = .ok (.aload_n 0, 1) := by decide +kernel
theorem dX4_supplyOf_111 : decode cX4_supplyOf 111 = .ok (.iload 5, 2) := by decide +kernel
theorem dX4_supplyOf_113 : decode cX4_supplyOf 113 = .ok (.iload 6, 2) := by decide +kernel
theorem dX4_supplyOf_115 : decode cX4_supplyOf 115 = .ok (.iload_n 2, 1) := by decide +kernel
theorem dX4_supplyOf_116 : decode cX4_supplyOf 116 = .ok (.invokevirtual 97, 3) := by decide +kernel
theorem dX4_supplyOf_119 : decode cX4_supplyOf 119 = .ok (.ifCond .eq 24, 3) := by decide +kernel
theorem dX4_supplyOf_122 : decode cX4_supplyOf 122 = .ok (.aload_n 0, 1) := by decide +kernel
theorem dX4_supplyOf_123 : decode cX4_supplyOf 123 = .ok (.iload 6, 2) := by decide +kernel
theorem dX4_supplyOf_125 : decode cX4_supplyOf 125 = .ok (.iload_n 3, 1) := by decide +kernel
theorem dX4_supplyOf_126 : decode cX4_supplyOf 126 = .ok (.invokevirtual 90, 3) := by decide +kernel
theorem dX4_supplyOf_129 : decode cX4_supplyOf 129 = .ok (.ifCond .ne 14, 3) := by decide +kernel
theorem dX4_supplyOf_132 : decode cX4_supplyOf 132 = .ok (.aload_n 0, 1) := by decide +kernel
theorem dX4_supplyOf_133 : decode cX4_supplyOf 133 = .ok (.getfield 55, 3) := by decide +kernel
theorem dX4_supplyOf_136 : decode cX4_supplyOf 136 = .ok (.iload 6, 2) := by decide +kernel
theorem dX4_supplyOf_138 : decode cX4_supplyOf 138 = .ok (.iload 4, 2) := by decide +kernel
theorem dX4_supplyOf_140 : decode cX4_supplyOf 140 = .ok (.iconst 1, 1) := by decide +kernel
theorem dX4_supplyOf_141 : decode cX4_supplyOf 141 = .ok (.iadd, 1) := by decide +kernel
theorem dX4_supplyOf_142 : decode cX4_supplyOf 142 = .ok (.iastore, 1) := by decide +kernel
theorem dX4_supplyOf_143 : decode cX4_supplyOf 143 = .ok (.iinc 6 1, 3) := by decide +kernel
theorem dX4_supplyOf_146 : decode cX4_supplyOf 146 = .ok (.goto (-66), 3) := by decide +kernel
theorem dX4_supplyOf_149 : decode cX4_supplyOf 149 = .ok (.iinc 5 1, 3) := by decide +kernel
theorem dX4_supplyOf_152 : decode cX4_supplyOf 152 = .ok (.goto (-82), 3) := by decide +kernel
theorem dX4_supplyOf_155 : decode cX4_supplyOf 155 = .ok (.iinc 4 1, 3) := by decide +kernel
theorem dX4_supplyOf_158 : decode cX4_supplyOf 158 = .ok (.goto (-97), 3) := by decide +kernel
theorem dX4_supplyOf_161 : decode cX4_supplyOf 161 = .ok (.aload_n 0, 1) := by decide +kernel
theorem dX4_supplyOf_162 : decode cX4_supplyOf 162 = .ok (.getfield 43, 3) := by decide +kernel
theorem dX4_supplyOf_165 : decode cX4_supplyOf 165 = .ok (.iload_n 1, 1) := by decide +kernel
theorem dX4_supplyOf_166 : decode cX4_supplyOf 166 = .ok (.iaload, 1) := by decide +kernel
theorem dX4_supplyOf_167 : decode cX4_supplyOf 167 = .ok (.iconst (-1), 1) := by decide +kernel
theorem dX4_supplyOf_168 : decode cX4_supplyOf 168 = .ok (.if_icmp .ne 7, 3) := by decide +kernel
theorem dX4_supplyOf_171 : decode cX4_supplyOf 171 = .ok (.iconst (-1), 1) := by decide +kernel
theorem dX4_supplyOf_172 : decode cX4_supplyOf 172 = .ok (.goto 19, 3) := by decide +kernel
theorem dX4_supplyOf_175 : decode cX4_supplyOf 175 = .ok (.aload_n 0, 1) := by decide +kernel
theorem dX4_supplyOf_176 : decode cX4_supplyOf 176 = .ok (.getfield 55, 3) := by decide +kernel
theorem dX4_supplyOf_179 : decode cX4_supplyOf 179 = .ok (.aload_n 0, 1) := by decide +kernel
theorem dX4_supplyOf_180 : decode cX4_supplyOf 180 = .ok (.getfield 13, 3) := by decide +kernel
theorem dX4_supplyOf_183 : decode cX4_supplyOf 183 = .ok (.aload_n 0, 1) := by decide +kernel
theorem dX4_supplyOf_184 : decode cX4_supplyOf 184 = .ok (.getfield 16, 3) := by decide +kernel
theorem dX4_supplyOf_187 : decode cX4_supplyOf 187 = .ok (.iload_n 1, 1) := by decide +kernel
theorem dX4_supplyOf_188 : decode cX4_supplyOf 188 = .ok (.iaload, 1) := by decide +kernel
theorem dX4_supplyOf_189 : decode cX4_supplyOf 189 = .ok (.iaload, 1) := by decide +kernel
theorem dX4_supplyOf_190 : decode cX4_supplyOf 190 = .ok (.iaload, 1) := by decide +kernel
theorem dX4_supplyOf_191 : decode cX4_supplyOf 191 = .ok (.ireturn, 1) := by decide +kernel
set_option maxRecDepth 20000 in
theorem ggX4_march_X4_isOpen : GoodIn wsX4_march wsX4_isOpen := goodIn_r _ [12, 13, 14, 15, 16, 17, 18, 19, 20, 21, 22, 23, 24, 25, 26, 27, 28, 29, 30, 31, 32, 33, 34, 35] (by decide +kernel) (by decide +kernel)
set_option maxRecDepth 20000 in
theorem gX4_march_X4_isOpen : GoodIn wsX4_march (wsV RX4 97 RX4 yX4_isOpen wsX4_isOpen) := goodIn_app (goodIn_of _ (by decide +kernel)) ggX4_march_X4_isOpen
theorem dX4_march_0 : decode cX4_march 0 = .ok (.iconst 0, 1) := by decide +kernel
theorem dX4_march_1 : decode cX4_march 1 = .ok (.istore_n 2, 1) := by decide +kernel
theorem dX4_march_2 : decode cX4_march 2 = .ok (.iload_n 2, 1) := by decide +kernel
theorem dX4_march_3 : decode cX4_march 3 = .ok (.aload_n 0, 1) := by decide +kernel
theorem dX4_march_4 : decode cX4_march 4 = .ok (.getfield 69, 3) := by decide +kernel
theorem dX4_march_7 : decode cX4_march 7 = .ok (.if_icmp .ge 94, 3) := by decide +kernel
theorem dX4_march_10 : decode cX4_march 10 = .ok (.aload_n 0, 1) := by decide +kernel
theorem dX4_march_11 : decode cX4_march 11 = .ok (.getfield 25, 3) := by decide +kernel
theorem dX4_march_14 : decode cX4_march 14 = .ok (.bipush 12, 2) := by decide +kernel
theorem dX4_march_16 : decode cX4_march 16 = .ok (.iload_n 1, 1) := by decide +kernel
theorem dX4_march_17 : decode cX4_march 17 = .ok (.imul, 1) := by decide +kernel
theorem dX4_march_18 : decode cX4_march 18 = .ok (.iload_n 2, 1) := by decide +kernel
theorem dX4_march_19 : decode cX4_march 19 = .ok (.iadd, 1) := by decide +kernel
theorem dX4_march_20 : decode cX4_march 20 = .ok (.iaload, 1) := by decide +kernel
theorem dX4_march_21 : decode cX4_march 21 = .ok (.istore_n 3, 1) := by decide +kernel
theorem dX4_march_22 : decode cX4_march 22 = .ok (.aload_n 0, 1) := by decide +kernel
theorem dX4_march_23 : decode cX4_march 23 = .ok (.getfield 43, 3) := by decide +kernel
theorem dX4_march_26 : decode cX4_march 26 = .ok (.iload_n 2, 1) := by decide +kernel
theorem dX4_march_27 : decode cX4_march 27 = .ok (.iaload, 1) := by decide +kernel
theorem dX4_march_28 : decode cX4_march 28 = .ok (.iconst (-1), 1) := by decide +kernel
theorem dX4_march_29 : decode cX4_march 29 = .ok (.if_icmp .eq 42, 3) := by decide +kernel
theorem dX4_march_32 : decode cX4_march 32 = .ok (.iload_n 3, 1) := by decide +kernel
theorem dX4_march_33 : decode cX4_march 33 = .ok (.iconst (-1), 1) := by decide +kernel
theorem dX4_march_34 : decode cX4_march 34 = .ok (.if_icmp .eq 37, 3) := by decide +kernel
theorem dX4_march_37 : decode cX4_march 37 = .ok (.aload_n 0, 1) := by decide +kernel
theorem dX4_march_38 : decode cX4_march 38 = .ok (.getfield 49, 3) := by decide +kernel
theorem dX4_march_41 : decode cX4_march 41 = .ok (.iload_n 2, 1) := by decide +kernel
theorem dX4_march_42 : decode cX4_march 42 = .ok (.iaload, 1) := by decide +kernel
theorem dX4_march_43 : decode cX4_march 43 = .ok (.iconst 1, 1) := by decide +kernel
theorem dX4_march_44 : decode cX4_march 44 = .ok (.if_icmp .ne 27, 3) := by decide +kernel
theorem dX4_march_47 : decode cX4_march 47 = .ok (.aload_n 0, 1) := by decide +kernel
theorem dX4_march_48 : decode cX4_march 48 = .ok (.aload_n 0, 1) := by decide +kernel
theorem dX4_march_49 : decode cX4_march 49 = .ok (.getfield 43, 3) := by decide +kernel
theorem dX4_march_52 : decode cX4_march 52 = .ok (.iload_n 2, 1) := by decide +kernel
theorem dX4_march_53 : decode cX4_march 53 = .ok (.iaload, 1) := by decide +kernel
theorem dX4_march_54 : decode cX4_march 54 = .ok (.iload_n 3, 1) := by decide +kernel
theorem dX4_march_55 : decode cX4_march 55 = .ok (.aload_n 0, 1) := by decide +kernel
theorem dX4_march_56 : decode cX4_march 56 = .ok (.getfield 31, 3) := by decide +kernel
theorem dX4_march_59 : decode cX4_march 59 = .ok (.iload_n 1, 1) := by decide +kernel
theorem dX4_march_60 : decode cX4_march 60 = .ok (.iaload, 1) := by decide +kernel
theorem dX4_march_61 : decode cX4_march 61 = .ok (.invokevirtual 97, 3) := by decide +kernel
theorem dX4_march_64 : decode cX4_march 64 = .ok (.ifCond .eq 7, 3) := by decide +kernel
theorem dX4_march_67 : decode cX4_march 67 = .ok (.iconst 1, 1) := by decide +kernel
theorem dX4_march_68 : decode cX4_march 68 = .ok (.goto 4, 3) := by decide +kernel
theorem dX4_march_71 : decode cX4_march 71 = .ok (.iconst 0, 1) := by decide +kernel
theorem dX4_march_72 : decode cX4_march 72 = .ok (.istore 4, 2) := by decide +kernel
theorem dX4_march_74 : decode cX4_march 74 = .ok (.aload_n 0, 1) := by decide +kernel
theorem dX4_march_75 : decode cX4_march 75 = .ok (.getfield 52, 3) := by decide +kernel
theorem dX4_march_78 : decode cX4_march 78 = .ok (.iload_n 2, 1) := by decide +kernel
theorem dX4_march_79 : decode cX4_march 79 = .ok (.iload 4, 2) := by decide +kernel
theorem dX4_march_81 : decode cX4_march 81 = .ok (.ifCond .eq 7, 3) := by decide +kernel
theorem dX4_march_84 : decode cX4_march 84 = .ok (.iload_n 3, 1) := by decide +kernel
theorem dX4_march_85 : decode cX4_march 85 = .ok (.goto 9, 3) := by decide +kernel
theorem dX4_march_88 : decode cX4_march 88 = .ok (.aload_n 0, 1) := by decide +kernel
theorem dX4_march_89 : decode cX4_march 89 = .ok (.getfield 43, 3) := by decide +kernel
theorem dX4_march_92 : decode cX4_march 92 = .ok (.iload_n 2, 1) := by decide +kernel
theorem dX4_march_93 : decode cX4_march 93 = .ok (.iaload, 1) := by decide +kernel
theorem dX4_march_94 : decode cX4_march 94 = .ok (.iastore, 1) := by decide +kernel
theorem dX4_march_95 : decode cX4_march 95 = .ok (.iinc 2 1, 3) := by decide +kernel
theorem dX4_march_98 : decode cX4_march 98 = .ok (.goto (-96), 3) := by decide +kernel
theorem dX4_march_101 : decode cX4_march 101 = .ok (.iconst 0, 1) := by decide +kernel
theorem dX4_march_102 : decode cX4_march 102 = .ok (.istore_n 2, 1) := by decide +kernel
theorem dX4_march_103 : decode cX4_march 103 = .ok (.iload_n 2, 1) := by decide +kernel
theorem dX4_march_104 : decode cX4_march 104 = .ok (.aload_n 0, 1) := by decide +kernel
theorem dX4_march_105 : decode cX4_march 105 = .ok (.getfield 69, 3) := by decide +kernel
theorem dX4_march_108 : decode cX4_march 108 = .ok (.if_icmp .ge 186, 3) := by decide +kernel
theorem dX4_march_111 : decode cX4_march 111 = .ok (.iconst 0, 1) := by decide +kernel
theorem dX4_march_112 : decode cX4_march 112 = .ok (.istore_n 3, 1) := by decide +kernel
theorem dX4_march_113 : decode cX4_march 113 = .ok (.iconst 0, 1) := by decide +kernel
theorem dX4_march_114 : decode cX4_march 114 = .ok (.istore 4, 2) := by decide +kernel
theorem dX4_march_116 : decode cX4_march 116 = .ok (.iload 4, 2) := by decide +kernel
theorem dX4_march_118 : decode cX4_march 118 = .ok (.aload_n 0, 1) := by decide +kernel
theorem dX4_march_119 : decode cX4_march 119 = .ok (.getfield 69, 3) := by decide +kernel
theorem dX4_march_122 : decode cX4_march 122 = .ok (.if_icmp .ge 141, 3) := by decide +kernel
theorem dX4_march_125 : decode cX4_march 125 = .ok (.aload_n 0, 1) := by decide +kernel
theorem dX4_march_126 : decode cX4_march 126 = .ok (.getfield 25, 3) := by decide +kernel
theorem dX4_march_129 : decode cX4_march 129 = .ok (.bipush 12, 2) := by decide +kernel
theorem dX4_march_131 : decode cX4_march 131 = .ok (.iload_n 1, 1) := by decide +kernel
theorem dX4_march_132 : decode cX4_march 132 = .ok (.imul, 1) := by decide +kernel
theorem dX4_march_133 : decode cX4_march 133 = .ok (.iload 4, 2) := by decide +kernel
theorem dX4_march_135 : decode cX4_march 135 = .ok (.iadd, 1) := by decide +kernel
theorem dX4_march_136 : decode cX4_march 136 = .ok (.iaload, 1) := by decide +kernel
theorem dX4_march_137 : decode cX4_march 137 = .ok (.istore 5, 2) := by decide +kernel
theorem dX4_march_139 : decode cX4_march 139 = .ok (.aload_n 0, 1) := by decide +kernel
theorem dX4_march_140 : decode cX4_march 140 = .ok (.getfield 43, 3) := by decide +kernel
theorem dX4_march_143 : decode cX4_march 143 = .ok (.iload 4, 2) := by decide +kernel
theorem dX4_march_145 : decode cX4_march 145 = .ok (.iaload, 1) := by decide +kernel
theorem dX4_march_146 : decode cX4_march 146 = .ok (.iconst (-1), 1) := by decide +kernel
theorem dX4_march_147 : decode cX4_march 147 = .ok (.if_icmp .eq 46, 3) := by decide +kernel
theorem dX4_march_150 : decode cX4_march 150 = .ok (.iload 5, 2) := by decide +kernel
theorem dX4_march_152 : decode cX4_march 152 = .ok (.iconst (-1), 1) := by decide +kernel
theorem dX4_march_153 : decode cX4_march 153 = .ok (.if_icmp .eq 40, 3) := by decide +kernel
theorem dX4_march_156 : decode cX4_march 156 = .ok (.aload_n 0, 1) := by decide +kernel
theorem dX4_march_157 : decode cX4_march 157 = .ok (.getfield 49, 3) := by decide +kernel
theorem dX4_march_160 : decode cX4_march 160 = .ok (.iload 4, 2) := by decide +kernel
theorem dX4_march_162 : decode cX4_march 162 = .ok (.iaload, 1) := by decide +kernel
theorem dX4_march_163 : decode cX4_march 163 = .ok (.iconst 1, 1) := by decide +kernel
theorem dX4_march_164 : decode cX4_march 164 = .ok (.if_icmp .ne 29, 3) := by decide +kernel
theorem dX4_march_167 : decode cX4_march 167 = .ok (.aload_n 0, 1) := by decide +kernel
theorem dX4_march_168 : decode cX4_march 168 = .ok (.aload_n 0, 1) := by decide +kernel
theorem dX4_march_169 : decode cX4_march 169 = .ok (.getfield 43, 3) := by decide +kernel
theorem dX4_march_172 : decode cX4_march 172 = .ok (.iload 4, 2) := by decide +kernel
theorem dX4_march_174 : decode cX4_march 174 = .ok (.iaload, 1) := by decide +kernel
theorem dX4_march_175 : decode cX4_march 175 = .ok (.iload 5, 2) := by decide +kernel
theorem dX4_march_177 : decode cX4_march 177 = .ok (.aload_n 0, 1) := by decide +kernel
theorem dX4_march_178 : decode cX4_march 178 = .ok (.getfield 31, 3) := by decide +kernel
theorem dX4_march_181 : decode cX4_march 181 = .ok (.iload_n 1, 1) := by decide +kernel
theorem dX4_march_182 : decode cX4_march 182 = .ok (.iaload, 1) := by decide +kernel
theorem dX4_march_183 : decode cX4_march 183 = .ok (.invokevirtual 97, 3) := by decide +kernel
theorem dX4_march_186 : decode cX4_march 186 = .ok (.ifCond .eq 7, 3) := by decide +kernel
theorem dX4_march_189 : decode cX4_march 189 = .ok (.iconst 1, 1) := by decide +kernel
theorem dX4_march_190 : decode cX4_march 190 = .ok (.goto 4, 3) := by decide +kernel
theorem dX4_march_193 : decode cX4_march 193 = .ok (.iconst 0, 1) := by decide +kernel
theorem dX4_march_194 : decode cX4_march 194 = .ok (.istore 6, 2) := by decide +kernel
theorem dX4_march_196 : decode cX4_march 196 = .ok (.iload_n 3, 1) := by decide +kernel
theorem dX4_march_197 : decode cX4_march 197 = .ok (.aload_n 0, 1) := by decide +kernel
theorem dX4_march_198 : decode cX4_march 198 = .ok (.getfield 16, 3) := by decide +kernel
theorem dX4_march_201 : decode cX4_march 201 = .ok (.iload 4, 2) := by decide +kernel
theorem dX4_march_203 : decode cX4_march 203 = .ok (.iaload, 1) := by decide +kernel
theorem dX4_march_204 : decode cX4_march 204 = .ok (.aload_n 0, 1) := by decide +kernel
theorem dX4_march_205 : decode cX4_march 205 = .ok (.getfield 16, 3) := by decide +kernel
theorem dX4_march_208 : decode cX4_march 208 = .ok (.iload_n 2, 1) := by decide +kernel
theorem dX4_march_209 : decode cX4_march 209 = .ok (.iaload, 1) := by decide +kernel
theorem dX4_march_210 : decode cX4_march 210 = .ok (.if_icmp .eq 44, 3) := by decide +kernel
theorem dX4_march_213 : decode cX4_march 213 = .ok (.iload 6, 2) := by decide +kernel
theorem dX4_march_215 : decode cX4_march 215 = .ok (.ifCond .eq 39, 3) := by decide +kernel
theorem dX4_march_218 : decode cX4_march 218 = .ok (.iload 5, 2) := by decide +kernel
theorem dX4_march_220 : decode cX4_march 220 = .ok (.aload_n 0, 1) := by decide +kernel
theorem dX4_march_221 : decode cX4_march 221 = .ok (.getfield 43, 3) := by decide +kernel
theorem dX4_march_224 : decode cX4_march 224 = .ok (.iload_n 2, 1) := by decide +kernel
theorem dX4_march_225 : decode cX4_march 225 = .ok (.iaload, 1) := by decide +kernel
theorem dX4_march_226 : decode cX4_march 226 = .ok (.if_icmp .ne 28, 3) := by decide +kernel
theorem dX4_march_229 : decode cX4_march 229 = .ok (.aload_n 0, 1) := by decide +kernel
theorem dX4_march_230 : decode cX4_march 230 = .ok (.getfield 43, 3) := by decide +kernel
theorem dX4_march_233 : decode cX4_march 233 = .ok (.iload 4, 2) := by decide +kernel
theorem dX4_march_235 : decode cX4_march 235 = .ok (.iaload, 1) := by decide +kernel
theorem dX4_march_236 : decode cX4_march 236 = .ok (.aload_n 0, 1) := by decide +kernel
theorem dX4_march_237 : decode cX4_march 237 = .ok (.getfield 25, 3) := by decide +kernel
theorem dX4_march_240 : decode cX4_march 240 = .ok (.bipush 12, 2) := by decide +kernel
theorem dX4_march_242 : decode cX4_march 242 = .ok (.iload_n 1, 1) := by decide +kernel
theorem dX4_march_243 : decode cX4_march 243 = .ok (.imul, 1) := by decide +kernel
theorem dX4_march_244 : decode cX4_march 244 = .ok (.iload_n 2, 1) := by decide +kernel
theorem dX4_march_245 : decode cX4_march 245 = .ok (.iadd, 1) := by decide +kernel
theorem dX4_march_246 : decode cX4_march 246 = .ok (.iaload, 1) := by decide +kernel
theorem dX4_march_247 : decode cX4_march 247 = .ok (.if_icmp .ne 7, 3) := by decide +kernel
theorem dX4_march_250 : decode cX4_march 250 = .ok (.iconst 1, 1) := by decide +kernel
theorem dX4_march_251 : decode cX4_march 251 = .ok (.goto 4, 3) := by decide +kernel
theorem dX4_march_254 : decode cX4_march 254 = .ok (.iconst 0, 1) := by decide +kernel
theorem dX4_march_255 : decode cX4_march 255 = .ok (.ior, 1) := by decide +kernel
theorem dX4_march_256 : decode cX4_march 256 = .ok (.istore_n 3, 1) := by decide +kernel
theorem dX4_march_257 : decode cX4_march 257 = .ok (.iinc 4 1, 3) := by decide +kernel
theorem dX4_march_260 : decode cX4_march 260 = .ok (.goto (-144), 3) := by decide +kernel
theorem dX4_march_263 : decode cX4_march 263 = .ok (.aload_n 0, 1) := by decide +kernel
theorem dX4_march_264 : decode cX4_march 264 = .ok (.getfield 52, 3) := by decide +kernel
theorem dX4_march_267 : decode cX4_march 267 = .ok (.iload_n 2, 1) := by decide +kernel
theorem dX4_march_268 : decode cX4_march 268 = .ok (.iload_n 3, 1) := by decide +kernel
theorem dX4_march_269 : decode cX4_march 269 = .ok (.ifCond .eq 12, 3) := by decide +kernel
theorem dX4_march_272 : decode cX4_march 272 = .ok (.aload_n 0, 1) := by decide +kernel
theorem dX4_march_273 : decode cX4_march 273 = .ok (.getfield 43, 3) := by decide +kernel
theorem dX4_march_276 : decode cX4_march 276 = .ok (.iload_n 2, 1) := by decide +kernel
theorem dX4_march_277 : decode cX4_march 277 = .ok (.iaload, 1) := by decide +kernel
theorem dX4_march_278 : decode cX4_march 278 = .ok (.goto 9, 3) := by decide +kernel
theorem dX4_march_281 : decode cX4_march 281 = .ok (.aload_n 0, 1) := by decide +kernel
theorem dX4_march_282 : decode cX4_march 282 = .ok (.getfield 52, 3) := by decide +kernel
theorem dX4_march_285 : decode cX4_march 285 = .ok (.iload_n 2, 1) := by decide +kernel
theorem dX4_march_286 : decode cX4_march 286 = .ok (.iaload, 1) := by decide +kernel
theorem dX4_march_287 : decode cX4_march 287 = .ok (.iastore, 1) := by decide +kernel
theorem dX4_march_288 : decode cX4_march 288 = .ok (.iinc 2 1, 3) := by decide +kernel
theorem dX4_march_291 : decode cX4_march 291 = .ok (.goto (-188), 3) := by decide +kernel
theorem dX4_march_294 : decode cX4_march 294 = .ok (.iconst 0, 1) := by decide +kernel
theorem dX4_march_295 : decode cX4_march 295 = .ok (.istore_n 2, 1) := by decide +kernel
theorem dX4_march_296 : decode cX4_march 296 = .ok (.iload_n 2, 1) := by decide +kernel
theorem dX4_march_297 : decode cX4_march 297 = .ok (.aload_n 0, 1) := by decide +kernel
theorem dX4_march_298 : decode cX4_march 298 = .ok (.getfield 69, 3) := by decide +kernel
theorem dX4_march_301 : decode cX4_march 301 = .ok (.if_icmp .ge 21, 3) := by decide +kernel
theorem dX4_march_304 : decode cX4_march 304 = .ok (.aload_n 0, 1) := by decide +kernel
theorem dX4_march_305 : decode cX4_march 305 = .ok (.getfield 43, 3) := by decide +kernel
theorem dX4_march_308 : decode cX4_march 308 = .ok (.iload_n 2, 1) := by decide +kernel
theorem dX4_march_309 : decode cX4_march 309 = .ok (.aload_n 0, 1) := by decide +kernel
theorem dX4_march_310 : decode cX4_march 310 = .ok (.getfield 52, 3) := by decide +kernel
theorem dX4_march_313 : decode cX4_march 313 = .ok (.iload_n 2, 1) := by decide +kernel
theorem dX4_march_314 : decode cX4_march 314 = .ok (.iaload, 1) := by decide +kernel
theorem dX4_march_315 : decode cX4_march 315 = .ok (.iastore, 1) := by decide +kernel
theorem dX4_march_316 : decode cX4_march 316 = .ok (.iinc 2 1, 3) := by decide +kernel
theorem dX4_march_319 : decode cX4_march 319 = .ok (.goto (-23), 3) := by decide +kernel
theorem dX4_march_322 : decode cX4_march 322 = .ok (.return_, 1) := by decide +kernel
theorem dX4_sumIn_0 : decode cX4_sumIn 0 = .ok (.iconst 0, 1) := by decide +kernel
theorem dX4_sumIn_1 : decode cX4_sumIn 1 = .ok (.istore_n 3, 1) := by decide +kernel
theorem dX4_sumIn_2 : decode cX4_sumIn 2 = .ok (.iconst 0, 1) := by decide +kernel
theorem dX4_sumIn_3 : decode cX4_sumIn 3 = .ok (.istore 4, 2) := by decide +kernel
theorem dX4_sumIn_5 : decode cX4_sumIn 5 = .ok (.iload 4, 2) := by decide +kernel
theorem dX4_sumIn_7 : decode cX4_sumIn 7 = .ok (.aload_n 0, 1) := by decide +kernel
theorem dX4_sumIn_8 : decode cX4_sumIn 8 = .ok (.getfield 69, 3) := by decide +kernel
theorem dX4_sumIn_11 : decode cX4_sumIn 11 = .ok (.if_icmp .ge 80, 3) := by decide +kernel
theorem dX4_sumIn_14 : decode cX4_sumIn 14 = .ok (.aload_n 0, 1) := by decide +kernel
theorem dX4_sumIn_15 : decode cX4_sumIn 15 = .ok (.getfield 16, 3) := by decide +kernel
theorem dX4_sumIn_18 : decode cX4_sumIn 18 = .ok (.iload 4, 2) := by decide +kernel
theorem dX4_sumIn_20 : decode cX4_sumIn 20 = .ok (.iaload, 1) := by decide +kernel
theorem dX4_sumIn_21 : decode cX4_sumIn 21 = .ok (.iload_n 2, 1) := by decide +kernel
theorem dX4_sumIn_22 : decode cX4_sumIn 22 = .ok (.if_icmp .ne 18, 3) := by decide +kernel
theorem dX4_sumIn_25 : decode cX4_sumIn 25 = .ok (.aload_n 0, 1) := by decide +kernel
theorem dX4_sumIn_26 : decode cX4_sumIn 26 = .ok (.getfield 43, 3) := by decide +kernel
theorem dX4_sumIn_29 : decode cX4_sumIn 29 = .ok (.iload 4, 2) := by decide +kernel
theorem dX4_sumIn_31 : decode cX4_sumIn 31 = .ok (.iaload, 1) := by decide +kernel
theorem dX4_sumIn_32 : decode cX4_sumIn 32 = .ok (.iload_n 1, 1) := by decide +kernel
theorem dX4_sumIn_33 : decode cX4_sumIn 33 = .ok (.if_icmp .ne 7, 3) := by decide +kernel
theorem dX4_sumIn_36 : decode cX4_sumIn 36 = .ok (.iconst 1, 1) := by decide +kernel
theorem dX4_sumIn_37 : decode cX4_sumIn 37 = .ok (.goto 4, 3) := by decide +kernel
theorem dX4_sumIn_40 : decode cX4_sumIn 40 = .ok (.iconst 0, 1) := by decide +kernel
theorem dX4_sumIn_41 : decode cX4_sumIn 41 = .ok (.istore 5, 2) := by decide +kernel
theorem dX4_sumIn_43 : decode cX4_sumIn 43 = .ok (.iload_n 3, 1) := by decide +kernel
theorem dX4_sumIn_44 : decode cX4_sumIn 44 = .ok (.iload 5, 2) := by decide +kernel
theorem dX4_sumIn_46 : decode cX4_sumIn 46 = .ok (.ifCond .ne 7, 3) := by decide +kernel
theorem dX4_sumIn_49 : decode cX4_sumIn 49 = .ok (.iconst 0, 1) := by decide +kernel
theorem dX4_sumIn_50 : decode cX4_sumIn 50 = .ok (.goto 33, 3) := by decide +kernel
theorem dX4_sumIn_53 : decode cX4_sumIn 53 = .ok (.aload_n 0, 1) := by decide +kernel
theorem dX4_sumIn_54 : decode cX4_sumIn 54 = .ok (.getfield 49, 3) := by decide +kernel
theorem dX4_sumIn_57 : decode cX4_sumIn 57 = .ok (.iload 4, 2) := by decide +kernel
theorem dX4_sumIn_59 : decode cX4_sumIn 59 = .ok (.iaload, 1) := by decide +kernel
theorem dX4_sumIn_60 : decode cX4_sumIn 60 = .ok (.iconst 1, 1) := by decide +kernel
theorem dX4_sumIn_61 : decode cX4_sumIn 61 = .ok (.if_icmp .ne 13, 3) := by decide +kernel
theorem dX4_sumIn_64 : decode cX4_sumIn 64 = .ok (.aload_n 0, 1) := by decide +kernel
theorem dX4_sumIn_65 : decode cX4_sumIn 65 = .ok (.getfield 46, 3) := by decide +kernel
theorem dX4_sumIn_68 : decode cX4_sumIn 68 = .ok (.iload 4, 2) := by decide +kernel
theorem dX4_sumIn_70 : decode cX4_sumIn 70 = .ok (.iaload, 1) := by decide +kernel
theorem dX4_sumIn_71 : decode cX4_sumIn 71 = .ok (.goto 12, 3) := by decide +kernel
theorem dX4_sumIn_74 : decode cX4_sumIn 74 = .ok (.aload_n 0, 1) := by decide +kernel
theorem dX4_sumIn_75 : decode cX4_sumIn 75 = .ok (.getfield 46, 3) := by decide +kernel
theorem dX4_sumIn_78 : decode cX4_sumIn 78 = .ok (.iload 4, 2) := by decide +kernel
theorem dX4_sumIn_80 : decode cX4_sumIn 80 = .ok (.iaload, 1) := by decide +kernel
theorem dX4_sumIn_81 : decode cX4_sumIn 81 = .ok (.iconst 2, 1) := by decide +kernel
theorem dX4_sumIn_82 : decode cX4_sumIn 82 = .ok (.idiv, 1) := by decide +kernel
theorem dX4_sumIn_83 : decode cX4_sumIn 83 = .ok (.iadd, 1) := by decide +kernel
theorem dX4_sumIn_84 : decode cX4_sumIn 84 = .ok (.istore_n 3, 1) := by decide +kernel
theorem dX4_sumIn_85 : decode cX4_sumIn 85 = .ok (.iinc 4 1, 3) := by decide +kernel
theorem dX4_sumIn_88 : decode cX4_sumIn 88 = .ok (.goto (-83), 3) := by decide +kernel
theorem dX4_sumIn_91 : decode cX4_sumIn 91 = .ok (.iload_n 3, 1) := by decide +kernel
theorem dX4_sumIn_92 : decode cX4_sumIn 92 = .ok (.ireturn, 1) := by decide +kernel
set_option maxRecDepth 20000 in
theorem ggX4_fight_X4_isHeld : GoodIn wsX4_fight wsX4_isHeld := goodIn_r _ [9, 1, 2, 3, 15, 16, 17, 18, 19, 20, 21, 22, 23, 24, 25, 26, 27, 28, 29, 30, 31, 32, 33, 34, 35, 36] (by decide +kernel) (by decide +kernel)
set_option maxRecDepth 20000 in
theorem gX4_fight_X4_isHeld : GoodIn wsX4_fight (wsV RX4 90 RX4 yX4_isHeld wsX4_isHeld) := goodIn_app (goodIn_of _ (by decide +kernel)) ggX4_fight_X4_isHeld
set_option maxRecDepth 20000 in
theorem ggX4_fight_X4_sumIn : GoodIn wsX4_fight wsX4_sumIn := goodIn_r _ [13, 1, 2, 3, 14, 4, 15, 16, 17, 18, 19, 20, 21, 22, 23, 24, 25, 26, 27, 28, 29, 30, 31, 32, 33, 34, 35, 36] (by decide +kernel) (by decide +kernel)
set_option maxRecDepth 20000 in
theorem gX4_fight_X4_sumIn : GoodIn wsX4_fight (wsV RX4 100 RX4 yX4_sumIn wsX4_sumIn) := goodIn_app (goodIn_of _ (by decide +kernel)) ggX4_fight_X4_sumIn
theorem dX4_fight_0 : decode cX4_fight 0 = .ok (.aload_n 0, 1) := by decide +kernel
theorem dX4_fight_1 : decode cX4_fight 1 = .ok (.iload_n 1, 1) := by decide +kernel
theorem dX4_fight_2 : decode cX4_fight 2 = .ok (.iconst 0, 1) := by decide +kernel
theorem dX4_fight_3 : decode cX4_fight 3 = .ok (.invokevirtual 90, 3) := by decide +kernel
theorem dX4_fight_6 : decode cX4_fight 6 = .ok (.ifCond .eq 12, 3) := by decide +kernel
theorem dX4_fight_9 : decode cX4_fight 9 = .ok (.aload_n 0, 1) := by decide +kernel
theorem dX4_fight_10 : decode cX4_fight 10 = .ok (.iload_n 1, 1) := by decide +kernel
theorem dX4_fight_11 : decode cX4_fight 11 = .ok (.iconst 1, 1) := by decide +kernel
theorem dX4_fight_12 : decode cX4_fight 12 = .ok (.invokevirtual 90, 3) := by decide +kernel
theorem dX4_fight_15 : decode cX4_fight 15 = .ok (.ifCond .ne 4, 3) := by decide +kernel
theorem dX4_fight_18 : decode cX4_fight 18 = .ok (.return_, 1) := by decide +kernel
theorem dX4_fight_19 : decode cX4_fight 19 = .ok (.aload_n 0, 1) := by decide +kernel
theorem dX4_fight_20 : decode cX4_fight 20 = .ok (.iload_n 1, 1) := by decide +kernel
theorem dX4_fight_21 : decode cX4_fight 21 = .ok (.iconst 0, 1) := by decide +kernel
theorem dX4_fight_22 : decode cX4_fight 22 = .ok (.invokevirtual 100, 3) := by decide +kernel
theorem dX4_fight_25 : decode cX4_fight 25 = .ok (.istore_n 2, 1) := by decide +kernel
theorem dX4_fight_26 : decode cX4_fight 26 = .ok (.aload_n 0, 1) := by decide +kernel
theorem dX4_fight_27 : decode cX4_fight 27 = .ok (.iload_n 1, 1) := by decide +kernel
theorem dX4_fight_28 : decode cX4_fight 28 = .ok (.iconst 1, 1) := by decide +kernel
theorem dX4_fight_29 : decode cX4_fight 29 = .ok (.invokevirtual 100, 3) := by decide +kernel
theorem dX4_fight_32 : decode cX4_fight 32 = .ok (.istore_n 3, 1) := by decide +kernel
theorem dX4_fight_33 : decode cX4_fight 33 = .ok (.iconst 0, 1) := by decide +kernel
theorem dX4_fight_34 : decode cX4_fight 34 = .ok (.istore 4, 2) := by decide +kernel
theorem dX4_fight_36 : decode cX4_fight 36 = .ok (.iload 4, 2) := by decide +kernel
theorem dX4_fight_38 : decode cX4_fight 38 = .ok (.aload_n 0, 1) := by decide +kernel
theorem dX4_fight_39 : decode cX4_fight 39 = .ok (.getfield 69, 3) := by decide +kernel
theorem dX4_fight_42 : decode cX4_fight 42 = .ok (.if_icmp .ge 125, 3) := by decide +kernel
theorem dX4_fight_45 : decode cX4_fight 45 = .ok (.aload_n 0, 1) := by decide +kernel
theorem dX4_fight_46 : decode cX4_fight 46 = .ok (.getfield 16, 3) := by decide +kernel
theorem dX4_fight_49 : decode cX4_fight 49 = .ok (.iload 4, 2) := by decide +kernel
theorem dX4_fight_51 : decode cX4_fight 51 = .ok (.iaload, 1) := by decide +kernel
theorem dX4_fight_52 : decode cX4_fight 52 = .ok (.ifCond .ne 7, 3) := by decide +kernel
theorem dX4_fight_55 : decode cX4_fight 55 = .ok (.iload_n 2, 1) := by decide +kernel
theorem dX4_fight_56 : decode cX4_fight 56 = .ok (.goto 4, 3) := by decide +kernel
theorem dX4_fight_59 : decode cX4_fight 59 = .ok (.iload_n 3, 1) := by decide +kernel
theorem dX4_fight_60 : decode cX4_fight 60 = .ok (.istore 5, 2) := by decide +kernel
theorem dX4_fight_62 : decode cX4_fight 62 = .ok (.aload_n 0, 1) := by decide +kernel
theorem dX4_fight_63 : decode cX4_fight 63 = .ok (.getfield 16, 3) := by decide +kernel
theorem dX4_fight_66 : decode cX4_fight 66 = .ok (.iload 4, 2) := by decide +kernel
theorem dX4_fight_68 : decode cX4_fight 68 = .ok (.iaload, 1) := by decide +kernel
theorem dX4_fight_69 : decode cX4_fight 69 = .ok (.ifCond .ne 7, 3) := by decide +kernel
theorem dX4_fight_72 : decode cX4_fight 72 = .ok (.iload_n 3, 1) := by decide +kernel
theorem dX4_fight_73 : decode cX4_fight 73 = .ok (.goto 4, 3) := by decide +kernel
theorem dX4_fight_76 : decode cX4_fight 76 = .ok (.iload_n 2, 1) := by decide +kernel
theorem dX4_fight_77 : decode cX4_fight 77 = .ok (.istore 6, 2) := by decide +kernel
theorem dX4_fight_79 : decode cX4_fight 79 = .ok (.iload 5, 2) := by decide +kernel
theorem dX4_fight_81 : decode cX4_fight 81 = .ok (.iload 6, 2) := by decide +kernel
theorem dX4_fight_83 : decode cX4_fight 83 = .ok (.if_icmp .ne 7, 3) := by decide +kernel
theorem dX4_fight_86 : decode cX4_fight 86 = .ok (.iconst 1, 1) := by decide +kernel
theorem dX4_fight_87 : decode cX4_fight 87 = .ok (.goto 28, 3) := by decide +kernel
theorem dX4_fight_90 : decode cX4_fight 90 = .ok (.iload 5, 2) := by decide +kernel
theorem dX4_fight_92 : decode cX4_fight 92 = .ok (.iload 6, 2) := by decide +kernel
theorem dX4_fight_94 : decode cX4_fight 94 = .ok (.if_icmp .ge 7, 3) := by decide +kernel
theorem dX4_fight_97 : decode cX4_fight 97 = .ok (.iconst 2, 1) := by decide +kernel
theorem dX4_fight_98 : decode cX4_fight 98 = .ok (.goto 17, 3) := by decide +kernel
theorem dX4_fight_101 : decode cX4_fight 101 = .ok (.iconst 2, 1) := by decide +kernel
theorem dX4_fight_102 : decode cX4_fight 102 = .ok (.iload 6, 2) := by decide +kernel
theorem dX4_fight_104 : decode cX4_fight 104 = .ok (.imul, 1) := by decide +kernel
theorem dX4_fight_105 : decode cX4_fight 105 = .ok (.iload 5, 2) := by decide +kernel
theorem dX4_fight_107 : decode cX4_fight 107 = .ok (.if_icmp .le 7, 3) := by decide +kernel
theorem dX4_fight_110 : decode cX4_fight 110 = .ok (.iconst 1, 1) := by decide +kernel
theorem dX4_fight_111 : decode cX4_fight 111 = .ok (.goto 4, 3) := by decide +kernel
theorem dX4_fight_114 : decode cX4_fight 114 = .ok (.iconst 0, 1) := by decide +kernel
theorem dX4_fight_115 : decode cX4_fight 115 = .ok (.istore 7, 2) := by decide +kernel
theorem dX4_fight_117 : decode cX4_fight 117 = .ok (.aload_n 0, 1) := by decide +kernel
theorem dX4_fight_118 : decode cX4_fight 118 = .ok (.getfield 43, 3) := by decide +kernel
theorem dX4_fight_121 : decode cX4_fight 121 = .ok (.iload 4, 2) := by decide +kernel
theorem dX4_fight_123 : decode cX4_fight 123 = .ok (.iaload, 1) := by decide +kernel
theorem dX4_fight_124 : decode cX4_fight 124 = .ok (.iload_n 1, 1) := by decide +kernel
theorem dX4_fight_125 : decode cX4_fight 125 = .ok (.if_icmp .ne 36, 3) := by decide +kernel
theorem dX4_fight_128 : decode cX4_fight 128 = .ok (.aload_n 0, 1) := by decide +kernel
theorem dX4_fight_129 : decode cX4_fight 129 = .ok (.getfield 46, 3) := by decide +kernel
theorem dX4_fight_132 : decode cX4_fight 132 = .ok (.iload 4, 2) := by decide +kernel
theorem dX4_fight_134 : decode cX4_fight 134 = .ok (.aload_n 0, 1) := by decide +kernel
theorem dX4_fight_135 : decode cX4_fight 135 = .ok (.getfield 46, 3) := by decide +kernel
theorem dX4_fight_138 : decode cX4_fight 138 = .ok (.iload 4, 2) := by decide +kernel
theorem dX4_fight_140 : decode cX4_fight 140 = .ok (.iaload, 1) := by decide +kernel
theorem dX4_fight_141 : decode cX4_fight 141 = .ok (.iload 7, 2) := by decide +kernel
theorem dX4_fight_143 : decode cX4_fight 143 = .ok (.if_icmp .le 16, 3) := by decide +kernel
theorem dX4_fight_146 : decode cX4_fight 146 = .ok (.aload_n 0, 1) := by decide +kernel
theorem dX4_fight_147 : decode cX4_fight 147 = .ok (.getfield 46, 3) := by decide +kernel
theorem dX4_fight_150 : decode cX4_fight 150 = .ok (.iload 4, 2) := by decide +kernel
theorem dX4_fight_152 : decode cX4_fight 152 = .ok (.iaload, 1) := by decide +kernel
theorem dX4_fight_153 : decode cX4_fight 153 = .ok (.iload 7, 2) := by decide +kernel
theorem dX4_fight_155 : decode cX4_fight 155 = .ok (.isub, 1) := by decide +kernel
theorem dX4_fight_156 : decode cX4_fight 156 = .ok (.goto 4, 3) := by decide +kernel
theorem dX4_fight_159 : decode cX4_fight 159 = .ok (.iconst 0, 1) := by decide +kernel
theorem dX4_fight_160 : decode cX4_fight 160 = .ok (.iastore, 1) := by decide +kernel
theorem dX4_fight_161 : decode cX4_fight 161 = .ok (.iinc 4 1, 3) := by decide +kernel
theorem dX4_fight_164 : decode cX4_fight 164 = .ok (.goto (-128), 3) := by decide +kernel
theorem dX4_fight_167 : decode cX4_fight 167 = .ok (.iconst 0, 1) := by decide +kernel
theorem dX4_fight_168 : decode cX4_fight 168 = .ok (.istore 4, 2) := by decide +kernel
theorem dX4_fight_170 : decode cX4_fight 170 = .ok (.iload 4, 2) := by decide +kernel
theorem dX4_fight_172 : decode cX4_fight 172 = .ok (.aload_n 0, 1) := by decide +kernel
theorem dX4_fight_173 : decode cX4_fight 173 = .ok (.getfield 69, 3) := by decide +kernel
theorem dX4_fight_176 : decode cX4_fight 176 = .ok (.if_icmp .ge 37, 3) := by decide +kernel
theorem dX4_fight_179 : decode cX4_fight 179 = .ok (.aload_n 0, 1) := by decide +kernel
theorem dX4_fight_180 : decode cX4_fight 180 = .ok (.getfield 43, 3) := by decide +kernel
theorem dX4_fight_183 : decode cX4_fight 183 = .ok (.iload 4, 2) := by decide +kernel
theorem dX4_fight_185 : decode cX4_fight 185 = .ok (.aload_n 0, 1) := by decide +kernel
theorem dX4_fight_186 : decode cX4_fight 186 = .ok (.getfield 46, 3) := by decide +kernel
theorem dX4_fight_189 : decode cX4_fight 189 = .ok (.iload 4, 2) := by decide +kernel
theorem dX4_fight_191 : decode cX4_fight 191 = .ok (.iaload, 1) := by decide +kernel
theorem dX4_fight_192 : decode cX4_fight 192 = .ok (.ifCond .ne 7, 3) := by decide +kernel
theorem dX4_fight_195 : decode cX4_fight 195 = .ok (.iconst (-1), 1) := by decide +kernel
theorem dX4_fight_196 : decode cX4_fight 196 = .ok (.goto 10, 3) := by decide +kernel
theorem dX4_fight_199 : decode cX4_fight 199 = .ok (.aload_n 0, 1) := by decide +kernel
theorem dX4_fight_200 : decode cX4_fight 200 = .ok (.getfield 43, 3) := by decide +kernel
theorem dX4_fight_203 : decode cX4_fight 203 = .ok (.iload 4, 2) := by decide +kernel
theorem dX4_fight_205 : decode cX4_fight 205 = .ok (.iaload, 1) := by decide +kernel
theorem dX4_fight_206 : decode cX4_fight 206 = .ok (.iastore, 1) := by decide +kernel
theorem dX4_fight_207 : decode cX4_fight 207 = .ok (.iinc 4 1, 3) := by decide +kernel
theorem dX4_fight_210 : decode cX4_fight 210 = .ok (.goto (-40), 3) := by decide +kernel
theorem dX4_fight_213 : decode cX4_fight 213 = .ok (.return_, 1) := by decide +kernel
theorem dX4_sees_0 : decode cX4_sees 0 = .ok (.iconst 0, 1) := by decide +kernel
theorem dX4_sees_1 : decode cX4_sees 1 = .ok (.istore_n 3, 1) := by decide +kernel
theorem dX4_sees_2 : decode cX4_sees 2 = .ok (.iload_n 3, 1) := by decide +kernel
theorem dX4_sees_3 : decode cX4_sees 3 = .ok (.aload_n 0, 1) := by decide +kernel
theorem dX4_sees_4 : decode cX4_sees 4 = .ok (.getfield 69, 3) := by decide +kernel
theorem dX4_sees_7 : decode cX4_sees 7 = .ok (.if_icmp .ge 60, 3) := by decide +kernel
theorem dX4_sees_10 : decode cX4_sees 10 = .ok (.aload_n 0, 1) := by decide +kernel
theorem dX4_sees_11 : decode cX4_sees 11 = .ok (.getfield 16, 3) := by decide +kernel
theorem dX4_sees_14 : decode cX4_sees 14 = .ok (.iload_n 3, 1) := by decide +kernel
theorem dX4_sees_15 : decode cX4_sees 15 = .ok (.iaload, 1) := by decide +kernel
theorem dX4_sees_16 : decode cX4_sees 16 = .ok (.iload_n 1, 1) := by decide +kernel
theorem dX4_sees_17 : decode cX4_sees 17 = .ok (.if_icmp .ne 44, 3) := by decide +kernel
theorem dX4_sees_20 : decode cX4_sees 20 = .ok (.aload_n 0, 1) := by decide +kernel
theorem dX4_sees_21 : decode cX4_sees 21 = .ok (.getfield 43, 3) := by decide +kernel
theorem dX4_sees_24 : decode cX4_sees 24 = .ok (.iload_n 3, 1) := by decide +kernel
theorem dX4_sees_25 : decode cX4_sees 25 = .ok (.iaload, 1) := by decide +kernel
theorem dX4_sees_26 : decode cX4_sees 26 = .ok (.iconst (-1), 1) := by decide +kernel
theorem dX4_sees_27 : decode cX4_sees 27 = .ok (.if_icmp .eq 34, 3) := by decide +kernel
theorem dX4_sees_30 : decode cX4_sees 30 = .ok (.aload_n 0, 1) := by decide +kernel
theorem dX4_sees_31 : decode cX4_sees 31 = .ok (.getfield 43, 3) := by decide +kernel
theorem dX4_sees_34 : decode cX4_sees 34 = .ok (.iload_n 3, 1) := by decide +kernel
theorem dX4_sees_35 : decode cX4_sees 35 = .ok (.iaload, 1) := by decide +kernel
theorem dX4_sees_36 : decode cX4_sees 36 = .ok (.iload_n 2, 1) := by decide +kernel
theorem dX4_sees_37 : decode cX4_sees 37 = .ok (.if_icmp .eq 22, 3) := by decide +kernel
theorem dX4_sees_40 : decode cX4_sees 40 = .ok (.aload_n 0, 1) := by decide +kernel
theorem dX4_sees_41 : decode cX4_sees 41 = .ok (.getfield 7, 3) := by decide +kernel
theorem dX4_sees_44 : decode cX4_sees 44 = .ok (.bipush 10, 2) := by decide +kernel
theorem dX4_sees_46 : decode cX4_sees 46 = .ok (.aload_n 0, 1) := by decide +kernel
theorem dX4_sees_47 : decode cX4_sees 47 = .ok (.getfield 43, 3) := by decide +kernel
theorem dX4_sees_50 : decode cX4_sees 50 = .ok (.iload_n 3, 1) := by decide +kernel
theorem dX4_sees_51 : decode cX4_sees 51 = .ok (.iaload, 1) := by decide +kernel
theorem dX4_sees_52 : decode cX4_sees 52 = .ok (.imul, 1) := by decide +kernel
theorem dX4_sees_53 : decode cX4_sees 53 = .ok (.iload_n 2, 1) := by decide +kernel
theorem dX4_sees_54 : decode cX4_sees 54 = .ok (.iadd, 1) := by decide +kernel
theorem dX4_sees_55 : decode cX4_sees 55 = .ok (.iaload, 1) := by decide +kernel
theorem dX4_sees_56 : decode cX4_sees 56 = .ok (.ifCond .le 5, 3) := by decide +kernel
theorem dX4_sees_59 : decode cX4_sees 59 = .ok (.iconst 1, 1) := by decide +kernel
theorem dX4_sees_60 : decode cX4_sees 60 = .ok (.ireturn, 1) := by decide +kernel
theorem dX4_sees_61 : decode cX4_sees 61 = .ok (.iinc 3 1, 3) := by decide +kernel
theorem dX4_sees_64 : decode cX4_sees 64 = .ok (.goto (-62), 3) := by decide +kernel
theorem dX4_sees_67 : decode cX4_sees 67 = .ok (.iconst 0, 1) := by decide +kernel
theorem dX4_sees_68 : decode cX4_sees 68 = .ok (.ireturn, 1) := by decide +kernel
set_option maxRecDepth 20000 in
theorem ggX4_playTurn_X4_take : GoodIn wsX4_playTurn wsX4_take := goodIn_r _ [14, 1, 5, 4, 7, 6, 48, 49, 50, 51, 52, 53, 54, 55, 56, 57, 58, 59, 60, 61, 62, 63, 64, 65, 66, 67, 68, 69] (by decide +kernel) (by decide +kernel)
set_option maxRecDepth 20000 in
theorem gX4_playTurn_X4_take : GoodIn wsX4_playTurn (wsV RX4 86 RX4 yX4_take wsX4_take) := goodIn_app (goodIn_of _ (by decide +kernel)) ggX4_playTurn_X4_take
set_option maxRecDepth 20000 in
theorem ggX4_playTurn_X4_supplyOf : GoodIn wsX4_playTurn wsX4_supplyOf := goodIn_r _ [18, 9, 19, 5, 20, 21, 22, 23, 13, 24, 1, 25, 26, 27, 28, 29, 48, 49, 50, 51, 52, 53, 54, 55, 56, 57, 58, 59, 60, 61, 62, 63, 64, 65, 66, 67, 68, 69] (by decide +kernel) (by decide +kernel)
set_option maxRecDepth 20000 in
theorem gX4_playTurn_X4_supplyOf : GoodIn wsX4_playTurn (wsV RX4 104 RX4 yX4_supplyOf wsX4_supplyOf) := goodIn_app (goodIn_of _ (by decide +kernel)) ggX4_playTurn_X4_supplyOf
set_option maxRecDepth 20000 in
theorem ggX4_playTurn_X4_march : GoodIn wsX4_playTurn wsX4_march := goodIn_r _ [33, 1, 34, 5, 2, 3, 35, 9, 25, 26, 27, 13, 28, 29, 48, 49, 50, 51, 52, 53, 54, 55, 56, 57, 58, 59, 60, 61, 62, 63, 64, 65, 66, 67, 68, 69] (by decide +kernel) (by decide +kernel)
set_option maxRecDepth 20000 in
theorem gX4_playTurn_X4_march : GoodIn wsX4_playTurn (wsV RX4 107 RX4 yX4_march wsX4_march) := goodIn_app (goodIn_of _ (by decide +kernel)) ggX4_playTurn_X4_march
set_option maxRecDepth 20000 in
theorem ggX4_playTurn_X4_fight : GoodIn wsX4_playTurn wsX4_fight := goodIn_r _ [39, 1, 9, 5, 7, 21, 22, 23, 13, 24, 40, 41, 42, 43, 2, 48, 49, 50, 51, 52, 53, 54, 55, 56, 57, 58, 59, 60, 61, 62, 63, 64, 65, 66, 67, 68, 69] (by decide +kernel) (by decide +kernel)
set_option maxRecDepth 20000 in
theorem gX4_playTurn_X4_fight : GoodIn wsX4_playTurn (wsV RX4 110 RX4 yX4_fight wsX4_fight) := goodIn_app (goodIn_of _ (by decide +kernel)) ggX4_playTurn_X4_fight
set_option maxRecDepth 20000 in
theorem ggX4_playTurn_X4_sees : GoodIn wsX4_playTurn wsX4_sees := goodIn_r _ [47, 1, 9, 5, 29, 48, 49, 50, 51, 52, 53, 54, 55, 56, 57, 58, 59, 60, 61, 62, 63, 64, 65, 66, 67, 68, 69] (by decide +kernel) (by decide +kernel)
set_option maxRecDepth 20000 in
theorem gX4_playTurn_X4_sees : GoodIn wsX4_playTurn (wsV RX4 113 RX4 yX4_sees wsX4_sees) := goodIn_app (goodIn_of _ (by decide +kernel)) ggX4_playTurn_X4_sees
theorem dX4_playTurn_0 : decode cX4_playTurn 0 = .ok (.aload_n 0, 1) := by decide +kernel
theorem dX4_playTurn_1 : decode cX4_playTurn 1 = .ok (.iload_n 1, 1) := by decide +kernel
theorem dX4_playTurn_2 : decode cX4_playTurn 2 = .ok (.invokevirtual 86, 3) := by decide +kernel
theorem dX4_playTurn_5 : decode cX4_playTurn 5 = .ok (.iconst 0, 1) := by decide +kernel
theorem dX4_playTurn_6 : decode cX4_playTurn 6 = .ok (.istore_n 2, 1) := by decide +kernel
theorem dX4_playTurn_7 : decode cX4_playTurn 7 = .ok (.iload_n 2, 1) := by decide +kernel
theorem dX4_playTurn_8 : decode cX4_playTurn 8 = .ok (.aload_n 0, 1) := by decide +kernel
theorem dX4_playTurn_9 : decode cX4_playTurn 9 = .ok (.getfield 69, 3) := by decide +kernel
theorem dX4_playTurn_12 : decode cX4_playTurn 12 = .ok (.if_icmp .ge 35, 3) := by decide +kernel
theorem dX4_playTurn_15 : decode cX4_playTurn 15 = .ok (.aload_n 0, 1) := by decide +kernel
theorem dX4_playTurn_16 : decode cX4_playTurn 16 = .ok (.getfield 49, 3) := by decide +kernel
theorem dX4_playTurn_19 : decode cX4_playTurn 19 = .ok (.iload_n 2, 1) := by decide +kernel
theorem dX4_playTurn_20 : decode cX4_playTurn 20 = .ok (.aload_n 0, 1) := by decide +kernel
theorem dX4_playTurn_21 : decode cX4_playTurn 21 = .ok (.iload_n 2, 1) := by decide +kernel
theorem dX4_playTurn_22 : decode cX4_playTurn 22 = .ok (.aload_n 0, 1) := by decide +kernel
theorem dX4_playTurn_23 : decode cX4_playTurn 23 = .ok (.getfield 31, 3) := by decide +kernel
theorem dX4_playTurn_26 : decode cX4_playTurn 26 = .ok (.iload_n 1, 1) := by decide +kernel
theorem dX4_playTurn_27 : decode cX4_playTurn 27 = .ok (.iaload, 1) := by decide +kernel
theorem dX4_playTurn_28 : decode cX4_playTurn 28 = .ok (.invokevirtual 104, 3) := by decide +kernel
theorem dX4_playTurn_31 : decode cX4_playTurn 31 = .ok (.iconst (-1), 1) := by decide +kernel
theorem dX4_playTurn_32 : decode cX4_playTurn 32 = .ok (.if_icmp .ne 7, 3) := by decide +kernel
theorem dX4_playTurn_35 : decode cX4_playTurn 35 = .ok (.iconst 0, 1) := by decide +kernel
theorem dX4_playTurn_36 : decode cX4_playTurn 36 = .ok (.goto 4, 3) := by decide +kernel
theorem dX4_playTurn_39 : decode cX4_playTurn 39 = .ok (.iconst 1, 1) := by decide +kernel
theorem dX4_playTurn_40 : decode cX4_playTurn 40 = .ok (.iastore, 1) := by decide +kernel
theorem dX4_playTurn_41 : decode cX4_playTurn 41 = .ok (.iinc 2 1, 3) := by decide +kernel
theorem dX4_playTurn_44 : decode cX4_playTurn 44 = .ok (.goto (-37), 3) := by decide +kernel
theorem dX4_playTurn_47 : decode cX4_playTurn 47 = .ok (.aload_n 0, 1) := by decide +kernel
theorem dX4_playTurn_48 : decode cX4_playTurn 48 = .ok (.iload_n 1, 1) := by decide +kernel
theorem dX4_playTurn_49 : decode cX4_playTurn 49 = .ok (.invokevirtual 107, 3) := by decide +kernel
theorem dX4_playTurn_52 : decode cX4_playTurn 52 = .ok (.iconst 0, 1) := by decide +kernel
theorem dX4_playTurn_53 : decode cX4_playTurn 53 = .ok (.istore_n 2, 1) := by decide +kernel
theorem dX4_playTurn_54 : decode cX4_playTurn 54 = .ok (.iload_n 2, 1) := by decide +kernel
theorem dX4_playTurn_55 : decode cX4_playTurn 55 = .ok (.bipush 10, 2) := by decide +kernel
theorem dX4_playTurn_57 : decode cX4_playTurn 57 = .ok (.if_icmp .ge 14, 3) := by decide +kernel
theorem dX4_playTurn_60 : decode cX4_playTurn 60 = .ok (.aload_n 0, 1) := by decide +kernel
theorem dX4_playTurn_61 : decode cX4_playTurn 61 = .ok (.iload_n 2, 1) := by decide +kernel
theorem dX4_playTurn_62 : decode cX4_playTurn 62 = .ok (.invokevirtual 110, 3) := by decide +kernel
theorem dX4_playTurn_65 : decode cX4_playTurn 65 = .ok (.iinc 2 1, 3) := by decide +kernel
theorem dX4_playTurn_68 : decode cX4_playTurn 68 = .ok (.goto (-14), 3) := by decide +kernel
theorem dX4_playTurn_71 : decode cX4_playTurn 71 = .ok (.iconst 0, 1) := by decide +kernel
theorem dX4_playTurn_72 : decode cX4_playTurn 72 = .ok (.istore_n 2, 1) := by decide +kernel
theorem dX4_playTurn_73 : decode cX4_playTurn 73 = .ok (.iload_n 2, 1) := by decide +kernel
theorem dX4_playTurn_74 : decode cX4_playTurn 74 = .ok (.aload_n 0, 1) := by decide +kernel
theorem dX4_playTurn_75 : decode cX4_playTurn 75 = .ok (.getfield 69, 3) := by decide +kernel
theorem dX4_playTurn_78 : decode cX4_playTurn 78 = .ok (.if_icmp .ge 99, 3) := by decide +kernel
theorem dX4_playTurn_81 : decode cX4_playTurn 81 = .ok (.aload_n 0, 1) := by decide +kernel
theorem dX4_playTurn_82 : decode cX4_playTurn 82 = .ok (.getfield 19, 3) := by decide +kernel
theorem dX4_playTurn_85 : decode cX4_playTurn 85 = .ok (.bipush 12, 2) := by decide +kernel
theorem dX4_playTurn_87 : decode cX4_playTurn 87 = .ok (.iload_n 1, 1) := by decide +kernel
theorem dX4_playTurn_88 : decode cX4_playTurn 88 = .ok (.iconst 1, 1) := by decide +kernel
theorem dX4_playTurn_89 : decode cX4_playTurn 89 = .ok (.iadd, 1) := by decide +kernel
theorem dX4_playTurn_90 : decode cX4_playTurn 90 = .ok (.imul, 1) := by decide +kernel
theorem dX4_playTurn_91 : decode cX4_playTurn 91 = .ok (.iload_n 2, 1) := by decide +kernel
theorem dX4_playTurn_92 : decode cX4_playTurn 92 = .ok (.iadd, 1) := by decide +kernel
theorem dX4_playTurn_93 : decode cX4_playTurn 93 = .ok (.aload_n 0, 1) := by decide +kernel
theorem dX4_playTurn_94 : decode cX4_playTurn 94 = .ok (.getfield 43, 3) := by decide +kernel
theorem dX4_playTurn_97 : decode cX4_playTurn 97 = .ok (.iload_n 2, 1) := by decide +kernel
theorem dX4_playTurn_98 : decode cX4_playTurn 98 = .ok (.iaload, 1) := by decide +kernel
theorem dX4_playTurn_99 : decode cX4_playTurn 99 = .ok (.iastore, 1) := by decide +kernel
theorem dX4_playTurn_100 : decode cX4_playTurn 100 = .ok (.aload_n 0, 1) := by decide +kernel
theorem dX4_playTurn_101 : decode cX4_playTurn 101 = .ok (.getfield 22, 3) := by decide +kernel
theorem dX4_playTurn_104 : decode cX4_playTurn 104 = .ok (.bipush 12, 2) := by decide +kernel
theorem dX4_playTurn_106 : decode cX4_playTurn 106 = .ok (.iload_n 1, 1) := by decide +kernel
theorem dX4_playTurn_107 : decode cX4_playTurn 107 = .ok (.iconst 1, 1) := by decide +kernel
theorem dX4_playTurn_108 : decode cX4_playTurn 108 = .ok (.iadd, 1) := by decide +kernel
theorem dX4_playTurn_109 : decode cX4_playTurn 109 = .ok (.imul, 1) := by decide +kernel
theorem dX4_playTurn_110 : decode cX4_playTurn 110 = .ok (.iload_n 2, 1) := by decide +kernel
theorem dX4_playTurn_111 : decode cX4_playTurn 111 = .ok (.iadd, 1) := by decide +kernel
theorem dX4_playTurn_112 : decode cX4_playTurn 112 = .ok (.aload_n 0, 1) := by decide +kernel
theorem dX4_playTurn_113 : decode cX4_playTurn 113 = .ok (.getfield 46, 3) := by decide +kernel
theorem dX4_playTurn_116 : decode cX4_playTurn 116 = .ok (.iload_n 2, 1) := by decide +kernel
theorem dX4_playTurn_117 : decode cX4_playTurn 117 = .ok (.iaload, 1) := by decide +kernel
theorem dX4_playTurn_118 : decode cX4_playTurn 118 = .ok (.iastore, 1) := by decide +kernel
theorem dX4_playTurn_119 : decode cX4_playTurn 119 = .ok (.aload_n 0, 1) := by decide +kernel
theorem dX4_playTurn_120 : decode cX4_playTurn 120 = .ok (.getfield 34, 3) := by decide +kernel
theorem dX4_playTurn_123 : decode cX4_playTurn 123 = .ok (.bipush 12, 2) := by decide +kernel
theorem dX4_playTurn_125 : decode cX4_playTurn 125 = .ok (.iload_n 1, 1) := by decide +kernel
theorem dX4_playTurn_126 : decode cX4_playTurn 126 = .ok (.imul, 1) := by decide +kernel
theorem dX4_playTurn_127 : decode cX4_playTurn 127 = .ok (.iload_n 2, 1) := by decide +kernel
theorem dX4_playTurn_128 : decode cX4_playTurn 128 = .ok (.iadd, 1) := by decide +kernel
theorem dX4_playTurn_129 : decode cX4_playTurn 129 = .ok (.aload_n 0, 1) := by decide +kernel
theorem dX4_playTurn_130 : decode cX4_playTurn 130 = .ok (.getfield 43, 3) := by decide +kernel
theorem dX4_playTurn_133 : decode cX4_playTurn 133 = .ok (.iload_n 2, 1) := by decide +kernel
theorem dX4_playTurn_134 : decode cX4_playTurn 134 = .ok (.iaload, 1) := by decide +kernel
theorem dX4_playTurn_135 : decode cX4_playTurn 135 = .ok (.iconst (-1), 1) := by decide +kernel
theorem dX4_playTurn_136 : decode cX4_playTurn 136 = .ok (.if_icmp .eq 33, 3) := by decide +kernel
theorem dX4_playTurn_139 : decode cX4_playTurn 139 = .ok (.aload_n 0, 1) := by decide +kernel
theorem dX4_playTurn_140 : decode cX4_playTurn 140 = .ok (.iconst 1, 1) := by decide +kernel
theorem dX4_playTurn_141 : decode cX4_playTurn 141 = .ok (.aload_n 0, 1) := by decide +kernel
theorem dX4_playTurn_142 : decode cX4_playTurn 142 = .ok (.getfield 16, 3) := by decide +kernel
theorem dX4_playTurn_145 : decode cX4_playTurn 145 = .ok (.iload_n 2, 1) := by decide +kernel
theorem dX4_playTurn_146 : decode cX4_playTurn 146 = .ok (.iaload, 1) := by decide +kernel
theorem dX4_playTurn_147 : decode cX4_playTurn 147 = .ok (.isub, 1) := by decide +kernel
theorem dX4_playTurn_148 : decode cX4_playTurn 148 = .ok (.aload_n 0, 1) := by decide +kernel
theorem dX4_playTurn_149 : decode cX4_playTurn 149 = .ok (.getfield 43, 3) := by decide +kernel
theorem dX4_playTurn_152 : decode cX4_playTurn 152 = .ok (.iload_n 2, 1) := by decide +kernel
theorem dX4_playTurn_153 : decode cX4_playTurn 153 = .ok (.iaload, 1) := by decide +kernel
theorem dX4_playTurn_154 : decode cX4_playTurn 154 = .ok (.invokevirtual 113, 3) := by decide +kernel
theorem dX4_playTurn_157 : decode cX4_playTurn 157 = .ok (.ifCond .eq 12, 3) := by decide +kernel
theorem dX4_playTurn_160 : decode cX4_playTurn 160 = .ok (.aload_n 0, 1) := by decide +kernel
theorem dX4_playTurn_161 : decode cX4_playTurn 161 = .ok (.getfield 43, 3) := by decide +kernel
theorem dX4_playTurn_164 : decode cX4_playTurn 164 = .ok (.iload_n 2, 1) := by decide +kernel
theorem dX4_playTurn_165 : decode cX4_playTurn 165 = .ok (.iaload, 1) := by decide +kernel
theorem dX4_playTurn_166 : decode cX4_playTurn 166 = .ok (.goto 4, 3) := by decide +kernel
theorem dX4_playTurn_169 : decode cX4_playTurn 169 = .ok (.iconst (-1), 1) := by decide +kernel
theorem dX4_playTurn_170 : decode cX4_playTurn 170 = .ok (.iastore, 1) := by decide +kernel
theorem dX4_playTurn_171 : decode cX4_playTurn 171 = .ok (.iinc 2 1, 3) := by decide +kernel
theorem dX4_playTurn_174 : decode cX4_playTurn 174 = .ok (.goto (-101), 3) := by decide +kernel
theorem dX4_playTurn_177 : decode cX4_playTurn 177 = .ok (.return_, 1) := by decide +kernel
theorem dX4_lostBy_0 : decode cX4_lostBy 0 = .ok (.iconst 0, 1) := by decide +kernel
theorem dX4_lostBy_1 : decode cX4_lostBy 1 = .ok (.istore_n 2, 1) := by decide +kernel
theorem dX4_lostBy_2 : decode cX4_lostBy 2 = .ok (.iconst 0, 1) := by decide +kernel
theorem dX4_lostBy_3 : decode cX4_lostBy 3 = .ok (.istore_n 3, 1) := by decide +kernel
theorem dX4_lostBy_4 : decode cX4_lostBy 4 = .ok (.iload_n 3, 1) := by decide +kernel
theorem dX4_lostBy_5 : decode cX4_lostBy 5 = .ok (.aload_n 0, 1) := by decide +kernel
theorem dX4_lostBy_6 : decode cX4_lostBy 6 = .ok (.getfield 69, 3) := by decide +kernel
theorem dX4_lostBy_9 : decode cX4_lostBy 9 = .ok (.if_icmp .ge 31, 3) := by decide +kernel
theorem dX4_lostBy_12 : decode cX4_lostBy 12 = .ok (.iload_n 2, 1) := by decide +kernel
theorem dX4_lostBy_13 : decode cX4_lostBy 13 = .ok (.aload_n 0, 1) := by decide +kernel
theorem dX4_lostBy_14 : decode cX4_lostBy 14 = .ok (.getfield 22, 3) := by decide +kernel
theorem dX4_lostBy_17 : decode cX4_lostBy 17 = .ok (.bipush 12, 2) := by decide +kernel
theorem dX4_lostBy_19 : decode cX4_lostBy 19 = .ok (.iload_n 1, 1) := by decide +kernel
theorem dX4_lostBy_20 : decode cX4_lostBy 20 = .ok (.imul, 1) := by decide +kernel
theorem dX4_lostBy_21 : decode cX4_lostBy 21 = .ok (.iload_n 3, 1) := by decide +kernel
theorem dX4_lostBy_22 : decode cX4_lostBy 22 = .ok (.iadd, 1) := by decide +kernel
theorem dX4_lostBy_23 : decode cX4_lostBy 23 = .ok (.iaload, 1) := by decide +kernel
theorem dX4_lostBy_24 : decode cX4_lostBy 24 = .ok (.ifCond .ne 7, 3) := by decide +kernel
theorem dX4_lostBy_27 : decode cX4_lostBy 27 = .ok (.iconst 1, 1) := by decide +kernel
theorem dX4_lostBy_28 : decode cX4_lostBy 28 = .ok (.goto 4, 3) := by decide +kernel
theorem dX4_lostBy_31 : decode cX4_lostBy 31 = .ok (.iconst 0, 1) := by decide +kernel
theorem dX4_lostBy_32 : decode cX4_lostBy 32 = .ok (.iadd, 1) := by decide +kernel
theorem dX4_lostBy_33 : decode cX4_lostBy 33 = .ok (.istore_n 2, 1) := by decide +kernel
theorem dX4_lostBy_34 : decode cX4_lostBy 34 = .ok (.iinc 3 1, 3) := by decide +kernel
theorem dX4_lostBy_37 : decode cX4_lostBy 37 = .ok (.goto (-33), 3) := by decide +kernel
theorem dX4_lostBy_40 : decode cX4_lostBy 40 = .ok (.iload_n 2, 1) := by decide +kernel
theorem dX4_lostBy_41 : decode cX4_lostBy 41 = .ok (.ireturn, 1) := by decide +kernel
set_option maxRecDepth 20000 in
theorem ggX4_play_X4_in : GoodIn wsX4_play wsX4_in := goodIn_r _ [9] (by decide +kernel) (by decide +kernel)
set_option maxRecDepth 20000 in
theorem gX4_play_X4_in : GoodIn wsX4_play (va_wsS RX4 65 yX4_in wsX4_in) := goodIn_app (goodIn_of _ (by decide +kernel)) ggX4_play_X4_in
set_option maxRecDepth 20000 in
theorem ggX4_play_X4_fails : GoodIn wsX4_play wsX4_fails := goodIn_r _ [13, 1, 66, 67, 68, 69, 70, 71, 72, 73, 74, 75, 76, 77, 78, 79, 80, 81, 82, 83, 84, 85, 86, 87] (by decide +kernel) (by decide +kernel)
set_option maxRecDepth 20000 in
theorem gX4_play_X4_fails : GoodIn wsX4_play (wsV RX4 76 RX4 yX4_fails wsX4_fails) := goodIn_app (goodIn_of _ (by decide +kernel)) ggX4_play_X4_fails
set_option maxRecDepth 20000 in
theorem ggX4_play_X4_playTurn : GoodIn wsX4_play wsX4_playTurn := goodIn_r _ [17, 18, 19, 3, 20, 21, 22, 23, 24, 25, 26, 27, 28, 8, 29, 30, 31, 32, 33, 34, 35, 36, 37, 38, 39, 40, 41, 42, 43, 44, 45, 46, 47, 48, 4, 49, 50, 51, 52, 53, 54, 55, 56, 57, 58, 59, 60, 61, 66, 67, 68, 69, 70, 71, 72, 73, 74, 75, 76, 77, 78, 79, 80, 81, 82, 83, 84, 85, 86, 87] (by decide +kernel) (by decide +kernel)
set_option maxRecDepth 20000 in
theorem gX4_play_X4_playTurn : GoodIn wsX4_play (wsV RX4 116 RX4 yX4_playTurn wsX4_playTurn) := goodIn_app (goodIn_of _ (by decide +kernel)) ggX4_play_X4_playTurn
set_option maxRecDepth 20000 in
theorem ggX4_play_X4_lostBy : GoodIn wsX4_play wsX4_lostBy := goodIn_r _ [65, 18, 22, 66, 67, 68, 69, 70, 71, 72, 73, 74, 75, 76, 77, 78, 79, 80, 81, 82, 83, 84, 85, 86, 87] (by decide +kernel) (by decide +kernel)
set_option maxRecDepth 20000 in
theorem gX4_play_X4_lostBy : GoodIn wsX4_play (wsV RX4 119 RX4 yX4_lostBy wsX4_lostBy) := goodIn_app (goodIn_of _ (by decide +kernel)) ggX4_play_X4_lostBy
theorem dX4_play_0 : decode cX4_play 0 = .ok (.aload_n 0, 1) := by decide +kernel
theorem dX4_play_1 : decode cX4_play 1 = .ok (.iconst 0, 1) := by decide +kernel
theorem dX4_play_2 : decode cX4_play 2 = .ok (.putfield 61, 3) := by decide +kernel
theorem dX4_play_5 : decode cX4_play 5 = .ok (.iload_n 1, 1) := by decide +kernel
theorem dX4_play_6 : decode cX4_play 6 = .ok (.iconst 0, 1) := by decide +kernel
theorem dX4_play_7 : decode cX4_play 7 = .ok (.iconst 2, 1) := by decide +kernel
theorem dX4_play_8 : decode cX4_play 8 = .ok (.invokestatic 65, 3) := by decide +kernel
theorem dX4_play_11 : decode cX4_play 11 = .ok (.ifCond .ne 9, 3) := by decide +kernel
theorem dX4_play_14 : decode cX4_play 14 = .ok (.aload_n 0, 1) := by decide +kernel
theorem dX4_play_15 : decode cX4_play 15 = .ok (.iconst 1, 1) := by decide +kernel
theorem dX4_play_16 : decode cX4_play 16 = .ok (.invokevirtual 76, 3) := by decide +kernel
theorem dX4_play_19 : decode cX4_play 19 = .ok (.ireturn, 1) := by decide +kernel
theorem dX4_play_20 : decode cX4_play 20 = .ok (.aload_n 0, 1) := by decide +kernel
theorem dX4_play_21 : decode cX4_play 21 = .ok (.getfield 80, 3) := by decide +kernel
theorem dX4_play_24 : decode cX4_play 24 = .ok (.bipush 20, 2) := by decide +kernel
theorem dX4_play_26 : decode cX4_play 26 = .ok (.if_icmp .ne 9, 3) := by decide +kernel
theorem dX4_play_29 : decode cX4_play 29 = .ok (.aload_n 0, 1) := by decide +kernel
theorem dX4_play_30 : decode cX4_play 30 = .ok (.iconst 2, 1) := by decide +kernel
theorem dX4_play_31 : decode cX4_play 31 = .ok (.invokevirtual 76, 3) := by decide +kernel
theorem dX4_play_34 : decode cX4_play 34 = .ok (.ireturn, 1) := by decide +kernel
theorem dX4_play_35 : decode cX4_play 35 = .ok (.aload_n 0, 1) := by decide +kernel
theorem dX4_play_36 : decode cX4_play 36 = .ok (.getfield 31, 3) := by decide +kernel
theorem dX4_play_39 : decode cX4_play 39 = .ok (.aload_n 0, 1) := by decide +kernel
theorem dX4_play_40 : decode cX4_play 40 = .ok (.getfield 80, 3) := by decide +kernel
theorem dX4_play_43 : decode cX4_play 43 = .ok (.iload_n 1, 1) := by decide +kernel
theorem dX4_play_44 : decode cX4_play 44 = .ok (.iastore, 1) := by decide +kernel
theorem dX4_play_45 : decode cX4_play 45 = .ok (.iconst 0, 1) := by decide +kernel
theorem dX4_play_46 : decode cX4_play 46 = .ok (.istore_n 2, 1) := by decide +kernel
theorem dX4_play_47 : decode cX4_play 47 = .ok (.iload_n 2, 1) := by decide +kernel
theorem dX4_play_48 : decode cX4_play 48 = .ok (.bipush 12, 2) := by decide +kernel
theorem dX4_play_50 : decode cX4_play 50 = .ok (.if_icmp .ge 36, 3) := by decide +kernel
theorem dX4_play_53 : decode cX4_play 53 = .ok (.aload_n 0, 1) := by decide +kernel
theorem dX4_play_54 : decode cX4_play 54 = .ok (.getfield 25, 3) := by decide +kernel
theorem dX4_play_57 : decode cX4_play 57 = .ok (.bipush 12, 2) := by decide +kernel
theorem dX4_play_59 : decode cX4_play 59 = .ok (.aload_n 0, 1) := by decide +kernel
theorem dX4_play_60 : decode cX4_play 60 = .ok (.getfield 80, 3) := by decide +kernel
theorem dX4_play_63 : decode cX4_play 63 = .ok (.imul, 1) := by decide +kernel
theorem dX4_play_64 : decode cX4_play 64 = .ok (.iload_n 2, 1) := by decide +kernel
theorem dX4_play_65 : decode cX4_play 65 = .ok (.iadd, 1) := by decide +kernel
theorem dX4_play_66 : decode cX4_play 66 = .ok (.aload_n 0, 1) := by decide +kernel
theorem dX4_play_67 : decode cX4_play 67 = .ok (.getfield 28, 3) := by decide +kernel
theorem dX4_play_70 : decode cX4_play 70 = .ok (.iload_n 2, 1) := by decide +kernel
theorem dX4_play_71 : decode cX4_play 71 = .ok (.iaload, 1) := by decide +kernel
theorem dX4_play_72 : decode cX4_play 72 = .ok (.iastore, 1) := by decide +kernel
theorem dX4_play_73 : decode cX4_play 73 = .ok (.aload_n 0, 1) := by decide +kernel
theorem dX4_play_74 : decode cX4_play 74 = .ok (.getfield 28, 3) := by decide +kernel
theorem dX4_play_77 : decode cX4_play 77 = .ok (.iload_n 2, 1) := by decide +kernel
theorem dX4_play_78 : decode cX4_play 78 = .ok (.iconst (-1), 1) := by decide +kernel
theorem dX4_play_79 : decode cX4_play 79 = .ok (.iastore, 1) := by decide +kernel
theorem dX4_play_80 : decode cX4_play 80 = .ok (.iinc 2 1, 3) := by decide +kernel
theorem dX4_play_83 : decode cX4_play 83 = .ok (.goto (-36), 3) := by decide +kernel
theorem dX4_play_86 : decode cX4_play 86 = .ok (.aload_n 0, 1) := by decide +kernel
theorem dX4_play_87 : decode cX4_play 87 = .ok (.aload_n 0, 1) := by decide +kernel
theorem dX4_play_88 : decode cX4_play 88 = .ok (.getfield 80, 3) := by decide +kernel
theorem dX4_play_91 : decode cX4_play 91 = .ok (.invokevirtual 116, 3) := by decide +kernel
theorem dX4_play_94 : decode cX4_play 94 = .ok (.aload_n 0, 1) := by decide +kernel
theorem dX4_play_95 : decode cX4_play 95 = .ok (.dup, 1) := by decide +kernel
theorem dX4_play_96 : decode cX4_play 96 = .ok (.getfield 80, 3) := by decide +kernel
theorem dX4_play_99 : decode cX4_play 99 = .ok (.iconst 1, 1) := by decide +kernel
theorem dX4_play_100 : decode cX4_play 100 = .ok (.iadd, 1) := by decide +kernel
theorem dX4_play_101 : decode cX4_play 101 = .ok (.putfield 80, 3) := by decide +kernel
theorem dX4_play_104 : decode cX4_play 104 = .ok (.aload_n 0, 1) := by decide +kernel
theorem dX4_play_105 : decode cX4_play 105 = .ok (.aload_n 0, 1) := by decide +kernel
theorem dX4_play_106 : decode cX4_play 106 = .ok (.getfield 80, 3) := by decide +kernel
theorem dX4_play_109 : decode cX4_play 109 = .ok (.invokevirtual 119, 3) := by decide +kernel
theorem dX4_play_112 : decode cX4_play 112 = .ok (.aload_n 0, 1) := by decide +kernel
theorem dX4_play_113 : decode cX4_play 113 = .ok (.aload_n 0, 1) := by decide +kernel
theorem dX4_play_114 : decode cX4_play 114 = .ok (.getfield 80, 3) := by decide +kernel
theorem dX4_play_117 : decode cX4_play 117 = .ok (.iconst 1, 1) := by decide +kernel
theorem dX4_play_118 : decode cX4_play 118 = .ok (.isub, 1) := by decide +kernel
theorem dX4_play_119 : decode cX4_play 119 = .ok (.invokevirtual 119, 3) := by decide +kernel
theorem dX4_play_122 : decode cX4_play 122 = .ok (.isub, 1) := by decide +kernel
theorem dX4_play_123 : decode cX4_play 123 = .ok (.ireturn, 1) := by decide +kernel
theorem dX4_played_0 : decode cX4_played 0 = .ok (.aload_n 0, 1) := by decide +kernel
theorem dX4_played_1 : decode cX4_played 1 = .ok (.iconst 0, 1) := by decide +kernel
theorem dX4_played_2 : decode cX4_played 2 = .ok (.putfield 61, 3) := by decide +kernel
theorem dX4_played_5 : decode cX4_played 5 = .ok (.aload_n 0, 1) := by decide +kernel
theorem dX4_played_6 : decode cX4_played 6 = .ok (.getfield 80, 3) := by decide +kernel
theorem dX4_played_9 : decode cX4_played 9 = .ok (.ireturn, 1) := by decide +kernel
set_option maxRecDepth 20000 in
theorem ggX4_again_X4_playTurn : GoodIn wsX4_again wsX4_playTurn := goodIn_r _ [11, 2, 12, 1, 4, 13, 6, 14, 15, 16, 17, 18, 19, 10, 20, 21, 22, 23, 24, 25, 26, 27, 28, 29, 30, 31, 32, 33, 34, 35, 36, 37, 38, 39, 40, 41, 42, 43, 44, 45, 46, 47, 48, 49, 50, 51, 52, 53, 54, 55, 56, 57, 58, 59, 60, 61, 62, 63, 64, 65, 66, 67, 68, 69, 70, 71, 72, 73, 74, 75] (by decide +kernel) (by decide +kernel)
set_option maxRecDepth 20000 in
theorem gX4_again_X4_playTurn : GoodIn wsX4_again (wsV RX4 116 RX4 yX4_playTurn wsX4_playTurn) := goodIn_app (goodIn_of _ (by decide +kernel)) ggX4_again_X4_playTurn
theorem dX4_again_0 : decode cX4_again 0 = .ok (.iconst 0, 1) := by decide +kernel
theorem dX4_again_1 : decode cX4_again 1 = .ok (.istore_n 3, 1) := by decide +kernel
theorem dX4_again_2 : decode cX4_again 2 = .ok (.aload_n 0, 1) := by decide +kernel
theorem dX4_again_3 : decode cX4_again 3 = .ok (.getfield 31, 3) := by decide +kernel
theorem dX4_again_6 : decode cX4_again 6 = .ok (.iload_n 1, 1) := by decide +kernel
theorem dX4_again_7 : decode cX4_again 7 = .ok (.iload_n 2, 1) := by decide +kernel
theorem dX4_again_8 : decode cX4_again 8 = .ok (.iastore, 1) := by decide +kernel
theorem dX4_again_9 : decode cX4_again 9 = .ok (.iconst 0, 1) := by decide +kernel
theorem dX4_again_10 : decode cX4_again 10 = .ok (.istore 4, 2) := by decide +kernel
theorem dX4_again_12 : decode cX4_again 12 = .ok (.iload 4, 2) := by decide +kernel
theorem dX4_again_14 : decode cX4_again 14 = .ok (.aload_n 0, 1) := by decide +kernel
theorem dX4_again_15 : decode cX4_again 15 = .ok (.getfield 69, 3) := by decide +kernel
theorem dX4_again_18 : decode cX4_again 18 = .ok (.if_icmp .ge 50, 3) := by decide +kernel
theorem dX4_again_21 : decode cX4_again 21 = .ok (.aload_n 0, 1) := by decide +kernel
theorem dX4_again_22 : decode cX4_again 22 = .ok (.getfield 58, 3) := by decide +kernel
theorem dX4_again_25 : decode cX4_again 25 = .ok (.iload 4, 2) := by decide +kernel
theorem dX4_again_27 : decode cX4_again 27 = .ok (.bipush 10, 2) := by decide +kernel
theorem dX4_again_29 : decode cX4_again 29 = .ok (.aload_n 0, 1) := by decide +kernel
theorem dX4_again_30 : decode cX4_again 30 = .ok (.getfield 19, 3) := by decide +kernel
theorem dX4_again_33 : decode cX4_again 33 = .ok (.bipush 12, 2) := by decide +kernel
theorem dX4_again_35 : decode cX4_again 35 = .ok (.aload_n 0, 1) := by decide +kernel
theorem dX4_again_36 : decode cX4_again 36 = .ok (.getfield 80, 3) := by decide +kernel
theorem dX4_again_39 : decode cX4_again 39 = .ok (.imul, 1) := by decide +kernel
theorem dX4_again_40 : decode cX4_again 40 = .ok (.iload 4, 2) := by decide +kernel
theorem dX4_again_42 : decode cX4_again 42 = .ok (.iadd, 1) := by decide +kernel
theorem dX4_again_43 : decode cX4_again 43 = .ok (.iaload, 1) := by decide +kernel
theorem dX4_again_44 : decode cX4_again 44 = .ok (.imul, 1) := by decide +kernel
theorem dX4_again_45 : decode cX4_again 45 = .ok (.aload_n 0, 1) := by decide +kernel
theorem dX4_again_46 : decode cX4_again 46 = .ok (.getfield 22, 3) := by decide +kernel
theorem dX4_again_49 : decode cX4_again 49 = .ok (.bipush 12, 2) := by decide +kernel
theorem dX4_again_51 : decode cX4_again 51 = .ok (.aload_n 0, 1) := by decide +kernel
theorem dX4_again_52 : decode cX4_again 52 = .ok (.getfield 80, 3) := by decide +kernel
theorem dX4_again_55 : decode cX4_again 55 = .ok (.imul, 1) := by decide +kernel
theorem dX4_again_56 : decode cX4_again 56 = .ok (.iload 4, 2) := by decide +kernel
theorem dX4_again_58 : decode cX4_again 58 = .ok (.iadd, 1) := by decide +kernel
theorem dX4_again_59 : decode cX4_again 59 = .ok (.iaload, 1) := by decide +kernel
theorem dX4_again_60 : decode cX4_again 60 = .ok (.iadd, 1) := by decide +kernel
theorem dX4_again_61 : decode cX4_again 61 = .ok (.iastore, 1) := by decide +kernel
theorem dX4_again_62 : decode cX4_again 62 = .ok (.iinc 4 1, 3) := by decide +kernel
theorem dX4_again_65 : decode cX4_again 65 = .ok (.goto (-53), 3) := by decide +kernel
theorem dX4_again_68 : decode cX4_again 68 = .ok (.iload_n 1, 1) := by decide +kernel
theorem dX4_again_69 : decode cX4_again 69 = .ok (.istore 4, 2) := by decide +kernel
theorem dX4_again_71 : decode cX4_again 71 = .ok (.iload 4, 2) := by decide +kernel
theorem dX4_again_73 : decode cX4_again 73 = .ok (.aload_n 0, 1) := by decide +kernel
theorem dX4_again_74 : decode cX4_again 74 = .ok (.getfield 80, 3) := by decide +kernel
theorem dX4_again_77 : decode cX4_again 77 = .ok (.if_icmp .ge 15, 3) := by decide +kernel
theorem dX4_again_80 : decode cX4_again 80 = .ok (.aload_n 0, 1) := by decide +kernel
theorem dX4_again_81 : decode cX4_again 81 = .ok (.iload 4, 2) := by decide +kernel
theorem dX4_again_83 : decode cX4_again 83 = .ok (.invokevirtual 116, 3) := by decide +kernel
theorem dX4_again_86 : decode cX4_again 86 = .ok (.iinc 4 1, 3) := by decide +kernel
theorem dX4_again_89 : decode cX4_again 89 = .ok (.goto (-18), 3) := by decide +kernel
theorem dX4_again_92 : decode cX4_again 92 = .ok (.iconst 0, 1) := by decide +kernel
theorem dX4_again_93 : decode cX4_again 93 = .ok (.istore 4, 2) := by decide +kernel
theorem dX4_again_95 : decode cX4_again 95 = .ok (.iload 4, 2) := by decide +kernel
theorem dX4_again_97 : decode cX4_again 97 = .ok (.aload_n 0, 1) := by decide +kernel
theorem dX4_again_98 : decode cX4_again 98 = .ok (.getfield 69, 3) := by decide +kernel
theorem dX4_again_101 : decode cX4_again 101 = .ok (.if_icmp .ge 61, 3) := by decide +kernel
theorem dX4_again_104 : decode cX4_again 104 = .ok (.iload_n 3, 1) := by decide +kernel
theorem dX4_again_105 : decode cX4_again 105 = .ok (.aload_n 0, 1) := by decide +kernel
theorem dX4_again_106 : decode cX4_again 106 = .ok (.getfield 58, 3) := by decide +kernel
theorem dX4_again_109 : decode cX4_again 109 = .ok (.iload 4, 2) := by decide +kernel
theorem dX4_again_111 : decode cX4_again 111 = .ok (.iaload, 1) := by decide +kernel
theorem dX4_again_112 : decode cX4_again 112 = .ok (.bipush 10, 2) := by decide +kernel
theorem dX4_again_114 : decode cX4_again 114 = .ok (.aload_n 0, 1) := by decide +kernel
theorem dX4_again_115 : decode cX4_again 115 = .ok (.getfield 19, 3) := by decide +kernel
theorem dX4_again_118 : decode cX4_again 118 = .ok (.bipush 12, 2) := by decide +kernel
theorem dX4_again_120 : decode cX4_again 120 = .ok (.aload_n 0, 1) := by decide +kernel
theorem dX4_again_121 : decode cX4_again 121 = .ok (.getfield 80, 3) := by decide +kernel
theorem dX4_again_124 : decode cX4_again 124 = .ok (.imul, 1) := by decide +kernel
theorem dX4_again_125 : decode cX4_again 125 = .ok (.iload 4, 2) := by decide +kernel
theorem dX4_again_127 : decode cX4_again 127 = .ok (.iadd, 1) := by decide +kernel
theorem dX4_again_128 : decode cX4_again 128 = .ok (.iaload, 1) := by decide +kernel
theorem dX4_again_129 : decode cX4_again 129 = .ok (.imul, 1) := by decide +kernel
theorem dX4_again_130 : decode cX4_again 130 = .ok (.aload_n 0, 1) := by decide +kernel
theorem dX4_again_131 : decode cX4_again 131 = .ok (.getfield 22, 3) := by decide +kernel
theorem dX4_again_134 : decode cX4_again 134 = .ok (.bipush 12, 2) := by decide +kernel
theorem dX4_again_136 : decode cX4_again 136 = .ok (.aload_n 0, 1) := by decide +kernel
theorem dX4_again_137 : decode cX4_again 137 = .ok (.getfield 80, 3) := by decide +kernel
theorem dX4_again_140 : decode cX4_again 140 = .ok (.imul, 1) := by decide +kernel
theorem dX4_again_141 : decode cX4_again 141 = .ok (.iload 4, 2) := by decide +kernel
theorem dX4_again_143 : decode cX4_again 143 = .ok (.iadd, 1) := by decide +kernel
theorem dX4_again_144 : decode cX4_again 144 = .ok (.iaload, 1) := by decide +kernel
theorem dX4_again_145 : decode cX4_again 145 = .ok (.iadd, 1) := by decide +kernel
theorem dX4_again_146 : decode cX4_again 146 = .ok (.if_icmp .ne 7, 3) := by decide +kernel
theorem dX4_again_149 : decode cX4_again 149 = .ok (.iconst 0, 1) := by decide +kernel
theorem dX4_again_150 : decode cX4_again 150 = .ok (.goto 4, 3) := by decide +kernel
theorem dX4_again_153 : decode cX4_again 153 = .ok (.iconst 1, 1) := by decide +kernel
theorem dX4_again_154 : decode cX4_again 154 = .ok (.iadd, 1) := by decide +kernel
theorem dX4_again_155 : decode cX4_again 155 = .ok (.istore_n 3, 1) := by decide +kernel
theorem dX4_again_156 : decode cX4_again 156 = .ok (.iinc 4 1, 3) := by decide +kernel
theorem dX4_again_159 : decode cX4_again 159 = .ok (.goto (-64), 3) := by decide +kernel
theorem dX4_again_162 : decode cX4_again 162 = .ok (.iload_n 3, 1) := by decide +kernel
theorem dX4_again_163 : decode cX4_again 163 = .ok (.ireturn, 1) := by decide +kernel
set_option maxRecDepth 20000 in
theorem ggX4_rule_X4_in : GoodIn wsX4_rule wsX4_in := goodIn_r _ [10] (by decide +kernel) (by decide +kernel)
set_option maxRecDepth 20000 in
theorem gX4_rule_X4_in : GoodIn wsX4_rule (va_wsS RX4 65 yX4_in wsX4_in) := goodIn_app (goodIn_of _ (by decide +kernel)) ggX4_rule_X4_in
set_option maxRecDepth 20000 in
theorem ggX4_rule_X4_fails : GoodIn wsX4_rule wsX4_fails := goodIn_r _ [14, 1, 69, 70, 71, 72, 73, 74, 75, 76, 77, 78, 79, 80, 81, 82, 83, 84, 85, 86, 87, 88, 89, 90] (by decide +kernel) (by decide +kernel)
set_option maxRecDepth 20000 in
theorem gX4_rule_X4_fails : GoodIn wsX4_rule (wsV RX4 76 RX4 yX4_fails wsX4_fails) := goodIn_app (goodIn_of _ (by decide +kernel)) ggX4_rule_X4_fails
set_option maxRecDepth 20000 in
theorem ggX4_rule_X4_again : GoodIn wsX4_rule wsX4_again := goodIn_r _ [18, 6, 19, 20, 21, 2, 22, 23, 24, 25, 9, 26, 27, 28, 29, 30, 31, 32, 33, 34, 35, 36, 37, 38, 39, 40, 41, 42, 43, 44, 45, 46, 47, 48, 49, 50, 51, 52, 53, 54, 55, 56, 57, 58, 59, 60, 61, 62, 63, 64, 65, 66, 67, 68, 69, 70, 71, 72, 73, 74, 75, 76, 77, 78, 79, 80, 81, 82, 83, 84, 85, 86, 87, 88, 89, 90] (by decide +kernel) (by decide +kernel)
set_option maxRecDepth 20000 in
theorem gX4_rule_X4_again : GoodIn wsX4_rule (wsV RX4 125 RX4 yX4_again wsX4_again) := goodIn_app (goodIn_of _ (by decide +kernel)) ggX4_rule_X4_again
theorem dX4_rule_0 : decode cX4_rule 0 = .ok (.aload_n 0, 1) := by decide +kernel
theorem dX4_rule_1 : decode cX4_rule 1 = .ok (.iconst 0, 1) := by decide +kernel
theorem dX4_rule_2 : decode cX4_rule 2 = .ok (.putfield 61, 3) := by decide +kernel
theorem dX4_rule_5 : decode cX4_rule 5 = .ok (.iload_n 1, 1) := by decide +kernel
theorem dX4_rule_6 : decode cX4_rule 6 = .ok (.iconst 0, 1) := by decide +kernel
theorem dX4_rule_7 : decode cX4_rule 7 = .ok (.aload_n 0, 1) := by decide +kernel
theorem dX4_rule_8 : decode cX4_rule 8 = .ok (.getfield 80, 3) := by decide +kernel
theorem dX4_rule_11 : decode cX4_rule 11 = .ok (.iconst 1, 1) := by decide +kernel
theorem dX4_rule_12 : decode cX4_rule 12 = .ok (.isub, 1) := by decide +kernel
theorem dX4_rule_13 : decode cX4_rule 13 = .ok (.invokestatic 65, 3) := by decide +kernel
theorem dX4_rule_16 : decode cX4_rule 16 = .ok (.ifCond .ne 9, 3) := by decide +kernel
theorem dX4_rule_19 : decode cX4_rule 19 = .ok (.aload_n 0, 1) := by decide +kernel
theorem dX4_rule_20 : decode cX4_rule 20 = .ok (.iconst 1, 1) := by decide +kernel
theorem dX4_rule_21 : decode cX4_rule 21 = .ok (.invokevirtual 76, 3) := by decide +kernel
theorem dX4_rule_24 : decode cX4_rule 24 = .ok (.ireturn, 1) := by decide +kernel
theorem dX4_rule_25 : decode cX4_rule 25 = .ok (.iload_n 2, 1) := by decide +kernel
theorem dX4_rule_26 : decode cX4_rule 26 = .ok (.iconst 0, 1) := by decide +kernel
theorem dX4_rule_27 : decode cX4_rule 27 = .ok (.iconst 2, 1) := by decide +kernel
theorem dX4_rule_28 : decode cX4_rule 28 = .ok (.invokestatic 65, 3) := by decide +kernel
theorem dX4_rule_31 : decode cX4_rule 31 = .ok (.ifCond .ne 9, 3) := by decide +kernel
theorem dX4_rule_34 : decode cX4_rule 34 = .ok (.aload_n 0, 1) := by decide +kernel
theorem dX4_rule_35 : decode cX4_rule 35 = .ok (.iconst 2, 1) := by decide +kernel
theorem dX4_rule_36 : decode cX4_rule 36 = .ok (.invokevirtual 76, 3) := by decide +kernel
theorem dX4_rule_39 : decode cX4_rule 39 = .ok (.ireturn, 1) := by decide +kernel
theorem dX4_rule_40 : decode cX4_rule 40 = .ok (.aload_n 0, 1) := by decide +kernel
theorem dX4_rule_41 : decode cX4_rule 41 = .ok (.getfield 37, 3) := by decide +kernel
theorem dX4_rule_44 : decode cX4_rule 44 = .ok (.aload_n 0, 1) := by decide +kernel
theorem dX4_rule_45 : decode cX4_rule 45 = .ok (.getfield 122, 3) := by decide +kernel
theorem dX4_rule_48 : decode cX4_rule 48 = .ok (.iload_n 1, 1) := by decide +kernel
theorem dX4_rule_49 : decode cX4_rule 49 = .ok (.iastore, 1) := by decide +kernel
theorem dX4_rule_50 : decode cX4_rule 50 = .ok (.aload_n 0, 1) := by decide +kernel
theorem dX4_rule_51 : decode cX4_rule 51 = .ok (.getfield 40, 3) := by decide +kernel
theorem dX4_rule_54 : decode cX4_rule 54 = .ok (.aload_n 0, 1) := by decide +kernel
theorem dX4_rule_55 : decode cX4_rule 55 = .ok (.getfield 122, 3) := by decide +kernel
theorem dX4_rule_58 : decode cX4_rule 58 = .ok (.aload_n 0, 1) := by decide +kernel
theorem dX4_rule_59 : decode cX4_rule 59 = .ok (.getfield 31, 3) := by decide +kernel
theorem dX4_rule_62 : decode cX4_rule 62 = .ok (.iload_n 1, 1) := by decide +kernel
theorem dX4_rule_63 : decode cX4_rule 63 = .ok (.iaload, 1) := by decide +kernel
theorem dX4_rule_64 : decode cX4_rule 64 = .ok (.iastore, 1) := by decide +kernel
theorem dX4_rule_65 : decode cX4_rule 65 = .ok (.aload_n 0, 1) := by decide +kernel
theorem dX4_rule_66 : decode cX4_rule 66 = .ok (.dup, 1) := by decide +kernel
theorem dX4_rule_67 : decode cX4_rule 67 = .ok (.getfield 122, 3) := by decide +kernel
theorem dX4_rule_70 : decode cX4_rule 70 = .ok (.iconst 1, 1) := by decide +kernel
theorem dX4_rule_71 : decode cX4_rule 71 = .ok (.iadd, 1) := by decide +kernel
theorem dX4_rule_72 : decode cX4_rule 72 = .ok (.putfield 122, 3) := by decide +kernel
theorem dX4_rule_75 : decode cX4_rule 75 = .ok (.aload_n 0, 1) := by decide +kernel
theorem dX4_rule_76 : decode cX4_rule 76 = .ok (.iload_n 1, 1) := by decide +kernel
theorem dX4_rule_77 : decode cX4_rule 77 = .ok (.iload_n 2, 1) := by decide +kernel
theorem dX4_rule_78 : decode cX4_rule 78 = .ok (.invokevirtual 125, 3) := by decide +kernel
theorem dX4_rule_81 : decode cX4_rule 81 = .ok (.ireturn, 1) := by decide +kernel
set_option maxRecDepth 20000 in
theorem ggX4_appeal_X4_fails : GoodIn wsX4_appeal wsX4_fails := goodIn_r _ [9, 1, 66, 67, 68, 69, 70, 71, 72, 73, 74, 75, 76, 77, 78, 79, 80, 81, 82, 83, 84, 85, 86, 87] (by decide +kernel) (by decide +kernel)
set_option maxRecDepth 20000 in
theorem gX4_appeal_X4_fails : GoodIn wsX4_appeal (wsV RX4 76 RX4 yX4_fails wsX4_fails) := goodIn_app (goodIn_of _ (by decide +kernel)) ggX4_appeal_X4_fails
set_option maxRecDepth 20000 in
theorem ggX4_appeal_X4_again : GoodIn wsX4_appeal wsX4_again := goodIn_r _ [13, 14, 15, 16, 17, 18, 19, 20, 21, 22, 8, 23, 24, 25, 26, 27, 28, 29, 30, 31, 32, 33, 34, 35, 36, 37, 38, 39, 40, 41, 42, 43, 44, 45, 46, 47, 48, 49, 50, 51, 52, 53, 54, 55, 56, 57, 58, 59, 60, 61, 62, 63, 64, 65, 66, 67, 68, 69, 70, 71, 72, 73, 74, 75, 76, 77, 78, 79, 80, 81, 82, 83, 84, 85, 86, 87] (by decide +kernel) (by decide +kernel)
set_option maxRecDepth 20000 in
theorem gX4_appeal_X4_again : GoodIn wsX4_appeal (wsV RX4 125 RX4 yX4_again wsX4_again) := goodIn_app (goodIn_of _ (by decide +kernel)) ggX4_appeal_X4_again
theorem dX4_appeal_0 : decode cX4_appeal 0 = .ok (.aload_n 0, 1) := by decide +kernel
theorem dX4_appeal_1 : decode cX4_appeal 1 = .ok (.iconst 0, 1) := by decide +kernel
theorem dX4_appeal_2 : decode cX4_appeal 2 = .ok (.putfield 61, 3) := by decide +kernel
theorem dX4_appeal_5 : decode cX4_appeal 5 = .ok (.aload_n 0, 1) := by decide +kernel
theorem dX4_appeal_6 : decode cX4_appeal 6 = .ok (.getfield 122, 3) := by decide +kernel
theorem dX4_appeal_9 : decode cX4_appeal 9 = .ok (.ifCond .ne 9, 3) := by decide +kernel
theorem dX4_appeal_12 : decode cX4_appeal 12 = .ok (.aload_n 0, 1) := by decide +kernel
theorem dX4_appeal_13 : decode cX4_appeal 13 = .ok (.iconst 1, 1) := by decide +kernel
theorem dX4_appeal_14 : decode cX4_appeal 14 = .ok (.invokevirtual 76, 3) := by decide +kernel
theorem dX4_appeal_17 : decode cX4_appeal 17 = .ok (.ireturn, 1) := by decide +kernel
theorem dX4_appeal_18 : decode cX4_appeal 18 = .ok (.aload_n 0, 1) := by decide +kernel
theorem dX4_appeal_19 : decode cX4_appeal 19 = .ok (.dup, 1) := by decide +kernel
theorem dX4_appeal_20 : decode cX4_appeal 20 = .ok (.getfield 122, 3) := by decide +kernel
theorem dX4_appeal_23 : decode cX4_appeal 23 = .ok (.iconst 1, 1) := by decide +kernel
theorem dX4_appeal_24 : decode cX4_appeal 24 = .ok (.isub, 1) := by decide +kernel
theorem dX4_appeal_25 : decode cX4_appeal 25 = .ok (.putfield 122, 3) := by decide +kernel
theorem dX4_appeal_28 : decode cX4_appeal 28 = .ok (.aload_n 0, 1) := by decide +kernel
theorem dX4_appeal_29 : decode cX4_appeal 29 = .ok (.aload_n 0, 1) := by decide +kernel
theorem dX4_appeal_30 : decode cX4_appeal 30 = .ok (.getfield 37, 3) := by decide +kernel
theorem dX4_appeal_33 : decode cX4_appeal 33 = .ok (.aload_n 0, 1) := by decide +kernel
theorem dX4_appeal_34 : decode cX4_appeal 34 = .ok (.getfield 122, 3) := by decide +kernel
theorem dX4_appeal_37 : decode cX4_appeal 37 = .ok (.iaload, 1) := by decide +kernel
theorem dX4_appeal_38 : decode cX4_appeal 38 = .ok (.aload_n 0, 1) := by decide +kernel
theorem dX4_appeal_39 : decode cX4_appeal 39 = .ok (.getfield 40, 3) := by decide +kernel
theorem dX4_appeal_42 : decode cX4_appeal 42 = .ok (.aload_n 0, 1) := by decide +kernel
theorem dX4_appeal_43 : decode cX4_appeal 43 = .ok (.getfield 122, 3) := by decide +kernel
theorem dX4_appeal_46 : decode cX4_appeal 46 = .ok (.iaload, 1) := by decide +kernel
theorem dX4_appeal_47 : decode cX4_appeal 47 = .ok (.invokevirtual 125, 3) := by decide +kernel
theorem dX4_appeal_50 : decode cX4_appeal 50 = .ok (.pop, 1) := by decide +kernel
theorem dX4_appeal_51 : decode cX4_appeal 51 = .ok (.aload_n 0, 1) := by decide +kernel
theorem dX4_appeal_52 : decode cX4_appeal 52 = .ok (.getfield 37, 3) := by decide +kernel
theorem dX4_appeal_55 : decode cX4_appeal 55 = .ok (.aload_n 0, 1) := by decide +kernel
theorem dX4_appeal_56 : decode cX4_appeal 56 = .ok (.getfield 122, 3) := by decide +kernel
theorem dX4_appeal_59 : decode cX4_appeal 59 = .ok (.iaload, 1) := by decide +kernel
theorem dX4_appeal_60 : decode cX4_appeal 60 = .ok (.ireturn, 1) := by decide +kernel
set_option maxRecDepth 20000 in
theorem ggX4_townOf_X4_isUnit : GoodIn wsX4_townOf wsX4_isUnit := goodIn_r _ [8, 9, 10, 11, 7, 12, 17, 18, 19, 20, 21, 22, 23, 24, 25, 26, 27, 28, 29, 30, 31, 32, 33, 34, 35, 36, 37, 38] (by decide +kernel) (by decide +kernel)
set_option maxRecDepth 20000 in
theorem gX4_townOf_X4_isUnit : GoodIn wsX4_townOf (wsV RX4 94 RX4 yX4_isUnit wsX4_isUnit) := goodIn_app (goodIn_of _ (by decide +kernel)) ggX4_townOf_X4_isUnit
set_option maxRecDepth 20000 in
theorem ggX4_townOf_X4_fails : GoodIn wsX4_townOf wsX4_fails := goodIn_r _ [16, 1, 17, 18, 19, 20, 21, 22, 23, 24, 25, 26, 27, 28, 29, 30, 31, 32, 33, 34, 35, 36, 37, 38] (by decide +kernel) (by decide +kernel)
set_option maxRecDepth 20000 in
theorem gX4_townOf_X4_fails : GoodIn wsX4_townOf (wsV RX4 76 RX4 yX4_fails wsX4_fails) := goodIn_app (goodIn_of _ (by decide +kernel)) ggX4_townOf_X4_fails
theorem dX4_townOf_0 : decode cX4_townOf 0 = .ok (.aload_n 0, 1) := by decide +kernel
theorem dX4_townOf_1 : decode cX4_townOf 1 = .ok (.iconst 0, 1) := by decide +kernel
theorem dX4_townOf_2 : decode cX4_townOf 2 = .ok (.putfield 61, 3) := by decide +kernel
theorem dX4_townOf_5 : decode cX4_townOf 5 = .ok (.aload_n 0, 1) := by decide +kernel
theorem dX4_townOf_6 : decode cX4_townOf 6 = .ok (.iload_n 1, 1) := by decide +kernel
theorem dX4_townOf_7 : decode cX4_townOf 7 = .ok (.invokevirtual 94, 3) := by decide +kernel
theorem dX4_townOf_10 : decode cX4_townOf 10 = .ok (.ifCond .eq 20, 3) := by decide +kernel
theorem dX4_townOf_13 : decode cX4_townOf 13 = .ok (.aload_n 0, 1) := by decide +kernel
theorem dX4_townOf_14 : decode cX4_townOf 14 = .ok (.getfield 19, 3) := by decide +kernel
theorem dX4_townOf_17 : decode cX4_townOf 17 = .ok (.bipush 12, 2) := by decide +kernel
theorem dX4_townOf_19 : decode cX4_townOf 19 = .ok (.aload_n 0, 1) := by decide +kernel
theorem dX4_townOf_20 : decode cX4_townOf 20 = .ok (.getfield 80, 3) := by decide +kernel
theorem dX4_townOf_23 : decode cX4_townOf 23 = .ok (.imul, 1) := by decide +kernel
theorem dX4_townOf_24 : decode cX4_townOf 24 = .ok (.iload_n 1, 1) := by decide +kernel
theorem dX4_townOf_25 : decode cX4_townOf 25 = .ok (.iadd, 1) := by decide +kernel
theorem dX4_townOf_26 : decode cX4_townOf 26 = .ok (.iaload, 1) := by decide +kernel
theorem dX4_townOf_27 : decode cX4_townOf 27 = .ok (.goto 8, 3) := by decide +kernel
theorem dX4_townOf_30 : decode cX4_townOf 30 = .ok (.aload_n 0, 1) := by decide +kernel
theorem dX4_townOf_31 : decode cX4_townOf 31 = .ok (.iconst 1, 1) := by decide +kernel
theorem dX4_townOf_32 : decode cX4_townOf 32 = .ok (.invokevirtual 76, 3) := by decide +kernel
theorem dX4_townOf_35 : decode cX4_townOf 35 = .ok (.ireturn, 1) := by decide +kernel
set_option maxRecDepth 20000 in
theorem ggX4_strength_X4_isUnit : GoodIn wsX4_strength wsX4_isUnit := goodIn_r _ [8, 9, 10, 11, 7, 12, 17, 18, 19, 20, 21, 22, 23, 24, 25, 26, 27, 28, 29, 30, 31, 32, 33, 34, 35, 36, 37, 38] (by decide +kernel) (by decide +kernel)
set_option maxRecDepth 20000 in
theorem gX4_strength_X4_isUnit : GoodIn wsX4_strength (wsV RX4 94 RX4 yX4_isUnit wsX4_isUnit) := goodIn_app (goodIn_of _ (by decide +kernel)) ggX4_strength_X4_isUnit
set_option maxRecDepth 20000 in
theorem ggX4_strength_X4_fails : GoodIn wsX4_strength wsX4_fails := goodIn_r _ [16, 1, 17, 18, 19, 20, 21, 22, 23, 24, 25, 26, 27, 28, 29, 30, 31, 32, 33, 34, 35, 36, 37, 38] (by decide +kernel) (by decide +kernel)
set_option maxRecDepth 20000 in
theorem gX4_strength_X4_fails : GoodIn wsX4_strength (wsV RX4 76 RX4 yX4_fails wsX4_fails) := goodIn_app (goodIn_of _ (by decide +kernel)) ggX4_strength_X4_fails
theorem dX4_strength_0 : decode cX4_strength 0 = .ok (.aload_n 0, 1) := by decide +kernel
theorem dX4_strength_1 : decode cX4_strength 1 = .ok (.iconst 0, 1) := by decide +kernel
theorem dX4_strength_2 : decode cX4_strength 2 = .ok (.putfield 61, 3) := by decide +kernel
theorem dX4_strength_5 : decode cX4_strength 5 = .ok (.aload_n 0, 1) := by decide +kernel
theorem dX4_strength_6 : decode cX4_strength 6 = .ok (.iload_n 1, 1) := by decide +kernel
theorem dX4_strength_7 : decode cX4_strength 7 = .ok (.invokevirtual 94, 3) := by decide +kernel
theorem dX4_strength_10 : decode cX4_strength 10 = .ok (.ifCond .eq 20, 3) := by decide +kernel
theorem dX4_strength_13 : decode cX4_strength 13 = .ok (.aload_n 0, 1) := by decide +kernel
theorem dX4_strength_14 : decode cX4_strength 14 = .ok (.getfield 22, 3) := by decide +kernel
theorem dX4_strength_17 : decode cX4_strength 17 = .ok (.bipush 12, 2) := by decide +kernel
theorem dX4_strength_19 : decode cX4_strength 19 = .ok (.aload_n 0, 1) := by decide +kernel
theorem dX4_strength_20 : decode cX4_strength 20 = .ok (.getfield 80, 3) := by decide +kernel
theorem dX4_strength_23 : decode cX4_strength 23 = .ok (.imul, 1) := by decide +kernel
theorem dX4_strength_24 : decode cX4_strength 24 = .ok (.iload_n 1, 1) := by decide +kernel
theorem dX4_strength_25 : decode cX4_strength 25 = .ok (.iadd, 1) := by decide +kernel
theorem dX4_strength_26 : decode cX4_strength 26 = .ok (.iaload, 1) := by decide +kernel
theorem dX4_strength_27 : decode cX4_strength 27 = .ok (.goto 8, 3) := by decide +kernel
theorem dX4_strength_30 : decode cX4_strength 30 = .ok (.aload_n 0, 1) := by decide +kernel
theorem dX4_strength_31 : decode cX4_strength 31 = .ok (.iconst 1, 1) := by decide +kernel
theorem dX4_strength_32 : decode cX4_strength 32 = .ok (.invokevirtual 76, 3) := by decide +kernel
theorem dX4_strength_35 : decode cX4_strength 35 = .ok (.ireturn, 1) := by decide +kernel
set_option maxRecDepth 20000 in
theorem ggX4_supply_X4_isUnit : GoodIn wsX4_supply wsX4_isUnit := goodIn_r _ [7, 8, 9, 10, 6, 11, 40, 41, 42, 43, 44, 45, 46, 47, 48, 49, 50, 51, 52, 53, 54, 55, 56, 57, 58, 59, 60, 61] (by decide +kernel) (by decide +kernel)
set_option maxRecDepth 20000 in
theorem gX4_supply_X4_isUnit : GoodIn wsX4_supply (wsV RX4 94 RX4 yX4_isUnit wsX4_isUnit) := goodIn_app (goodIn_of _ (by decide +kernel)) ggX4_supply_X4_isUnit
set_option maxRecDepth 20000 in
theorem ggX4_supply_X4_fails : GoodIn wsX4_supply wsX4_fails := goodIn_r _ [15, 1, 40, 41, 42, 43, 44, 45, 46, 47, 48, 49, 50, 51, 52, 53, 54, 55, 56, 57, 58, 59, 60, 61] (by decide +kernel) (by decide +kernel)
set_option maxRecDepth 20000 in
theorem gX4_supply_X4_fails : GoodIn wsX4_supply (wsV RX4 76 RX4 yX4_fails wsX4_fails) := goodIn_app (goodIn_of _ (by decide +kernel)) ggX4_supply_X4_fails
set_option maxRecDepth 20000 in
theorem ggX4_supply_X4_in : GoodIn wsX4_supply wsX4_in := goodIn_r _ [11] (by decide +kernel) (by decide +kernel)
set_option maxRecDepth 20000 in
theorem gX4_supply_X4_in : GoodIn wsX4_supply (va_wsS RX4 65 yX4_in wsX4_in) := goodIn_app (goodIn_of _ (by decide +kernel)) ggX4_supply_X4_in
set_option maxRecDepth 20000 in
theorem ggX4_supply_X4_take : GoodIn wsX4_supply wsX4_take := goodIn_r _ [19, 8, 20, 21, 22, 23, 40, 41, 42, 43, 44, 45, 46, 47, 48, 49, 50, 51, 52, 53, 54, 55, 56, 57, 58, 59, 60, 61] (by decide +kernel) (by decide +kernel)
set_option maxRecDepth 20000 in
theorem gX4_supply_X4_take : GoodIn wsX4_supply (wsV RX4 86 RX4 yX4_take wsX4_take) := goodIn_app (goodIn_of _ (by decide +kernel)) ggX4_supply_X4_take
set_option maxRecDepth 20000 in
theorem ggX4_supply_X4_supplyOf : GoodIn wsX4_supply wsX4_supplyOf := goodIn_r _ [27, 28, 29, 20, 30, 31, 32, 33, 6, 34, 8, 35, 36, 37, 38, 39, 40, 41, 42, 43, 44, 45, 46, 47, 48, 49, 50, 51, 52, 53, 54, 55, 56, 57, 58, 59, 60, 61] (by decide +kernel) (by decide +kernel)
set_option maxRecDepth 20000 in
theorem gX4_supply_X4_supplyOf : GoodIn wsX4_supply (wsV RX4 104 RX4 yX4_supplyOf wsX4_supplyOf) := goodIn_app (goodIn_of _ (by decide +kernel)) ggX4_supply_X4_supplyOf
theorem dX4_supply_0 : decode cX4_supply 0 = .ok (.aload_n 0, 1) := by decide +kernel
theorem dX4_supply_1 : decode cX4_supply 1 = .ok (.iconst 0, 1) := by decide +kernel
theorem dX4_supply_2 : decode cX4_supply 2 = .ok (.putfield 61, 3) := by decide +kernel
theorem dX4_supply_5 : decode cX4_supply 5 = .ok (.aload_n 0, 1) := by decide +kernel
theorem dX4_supply_6 : decode cX4_supply 6 = .ok (.iload_n 1, 1) := by decide +kernel
theorem dX4_supply_7 : decode cX4_supply 7 = .ok (.invokevirtual 94, 3) := by decide +kernel
theorem dX4_supply_10 : decode cX4_supply 10 = .ok (.ifCond .ne 9, 3) := by decide +kernel
theorem dX4_supply_13 : decode cX4_supply 13 = .ok (.aload_n 0, 1) := by decide +kernel
theorem dX4_supply_14 : decode cX4_supply 14 = .ok (.iconst 1, 1) := by decide +kernel
theorem dX4_supply_15 : decode cX4_supply 15 = .ok (.invokevirtual 76, 3) := by decide +kernel
theorem dX4_supply_18 : decode cX4_supply 18 = .ok (.ireturn, 1) := by decide +kernel
theorem dX4_supply_19 : decode cX4_supply 19 = .ok (.iload_n 2, 1) := by decide +kernel
theorem dX4_supply_20 : decode cX4_supply 20 = .ok (.iconst 0, 1) := by decide +kernel
theorem dX4_supply_21 : decode cX4_supply 21 = .ok (.iconst 2, 1) := by decide +kernel
theorem dX4_supply_22 : decode cX4_supply 22 = .ok (.invokestatic 65, 3) := by decide +kernel
theorem dX4_supply_25 : decode cX4_supply 25 = .ok (.ifCond .ne 9, 3) := by decide +kernel
theorem dX4_supply_28 : decode cX4_supply 28 = .ok (.aload_n 0, 1) := by decide +kernel
theorem dX4_supply_29 : decode cX4_supply 29 = .ok (.iconst 2, 1) := by decide +kernel
theorem dX4_supply_30 : decode cX4_supply 30 = .ok (.invokevirtual 76, 3) := by decide +kernel
theorem dX4_supply_33 : decode cX4_supply 33 = .ok (.ireturn, 1) := by decide +kernel
theorem dX4_supply_34 : decode cX4_supply 34 = .ok (.aload_n 0, 1) := by decide +kernel
theorem dX4_supply_35 : decode cX4_supply 35 = .ok (.aload_n 0, 1) := by decide +kernel
theorem dX4_supply_36 : decode cX4_supply 36 = .ok (.getfield 80, 3) := by decide +kernel
theorem dX4_supply_39 : decode cX4_supply 39 = .ok (.invokevirtual 86, 3) := by decide +kernel
theorem dX4_supply_42 : decode cX4_supply 42 = .ok (.aload_n 0, 1) := by decide +kernel
theorem dX4_supply_43 : decode cX4_supply 43 = .ok (.iload_n 1, 1) := by decide +kernel
theorem dX4_supply_44 : decode cX4_supply 44 = .ok (.iload_n 2, 1) := by decide +kernel
theorem dX4_supply_45 : decode cX4_supply 45 = .ok (.invokevirtual 104, 3) := by decide +kernel
theorem dX4_supply_48 : decode cX4_supply 48 = .ok (.ireturn, 1) := by decide +kernel
set_option maxRecDepth 20000 in
theorem ggX4_townAfter_X4_isUnit : GoodIn wsX4_townAfter wsX4_isUnit := goodIn_r _ [8, 9, 10, 11, 7, 12, 17, 18, 19, 20, 21, 22, 23, 24, 25, 26, 27, 28, 29, 30, 31, 32, 33, 34, 35, 36, 37, 38] (by decide +kernel) (by decide +kernel)
set_option maxRecDepth 20000 in
theorem gX4_townAfter_X4_isUnit : GoodIn wsX4_townAfter (wsV RX4 94 RX4 yX4_isUnit wsX4_isUnit) := goodIn_app (goodIn_of _ (by decide +kernel)) ggX4_townAfter_X4_isUnit
set_option maxRecDepth 20000 in
theorem ggX4_townAfter_X4_in : GoodIn wsX4_townAfter wsX4_in := goodIn_r _ [12] (by decide +kernel) (by decide +kernel)
set_option maxRecDepth 20000 in
theorem gX4_townAfter_X4_in : GoodIn wsX4_townAfter (va_wsS RX4 65 yX4_in wsX4_in) := goodIn_app (goodIn_of _ (by decide +kernel)) ggX4_townAfter_X4_in
set_option maxRecDepth 20000 in
theorem ggX4_townAfter_X4_fails : GoodIn wsX4_townAfter wsX4_fails := goodIn_r _ [16, 1, 17, 18, 19, 20, 21, 22, 23, 24, 25, 26, 27, 28, 29, 30, 31, 32, 33, 34, 35, 36, 37, 38] (by decide +kernel) (by decide +kernel)
set_option maxRecDepth 20000 in
theorem gX4_townAfter_X4_fails : GoodIn wsX4_townAfter (wsV RX4 76 RX4 yX4_fails wsX4_fails) := goodIn_app (goodIn_of _ (by decide +kernel)) ggX4_townAfter_X4_fails
theorem dX4_townAfter_0 : decode cX4_townAfter 0 = .ok (.aload_n 0, 1) := by decide +kernel
theorem dX4_townAfter_1 : decode cX4_townAfter 1 = .ok (.iconst 0, 1) := by decide +kernel
theorem dX4_townAfter_2 : decode cX4_townAfter 2 = .ok (.putfield 61, 3) := by decide +kernel
theorem dX4_townAfter_5 : decode cX4_townAfter 5 = .ok (.aload_n 0, 1) := by decide +kernel
theorem dX4_townAfter_6 : decode cX4_townAfter 6 = .ok (.iload_n 1, 1) := by decide +kernel
theorem dX4_townAfter_7 : decode cX4_townAfter 7 = .ok (.invokevirtual 94, 3) := by decide +kernel
theorem dX4_townAfter_10 : decode cX4_townAfter 10 = .ok (.ifCond .eq 33, 3) := by decide +kernel
theorem dX4_townAfter_13 : decode cX4_townAfter 13 = .ok (.iload_n 2, 1) := by decide +kernel
theorem dX4_townAfter_14 : decode cX4_townAfter 14 = .ok (.iconst 0, 1) := by decide +kernel
theorem dX4_townAfter_15 : decode cX4_townAfter 15 = .ok (.aload_n 0, 1) := by decide +kernel
theorem dX4_townAfter_16 : decode cX4_townAfter 16 = .ok (.getfield 80, 3) := by decide +kernel
theorem dX4_townAfter_19 : decode cX4_townAfter 19 = .ok (.iconst 1, 1) := by decide +kernel
theorem dX4_townAfter_20 : decode cX4_townAfter 20 = .ok (.isub, 1) := by decide +kernel
theorem dX4_townAfter_21 : decode cX4_townAfter 21 = .ok (.invokestatic 65, 3) := by decide +kernel
theorem dX4_townAfter_24 : decode cX4_townAfter 24 = .ok (.ifCond .eq 19, 3) := by decide +kernel
theorem dX4_townAfter_27 : decode cX4_townAfter 27 = .ok (.aload_n 0, 1) := by decide +kernel
theorem dX4_townAfter_28 : decode cX4_townAfter 28 = .ok (.getfield 19, 3) := by decide +kernel
theorem dX4_townAfter_31 : decode cX4_townAfter 31 = .ok (.bipush 12, 2) := by decide +kernel
theorem dX4_townAfter_33 : decode cX4_townAfter 33 = .ok (.iload_n 2, 1) := by decide +kernel
theorem dX4_townAfter_34 : decode cX4_townAfter 34 = .ok (.iconst 1, 1) := by decide +kernel
theorem dX4_townAfter_35 : decode cX4_townAfter 35 = .ok (.iadd, 1) := by decide +kernel
theorem dX4_townAfter_36 : decode cX4_townAfter 36 = .ok (.imul, 1) := by decide +kernel
theorem dX4_townAfter_37 : decode cX4_townAfter 37 = .ok (.iload_n 1, 1) := by decide +kernel
theorem dX4_townAfter_38 : decode cX4_townAfter 38 = .ok (.iadd, 1) := by decide +kernel
theorem dX4_townAfter_39 : decode cX4_townAfter 39 = .ok (.iaload, 1) := by decide +kernel
theorem dX4_townAfter_40 : decode cX4_townAfter 40 = .ok (.goto 8, 3) := by decide +kernel
theorem dX4_townAfter_43 : decode cX4_townAfter 43 = .ok (.aload_n 0, 1) := by decide +kernel
theorem dX4_townAfter_44 : decode cX4_townAfter 44 = .ok (.iconst 1, 1) := by decide +kernel
theorem dX4_townAfter_45 : decode cX4_townAfter 45 = .ok (.invokevirtual 76, 3) := by decide +kernel
theorem dX4_townAfter_48 : decode cX4_townAfter 48 = .ok (.ireturn, 1) := by decide +kernel
set_option maxRecDepth 20000 in
theorem ggX4_reported_X4_in : GoodIn wsX4_reported wsX4_in := goodIn_r _ [8] (by decide +kernel) (by decide +kernel)
set_option maxRecDepth 20000 in
theorem gX4_reported_X4_in : GoodIn wsX4_reported (va_wsS RX4 65 yX4_in wsX4_in) := goodIn_app (goodIn_of _ (by decide +kernel)) ggX4_reported_X4_in
set_option maxRecDepth 20000 in
theorem ggX4_reported_X4_fails : GoodIn wsX4_reported wsX4_fails := goodIn_r _ [12, 1, 18, 19, 20, 21, 22, 23, 24, 25, 26, 27, 28, 29, 30, 31, 32, 33, 34, 35, 36, 37, 38, 39] (by decide +kernel) (by decide +kernel)
set_option maxRecDepth 20000 in
theorem gX4_reported_X4_fails : GoodIn wsX4_reported (wsV RX4 76 RX4 yX4_fails wsX4_fails) := goodIn_app (goodIn_of _ (by decide +kernel)) ggX4_reported_X4_fails
set_option maxRecDepth 20000 in
theorem ggX4_reported_X4_isUnit : GoodIn wsX4_reported wsX4_isUnit := goodIn_r _ [16, 17, 5, 6, 7, 8, 18, 19, 20, 21, 22, 23, 24, 25, 26, 27, 28, 29, 30, 31, 32, 33, 34, 35, 36, 37, 38, 39] (by decide +kernel) (by decide +kernel)
set_option maxRecDepth 20000 in
theorem gX4_reported_X4_isUnit : GoodIn wsX4_reported (wsV RX4 94 RX4 yX4_isUnit wsX4_isUnit) := goodIn_app (goodIn_of _ (by decide +kernel)) ggX4_reported_X4_isUnit
theorem dX4_reported_0 : decode cX4_reported 0 = .ok (.aload_n 0, 1) := by decide +kernel
theorem dX4_reported_1 : decode cX4_reported 1 = .ok (.iconst 0, 1) := by decide +kernel
theorem dX4_reported_2 : decode cX4_reported 2 = .ok (.putfield 61, 3) := by decide +kernel
theorem dX4_reported_5 : decode cX4_reported 5 = .ok (.iload_n 1, 1) := by decide +kernel
theorem dX4_reported_6 : decode cX4_reported 6 = .ok (.iconst 0, 1) := by decide +kernel
theorem dX4_reported_7 : decode cX4_reported 7 = .ok (.iconst 1, 1) := by decide +kernel
theorem dX4_reported_8 : decode cX4_reported 8 = .ok (.invokestatic 65, 3) := by decide +kernel
theorem dX4_reported_11 : decode cX4_reported 11 = .ok (.ifCond .ne 9, 3) := by decide +kernel
theorem dX4_reported_14 : decode cX4_reported 14 = .ok (.aload_n 0, 1) := by decide +kernel
theorem dX4_reported_15 : decode cX4_reported 15 = .ok (.iconst 1, 1) := by decide +kernel
theorem dX4_reported_16 : decode cX4_reported 16 = .ok (.invokevirtual 76, 3) := by decide +kernel
theorem dX4_reported_19 : decode cX4_reported 19 = .ok (.ireturn, 1) := by decide +kernel
theorem dX4_reported_20 : decode cX4_reported 20 = .ok (.aload_n 0, 1) := by decide +kernel
theorem dX4_reported_21 : decode cX4_reported 21 = .ok (.iload_n 2, 1) := by decide +kernel
theorem dX4_reported_22 : decode cX4_reported 22 = .ok (.invokevirtual 94, 3) := by decide +kernel
theorem dX4_reported_25 : decode cX4_reported 25 = .ok (.ifCond .eq 13, 3) := by decide +kernel
theorem dX4_reported_28 : decode cX4_reported 28 = .ok (.aload_n 0, 1) := by decide +kernel
theorem dX4_reported_29 : decode cX4_reported 29 = .ok (.getfield 16, 3) := by decide +kernel
theorem dX4_reported_32 : decode cX4_reported 32 = .ok (.iload_n 2, 1) := by decide +kernel
theorem dX4_reported_33 : decode cX4_reported 33 = .ok (.iaload, 1) := by decide +kernel
theorem dX4_reported_34 : decode cX4_reported 34 = .ok (.iload_n 1, 1) := by decide +kernel
theorem dX4_reported_35 : decode cX4_reported 35 = .ok (.if_icmp .ne 9, 3) := by decide +kernel
theorem dX4_reported_38 : decode cX4_reported 38 = .ok (.aload_n 0, 1) := by decide +kernel
theorem dX4_reported_39 : decode cX4_reported 39 = .ok (.iconst 2, 1) := by decide +kernel
theorem dX4_reported_40 : decode cX4_reported 40 = .ok (.invokevirtual 76, 3) := by decide +kernel
theorem dX4_reported_43 : decode cX4_reported 43 = .ok (.ireturn, 1) := by decide +kernel
theorem dX4_reported_44 : decode cX4_reported 44 = .ok (.aload_n 0, 1) := by decide +kernel
theorem dX4_reported_45 : decode cX4_reported 45 = .ok (.getfield 80, 3) := by decide +kernel
theorem dX4_reported_48 : decode cX4_reported 48 = .ok (.iconst 3, 1) := by decide +kernel
theorem dX4_reported_49 : decode cX4_reported 49 = .ok (.isub, 1) := by decide +kernel
theorem dX4_reported_50 : decode cX4_reported 50 = .ok (.istore_n 3, 1) := by decide +kernel
theorem dX4_reported_51 : decode cX4_reported 51 = .ok (.iload_n 3, 1) := by decide +kernel
theorem dX4_reported_52 : decode cX4_reported 52 = .ok (.ifCond .lt 36, 3) := by decide +kernel
theorem dX4_reported_55 : decode cX4_reported 55 = .ok (.aload_n 0, 1) := by decide +kernel
theorem dX4_reported_56 : decode cX4_reported 56 = .ok (.getfield 34, 3) := by decide +kernel
theorem dX4_reported_59 : decode cX4_reported 59 = .ok (.bipush 12, 2) := by decide +kernel
theorem dX4_reported_61 : decode cX4_reported 61 = .ok (.iload_n 3, 1) := by decide +kernel
theorem dX4_reported_62 : decode cX4_reported 62 = .ok (.imul, 1) := by decide +kernel
theorem dX4_reported_63 : decode cX4_reported 63 = .ok (.iload_n 2, 1) := by decide +kernel
theorem dX4_reported_64 : decode cX4_reported 64 = .ok (.iadd, 1) := by decide +kernel
theorem dX4_reported_65 : decode cX4_reported 65 = .ok (.iaload, 1) := by decide +kernel
theorem dX4_reported_66 : decode cX4_reported 66 = .ok (.iconst (-1), 1) := by decide +kernel
theorem dX4_reported_67 : decode cX4_reported 67 = .ok (.if_icmp .eq 15, 3) := by decide +kernel
theorem dX4_reported_70 : decode cX4_reported 70 = .ok (.aload_n 0, 1) := by decide +kernel
theorem dX4_reported_71 : decode cX4_reported 71 = .ok (.getfield 34, 3) := by decide +kernel
theorem dX4_reported_74 : decode cX4_reported 74 = .ok (.bipush 12, 2) := by decide +kernel
theorem dX4_reported_76 : decode cX4_reported 76 = .ok (.iload_n 3, 1) := by decide +kernel
theorem dX4_reported_77 : decode cX4_reported 77 = .ok (.imul, 1) := by decide +kernel
theorem dX4_reported_78 : decode cX4_reported 78 = .ok (.iload_n 2, 1) := by decide +kernel
theorem dX4_reported_79 : decode cX4_reported 79 = .ok (.iadd, 1) := by decide +kernel
theorem dX4_reported_80 : decode cX4_reported 80 = .ok (.iaload, 1) := by decide +kernel
theorem dX4_reported_81 : decode cX4_reported 81 = .ok (.ireturn, 1) := by decide +kernel
theorem dX4_reported_82 : decode cX4_reported 82 = .ok (.iinc 3 (-1), 3) := by decide +kernel
theorem dX4_reported_85 : decode cX4_reported 85 = .ok (.goto (-34), 3) := by decide +kernel
theorem dX4_reported_88 : decode cX4_reported 88 = .ok (.iconst (-1), 1) := by decide +kernel
theorem dX4_reported_89 : decode cX4_reported 89 = .ok (.ireturn, 1) := by decide +kernel
set_option maxRecDepth 20000 in
theorem ggX4_force_X4_in : GoodIn wsX4_force wsX4_in := goodIn_r _ [9] (by decide +kernel) (by decide +kernel)
set_option maxRecDepth 20000 in
theorem gX4_force_X4_in : GoodIn wsX4_force (va_wsS RX4 65 yX4_in wsX4_in) := goodIn_app (goodIn_of _ (by decide +kernel)) ggX4_force_X4_in
set_option maxRecDepth 20000 in
theorem ggX4_force_X4_fails : GoodIn wsX4_force wsX4_fails := goodIn_r _ [13, 1, 14, 15, 16, 17, 18, 19, 20, 21, 22, 23, 24, 25, 26, 27, 28, 29, 30, 31, 32, 33, 34, 35] (by decide +kernel) (by decide +kernel)
set_option maxRecDepth 20000 in
theorem gX4_force_X4_fails : GoodIn wsX4_force (wsV RX4 76 RX4 yX4_fails wsX4_fails) := goodIn_app (goodIn_of _ (by decide +kernel)) ggX4_force_X4_fails
theorem dX4_force_0 : decode cX4_force 0 = .ok (.aload_n 0, 1) := by decide +kernel
theorem dX4_force_1 : decode cX4_force 1 = .ok (.iconst 0, 1) := by decide +kernel
theorem dX4_force_2 : decode cX4_force 2 = .ok (.putfield 61, 3) := by decide +kernel
theorem dX4_force_5 : decode cX4_force 5 = .ok (.iload_n 1, 1) := by decide +kernel
theorem dX4_force_6 : decode cX4_force 6 = .ok (.iconst 0, 1) := by decide +kernel
theorem dX4_force_7 : decode cX4_force 7 = .ok (.iconst 1, 1) := by decide +kernel
theorem dX4_force_8 : decode cX4_force 8 = .ok (.invokestatic 65, 3) := by decide +kernel
theorem dX4_force_11 : decode cX4_force 11 = .ok (.ifCond .ne 9, 3) := by decide +kernel
theorem dX4_force_14 : decode cX4_force 14 = .ok (.aload_n 0, 1) := by decide +kernel
theorem dX4_force_15 : decode cX4_force 15 = .ok (.iconst 1, 1) := by decide +kernel
theorem dX4_force_16 : decode cX4_force 16 = .ok (.invokevirtual 76, 3) := by decide +kernel
theorem dX4_force_19 : decode cX4_force 19 = .ok (.ireturn, 1) := by decide +kernel
theorem dX4_force_20 : decode cX4_force 20 = .ok (.iconst 0, 1) := by decide +kernel
theorem dX4_force_21 : decode cX4_force 21 = .ok (.istore_n 2, 1) := by decide +kernel
theorem dX4_force_22 : decode cX4_force 22 = .ok (.iconst 0, 1) := by decide +kernel
theorem dX4_force_23 : decode cX4_force 23 = .ok (.istore_n 3, 1) := by decide +kernel
theorem dX4_force_24 : decode cX4_force 24 = .ok (.iload_n 3, 1) := by decide +kernel
theorem dX4_force_25 : decode cX4_force 25 = .ok (.aload_n 0, 1) := by decide +kernel
theorem dX4_force_26 : decode cX4_force 26 = .ok (.getfield 69, 3) := by decide +kernel
theorem dX4_force_29 : decode cX4_force 29 = .ok (.if_icmp .ge 40, 3) := by decide +kernel
theorem dX4_force_32 : decode cX4_force 32 = .ok (.iload_n 2, 1) := by decide +kernel
theorem dX4_force_33 : decode cX4_force 33 = .ok (.aload_n 0, 1) := by decide +kernel
theorem dX4_force_34 : decode cX4_force 34 = .ok (.getfield 16, 3) := by decide +kernel
theorem dX4_force_37 : decode cX4_force 37 = .ok (.iload_n 3, 1) := by decide +kernel
theorem dX4_force_38 : decode cX4_force 38 = .ok (.iaload, 1) := by decide +kernel
theorem dX4_force_39 : decode cX4_force 39 = .ok (.iload_n 1, 1) := by decide +kernel
theorem dX4_force_40 : decode cX4_force 40 = .ok (.if_icmp .ne 20, 3) := by decide +kernel
theorem dX4_force_43 : decode cX4_force 43 = .ok (.aload_n 0, 1) := by decide +kernel
theorem dX4_force_44 : decode cX4_force 44 = .ok (.getfield 22, 3) := by decide +kernel
theorem dX4_force_47 : decode cX4_force 47 = .ok (.bipush 12, 2) := by decide +kernel
theorem dX4_force_49 : decode cX4_force 49 = .ok (.aload_n 0, 1) := by decide +kernel
theorem dX4_force_50 : decode cX4_force 50 = .ok (.getfield 80, 3) := by decide +kernel
theorem dX4_force_53 : decode cX4_force 53 = .ok (.imul, 1) := by decide +kernel
theorem dX4_force_54 : decode cX4_force 54 = .ok (.iload_n 3, 1) := by decide +kernel
theorem dX4_force_55 : decode cX4_force 55 = .ok (.iadd, 1) := by decide +kernel
theorem dX4_force_56 : decode cX4_force 56 = .ok (.iaload, 1) := by decide +kernel
theorem dX4_force_57 : decode cX4_force 57 = .ok (.goto 4, 3) := by decide +kernel
theorem dX4_force_60 : decode cX4_force 60 = .ok (.iconst 0, 1) := by decide +kernel
theorem dX4_force_61 : decode cX4_force 61 = .ok (.iadd, 1) := by decide +kernel
theorem dX4_force_62 : decode cX4_force 62 = .ok (.istore_n 2, 1) := by decide +kernel
theorem dX4_force_63 : decode cX4_force 63 = .ok (.iinc 3 1, 3) := by decide +kernel
theorem dX4_force_66 : decode cX4_force 66 = .ok (.goto (-42), 3) := by decide +kernel
theorem dX4_force_69 : decode cX4_force 69 = .ok (.iload_n 2, 1) := by decide +kernel
theorem dX4_force_70 : decode cX4_force 70 = .ok (.ireturn, 1) := by decide +kernel
set_option maxRecDepth 20000 in
theorem ggX4_weather_X4_in : GoodIn wsX4_weather wsX4_in := goodIn_r _ [7] (by decide +kernel) (by decide +kernel)
set_option maxRecDepth 20000 in
theorem gX4_weather_X4_in : GoodIn wsX4_weather (va_wsS RX4 65 yX4_in wsX4_in) := goodIn_app (goodIn_of _ (by decide +kernel)) ggX4_weather_X4_in
set_option maxRecDepth 20000 in
theorem ggX4_weather_X4_fails : GoodIn wsX4_weather wsX4_fails := goodIn_r _ [11, 1, 12, 13, 14, 15, 16, 17, 18, 19, 20, 21, 22, 23, 24, 25, 26, 27, 28, 29, 30, 31, 32, 33] (by decide +kernel) (by decide +kernel)
set_option maxRecDepth 20000 in
theorem gX4_weather_X4_fails : GoodIn wsX4_weather (wsV RX4 76 RX4 yX4_fails wsX4_fails) := goodIn_app (goodIn_of _ (by decide +kernel)) ggX4_weather_X4_fails
theorem dX4_weather_0 : decode cX4_weather 0 = .ok (.aload_n 0, 1) := by decide +kernel
theorem dX4_weather_1 : decode cX4_weather 1 = .ok (.iconst 0, 1) := by decide +kernel
theorem dX4_weather_2 : decode cX4_weather 2 = .ok (.putfield 61, 3) := by decide +kernel
theorem dX4_weather_5 : decode cX4_weather 5 = .ok (.iload_n 1, 1) := by decide +kernel
theorem dX4_weather_6 : decode cX4_weather 6 = .ok (.iconst 0, 1) := by decide +kernel
theorem dX4_weather_7 : decode cX4_weather 7 = .ok (.aload_n 0, 1) := by decide +kernel
theorem dX4_weather_8 : decode cX4_weather 8 = .ok (.getfield 80, 3) := by decide +kernel
theorem dX4_weather_11 : decode cX4_weather 11 = .ok (.iconst 1, 1) := by decide +kernel
theorem dX4_weather_12 : decode cX4_weather 12 = .ok (.isub, 1) := by decide +kernel
theorem dX4_weather_13 : decode cX4_weather 13 = .ok (.invokestatic 65, 3) := by decide +kernel
theorem dX4_weather_16 : decode cX4_weather 16 = .ok (.ifCond .eq 12, 3) := by decide +kernel
theorem dX4_weather_19 : decode cX4_weather 19 = .ok (.aload_n 0, 1) := by decide +kernel
theorem dX4_weather_20 : decode cX4_weather 20 = .ok (.getfield 31, 3) := by decide +kernel
theorem dX4_weather_23 : decode cX4_weather 23 = .ok (.iload_n 1, 1) := by decide +kernel
theorem dX4_weather_24 : decode cX4_weather 24 = .ok (.iaload, 1) := by decide +kernel
theorem dX4_weather_25 : decode cX4_weather 25 = .ok (.goto 8, 3) := by decide +kernel
theorem dX4_weather_28 : decode cX4_weather 28 = .ok (.aload_n 0, 1) := by decide +kernel
theorem dX4_weather_29 : decode cX4_weather 29 = .ok (.iconst 1, 1) := by decide +kernel
theorem dX4_weather_30 : decode cX4_weather 30 = .ok (.invokevirtual 76, 3) := by decide +kernel
theorem dX4_weather_33 : decode cX4_weather 33 = .ok (.ireturn, 1) := by decide +kernel
theorem dX4_rulings_0 : decode cX4_rulings 0 = .ok (.aload_n 0, 1) := by decide +kernel
theorem dX4_rulings_1 : decode cX4_rulings 1 = .ok (.iconst 0, 1) := by decide +kernel
theorem dX4_rulings_2 : decode cX4_rulings 2 = .ok (.putfield 61, 3) := by decide +kernel
theorem dX4_rulings_5 : decode cX4_rulings 5 = .ok (.aload_n 0, 1) := by decide +kernel
theorem dX4_rulings_6 : decode cX4_rulings 6 = .ok (.getfield 122, 3) := by decide +kernel
theorem dX4_rulings_9 : decode cX4_rulings 9 = .ok (.ireturn, 1) := by decide +kernel
