set_option maxRecDepth 20000 in
theorem ggX8_init_X3_init : GoodIn wsX8_init wsX3_init := goodIn_r _ [38, 39, 2, 3, 40, 29, 30, 41, 42, 43, 44, 45, 46, 47, 48, 49, 153, 111, 112, 113, 114] (by decide +kernel) (by decide +kernel)
set_option maxRecDepth 20000 in
theorem gX8_init_X3_init_n11 : GoodIn wsX8_init (wsX3_init) := ggX8_init_X3_init
set_option maxRecDepth 20000 in
theorem ggX8_init_X1_init : GoodIn wsX8_init wsX1_init := goodIn_r _ [51, 52, 2, 3, 53, 29, 30, 54, 55, 56, 57, 58, 59, 45, 46, 47, 48, 49, 153, 123, 124, 125, 126, 127, 128] (by decide +kernel) (by decide +kernel)
set_option maxRecDepth 20000 in
theorem gX8_init_X1_init_n18 : GoodIn wsX8_init (wsX1_init) := ggX8_init_X1_init
set_option maxRecDepth 20000 in
theorem ggX8_init_X7_init : GoodIn wsX8_init wsX7_init := goodIn_r _ [61, 62, 2, 3, 63, 29, 30, 64, 65, 45, 46, 47, 48, 49, 153, 129, 130, 131, 132, 133] (by decide +kernel) (by decide +kernel)
set_option maxRecDepth 20000 in
theorem gX8_init_X7_init_n25 : GoodIn wsX8_init (wsX7_init) := ggX8_init_X7_init
set_option maxRecDepth 20000 in
theorem ggX8_init_X0_init : GoodIn wsX8_init wsX0_init := goodIn_r _ [67, 68, 2, 3, 69, 29, 30, 70, 71, 72, 73, 74, 75, 76, 77, 78, 79, 80, 45, 46, 47, 48, 49, 153, 134, 135, 136, 137, 138, 139, 140, 141, 142, 143, 144, 145] (by decide +kernel) (by decide +kernel)
set_option maxRecDepth 20000 in
theorem gX8_init_X0_init_n32 : GoodIn wsX8_init (wsX0_init) := ggX8_init_X0_init
set_option maxRecDepth 20000 in
theorem ggX8_init_X6_init : GoodIn wsX8_init wsX6_init := goodIn_r _ [83, 84, 2, 3, 85, 86, 146, 147] (by decide +kernel) (by decide +kernel)
set_option maxRecDepth 20000 in
theorem gX8_init_X6_init : GoodIn wsX8_init (wsX6_init) := ggX8_init_X6_init
set_option maxRecDepth 20000 in
theorem ggX8_init_X4_init : GoodIn wsX8_init wsX4_init := goodIn_r _ [88, 89, 2, 3, 90, 29, 30, 91, 92, 93, 94, 95, 45, 46, 47, 48, 49, 153, 148, 149, 150, 151, 152] (by decide +kernel) (by decide +kernel)
set_option maxRecDepth 20000 in
theorem gX8_init_X4_init_n48 : GoodIn wsX8_init (wsX4_init) := ggX8_init_X4_init
set_option maxRecDepth 20000 in
theorem ggX8_init_X5_init : GoodIn wsX8_init wsX5_init := goodIn_r _ [46, 47, 2, 3, 48, 49, 153] (by decide +kernel) (by decide +kernel)
set_option maxRecDepth 20000 in
theorem gX8_init_X5_init : GoodIn wsX8_init (wsX5_init) := ggX8_init_X5_init
set_option maxRecDepth 20000 in
theorem ggX8_init_X5_set : GoodIn wsX8_init wsX5_set := goodIn_r _ [100, 49, 153] (by decide +kernel) (by decide +kernel)
set_option maxRecDepth 20000 in
theorem gX8_init_X5_set : GoodIn wsX8_init (wsV RX8 64 RX5 yX5_set wsX5_set) := goodIn_app (goodIn_of _ (by decide +kernel)) ggX8_init_X5_set
set_option maxRecDepth 20000 in
theorem ggX8_init_X2_init : GoodIn wsX8_init wsX2_init := goodIn_r _ [102, 103, 2, 3, 104, 29, 30, 105, 106, 107, 108, 109, 110, 45, 46, 47, 48, 49, 153, 154, 155, 156, 157, 158, 159, 160] (by decide +kernel) (by decide +kernel)
set_option maxRecDepth 20000 in
theorem gX8_init_X2_init_n70 : GoodIn wsX8_init (wsX2_init) := ggX8_init_X2_init
theorem dX8_init_0 : decode cX8_init 0 = .ok (.aload_n 0, 1) := by decide +kernel
theorem dX8_init_1 : decode cX8_init 1 = .ok (.invokespecial 3, 3) := by decide +kernel
theorem dX8_init_4 : decode cX8_init 4 = .ok (.aload_n 0, 1) := by decide +kernel
theorem dX8_init_5 : decode cX8_init 5 = .ok (.new 9, 3) := by decide +kernel
theorem dX8_init_8 : decode cX8_init 8 = .ok (.dup, 1) := by decide +kernel
theorem dX8_init_9 : decode cX8_init 9 = .ok (.invokespecial 11, 3) := by decide +kernel
theorem dX8_init_12 : decode cX8_init 12 = .ok (.putfield 12, 3) := by decide +kernel
theorem dX8_init_15 : decode cX8_init 15 = .ok (.aload_n 0, 1) := by decide +kernel
theorem dX8_init_16 : decode cX8_init 16 = .ok (.new 16, 3) := by decide +kernel
theorem dX8_init_19 : decode cX8_init 19 = .ok (.dup, 1) := by decide +kernel
theorem dX8_init_20 : decode cX8_init 20 = .ok (.invokespecial 18, 3) := by decide +kernel
theorem dX8_init_23 : decode cX8_init 23 = .ok (.putfield 19, 3) := by decide +kernel
theorem dX8_init_26 : decode cX8_init 26 = .ok (.aload_n 0, 1) := by decide +kernel
theorem dX8_init_27 : decode cX8_init 27 = .ok (.new 23, 3) := by decide +kernel
theorem dX8_init_30 : decode cX8_init 30 = .ok (.dup, 1) := by decide +kernel
theorem dX8_init_31 : decode cX8_init 31 = .ok (.invokespecial 25, 3) := by decide +kernel
theorem dX8_init_34 : decode cX8_init 34 = .ok (.putfield 26, 3) := by decide +kernel
theorem dX8_init_37 : decode cX8_init 37 = .ok (.aload_n 0, 1) := by decide +kernel
theorem dX8_init_38 : decode cX8_init 38 = .ok (.new 30, 3) := by decide +kernel
theorem dX8_init_41 : decode cX8_init 41 = .ok (.dup, 1) := by decide +kernel
theorem dX8_init_42 : decode cX8_init 42 = .ok (.invokespecial 32, 3) := by decide +kernel
theorem dX8_init_45 : decode cX8_init 45 = .ok (.putfield 33, 3) := by decide +kernel
theorem dX8_init_48 : decode cX8_init 48 = .ok (.aload_n 0, 1) := by decide +kernel
theorem dX8_init_49 : decode cX8_init 49 = .ok (.new 37, 3) := by decide +kernel
theorem dX8_init_52 : decode cX8_init 52 = .ok (.dup, 1) := by decide +kernel
theorem dX8_init_53 : decode cX8_init 53 = .ok (.aload_n 0, 1) := by decide +kernel
theorem dX8_init_54 : decode cX8_init 54 = .ok (.getfield 26, 3) := by decide +kernel
theorem dX8_init_57 : decode cX8_init 57 = .ok (.aload_n 0, 1) := by decide +kernel
theorem dX8_init_58 : decode cX8_init 58 = .ok (.getfield 33, 3) := by decide +kernel
theorem dX8_init_61 : decode cX8_init 61 = .ok (.invokespecial 39, 3) := by decide +kernel
theorem dX8_init_64 : decode cX8_init 64 = .ok (.putfield 42, 3) := by decide +kernel
theorem dX8_init_67 : decode cX8_init 67 = .ok (.aload_n 0, 1) := by decide +kernel
theorem dX8_init_68 : decode cX8_init 68 = .ok (.new 46, 3) := by decide +kernel
theorem dX8_init_71 : decode cX8_init 71 = .ok (.dup, 1) := by decide +kernel
theorem dX8_init_72 : decode cX8_init 72 = .ok (.invokespecial 48, 3) := by decide +kernel
theorem dX8_init_75 : decode cX8_init 75 = .ok (.putfield 49, 3) := by decide +kernel
theorem dX8_init_78 : decode cX8_init 78 = .ok (.aload_n 0, 1) := by decide +kernel
theorem dX8_init_79 : decode cX8_init 79 = .ok (.new 53, 3) := by decide +kernel
theorem dX8_init_82 : decode cX8_init 82 = .ok (.dup, 1) := by decide +kernel
theorem dX8_init_83 : decode cX8_init 83 = .ok (.bipush 120, 2) := by decide +kernel
theorem dX8_init_85 : decode cX8_init 85 = .ok (.invokespecial 55, 3) := by decide +kernel
theorem dX8_init_88 : decode cX8_init 88 = .ok (.putfield 58, 3) := by decide +kernel
theorem dX8_init_91 : decode cX8_init 91 = .ok (.iconst 0, 1) := by decide +kernel
theorem dX8_init_92 : decode cX8_init 92 = .ok (.istore_n 1, 1) := by decide +kernel
theorem dX8_init_93 : decode cX8_init 93 = .ok (.iload_n 1, 1) := by decide +kernel
theorem dX8_init_94 : decode cX8_init 94 = .ok (.bipush 120, 2) := by decide +kernel
theorem dX8_init_96 : decode cX8_init 96 = .ok (.if_icmp .ge 20, 3) := by decide +kernel
theorem dX8_init_99 : decode cX8_init 99 = .ok (.aload_n 0, 1) := by decide +kernel
theorem dX8_init_100 : decode cX8_init 100 = .ok (.getfield 58, 3) := by decide +kernel
theorem dX8_init_103 : decode cX8_init 103 = .ok (.iload_n 1, 1) := by decide +kernel
theorem dX8_init_104 : decode cX8_init 104 = .ok (.ldc2_w 62, 3) := by decide +kernel
theorem dX8_init_107 : decode cX8_init 107 = .ok (.invokevirtual 64, 3) := by decide +kernel
theorem dX8_init_110 : decode cX8_init 110 = .ok (.iinc 1 1, 3) := by decide +kernel
theorem dX8_init_113 : decode cX8_init 113 = .ok (.goto (-20), 3) := by decide +kernel
theorem dX8_init_116 : decode cX8_init 116 = .ok (.aload_n 0, 1) := by decide +kernel
theorem dX8_init_117 : decode cX8_init 117 = .ok (.new 68, 3) := by decide +kernel
theorem dX8_init_120 : decode cX8_init 120 = .ok (.dup, 1) := by decide +kernel
theorem dX8_init_121 : decode cX8_init 121 = .ok (.invokespecial 70, 3) := by decide +kernel
theorem dX8_init_124 : decode cX8_init 124 = .ok (.putfield 71, 3) := by decide +kernel
theorem dX8_init_127 : decode cX8_init 127 = .ok (.return_, 1) := by decide +kernel
set_option maxRecDepth 20000 in
theorem ggX8_house_X3_add : GoodIn wsX8_house wsX3_add := goodIn_r _ [6, 7, 8, 9, 10, 11, 12, 13, 14, 15, 16, 17, 5, 18, 19, 28, 29, 30, 31, 32] (by decide +kernel) (by decide +kernel)
set_option maxRecDepth 20000 in
theorem gX8_house_X3_add : GoodIn wsX8_house (wsV RX8 75 RX3 yX3_add wsX3_add) := goodIn_app (goodIn_of _ (by decide +kernel)) ggX8_house_X3_add
theorem dX8_house_0 : decode cX8_house 0 = .ok (.iload_n 1, 1) := by decide +kernel
theorem dX8_house_1 : decode cX8_house 1 = .ok (.iconst 1, 1) := by decide +kernel
theorem dX8_house_2 : decode cX8_house 2 = .ok (.if_icmp .lt 9, 3) := by decide +kernel
theorem dX8_house_5 : decode cX8_house 5 = .ok (.iload_n 1, 1) := by decide +kernel
theorem dX8_house_6 : decode cX8_house 6 = .ok (.bipush 6, 2) := by decide +kernel
theorem dX8_house_8 : decode cX8_house 8 = .ok (.if_icmp .le 5, 3) := by decide +kernel
theorem dX8_house_11 : decode cX8_house 11 = .ok (.iconst (-1), 1) := by decide +kernel
theorem dX8_house_12 : decode cX8_house 12 = .ok (.ireturn, 1) := by decide +kernel
theorem dX8_house_13 : decode cX8_house 13 = .ok (.aload_n 0, 1) := by decide +kernel
theorem dX8_house_14 : decode cX8_house 14 = .ok (.getfield 12, 3) := by decide +kernel
theorem dX8_house_17 : decode cX8_house 17 = .ok (.iload_n 1, 1) := by decide +kernel
theorem dX8_house_18 : decode cX8_house 18 = .ok (.invokevirtual 75, 3) := by decide +kernel
theorem dX8_house_21 : decode cX8_house 21 = .ok (.ireturn, 1) := by decide +kernel
set_option maxRecDepth 20000 in
theorem ggX8_fact_X3_has : GoodIn wsX8_fact wsX3_has := goodIn_r _ [8, 9, 43, 44, 45, 46] (by decide +kernel) (by decide +kernel)
set_option maxRecDepth 20000 in
theorem gX8_fact_X3_has : GoodIn wsX8_fact (wsV RX8 79 RX3 yX3_has wsX3_has) := goodIn_app (goodIn_of _ (by decide +kernel)) ggX8_fact_X3_has
set_option maxRecDepth 20000 in
theorem ggX8_fact_X8_isKind : GoodIn wsX8_fact wsX8_isKind := goodIn_r _ [13] (by decide +kernel) (by decide +kernel)
set_option maxRecDepth 20000 in
theorem gX8_fact_X8_isKind : GoodIn wsX8_fact (va_wsS RX8 83 yX8_isKind wsX8_isKind) := goodIn_app (goodIn_of _ (by decide +kernel)) ggX8_fact_X8_isKind
set_option maxRecDepth 20000 in
theorem ggX8_fact_X8_isDay : GoodIn wsX8_fact wsX8_isDay := goodIn_r _ [16, 17] (by decide +kernel) (by decide +kernel)
set_option maxRecDepth 20000 in
theorem gX8_fact_X8_isDay : GoodIn wsX8_fact (va_wsS RX8 86 yX8_isDay wsX8_isDay) := goodIn_app (goodIn_of _ (by decide +kernel)) ggX8_fact_X8_isDay
set_option maxRecDepth 20000 in
theorem ggX8_fact_X1_add : GoodIn wsX8_fact wsX1_add := goodIn_r _ [22, 23, 24, 25, 26, 27, 28, 29, 30, 31, 32, 33, 34, 47, 48, 49, 50, 51, 52, 53] (by decide +kernel) (by decide +kernel)
set_option maxRecDepth 20000 in
theorem gX8_fact_X1_add : GoodIn wsX8_fact (wsV RX8 92 RX1 yX1_add wsX1_add) := goodIn_app (goodIn_of _ (by decide +kernel)) ggX8_fact_X1_add
theorem dX8_fact_0 : decode cX8_fact 0 = .ok (.aload_n 0, 1) := by decide +kernel
theorem dX8_fact_1 : decode cX8_fact 1 = .ok (.getfield 12, 3) := by decide +kernel
theorem dX8_fact_4 : decode cX8_fact 4 = .ok (.iload_n 1, 1) := by decide +kernel
theorem dX8_fact_5 : decode cX8_fact 5 = .ok (.invokevirtual 79, 3) := by decide +kernel
theorem dX8_fact_8 : decode cX8_fact 8 = .ok (.ifCond .eq 25, 3) := by decide +kernel
theorem dX8_fact_11 : decode cX8_fact 11 = .ok (.iload_n 2, 1) := by decide +kernel
theorem dX8_fact_12 : decode cX8_fact 12 = .ok (.invokestatic 83, 3) := by decide +kernel
theorem dX8_fact_15 : decode cX8_fact 15 = .ok (.ifCond .eq 18, 3) := by decide +kernel
theorem dX8_fact_18 : decode cX8_fact 18 = .ok (.lload_n 3, 1) := by decide +kernel
theorem dX8_fact_19 : decode cX8_fact 19 = .ok (.invokestatic 86, 3) := by decide +kernel
theorem dX8_fact_22 : decode cX8_fact 22 = .ok (.ifCond .eq 11, 3) := by decide +kernel
theorem dX8_fact_25 : decode cX8_fact 25 = .ok (.lload 7, 2) := by decide +kernel
theorem dX8_fact_27 : decode cX8_fact 27 = .ok (.invokestatic 86, 3) := by decide +kernel
theorem dX8_fact_30 : decode cX8_fact 30 = .ok (.ifCond .ne 5, 3) := by decide +kernel
theorem dX8_fact_33 : decode cX8_fact 33 = .ok (.iconst (-1), 1) := by decide +kernel
theorem dX8_fact_34 : decode cX8_fact 34 = .ok (.ireturn, 1) := by decide +kernel
theorem dX8_fact_35 : decode cX8_fact 35 = .ok (.lload 5, 2) := by decide +kernel
theorem dX8_fact_37 : decode cX8_fact 37 = .ok (.lconst 0, 1) := by decide +kernel
theorem dX8_fact_38 : decode cX8_fact 38 = .ok (.lcmp, 1) := by decide +kernel
theorem dX8_fact_39 : decode cX8_fact 39 = .ok (.ifCond .lt 12, 3) := by decide +kernel
theorem dX8_fact_42 : decode cX8_fact 42 = .ok (.lload 5, 2) := by decide +kernel
theorem dX8_fact_44 : decode cX8_fact 44 = .ok (.ldc2_w 90, 3) := by decide +kernel
theorem dX8_fact_47 : decode cX8_fact 47 = .ok (.lcmp, 1) := by decide +kernel
theorem dX8_fact_48 : decode cX8_fact 48 = .ok (.ifCond .le 5, 3) := by decide +kernel
theorem dX8_fact_51 : decode cX8_fact 51 = .ok (.iconst (-1), 1) := by decide +kernel
theorem dX8_fact_52 : decode cX8_fact 52 = .ok (.ireturn, 1) := by decide +kernel
theorem dX8_fact_53 : decode cX8_fact 53 = .ok (.aload_n 0, 1) := by decide +kernel
theorem dX8_fact_54 : decode cX8_fact 54 = .ok (.getfield 19, 3) := by decide +kernel
theorem dX8_fact_57 : decode cX8_fact 57 = .ok (.iload_n 1, 1) := by decide +kernel
theorem dX8_fact_58 : decode cX8_fact 58 = .ok (.iload_n 2, 1) := by decide +kernel
theorem dX8_fact_59 : decode cX8_fact 59 = .ok (.lload_n 3, 1) := by decide +kernel
theorem dX8_fact_60 : decode cX8_fact 60 = .ok (.lload 5, 2) := by decide +kernel
theorem dX8_fact_62 : decode cX8_fact 62 = .ok (.lload 7, 2) := by decide +kernel
theorem dX8_fact_64 : decode cX8_fact 64 = .ok (.invokevirtual 92, 3) := by decide +kernel
theorem dX8_fact_67 : decode cX8_fact 67 = .ok (.ireturn, 1) := by decide +kernel
set_option maxRecDepth 20000 in
theorem ggX8_unit_X7_add : GoodIn wsX8_unit wsX7_add := goodIn_r _ [6, 7, 8, 9, 10, 11, 12, 13, 14, 23, 24, 25, 26, 27, 28] (by decide +kernel) (by decide +kernel)
set_option maxRecDepth 20000 in
theorem gX8_unit_X7_add : GoodIn wsX8_unit (wsV RX8 95 RX7 yX7_add wsX7_add) := goodIn_app (goodIn_of _ (by decide +kernel)) ggX8_unit_X7_add
theorem dX8_unit_0 : decode cX8_unit 0 = .ok (.iload_n 1, 1) := by decide +kernel
theorem dX8_unit_1 : decode cX8_unit 1 = .ok (.ifCond .lt 25, 3) := by decide +kernel
theorem dX8_unit_4 : decode cX8_unit 4 = .ok (.iload_n 1, 1) := by decide +kernel
theorem dX8_unit_5 : decode cX8_unit 5 = .ok (.sipush 255, 3) := by decide +kernel
theorem dX8_unit_8 : decode cX8_unit 8 = .ok (.if_icmp .gt 18, 3) := by decide +kernel
theorem dX8_unit_11 : decode cX8_unit 11 = .ok (.aload_n 0, 1) := by decide +kernel
theorem dX8_unit_12 : decode cX8_unit 12 = .ok (.getfield 26, 3) := by decide +kernel
theorem dX8_unit_15 : decode cX8_unit 15 = .ok (.iload_n 1, 1) := by decide +kernel
theorem dX8_unit_16 : decode cX8_unit 16 = .ok (.invokevirtual 95, 3) := by decide +kernel
theorem dX8_unit_19 : decode cX8_unit 19 = .ok (.ifCond .eq 7, 3) := by decide +kernel
theorem dX8_unit_22 : decode cX8_unit 22 = .ok (.iconst 1, 1) := by decide +kernel
theorem dX8_unit_23 : decode cX8_unit 23 = .ok (.goto 4, 3) := by decide +kernel
theorem dX8_unit_26 : decode cX8_unit 26 = .ok (.iconst 0, 1) := by decide +kernel
theorem dX8_unit_27 : decode cX8_unit 27 = .ok (.ireturn, 1) := by decide +kernel
set_option maxRecDepth 20000 in
theorem ggX8_read_X8_isDay : GoodIn wsX8_read wsX8_isDay := goodIn_r _ [7, 8] (by decide +kernel) (by decide +kernel)
set_option maxRecDepth 20000 in
theorem gX8_read_X8_isDay : GoodIn wsX8_read (va_wsS RX8 86 yX8_isDay wsX8_isDay) := goodIn_app (goodIn_of _ (by decide +kernel)) ggX8_read_X8_isDay
set_option maxRecDepth 20000 in
theorem ggX8_read_X0_isFull : GoodIn wsX8_read wsX0_isFull := goodIn_r _ [13, 14, 199, 200, 201, 202, 203, 204, 205, 206, 207, 208, 209, 210] (by decide +kernel) (by decide +kernel)
set_option maxRecDepth 20000 in
theorem gX8_read_X0_isFull : GoodIn wsX8_read (wsV RX8 97 RX0 yX0_isFull wsX0_isFull) := goodIn_app (goodIn_of _ (by decide +kernel)) ggX8_read_X0_isFull
set_option maxRecDepth 20000 in
theorem ggX8_read_X6_readRules : GoodIn wsX8_read wsX6_readRules := goodIn_r _ [19, 20, 21, 22, 23, 24, 12, 25, 26, 27, 14, 28, 29, 30, 31, 32, 33, 34, 35, 36, 37, 38, 39, 40, 41, 42, 43, 44, 45, 46, 47, 48, 49, 50, 51, 52, 53, 54, 55, 56, 57, 58, 59, 60, 61, 62, 63, 64, 65, 66, 67, 18, 68, 69, 70, 71, 72, 73, 74, 75, 76, 77, 78, 79, 80, 81, 82, 83, 84, 85, 86, 87, 88, 89, 90, 91, 92, 93, 94, 95, 96, 97, 98, 99, 100, 101, 102, 103, 104, 105, 106, 107, 108, 109, 110, 111, 112, 113, 114, 115, 116, 117, 118, 119, 120, 121, 122, 123, 124, 125, 126, 127, 128, 129, 130, 131, 132, 133, 134, 135, 136, 137, 138, 139, 140, 141, 142, 143, 144, 145, 146, 147, 148, 149, 150, 151, 152, 153, 154, 155, 156, 157, 158, 159, 160, 161, 162, 163, 164, 165, 166, 167, 168, 169, 170, 171, 172, 173, 174, 175, 176, 177, 178, 179, 211, 212, 199, 200, 201, 202, 203, 204, 205, 206, 207, 208, 209, 210, 213, 214, 215, 216, 217, 218] (by decide +kernel) (by decide +kernel)
set_option maxRecDepth 20000 in
theorem gX8_read_X6_readRules : GoodIn wsX8_read (wsV RX8 101 RX6 yX6_readRules wsX6_readRules) := goodIn_app (goodIn_of _ (by decide +kernel)) ggX8_read_X6_readRules
set_option maxRecDepth 20000 in
theorem ggX8_read_X0_keepDraft : GoodIn wsX8_read wsX0_keepDraft := goodIn_r _ [183, 184, 14, 185, 186, 32, 33, 34, 35, 36, 37, 199, 200, 201, 202, 203, 204, 205, 206, 207, 208, 209, 210, 213] (by decide +kernel) (by decide +kernel)
set_option maxRecDepth 20000 in
theorem gX8_read_X0_keepDraft : GoodIn wsX8_read (wsV RX8 105 RX0 yX0_keepDraft wsX0_keepDraft) := goodIn_app (goodIn_of _ (by decide +kernel)) ggX8_read_X0_keepDraft
set_option maxRecDepth 20000 in
theorem ggX8_read_X7_clear : GoodIn wsX8_read wsX7_clear := goodIn_r _ [190, 50, 214, 215, 216, 217, 218] (by decide +kernel) (by decide +kernel)
set_option maxRecDepth 20000 in
theorem gX8_read_X7_clear : GoodIn wsX8_read (wsV RX8 109 RX7 yX7_clear wsX7_clear) := goodIn_app (goodIn_of _ (by decide +kernel)) ggX8_read_X7_clear
theorem dX8_read_0 : decode cX8_read 0 = .ok (.sipush (-1000), 3) := by decide +kernel
theorem dX8_read_3 : decode cX8_read 3 = .ok (.istore 5, 2) := by decide +kernel
theorem dX8_read_5 : decode cX8_read 5 = .ok (.lload_n 1, 1) := by decide +kernel
theorem dX8_read_6 : decode cX8_read 6 = .ok (.invokestatic 86, 3) := by decide +kernel
theorem dX8_read_9 : decode cX8_read 9 = .ok (.ifCond .eq 45, 3) := by decide +kernel
theorem dX8_read_12 : decode cX8_read 12 = .ok (.lload_n 3, 1) := by decide +kernel
theorem dX8_read_13 : decode cX8_read 13 = .ok (.invokestatic 86, 3) := by decide +kernel
theorem dX8_read_16 : decode cX8_read 16 = .ok (.ifCond .eq 38, 3) := by decide +kernel
theorem dX8_read_19 : decode cX8_read 19 = .ok (.aload_n 0, 1) := by decide +kernel
theorem dX8_read_20 : decode cX8_read 20 = .ok (.getfield 33, 3) := by decide +kernel
theorem dX8_read_23 : decode cX8_read 23 = .ok (.invokevirtual 97, 3) := by decide +kernel
theorem dX8_read_26 : decode cX8_read 26 = .ok (.ifCond .ne 28, 3) := by decide +kernel
theorem dX8_read_29 : decode cX8_read 29 = .ok (.aload_n 0, 1) := by decide +kernel
theorem dX8_read_30 : decode cX8_read 30 = .ok (.getfield 42, 3) := by decide +kernel
theorem dX8_read_33 : decode cX8_read 33 = .ok (.invokevirtual 101, 3) := by decide +kernel
theorem dX8_read_36 : decode cX8_read 36 = .ok (.istore 5, 2) := by decide +kernel
theorem dX8_read_38 : decode cX8_read 38 = .ok (.iload 5, 2) := by decide +kernel
theorem dX8_read_40 : decode cX8_read 40 = .ok (.ifCond .lt 14, 3) := by decide +kernel
theorem dX8_read_43 : decode cX8_read 43 = .ok (.aload_n 0, 1) := by decide +kernel
theorem dX8_read_44 : decode cX8_read 44 = .ok (.getfield 33, 3) := by decide +kernel
theorem dX8_read_47 : decode cX8_read 47 = .ok (.lload_n 1, 1) := by decide +kernel
theorem dX8_read_48 : decode cX8_read 48 = .ok (.lload_n 3, 1) := by decide +kernel
theorem dX8_read_49 : decode cX8_read 49 = .ok (.iload 5, 2) := by decide +kernel
theorem dX8_read_51 : decode cX8_read 51 = .ok (.invokevirtual 105, 3) := by decide +kernel
theorem dX8_read_54 : decode cX8_read 54 = .ok (.aload_n 0, 1) := by decide +kernel
theorem dX8_read_55 : decode cX8_read 55 = .ok (.getfield 26, 3) := by decide +kernel
theorem dX8_read_58 : decode cX8_read 58 = .ok (.invokevirtual 109, 3) := by decide +kernel
theorem dX8_read_61 : decode cX8_read 61 = .ok (.iload 5, 2) := by decide +kernel
theorem dX8_read_63 : decode cX8_read 63 = .ok (.ireturn, 1) := by decide +kernel
set_option maxRecDepth 20000 in
theorem ggX8_edition_X0_has : GoodIn wsX8_edition wsX0_has := goodIn_r _ [6, 7, 37, 38, 39, 40, 41, 42, 43, 44, 45, 46, 47, 48] (by decide +kernel) (by decide +kernel)
set_option maxRecDepth 20000 in
theorem gX8_edition_X0_has : GoodIn wsX8_edition (wsV RX8 112 RX0 yX0_has wsX0_has) := goodIn_app (goodIn_of _ (by decide +kernel)) ggX8_edition_X0_has
set_option maxRecDepth 20000 in
theorem ggX8_edition_X0_actsFrom : GoodIn wsX8_edition wsX0_actsFrom := goodIn_r _ [11, 12, 13, 14, 15, 16, 17, 18, 37, 38, 39, 40, 41, 42, 43, 44, 45, 46, 47, 48, 49] (by decide +kernel) (by decide +kernel)
set_option maxRecDepth 20000 in
theorem gX8_edition_X0_actsFrom : GoodIn wsX8_edition (wsV RX8 113 RX0 yX0_actsFrom wsX0_actsFrom) := goodIn_app (goodIn_of _ (by decide +kernel)) ggX8_edition_X0_actsFrom
set_option maxRecDepth 20000 in
theorem ggX8_edition_X0_knownFrom : GoodIn wsX8_edition wsX0_knownFrom := goodIn_r _ [22, 23, 13, 14, 15, 16, 17, 18, 37, 38, 39, 40, 41, 42, 43, 44, 45, 46, 47, 48, 49] (by decide +kernel) (by decide +kernel)
set_option maxRecDepth 20000 in
theorem gX8_edition_X0_knownFrom : GoodIn wsX8_edition (wsV RX8 117 RX0 yX0_knownFrom wsX0_knownFrom) := goodIn_app (goodIn_of _ (by decide +kernel)) ggX8_edition_X0_knownFrom
set_option maxRecDepth 20000 in
theorem ggX8_edition_X0_ruleCount : GoodIn wsX8_edition wsX0_ruleCount := goodIn_r _ [27, 28, 13, 14, 15, 16, 17, 18, 37, 38, 39, 40, 41, 42, 43, 44, 45, 46, 47, 48, 49] (by decide +kernel) (by decide +kernel)
set_option maxRecDepth 20000 in
theorem gX8_edition_X0_ruleCount : GoodIn wsX8_edition (wsV RX8 120 RX0 yX0_ruleCount wsX0_ruleCount) := goodIn_app (goodIn_of _ (by decide +kernel)) ggX8_edition_X0_ruleCount
theorem dX8_edition_0 : decode cX8_edition 0 = .ok (.aload_n 0, 1) := by decide +kernel
theorem dX8_edition_1 : decode cX8_edition 1 = .ok (.getfield 33, 3) := by decide +kernel
theorem dX8_edition_4 : decode cX8_edition 4 = .ok (.iload_n 1, 1) := by decide +kernel
theorem dX8_edition_5 : decode cX8_edition 5 = .ok (.invokevirtual 112, 3) := by decide +kernel
theorem dX8_edition_8 : decode cX8_edition 8 = .ok (.ifCond .ne 5, 3) := by decide +kernel
theorem dX8_edition_11 : decode cX8_edition 11 = .ok (.iconst (-1), 1) := by decide +kernel
theorem dX8_edition_12 : decode cX8_edition 12 = .ok (.ireturn, 1) := by decide +kernel
theorem dX8_edition_13 : decode cX8_edition 13 = .ok (.iload_n 2, 1) := by decide +kernel
theorem dX8_edition_14 : decode cX8_edition 14 = .ok (.tableswitch 56 0 2 #[26, 36, 46], 26) := by decide +kernel
theorem dX8_edition_40 : decode cX8_edition 40 = .ok (.aload_n 0, 1) := by decide +kernel
theorem dX8_edition_41 : decode cX8_edition 41 = .ok (.getfield 33, 3) := by decide +kernel
theorem dX8_edition_44 : decode cX8_edition 44 = .ok (.iload_n 1, 1) := by decide +kernel
theorem dX8_edition_45 : decode cX8_edition 45 = .ok (.invokevirtual 113, 3) := by decide +kernel
theorem dX8_edition_48 : decode cX8_edition 48 = .ok (.l2i, 1) := by decide +kernel
theorem dX8_edition_49 : decode cX8_edition 49 = .ok (.ireturn, 1) := by decide +kernel
theorem dX8_edition_50 : decode cX8_edition 50 = .ok (.aload_n 0, 1) := by decide +kernel
theorem dX8_edition_51 : decode cX8_edition 51 = .ok (.getfield 33, 3) := by decide +kernel
theorem dX8_edition_54 : decode cX8_edition 54 = .ok (.iload_n 1, 1) := by decide +kernel
theorem dX8_edition_55 : decode cX8_edition 55 = .ok (.invokevirtual 117, 3) := by decide +kernel
theorem dX8_edition_58 : decode cX8_edition 58 = .ok (.l2i, 1) := by decide +kernel
theorem dX8_edition_59 : decode cX8_edition 59 = .ok (.ireturn, 1) := by decide +kernel
theorem dX8_edition_60 : decode cX8_edition 60 = .ok (.aload_n 0, 1) := by decide +kernel
theorem dX8_edition_61 : decode cX8_edition 61 = .ok (.getfield 33, 3) := by decide +kernel
theorem dX8_edition_64 : decode cX8_edition 64 = .ok (.iload_n 1, 1) := by decide +kernel
theorem dX8_edition_65 : decode cX8_edition 65 = .ok (.invokevirtual 120, 3) := by decide +kernel
theorem dX8_edition_68 : decode cX8_edition 68 = .ok (.l2i, 1) := by decide +kernel
theorem dX8_edition_69 : decode cX8_edition 69 = .ok (.ireturn, 1) := by decide +kernel
theorem dX8_edition_70 : decode cX8_edition 70 = .ok (.iconst (-1), 1) := by decide +kernel
theorem dX8_edition_71 : decode cX8_edition 71 = .ok (.ireturn, 1) := by decide +kernel
set_option maxRecDepth 20000 in
theorem ggX8_cap_X8_isMonth : GoodIn wsX8_cap wsX8_isMonth := goodIn_r _ [6] (by decide +kernel) (by decide +kernel)
set_option maxRecDepth 20000 in
theorem gX8_cap_X8_isMonth : GoodIn wsX8_cap (va_wsS RX8 123 yX8_isMonth wsX8_isMonth) := goodIn_app (goodIn_of _ (by decide +kernel)) ggX8_cap_X8_isMonth
set_option maxRecDepth 20000 in
theorem ggX8_cap_X5_set : GoodIn wsX8_cap wsX5_set := goodIn_r _ [11, 12, 21] (by decide +kernel) (by decide +kernel)
set_option maxRecDepth 20000 in
theorem gX8_cap_X5_set : GoodIn wsX8_cap (wsV RX8 64 RX5 yX5_set wsX5_set) := goodIn_app (goodIn_of _ (by decide +kernel)) ggX8_cap_X5_set
theorem dX8_cap_0 : decode cX8_cap 0 = .ok (.iload_n 1, 1) := by decide +kernel
theorem dX8_cap_1 : decode cX8_cap 1 = .ok (.invokestatic 123, 3) := by decide +kernel
theorem dX8_cap_4 : decode cX8_cap 4 = .ok (.ifCond .eq 17, 3) := by decide +kernel
theorem dX8_cap_7 : decode cX8_cap 7 = .ok (.lload_n 2, 1) := by decide +kernel
theorem dX8_cap_8 : decode cX8_cap 8 = .ok (.lconst 0, 1) := by decide +kernel
theorem dX8_cap_9 : decode cX8_cap 9 = .ok (.lcmp, 1) := by decide +kernel
theorem dX8_cap_10 : decode cX8_cap 10 = .ok (.ifCond .lt 11, 3) := by decide +kernel
theorem dX8_cap_13 : decode cX8_cap 13 = .ok (.lload_n 2, 1) := by decide +kernel
theorem dX8_cap_14 : decode cX8_cap 14 = .ok (.ldc2_w 126, 3) := by decide +kernel
theorem dX8_cap_17 : decode cX8_cap 17 = .ok (.lcmp, 1) := by decide +kernel
theorem dX8_cap_18 : decode cX8_cap 18 = .ok (.ifCond .le 5, 3) := by decide +kernel
theorem dX8_cap_21 : decode cX8_cap 21 = .ok (.iconst 0, 1) := by decide +kernel
theorem dX8_cap_22 : decode cX8_cap 22 = .ok (.ireturn, 1) := by decide +kernel
theorem dX8_cap_23 : decode cX8_cap 23 = .ok (.aload_n 0, 1) := by decide +kernel
theorem dX8_cap_24 : decode cX8_cap 24 = .ok (.getfield 58, 3) := by decide +kernel
theorem dX8_cap_27 : decode cX8_cap 27 = .ok (.iload_n 1, 1) := by decide +kernel
theorem dX8_cap_28 : decode cX8_cap 28 = .ok (.lload_n 2, 1) := by decide +kernel
theorem dX8_cap_29 : decode cX8_cap 29 = .ok (.invokevirtual 64, 3) := by decide +kernel
theorem dX8_cap_32 : decode cX8_cap 32 = .ok (.iconst 1, 1) := by decide +kernel
theorem dX8_cap_33 : decode cX8_cap 33 = .ok (.ireturn, 1) := by decide +kernel
set_option maxRecDepth 20000 in
theorem ggX8_relief_X3_has : GoodIn wsX8_relief wsX3_has := goodIn_r _ [7, 8, 41, 42, 43, 44] (by decide +kernel) (by decide +kernel)
set_option maxRecDepth 20000 in
theorem gX8_relief_X3_has : GoodIn wsX8_relief (wsV RX8 79 RX3 yX3_has wsX3_has) := goodIn_app (goodIn_of _ (by decide +kernel)) ggX8_relief_X3_has
set_option maxRecDepth 20000 in
theorem ggX8_relief_X8_isKind : GoodIn wsX8_relief wsX8_isKind := goodIn_r _ [12] (by decide +kernel) (by decide +kernel)
set_option maxRecDepth 20000 in
theorem gX8_relief_X8_isKind : GoodIn wsX8_relief (va_wsS RX8 83 yX8_isKind wsX8_isKind) := goodIn_app (goodIn_of _ (by decide +kernel)) ggX8_relief_X8_isKind
set_option maxRecDepth 20000 in
theorem ggX8_relief_X8_isDay : GoodIn wsX8_relief wsX8_isDay := goodIn_r _ [15, 16] (by decide +kernel) (by decide +kernel)
set_option maxRecDepth 20000 in
theorem gX8_relief_X8_isDay : GoodIn wsX8_relief (va_wsS RX8 86 yX8_isDay wsX8_isDay) := goodIn_app (goodIn_of _ (by decide +kernel)) ggX8_relief_X8_isDay
set_option maxRecDepth 20000 in
theorem ggX8_relief_X4_add : GoodIn wsX8_relief wsX4_add := goodIn_r _ [21, 22, 23, 24, 25, 26, 27, 28, 29, 30, 31, 32, 45, 46, 47, 48, 49, 50] (by decide +kernel) (by decide +kernel)
set_option maxRecDepth 20000 in
theorem gX8_relief_X4_add : GoodIn wsX8_relief (wsV RX8 128 RX4 yX4_add wsX4_add) := goodIn_app (goodIn_of _ (by decide +kernel)) ggX8_relief_X4_add
theorem dX8_relief_0 : decode cX8_relief 0 = .ok (.aload_n 0, 1) := by decide +kernel
theorem dX8_relief_1 : decode cX8_relief 1 = .ok (.getfield 12, 3) := by decide +kernel
theorem dX8_relief_4 : decode cX8_relief 4 = .ok (.iload_n 1, 1) := by decide +kernel
theorem dX8_relief_5 : decode cX8_relief 5 = .ok (.invokevirtual 79, 3) := by decide +kernel
theorem dX8_relief_8 : decode cX8_relief 8 = .ok (.ifCond .eq 32, 3) := by decide +kernel
theorem dX8_relief_11 : decode cX8_relief 11 = .ok (.iload_n 2, 1) := by decide +kernel
theorem dX8_relief_12 : decode cX8_relief 12 = .ok (.invokestatic 83, 3) := by decide +kernel
theorem dX8_relief_15 : decode cX8_relief 15 = .ok (.ifCond .eq 25, 3) := by decide +kernel
theorem dX8_relief_18 : decode cX8_relief 18 = .ok (.lload_n 3, 1) := by decide +kernel
theorem dX8_relief_19 : decode cX8_relief 19 = .ok (.invokestatic 86, 3) := by decide +kernel
theorem dX8_relief_22 : decode cX8_relief 22 = .ok (.ifCond .eq 18, 3) := by decide +kernel
theorem dX8_relief_25 : decode cX8_relief 25 = .ok (.lload 5, 2) := by decide +kernel
theorem dX8_relief_27 : decode cX8_relief 27 = .ok (.invokestatic 86, 3) := by decide +kernel
theorem dX8_relief_30 : decode cX8_relief 30 = .ok (.ifCond .eq 10, 3) := by decide +kernel
theorem dX8_relief_33 : decode cX8_relief 33 = .ok (.lload_n 3, 1) := by decide +kernel
theorem dX8_relief_34 : decode cX8_relief 34 = .ok (.lload 5, 2) := by decide +kernel
theorem dX8_relief_36 : decode cX8_relief 36 = .ok (.lcmp, 1) := by decide +kernel
theorem dX8_relief_37 : decode cX8_relief 37 = .ok (.ifCond .le 5, 3) := by decide +kernel
theorem dX8_relief_40 : decode cX8_relief 40 = .ok (.iconst 0, 1) := by decide +kernel
theorem dX8_relief_41 : decode cX8_relief 41 = .ok (.ireturn, 1) := by decide +kernel
theorem dX8_relief_42 : decode cX8_relief 42 = .ok (.aload_n 0, 1) := by decide +kernel
theorem dX8_relief_43 : decode cX8_relief 43 = .ok (.getfield 49, 3) := by decide +kernel
theorem dX8_relief_46 : decode cX8_relief 46 = .ok (.iload_n 1, 1) := by decide +kernel
theorem dX8_relief_47 : decode cX8_relief 47 = .ok (.iload_n 2, 1) := by decide +kernel
theorem dX8_relief_48 : decode cX8_relief 48 = .ok (.lload_n 3, 1) := by decide +kernel
theorem dX8_relief_49 : decode cX8_relief 49 = .ok (.lload 5, 2) := by decide +kernel
theorem dX8_relief_51 : decode cX8_relief 51 = .ok (.invokevirtual 128, 3) := by decide +kernel
theorem dX8_relief_54 : decode cX8_relief 54 = .ok (.ireturn, 1) := by decide +kernel
set_option maxRecDepth 20000 in
theorem ggX8_weight_X3_hasFlat : GoodIn wsX8_weight wsX3_hasFlat := goodIn_r _ [6, 7, 8, 9, 10, 5, 11, 12, 13, 14, 15, 16, 17, 18, 36, 37, 38, 39, 40] (by decide +kernel) (by decide +kernel)
set_option maxRecDepth 20000 in
theorem gX8_weight_X3_hasFlat : GoodIn wsX8_weight (wsV RX8 131 RX3 yX3_hasFlat wsX3_hasFlat) := goodIn_app (goodIn_of _ (by decide +kernel)) ggX8_weight_X3_hasFlat
set_option maxRecDepth 20000 in
theorem ggX8_weight_X3_setWeight : GoodIn wsX8_weight wsX3_setWeight := goodIn_r _ [22, 23, 24, 25, 26, 16, 27, 18, 36, 37, 38, 39, 40] (by decide +kernel) (by decide +kernel)
set_option maxRecDepth 20000 in
theorem gX8_weight_X3_setWeight : GoodIn wsX8_weight (wsV RX8 135 RX3 yX3_setWeight wsX3_setWeight) := goodIn_app (goodIn_of _ (by decide +kernel)) ggX8_weight_X3_setWeight
theorem dX8_weight_0 : decode cX8_weight 0 = .ok (.aload_n 0, 1) := by decide +kernel
theorem dX8_weight_1 : decode cX8_weight 1 = .ok (.getfield 12, 3) := by decide +kernel
theorem dX8_weight_4 : decode cX8_weight 4 = .ok (.iload_n 1, 1) := by decide +kernel
theorem dX8_weight_5 : decode cX8_weight 5 = .ok (.iload_n 2, 1) := by decide +kernel
theorem dX8_weight_6 : decode cX8_weight 6 = .ok (.invokevirtual 131, 3) := by decide +kernel
theorem dX8_weight_9 : decode cX8_weight 9 = .ok (.ifCond .eq 14, 3) := by decide +kernel
theorem dX8_weight_12 : decode cX8_weight 12 = .ok (.iload_n 3, 1) := by decide +kernel
theorem dX8_weight_13 : decode cX8_weight 13 = .ok (.ifCond .lt 10, 3) := by decide +kernel
theorem dX8_weight_16 : decode cX8_weight 16 = .ok (.iload_n 3, 1) := by decide +kernel
theorem dX8_weight_17 : decode cX8_weight 17 = .ok (.sipush 1000, 3) := by decide +kernel
theorem dX8_weight_20 : decode cX8_weight 20 = .ok (.if_icmp .le 5, 3) := by decide +kernel
theorem dX8_weight_23 : decode cX8_weight 23 = .ok (.iconst 0, 1) := by decide +kernel
theorem dX8_weight_24 : decode cX8_weight 24 = .ok (.ireturn, 1) := by decide +kernel
theorem dX8_weight_25 : decode cX8_weight 25 = .ok (.aload_n 0, 1) := by decide +kernel
theorem dX8_weight_26 : decode cX8_weight 26 = .ok (.getfield 12, 3) := by decide +kernel
theorem dX8_weight_29 : decode cX8_weight 29 = .ok (.iload_n 1, 1) := by decide +kernel
theorem dX8_weight_30 : decode cX8_weight 30 = .ok (.iload_n 2, 1) := by decide +kernel
theorem dX8_weight_31 : decode cX8_weight 31 = .ok (.iload_n 3, 1) := by decide +kernel
theorem dX8_weight_32 : decode cX8_weight 32 = .ok (.invokevirtual 135, 3) := by decide +kernel
theorem dX8_weight_35 : decode cX8_weight 35 = .ok (.iconst 1, 1) := by decide +kernel
theorem dX8_weight_36 : decode cX8_weight 36 = .ok (.ireturn, 1) := by decide +kernel
set_option maxRecDepth 20000 in
theorem ggX8_bill_X8_billOf : GoodIn wsX8_bill wsX8_billOf := goodIn_r _ [5, 6, 7, 8, 9, 10, 11, 12, 4, 13, 14, 15, 16, 17, 18, 19, 20, 21, 22, 23, 24, 25, 26, 27, 28, 29, 30, 31, 32, 33, 34, 35, 36, 37, 38, 39, 40, 41, 42, 43, 44, 45, 46, 47, 48, 49, 50, 51, 52, 53, 54, 55, 56, 57, 58, 59, 60, 61, 62, 63, 64, 65, 66, 67, 68, 69, 70, 71, 72, 73, 74, 75, 76, 77, 78, 79, 80, 81, 82, 83, 84, 85, 86, 87, 88, 89, 90, 91, 92, 93, 94, 95, 96, 97, 98, 99, 100, 101, 102, 103, 104, 105, 106, 107, 108, 109, 110, 111, 112, 113, 114, 115, 116, 117, 118, 119, 120, 121, 122, 123, 124, 125, 126, 127, 128, 129, 130, 131, 132, 133, 134, 135, 136, 137, 138, 139, 140, 141, 142, 143, 144, 145, 146, 147, 148, 149, 150, 151, 152, 153, 154, 155, 156, 157, 158, 159, 160, 161, 162, 163] (by decide +kernel) (by decide +kernel)
set_option maxRecDepth 20000 in
theorem gX8_bill_X8_billOf : GoodIn wsX8_bill (wsV RX8 139 RX8 yX8_billOf wsX8_billOf) := goodIn_app (goodIn_of _ (by decide +kernel)) ggX8_bill_X8_billOf
theorem dX8_bill_0 : decode cX8_bill 0 = .ok (.aload_n 0, 1) := by decide +kernel
theorem dX8_bill_1 : decode cX8_bill 1 = .ok (.iload_n 1, 1) := by decide +kernel
theorem dX8_bill_2 : decode cX8_bill 2 = .ok (.iload_n 2, 1) := by decide +kernel
theorem dX8_bill_3 : decode cX8_bill 3 = .ok (.lload_n 3, 1) := by decide +kernel
theorem dX8_bill_4 : decode cX8_bill 4 = .ok (.invokevirtual 139, 3) := by decide +kernel
theorem dX8_bill_7 : decode cX8_bill 7 = .ok (.lreturn, 1) := by decide +kernel
set_option maxRecDepth 20000 in
theorem ggX8_walk_X8_isAskable : GoodIn wsX8_walk wsX8_isAskable := goodIn_r _ [7, 8, 9, 10, 11, 12, 13, 14, 15, 16, 6, 17, 18, 19, 20, 21, 169, 170, 171, 172, 173, 174, 175, 176, 177, 178, 179, 180] (by decide +kernel) (by decide +kernel)
set_option maxRecDepth 20000 in
theorem gX8_walk_X8_isAskable : GoodIn wsX8_walk (wsV RX8 143 RX8 yX8_isAskable wsX8_isAskable) := goodIn_app (goodIn_of _ (by decide +kernel)) ggX8_walk_X8_isAskable
set_option maxRecDepth 20000 in
theorem ggX8_walk_X2_clear : GoodIn wsX8_walk wsX2_clear := goodIn_r _ [26, 27, 28, 181, 182, 183, 184, 185, 186, 187] (by decide +kernel) (by decide +kernel)
set_option maxRecDepth 20000 in
theorem gX8_walk_X2_clear : GoodIn wsX8_walk (wsV RX8 147 RX2 yX2_clear wsX2_clear) := goodIn_app (goodIn_of _ (by decide +kernel)) ggX8_walk_X2_clear
set_option maxRecDepth 20000 in
theorem ggX8_walk_X1_count : GoodIn wsX8_walk wsX1_count := goodIn_r _ [33, 34, 188, 189, 190, 191, 192, 193] (by decide +kernel) (by decide +kernel)
set_option maxRecDepth 20000 in
theorem gX8_walk_X1_count : GoodIn wsX8_walk (wsV RX8 148 RX1 yX1_count wsX1_count) := goodIn_app (goodIn_of _ (by decide +kernel)) ggX8_walk_X1_count
set_option maxRecDepth 20000 in
theorem ggX8_walk_X1_isOf : GoodIn wsX8_walk wsX1_isOf := goodIn_r _ [38, 39, 40, 41, 42, 43, 44, 45, 46, 47, 48, 188, 189, 190, 191, 192, 193, 194] (by decide +kernel) (by decide +kernel)
set_option maxRecDepth 20000 in
theorem gX8_walk_X1_isOf : GoodIn wsX8_walk (wsV RX8 151 RX1 yX1_isOf wsX1_isOf) := goodIn_app (goodIn_of _ (by decide +kernel)) ggX8_walk_X1_isOf
set_option maxRecDepth 20000 in
theorem ggX8_walk_X8_hold : GoodIn wsX8_walk wsX8_hold := goodIn_r _ [52, 1, 2, 53, 54, 55, 6, 56, 57, 58, 59, 60, 61, 62, 63, 64, 65, 32, 66, 39, 43, 44, 45, 46, 47, 48, 67, 68, 69, 70, 71, 72, 73, 74, 75, 40, 76, 77, 78, 79, 80, 81, 82, 83, 84, 85, 86, 87, 88, 89, 90, 91, 92, 93, 94, 95, 96, 97, 98, 99, 100, 101, 102, 103, 104, 105, 106, 107, 108, 109, 110, 111, 112, 113, 114, 115, 116, 117, 118, 119, 120, 121, 122, 123, 124, 125, 126, 127, 128, 129, 130, 131, 132, 133, 134, 135, 136, 137, 138, 139, 140, 25, 141, 142, 27, 143, 144, 145, 146, 147, 148, 149, 150, 151, 152, 153, 154, 155, 156, 157, 158, 159, 160, 161, 162, 163, 164, 28, 169, 170, 171, 172, 173, 174, 175, 176, 188, 189, 190, 191, 192, 193, 194, 195, 196, 197, 198, 199, 200, 201, 202, 203, 204, 205, 206, 207, 208, 209, 210, 211, 181, 182, 183, 184, 185, 186, 187] (by decide +kernel) (by decide +kernel)
set_option maxRecDepth 20000 in
theorem gX8_walk_X8_hold : GoodIn wsX8_walk (wsV RX8 155 RX8 yX8_hold wsX8_hold) := goodIn_app (goodIn_of _ (by decide +kernel)) ggX8_walk_X8_hold
set_option maxRecDepth 20000 in
theorem ggX8_walk_X2_count : GoodIn wsX8_walk wsX2_count := goodIn_r _ [168, 27, 181, 182, 183, 184, 185, 186, 187] (by decide +kernel) (by decide +kernel)
set_option maxRecDepth 20000 in
theorem gX8_walk_X2_count : GoodIn wsX8_walk (wsV RX8 158 RX2 yX2_count wsX2_count) := goodIn_app (goodIn_of _ (by decide +kernel)) ggX8_walk_X2_count
theorem dX8_walk_0 : decode cX8_walk 0 = .ok (.aload_n 0, 1) := by decide +kernel
theorem dX8_walk_1 : decode cX8_walk 1 = .ok (.iload_n 1, 1) := by decide +kernel
theorem dX8_walk_2 : decode cX8_walk 2 = .ok (.iload_n 2, 1) := by decide +kernel
theorem dX8_walk_3 : decode cX8_walk 3 = .ok (.lload_n 3, 1) := by decide +kernel
theorem dX8_walk_4 : decode cX8_walk 4 = .ok (.invokevirtual 143, 3) := by decide +kernel
theorem dX8_walk_7 : decode cX8_walk 7 = .ok (.ifCond .ne 5, 3) := by decide +kernel
theorem dX8_walk_10 : decode cX8_walk 10 = .ok (.iconst (-1), 1) := by decide +kernel
theorem dX8_walk_11 : decode cX8_walk 11 = .ok (.ireturn, 1) := by decide +kernel
theorem dX8_walk_12 : decode cX8_walk 12 = .ok (.aload_n 0, 1) := by decide +kernel
theorem dX8_walk_13 : decode cX8_walk 13 = .ok (.getfield 71, 3) := by decide +kernel
theorem dX8_walk_16 : decode cX8_walk 16 = .ok (.invokevirtual 147, 3) := by decide +kernel
theorem dX8_walk_19 : decode cX8_walk 19 = .ok (.iconst 0, 1) := by decide +kernel
theorem dX8_walk_20 : decode cX8_walk 20 = .ok (.istore 5, 2) := by decide +kernel
theorem dX8_walk_22 : decode cX8_walk 22 = .ok (.iload 5, 2) := by decide +kernel
theorem dX8_walk_24 : decode cX8_walk 24 = .ok (.aload_n 0, 1) := by decide +kernel
theorem dX8_walk_25 : decode cX8_walk 25 = .ok (.getfield 19, 3) := by decide +kernel
theorem dX8_walk_28 : decode cX8_walk 28 = .ok (.invokevirtual 148, 3) := by decide +kernel
theorem dX8_walk_31 : decode cX8_walk 31 = .ok (.if_icmp .ge 31, 3) := by decide +kernel
theorem dX8_walk_34 : decode cX8_walk 34 = .ok (.aload_n 0, 1) := by decide +kernel
theorem dX8_walk_35 : decode cX8_walk 35 = .ok (.getfield 19, 3) := by decide +kernel
theorem dX8_walk_38 : decode cX8_walk 38 = .ok (.iload 5, 2) := by decide +kernel
theorem dX8_walk_40 : decode cX8_walk 40 = .ok (.iload_n 1, 1) := by decide +kernel
theorem dX8_walk_41 : decode cX8_walk 41 = .ok (.iload_n 2, 1) := by decide +kernel
theorem dX8_walk_42 : decode cX8_walk 42 = .ok (.lload_n 3, 1) := by decide +kernel
theorem dX8_walk_43 : decode cX8_walk 43 = .ok (.invokevirtual 151, 3) := by decide +kernel
theorem dX8_walk_46 : decode cX8_walk 46 = .ok (.ifCond .eq 10, 3) := by decide +kernel
theorem dX8_walk_49 : decode cX8_walk 49 = .ok (.aload_n 0, 1) := by decide +kernel
theorem dX8_walk_50 : decode cX8_walk 50 = .ok (.iload 5, 2) := by decide +kernel
theorem dX8_walk_52 : decode cX8_walk 52 = .ok (.lload_n 3, 1) := by decide +kernel
theorem dX8_walk_53 : decode cX8_walk 53 = .ok (.invokevirtual 155, 3) := by decide +kernel
theorem dX8_walk_56 : decode cX8_walk 56 = .ok (.iinc 5 1, 3) := by decide +kernel
theorem dX8_walk_59 : decode cX8_walk 59 = .ok (.goto (-37), 3) := by decide +kernel
theorem dX8_walk_62 : decode cX8_walk 62 = .ok (.aload_n 0, 1) := by decide +kernel
theorem dX8_walk_63 : decode cX8_walk 63 = .ok (.getfield 71, 3) := by decide +kernel
theorem dX8_walk_66 : decode cX8_walk 66 = .ok (.invokevirtual 158, 3) := by decide +kernel
theorem dX8_walk_69 : decode cX8_walk 69 = .ok (.ireturn, 1) := by decide +kernel
set_option maxRecDepth 20000 in
theorem ggX8_line_X2_has : GoodIn wsX8_line wsX2_has := goodIn_r _ [7, 8, 43, 44, 45, 46, 47, 48, 49] (by decide +kernel) (by decide +kernel)
set_option maxRecDepth 20000 in
theorem gX8_line_X2_has : GoodIn wsX8_line (wsV RX8 159 RX2 yX2_has wsX2_has) := goodIn_app (goodIn_of _ (by decide +kernel)) ggX8_line_X2_has
set_option maxRecDepth 20000 in
theorem ggX8_line_X2_factOf : GoodIn wsX8_line wsX2_factOf := goodIn_r _ [12, 13, 14, 15, 16, 17, 18, 19, 43, 44, 45, 46, 47, 48, 49, 50] (by decide +kernel) (by decide +kernel)
set_option maxRecDepth 20000 in
theorem gX8_line_X2_factOf : GoodIn wsX8_line (wsV RX8 160 RX2 yX2_factOf wsX2_factOf) := goodIn_app (goodIn_of _ (by decide +kernel)) ggX8_line_X2_factOf
set_option maxRecDepth 20000 in
theorem ggX8_line_X2_centsOf : GoodIn wsX8_line wsX2_centsOf := goodIn_r _ [23, 24, 14, 15, 16, 17, 18, 19, 43, 44, 45, 46, 47, 48, 49, 50] (by decide +kernel) (by decide +kernel)
set_option maxRecDepth 20000 in
theorem gX8_line_X2_centsOf : GoodIn wsX8_line (wsV RX8 163 RX2 yX2_centsOf wsX2_centsOf) := goodIn_app (goodIn_of _ (by decide +kernel)) ggX8_line_X2_centsOf
set_option maxRecDepth 20000 in
theorem ggX8_line_X2_editionOf : GoodIn wsX8_line wsX2_editionOf := goodIn_r _ [28, 29, 14, 15, 16, 17, 18, 19, 43, 44, 45, 46, 47, 48, 49, 50] (by decide +kernel) (by decide +kernel)
set_option maxRecDepth 20000 in
theorem gX8_line_X2_editionOf : GoodIn wsX8_line (wsV RX8 166 RX2 yX2_editionOf wsX2_editionOf) := goodIn_app (goodIn_of _ (by decide +kernel)) ggX8_line_X2_editionOf
set_option maxRecDepth 20000 in
theorem ggX8_line_X2_lackOf : GoodIn wsX8_line wsX2_lackOf := goodIn_r _ [33, 34, 14, 15, 16, 17, 18, 19, 43, 44, 45, 46, 47, 48, 49, 50] (by decide +kernel) (by decide +kernel)
set_option maxRecDepth 20000 in
theorem gX8_line_X2_lackOf : GoodIn wsX8_line (wsV RX8 169 RX2 yX2_lackOf wsX2_lackOf) := goodIn_app (goodIn_of _ (by decide +kernel)) ggX8_line_X2_lackOf
theorem dX8_line_0 : decode cX8_line 0 = .ok (.aload_n 0, 1) := by decide +kernel
theorem dX8_line_1 : decode cX8_line 1 = .ok (.getfield 71, 3) := by decide +kernel
theorem dX8_line_4 : decode cX8_line 4 = .ok (.iload_n 1, 1) := by decide +kernel
theorem dX8_line_5 : decode cX8_line 5 = .ok (.invokevirtual 159, 3) := by decide +kernel
theorem dX8_line_8 : decode cX8_line 8 = .ok (.ifCond .ne 7, 3) := by decide +kernel
theorem dX8_line_11 : decode cX8_line 11 = .ok (.ldc2_w 62, 3) := by decide +kernel
theorem dX8_line_14 : decode cX8_line 14 = .ok (.lreturn, 1) := by decide +kernel
theorem dX8_line_15 : decode cX8_line 15 = .ok (.iload_n 2, 1) := by decide +kernel
theorem dX8_line_16 : decode cX8_line 16 = .ok (.tableswitch 68 0 3 #[32, 41, 50, 59], 32) := by decide +kernel
theorem dX8_line_48 : decode cX8_line 48 = .ok (.aload_n 0, 1) := by decide +kernel
theorem dX8_line_49 : decode cX8_line 49 = .ok (.getfield 71, 3) := by decide +kernel
theorem dX8_line_52 : decode cX8_line 52 = .ok (.iload_n 1, 1) := by decide +kernel
theorem dX8_line_53 : decode cX8_line 53 = .ok (.invokevirtual 160, 3) := by decide +kernel
theorem dX8_line_56 : decode cX8_line 56 = .ok (.lreturn, 1) := by decide +kernel
theorem dX8_line_57 : decode cX8_line 57 = .ok (.aload_n 0, 1) := by decide +kernel
theorem dX8_line_58 : decode cX8_line 58 = .ok (.getfield 71, 3) := by decide +kernel
theorem dX8_line_61 : decode cX8_line 61 = .ok (.iload_n 1, 1) := by decide +kernel
theorem dX8_line_62 : decode cX8_line 62 = .ok (.invokevirtual 163, 3) := by decide +kernel
theorem dX8_line_65 : decode cX8_line 65 = .ok (.lreturn, 1) := by decide +kernel
theorem dX8_line_66 : decode cX8_line 66 = .ok (.aload_n 0, 1) := by decide +kernel
theorem dX8_line_67 : decode cX8_line 67 = .ok (.getfield 71, 3) := by decide +kernel
theorem dX8_line_70 : decode cX8_line 70 = .ok (.iload_n 1, 1) := by decide +kernel
theorem dX8_line_71 : decode cX8_line 71 = .ok (.invokevirtual 166, 3) := by decide +kernel
theorem dX8_line_74 : decode cX8_line 74 = .ok (.lreturn, 1) := by decide +kernel
theorem dX8_line_75 : decode cX8_line 75 = .ok (.aload_n 0, 1) := by decide +kernel
theorem dX8_line_76 : decode cX8_line 76 = .ok (.getfield 71, 3) := by decide +kernel
theorem dX8_line_79 : decode cX8_line 79 = .ok (.iload_n 1, 1) := by decide +kernel
theorem dX8_line_80 : decode cX8_line 80 = .ok (.invokevirtual 169, 3) := by decide +kernel
theorem dX8_line_83 : decode cX8_line 83 = .ok (.lreturn, 1) := by decide +kernel
theorem dX8_line_84 : decode cX8_line 84 = .ok (.ldc2_w 62, 3) := by decide +kernel
theorem dX8_line_87 : decode cX8_line 87 = .ok (.lreturn, 1) := by decide +kernel
set_option maxRecDepth 20000 in
theorem ggX8_open_X2_openFact : GoodIn wsX8_open wsX2_openFact := goodIn_r _ [6, 7, 8, 9, 10, 11, 12, 13, 14, 15, 24, 25, 26, 27, 28, 29, 30, 31] (by decide +kernel) (by decide +kernel)
set_option maxRecDepth 20000 in
theorem gX8_open_X2_openFact : GoodIn wsX8_open (wsV RX8 172 RX2 yX2_openFact wsX2_openFact) := goodIn_app (goodIn_of _ (by decide +kernel)) ggX8_open_X2_openFact
theorem dX8_open_0 : decode cX8_open 0 = .ok (.aload_n 0, 1) := by decide +kernel
theorem dX8_open_1 : decode cX8_open 1 = .ok (.getfield 71, 3) := by decide +kernel
theorem dX8_open_4 : decode cX8_open 4 = .ok (.iload_n 1, 1) := by decide +kernel
theorem dX8_open_5 : decode cX8_open 5 = .ok (.invokevirtual 172, 3) := by decide +kernel
theorem dX8_open_8 : decode cX8_open 8 = .ok (.ireturn, 1) := by decide +kernel
set_option maxRecDepth 20000 in
theorem ggX8_write_X2_printedByte : GoodIn wsX8_write wsX2_printedByte := goodIn_r _ [6, 7, 8, 9, 10, 11, 12, 13, 14, 23, 24, 25, 26, 27, 28, 29, 30] (by decide +kernel) (by decide +kernel)
set_option maxRecDepth 20000 in
theorem gX8_write_X2_printedByte : GoodIn wsX8_write (wsV RX8 175 RX2 yX2_printedByte wsX2_printedByte) := goodIn_app (goodIn_of _ (by decide +kernel)) ggX8_write_X2_printedByte
theorem dX8_write_0 : decode cX8_write 0 = .ok (.aload_n 0, 1) := by decide +kernel
theorem dX8_write_1 : decode cX8_write 1 = .ok (.getfield 71, 3) := by decide +kernel
theorem dX8_write_4 : decode cX8_write 4 = .ok (.iload_n 1, 1) := by decide +kernel
theorem dX8_write_5 : decode cX8_write 5 = .ok (.invokevirtual 175, 3) := by decide +kernel
theorem dX8_write_8 : decode cX8_write 8 = .ok (.ireturn, 1) := by decide +kernel
set_option maxRecDepth 20000 in
theorem ggX8_flat_X3_hasFlat : GoodIn wsX8_flat wsX3_hasFlat := goodIn_r _ [7, 8, 9, 10, 11, 6, 12, 13, 14, 15, 16, 17, 18, 19, 154, 155, 156, 157, 158] (by decide +kernel) (by decide +kernel)
set_option maxRecDepth 20000 in
theorem gX8_flat_X3_hasFlat : GoodIn wsX8_flat (wsV RX8 131 RX3 yX3_hasFlat wsX3_hasFlat) := goodIn_app (goodIn_of _ (by decide +kernel)) ggX8_flat_X3_hasFlat
set_option maxRecDepth 20000 in
theorem ggX8_flat_X8_billOf : GoodIn wsX8_flat wsX8_billOf := goodIn_r _ [24, 2, 25, 26, 27, 28, 29, 30, 23, 31, 1, 32, 10, 11, 6, 12, 13, 33, 34, 35, 36, 37, 38, 39, 40, 41, 42, 43, 44, 45, 46, 47, 48, 49, 50, 51, 52, 53, 54, 15, 16, 17, 18, 19, 55, 56, 57, 58, 59, 60, 61, 62, 63, 64, 65, 66, 67, 68, 69, 70, 71, 72, 73, 74, 75, 76, 77, 78, 79, 80, 81, 82, 83, 84, 85, 86, 87, 88, 89, 90, 91, 92, 93, 94, 95, 96, 97, 98, 99, 100, 101, 102, 103, 104, 105, 106, 107, 108, 109, 110, 111, 112, 113, 114, 115, 116, 117, 118, 119, 120, 121, 122, 123, 124, 125, 126, 127, 128, 129, 130, 131, 132, 133, 134, 146, 147, 148, 149, 150, 151, 152, 153, 154, 155, 156, 157, 159, 160, 161, 162, 163, 164, 158, 165, 166, 167, 168, 169, 170, 171, 172, 173, 174, 175, 176, 177, 178, 179, 180, 181] (by decide +kernel) (by decide +kernel)
set_option maxRecDepth 20000 in
theorem gX8_flat_X8_billOf : GoodIn wsX8_flat (wsV RX8 139 RX8 yX8_billOf wsX8_billOf) := goodIn_app (goodIn_of _ (by decide +kernel)) ggX8_flat_X8_billOf
set_option maxRecDepth 20000 in
theorem ggX8_flat_X3_shareOf : GoodIn wsX8_flat wsX3_shareOf := goodIn_r _ [138, 139, 140, 4, 5, 6, 7, 8, 9, 10, 11, 12, 13, 14, 15, 16, 17, 18, 19, 141, 142, 143, 144, 145, 154, 155, 156, 157, 158] (by decide +kernel) (by decide +kernel)
set_option maxRecDepth 20000 in
theorem gX8_flat_X3_shareOf : GoodIn wsX8_flat (wsV RX8 180 RX3 yX3_shareOf wsX3_shareOf) := goodIn_app (goodIn_of _ (by decide +kernel)) ggX8_flat_X3_shareOf
theorem dX8_flat_0 : decode cX8_flat 0 = .ok (.aload_n 0, 1) := by decide +kernel
theorem dX8_flat_1 : decode cX8_flat 1 = .ok (.getfield 12, 3) := by decide +kernel
theorem dX8_flat_4 : decode cX8_flat 4 = .ok (.iload_n 1, 1) := by decide +kernel
theorem dX8_flat_5 : decode cX8_flat 5 = .ok (.iload 5, 2) := by decide +kernel
theorem dX8_flat_7 : decode cX8_flat 7 = .ok (.invokevirtual 131, 3) := by decide +kernel
theorem dX8_flat_10 : decode cX8_flat 10 = .ok (.ifCond .ne 7, 3) := by decide +kernel
theorem dX8_flat_13 : decode cX8_flat 13 = .ok (.ldc2_w 178, 3) := by decide +kernel
theorem dX8_flat_16 : decode cX8_flat 16 = .ok (.lreturn, 1) := by decide +kernel
theorem dX8_flat_17 : decode cX8_flat 17 = .ok (.aload_n 0, 1) := by decide +kernel
theorem dX8_flat_18 : decode cX8_flat 18 = .ok (.iload_n 1, 1) := by decide +kernel
theorem dX8_flat_19 : decode cX8_flat 19 = .ok (.iload_n 2, 1) := by decide +kernel
theorem dX8_flat_20 : decode cX8_flat 20 = .ok (.lload_n 3, 1) := by decide +kernel
theorem dX8_flat_21 : decode cX8_flat 21 = .ok (.invokevirtual 139, 3) := by decide +kernel
theorem dX8_flat_24 : decode cX8_flat 24 = .ok (.lstore 6, 2) := by decide +kernel
theorem dX8_flat_26 : decode cX8_flat 26 = .ok (.lload 6, 2) := by decide +kernel
theorem dX8_flat_28 : decode cX8_flat 28 = .ok (.ldc2_w 178, 3) := by decide +kernel
theorem dX8_flat_31 : decode cX8_flat 31 = .ok (.lcmp, 1) := by decide +kernel
theorem dX8_flat_32 : decode cX8_flat 32 = .ok (.ifCond .ne 7, 3) := by decide +kernel
theorem dX8_flat_35 : decode cX8_flat 35 = .ok (.ldc2_w 178, 3) := by decide +kernel
theorem dX8_flat_38 : decode cX8_flat 38 = .ok (.lreturn, 1) := by decide +kernel
theorem dX8_flat_39 : decode cX8_flat 39 = .ok (.aload_n 0, 1) := by decide +kernel
theorem dX8_flat_40 : decode cX8_flat 40 = .ok (.getfield 12, 3) := by decide +kernel
theorem dX8_flat_43 : decode cX8_flat 43 = .ok (.iload_n 1, 1) := by decide +kernel
theorem dX8_flat_44 : decode cX8_flat 44 = .ok (.iload 5, 2) := by decide +kernel
theorem dX8_flat_46 : decode cX8_flat 46 = .ok (.lload 6, 2) := by decide +kernel
theorem dX8_flat_48 : decode cX8_flat 48 = .ok (.invokevirtual 180, 3) := by decide +kernel
theorem dX8_flat_51 : decode cX8_flat 51 = .ok (.lreturn, 1) := by decide +kernel
set_option maxRecDepth 20000 in
theorem ggX8_issue_X8_billOf : GoodIn wsX8_issue wsX8_billOf := goodIn_r _ [7, 1, 8, 9, 10, 11, 12, 13, 6, 14, 2, 15, 16, 17, 18, 19, 20, 21, 22, 23, 24, 25, 26, 27, 28, 29, 30, 31, 32, 33, 34, 35, 36, 37, 38, 39, 40, 41, 42, 43, 44, 45, 46, 47, 48, 49, 50, 51, 52, 53, 54, 55, 56, 57, 58, 59, 60, 61, 62, 63, 64, 65, 66, 67, 68, 69, 70, 71, 72, 73, 74, 75, 76, 77, 78, 79, 80, 81, 82, 83, 84, 85, 86, 87, 88, 89, 90, 91, 92, 93, 94, 95, 96, 97, 98, 99, 100, 101, 102, 103, 104, 105, 106, 107, 108, 109, 110, 111, 112, 113, 114, 115, 116, 117, 118, 119, 120, 121, 122, 123, 124, 125, 126, 127, 142, 143, 144, 145, 146, 147, 148, 149, 150, 151, 152, 153, 154, 155, 156, 157, 158, 159, 160, 161, 162, 163, 164, 165, 166, 167, 168, 169, 170, 171, 172, 173, 174, 175, 176, 177] (by decide +kernel) (by decide +kernel)
set_option maxRecDepth 20000 in
theorem gX8_issue_X8_billOf : GoodIn wsX8_issue (wsV RX8 139 RX8 yX8_billOf wsX8_billOf) := goodIn_app (goodIn_of _ (by decide +kernel)) ggX8_issue_X8_billOf
set_option maxRecDepth 20000 in
theorem ggX8_issue_X3_issuedOf : GoodIn wsX8_issue wsX3_issuedOf := goodIn_r _ [131, 132, 133, 43, 44, 45, 46, 47, 150, 151, 152, 153, 160] (by decide +kernel) (by decide +kernel)
set_option maxRecDepth 20000 in
theorem gX8_issue_X3_issuedOf : GoodIn wsX8_issue (wsV RX8 183 RX3 yX3_issuedOf wsX3_issuedOf) := goodIn_app (goodIn_of _ (by decide +kernel)) ggX8_issue_X3_issuedOf
set_option maxRecDepth 20000 in
theorem ggX8_issue_X3_setIssued : GoodIn wsX8_issue wsX3_setIssued := goodIn_r _ [137, 132, 138, 139, 140, 45, 141, 47, 150, 151, 152, 153, 160] (by decide +kernel) (by decide +kernel)
set_option maxRecDepth 20000 in
theorem gX8_issue_X3_setIssued : GoodIn wsX8_issue (wsV RX8 187 RX3 yX3_setIssued wsX3_setIssued) := goodIn_app (goodIn_of _ (by decide +kernel)) ggX8_issue_X3_setIssued
theorem dX8_issue_0 : decode cX8_issue 0 = .ok (.aload_n 0, 1) := by decide +kernel
theorem dX8_issue_1 : decode cX8_issue 1 = .ok (.iload_n 1, 1) := by decide +kernel
theorem dX8_issue_2 : decode cX8_issue 2 = .ok (.iload_n 2, 1) := by decide +kernel
theorem dX8_issue_3 : decode cX8_issue 3 = .ok (.lload_n 3, 1) := by decide +kernel
theorem dX8_issue_4 : decode cX8_issue 4 = .ok (.invokevirtual 139, 3) := by decide +kernel
theorem dX8_issue_7 : decode cX8_issue 7 = .ok (.lstore 5, 2) := by decide +kernel
theorem dX8_issue_9 : decode cX8_issue 9 = .ok (.lload 5, 2) := by decide +kernel
theorem dX8_issue_11 : decode cX8_issue 11 = .ok (.ldc2_w 178, 3) := by decide +kernel
theorem dX8_issue_14 : decode cX8_issue 14 = .ok (.lcmp, 1) := by decide +kernel
theorem dX8_issue_15 : decode cX8_issue 15 = .ok (.ifCond .ne 7, 3) := by decide +kernel
theorem dX8_issue_18 : decode cX8_issue 18 = .ok (.ldc2_w 178, 3) := by decide +kernel
theorem dX8_issue_21 : decode cX8_issue 21 = .ok (.lreturn, 1) := by decide +kernel
theorem dX8_issue_22 : decode cX8_issue 22 = .ok (.lload 5, 2) := by decide +kernel
theorem dX8_issue_24 : decode cX8_issue 24 = .ok (.aload_n 0, 1) := by decide +kernel
theorem dX8_issue_25 : decode cX8_issue 25 = .ok (.getfield 12, 3) := by decide +kernel
theorem dX8_issue_28 : decode cX8_issue 28 = .ok (.iload_n 1, 1) := by decide +kernel
theorem dX8_issue_29 : decode cX8_issue 29 = .ok (.iload_n 2, 1) := by decide +kernel
theorem dX8_issue_30 : decode cX8_issue 30 = .ok (.invokevirtual 183, 3) := by decide +kernel
theorem dX8_issue_33 : decode cX8_issue 33 = .ok (.lsub, 1) := by decide +kernel
theorem dX8_issue_34 : decode cX8_issue 34 = .ok (.lstore 7, 2) := by decide +kernel
theorem dX8_issue_36 : decode cX8_issue 36 = .ok (.aload_n 0, 1) := by decide +kernel
theorem dX8_issue_37 : decode cX8_issue 37 = .ok (.getfield 12, 3) := by decide +kernel
theorem dX8_issue_40 : decode cX8_issue 40 = .ok (.iload_n 1, 1) := by decide +kernel
theorem dX8_issue_41 : decode cX8_issue 41 = .ok (.iload_n 2, 1) := by decide +kernel
theorem dX8_issue_42 : decode cX8_issue 42 = .ok (.lload 5, 2) := by decide +kernel
theorem dX8_issue_44 : decode cX8_issue 44 = .ok (.invokevirtual 187, 3) := by decide +kernel
theorem dX8_issue_47 : decode cX8_issue 47 = .ok (.lload 7, 2) := by decide +kernel
theorem dX8_issue_49 : decode cX8_issue 49 = .ok (.lreturn, 1) := by decide +kernel
set_option maxRecDepth 20000 in
theorem ggX8_issued_X3_has : GoodIn wsX8_issued wsX3_has := goodIn_r _ [7, 8, 32, 33, 34, 35] (by decide +kernel) (by decide +kernel)
set_option maxRecDepth 20000 in
theorem gX8_issued_X3_has : GoodIn wsX8_issued (wsV RX8 79 RX3 yX3_has wsX3_has) := goodIn_app (goodIn_of _ (by decide +kernel)) ggX8_issued_X3_has
set_option maxRecDepth 20000 in
theorem ggX8_issued_X8_isMonth : GoodIn wsX8_issued wsX8_isMonth := goodIn_r _ [12] (by decide +kernel) (by decide +kernel)
set_option maxRecDepth 20000 in
theorem gX8_issued_X8_isMonth : GoodIn wsX8_issued (va_wsS RX8 123 yX8_isMonth wsX8_isMonth) := goodIn_app (goodIn_of _ (by decide +kernel)) ggX8_issued_X8_isMonth
set_option maxRecDepth 20000 in
theorem ggX8_issued_X3_issuedOf : GoodIn wsX8_issued wsX3_issuedOf := goodIn_r _ [16, 17, 18, 19, 20, 21, 22, 23, 32, 33, 34, 35, 36] (by decide +kernel) (by decide +kernel)
set_option maxRecDepth 20000 in
theorem gX8_issued_X3_issuedOf : GoodIn wsX8_issued (wsV RX8 183 RX3 yX3_issuedOf wsX3_issuedOf) := goodIn_app (goodIn_of _ (by decide +kernel)) ggX8_issued_X3_issuedOf
theorem dX8_issued_0 : decode cX8_issued 0 = .ok (.aload_n 0, 1) := by decide +kernel
theorem dX8_issued_1 : decode cX8_issued 1 = .ok (.getfield 12, 3) := by decide +kernel
theorem dX8_issued_4 : decode cX8_issued 4 = .ok (.iload_n 1, 1) := by decide +kernel
theorem dX8_issued_5 : decode cX8_issued 5 = .ok (.invokevirtual 79, 3) := by decide +kernel
theorem dX8_issued_8 : decode cX8_issued 8 = .ok (.ifCond .eq 10, 3) := by decide +kernel
theorem dX8_issued_11 : decode cX8_issued 11 = .ok (.iload_n 2, 1) := by decide +kernel
theorem dX8_issued_12 : decode cX8_issued 12 = .ok (.invokestatic 123, 3) := by decide +kernel
theorem dX8_issued_15 : decode cX8_issued 15 = .ok (.ifCond .ne 7, 3) := by decide +kernel
theorem dX8_issued_18 : decode cX8_issued 18 = .ok (.ldc2_w 178, 3) := by decide +kernel
theorem dX8_issued_21 : decode cX8_issued 21 = .ok (.lreturn, 1) := by decide +kernel
theorem dX8_issued_22 : decode cX8_issued 22 = .ok (.aload_n 0, 1) := by decide +kernel
theorem dX8_issued_23 : decode cX8_issued 23 = .ok (.getfield 12, 3) := by decide +kernel
theorem dX8_issued_26 : decode cX8_issued 26 = .ok (.iload_n 1, 1) := by decide +kernel
theorem dX8_issued_27 : decode cX8_issued 27 = .ok (.iload_n 2, 1) := by decide +kernel
theorem dX8_issued_28 : decode cX8_issued 28 = .ok (.invokevirtual 183, 3) := by decide +kernel
theorem dX8_issued_31 : decode cX8_issued 31 = .ok (.lreturn, 1) := by decide +kernel
set_option maxRecDepth 20000 in
theorem ggX8_reverse_X3_has : GoodIn wsX8_reverse wsX3_has := goodIn_r _ [7, 8, 40, 41, 42, 43] (by decide +kernel) (by decide +kernel)
set_option maxRecDepth 20000 in
theorem gX8_reverse_X3_has : GoodIn wsX8_reverse (wsV RX8 79 RX3 yX3_has wsX3_has) := goodIn_app (goodIn_of _ (by decide +kernel)) ggX8_reverse_X3_has
set_option maxRecDepth 20000 in
theorem ggX8_reverse_X8_isMonth : GoodIn wsX8_reverse wsX8_isMonth := goodIn_r _ [12] (by decide +kernel) (by decide +kernel)
set_option maxRecDepth 20000 in
theorem gX8_reverse_X8_isMonth : GoodIn wsX8_reverse (va_wsS RX8 123 yX8_isMonth wsX8_isMonth) := goodIn_app (goodIn_of _ (by decide +kernel)) ggX8_reverse_X8_isMonth
set_option maxRecDepth 20000 in
theorem ggX8_reverse_X3_issuedOf : GoodIn wsX8_reverse wsX3_issuedOf := goodIn_r _ [16, 17, 18, 19, 20, 21, 22, 23, 40, 41, 42, 43, 44] (by decide +kernel) (by decide +kernel)
set_option maxRecDepth 20000 in
theorem gX8_reverse_X3_issuedOf : GoodIn wsX8_reverse (wsV RX8 183 RX3 yX3_issuedOf wsX3_issuedOf) := goodIn_app (goodIn_of _ (by decide +kernel)) ggX8_reverse_X3_issuedOf
set_option maxRecDepth 20000 in
theorem ggX8_reverse_X3_setIssued : GoodIn wsX8_reverse wsX3_setIssued := goodIn_r _ [27, 17, 28, 29, 30, 21, 31, 23, 40, 41, 42, 43, 44] (by decide +kernel) (by decide +kernel)
set_option maxRecDepth 20000 in
theorem gX8_reverse_X3_setIssued : GoodIn wsX8_reverse (wsV RX8 187 RX3 yX3_setIssued wsX3_setIssued) := goodIn_app (goodIn_of _ (by decide +kernel)) ggX8_reverse_X3_setIssued
theorem dX8_reverse_0 : decode cX8_reverse 0 = .ok (.aload_n 0, 1) := by decide +kernel
theorem dX8_reverse_1 : decode cX8_reverse 1 = .ok (.getfield 12, 3) := by decide +kernel
theorem dX8_reverse_4 : decode cX8_reverse 4 = .ok (.iload_n 1, 1) := by decide +kernel
theorem dX8_reverse_5 : decode cX8_reverse 5 = .ok (.invokevirtual 79, 3) := by decide +kernel
theorem dX8_reverse_8 : decode cX8_reverse 8 = .ok (.ifCond .eq 10, 3) := by decide +kernel
theorem dX8_reverse_11 : decode cX8_reverse 11 = .ok (.iload_n 2, 1) := by decide +kernel
theorem dX8_reverse_12 : decode cX8_reverse 12 = .ok (.invokestatic 123, 3) := by decide +kernel
theorem dX8_reverse_15 : decode cX8_reverse 15 = .ok (.ifCond .ne 7, 3) := by decide +kernel
theorem dX8_reverse_18 : decode cX8_reverse 18 = .ok (.ldc2_w 178, 3) := by decide +kernel
theorem dX8_reverse_21 : decode cX8_reverse 21 = .ok (.lreturn, 1) := by decide +kernel
theorem dX8_reverse_22 : decode cX8_reverse 22 = .ok (.aload_n 0, 1) := by decide +kernel
theorem dX8_reverse_23 : decode cX8_reverse 23 = .ok (.getfield 12, 3) := by decide +kernel
theorem dX8_reverse_26 : decode cX8_reverse 26 = .ok (.iload_n 1, 1) := by decide +kernel
theorem dX8_reverse_27 : decode cX8_reverse 27 = .ok (.iload_n 2, 1) := by decide +kernel
theorem dX8_reverse_28 : decode cX8_reverse 28 = .ok (.invokevirtual 183, 3) := by decide +kernel
theorem dX8_reverse_31 : decode cX8_reverse 31 = .ok (.lstore_n 3, 1) := by decide +kernel
theorem dX8_reverse_32 : decode cX8_reverse 32 = .ok (.aload_n 0, 1) := by decide +kernel
theorem dX8_reverse_33 : decode cX8_reverse 33 = .ok (.getfield 12, 3) := by decide +kernel
theorem dX8_reverse_36 : decode cX8_reverse 36 = .ok (.iload_n 1, 1) := by decide +kernel
theorem dX8_reverse_37 : decode cX8_reverse 37 = .ok (.iload_n 2, 1) := by decide +kernel
theorem dX8_reverse_38 : decode cX8_reverse 38 = .ok (.lconst 0, 1) := by decide +kernel
theorem dX8_reverse_39 : decode cX8_reverse 39 = .ok (.invokevirtual 187, 3) := by decide +kernel
theorem dX8_reverse_42 : decode cX8_reverse 42 = .ok (.lload_n 3, 1) := by decide +kernel
theorem dX8_reverse_43 : decode cX8_reverse 43 = .ok (.lneg, 1) := by decide +kernel
theorem dX8_reverse_44 : decode cX8_reverse 44 = .ok (.lreturn, 1) := by decide +kernel
theorem dX8_isKind_0 : decode cX8_isKind 0 = .ok (.iload_n 0, 1) := by decide +kernel
theorem dX8_isKind_1 : decode cX8_isKind 1 = .ok (.ifCond .lt 13, 3) := by decide +kernel
theorem dX8_isKind_4 : decode cX8_isKind 4 = .ok (.iload_n 0, 1) := by decide +kernel
theorem dX8_isKind_5 : decode cX8_isKind 5 = .ok (.bipush 6, 2) := by decide +kernel
theorem dX8_isKind_7 : decode cX8_isKind 7 = .ok (.if_icmp .ge 7, 3) := by decide +kernel
theorem dX8_isKind_10 : decode cX8_isKind 10 = .ok (.iconst 1, 1) := by decide +kernel
theorem dX8_isKind_11 : decode cX8_isKind 11 = .ok (.goto 4, 3) := by decide +kernel
theorem dX8_isKind_14 : decode cX8_isKind 14 = .ok (.iconst 0, 1) := by decide +kernel
theorem dX8_isKind_15 : decode cX8_isKind 15 = .ok (.ireturn, 1) := by decide +kernel
theorem dX8_isDay_0 : decode cX8_isDay 0 = .ok (.lload_n 0, 1) := by decide +kernel
theorem dX8_isDay_1 : decode cX8_isDay 1 = .ok (.lconst 0, 1) := by decide +kernel
theorem dX8_isDay_2 : decode cX8_isDay 2 = .ok (.lcmp, 1) := by decide +kernel
theorem dX8_isDay_3 : decode cX8_isDay 3 = .ok (.ifCond .lt 15, 3) := by decide +kernel
theorem dX8_isDay_6 : decode cX8_isDay 6 = .ok (.lload_n 0, 1) := by decide +kernel
theorem dX8_isDay_7 : decode cX8_isDay 7 = .ok (.ldc2_w 191, 3) := by decide +kernel
theorem dX8_isDay_10 : decode cX8_isDay 10 = .ok (.lcmp, 1) := by decide +kernel
theorem dX8_isDay_11 : decode cX8_isDay 11 = .ok (.ifCond .ge 7, 3) := by decide +kernel
theorem dX8_isDay_14 : decode cX8_isDay 14 = .ok (.iconst 1, 1) := by decide +kernel
theorem dX8_isDay_15 : decode cX8_isDay 15 = .ok (.goto 4, 3) := by decide +kernel
theorem dX8_isDay_18 : decode cX8_isDay 18 = .ok (.iconst 0, 1) := by decide +kernel
theorem dX8_isDay_19 : decode cX8_isDay 19 = .ok (.ireturn, 1) := by decide +kernel
theorem dX8_isMonth_0 : decode cX8_isMonth 0 = .ok (.iload_n 0, 1) := by decide +kernel
theorem dX8_isMonth_1 : decode cX8_isMonth 1 = .ok (.ifCond .lt 13, 3) := by decide +kernel
theorem dX8_isMonth_4 : decode cX8_isMonth 4 = .ok (.iload_n 0, 1) := by decide +kernel
theorem dX8_isMonth_5 : decode cX8_isMonth 5 = .ok (.bipush 120, 2) := by decide +kernel
theorem dX8_isMonth_7 : decode cX8_isMonth 7 = .ok (.if_icmp .ge 7, 3) := by decide +kernel
theorem dX8_isMonth_10 : decode cX8_isMonth 10 = .ok (.iconst 1, 1) := by decide +kernel
theorem dX8_isMonth_11 : decode cX8_isMonth 11 = .ok (.goto 4, 3) := by decide +kernel
theorem dX8_isMonth_14 : decode cX8_isMonth 14 = .ok (.iconst 0, 1) := by decide +kernel
theorem dX8_isMonth_15 : decode cX8_isMonth 15 = .ok (.ireturn, 1) := by decide +kernel
set_option maxRecDepth 20000 in
theorem ggX8_isAskable_X3_has : GoodIn wsX8_isAskable wsX3_has := goodIn_r _ [6, 7, 24, 25, 26, 27] (by decide +kernel) (by decide +kernel)
set_option maxRecDepth 20000 in
theorem gX8_isAskable_X3_has : GoodIn wsX8_isAskable (wsV RX8 79 RX3 yX3_has wsX3_has) := goodIn_app (goodIn_of _ (by decide +kernel)) ggX8_isAskable_X3_has
set_option maxRecDepth 20000 in
theorem ggX8_isAskable_X8_isMonth : GoodIn wsX8_isAskable wsX8_isMonth := goodIn_r _ [11] (by decide +kernel) (by decide +kernel)
set_option maxRecDepth 20000 in
theorem gX8_isAskable_X8_isMonth : GoodIn wsX8_isAskable (va_wsS RX8 123 yX8_isMonth wsX8_isMonth) := goodIn_app (goodIn_of _ (by decide +kernel)) ggX8_isAskable_X8_isMonth
set_option maxRecDepth 20000 in
theorem ggX8_isAskable_X8_isDay : GoodIn wsX8_isAskable wsX8_isDay := goodIn_r _ [14, 15] (by decide +kernel) (by decide +kernel)
set_option maxRecDepth 20000 in
theorem gX8_isAskable_X8_isDay : GoodIn wsX8_isAskable (va_wsS RX8 86 yX8_isDay wsX8_isDay) := goodIn_app (goodIn_of _ (by decide +kernel)) ggX8_isAskable_X8_isDay
theorem dX8_isAskable_0 : decode cX8_isAskable 0 = .ok (.aload_n 0, 1) := by decide +kernel
theorem dX8_isAskable_1 : decode cX8_isAskable 1 = .ok (.getfield 12, 3) := by decide +kernel
theorem dX8_isAskable_4 : decode cX8_isAskable 4 = .ok (.iload_n 1, 1) := by decide +kernel
theorem dX8_isAskable_5 : decode cX8_isAskable 5 = .ok (.invokevirtual 79, 3) := by decide +kernel
theorem dX8_isAskable_8 : decode cX8_isAskable 8 = .ok (.ifCond .eq 21, 3) := by decide +kernel
theorem dX8_isAskable_11 : decode cX8_isAskable 11 = .ok (.iload_n 2, 1) := by decide +kernel
theorem dX8_isAskable_12 : decode cX8_isAskable 12 = .ok (.invokestatic 123, 3) := by decide +kernel
theorem dX8_isAskable_15 : decode cX8_isAskable 15 = .ok (.ifCond .eq 14, 3) := by decide +kernel
theorem dX8_isAskable_18 : decode cX8_isAskable 18 = .ok (.lload_n 3, 1) := by decide +kernel
theorem dX8_isAskable_19 : decode cX8_isAskable 19 = .ok (.invokestatic 86, 3) := by decide +kernel
theorem dX8_isAskable_22 : decode cX8_isAskable 22 = .ok (.ifCond .eq 7, 3) := by decide +kernel
theorem dX8_isAskable_25 : decode cX8_isAskable 25 = .ok (.iconst 1, 1) := by decide +kernel
theorem dX8_isAskable_26 : decode cX8_isAskable 26 = .ok (.goto 4, 3) := by decide +kernel
theorem dX8_isAskable_29 : decode cX8_isAskable 29 = .ok (.iconst 0, 1) := by decide +kernel
theorem dX8_isAskable_30 : decode cX8_isAskable 30 = .ok (.ireturn, 1) := by decide +kernel
set_option maxRecDepth 20000 in
theorem ggX8_billOf_X8_isAskable : GoodIn wsX8_billOf wsX8_isAskable := goodIn_r _ [9, 10, 11, 12, 13, 14, 15, 16, 17, 18, 8, 19, 20, 21, 22, 23, 124, 125, 126, 127, 128, 129, 130, 131, 132, 133, 134, 135] (by decide +kernel) (by decide +kernel)
set_option maxRecDepth 20000 in
theorem gX8_billOf_X8_isAskable : GoodIn wsX8_billOf (wsV RX8 143 RX8 yX8_isAskable wsX8_isAskable) := goodIn_app (goodIn_of _ (by decide +kernel)) ggX8_billOf_X8_isAskable
set_option maxRecDepth 20000 in
theorem ggX8_billOf_X1_count : GoodIn wsX8_billOf wsX1_count := goodIn_r _ [28, 29, 136, 137, 138, 139, 140, 141] (by decide +kernel) (by decide +kernel)
set_option maxRecDepth 20000 in
theorem gX8_billOf_X1_count : GoodIn wsX8_billOf (wsV RX8 148 RX1 yX1_count wsX1_count) := goodIn_app (goodIn_of _ (by decide +kernel)) ggX8_billOf_X1_count
set_option maxRecDepth 20000 in
theorem ggX8_billOf_X1_isOf : GoodIn wsX8_billOf wsX1_isOf := goodIn_r _ [33, 34, 35, 36, 37, 38, 39, 40, 41, 42, 43, 136, 137, 138, 139, 140, 141, 142] (by decide +kernel) (by decide +kernel)
set_option maxRecDepth 20000 in
theorem gX8_billOf_X1_isOf : GoodIn wsX8_billOf (wsV RX8 151 RX1 yX1_isOf wsX1_isOf) := goodIn_app (goodIn_of _ (by decide +kernel)) ggX8_billOf_X1_isOf
set_option maxRecDepth 20000 in
theorem ggX8_billOf_X8_editionOf : GoodIn wsX8_billOf wsX8_editionOf := goodIn_r _ [47, 48, 2, 49, 50, 51, 8, 52, 53, 54, 55, 56, 27, 57, 34, 38, 39, 40, 41, 42, 43, 58, 59, 60, 61, 62, 63, 64, 65, 66, 35, 67, 68, 69, 70, 71, 72, 73, 74, 75, 76, 77, 78, 79, 80, 81, 82, 83, 84, 85, 86, 124, 125, 126, 127, 128, 129, 130, 131, 136, 137, 138, 139, 140, 141, 142, 143, 144, 145, 146, 147, 148, 149, 150, 151, 152, 153, 154, 155, 156, 157, 158, 159] (by decide +kernel) (by decide +kernel)
set_option maxRecDepth 20000 in
theorem gX8_billOf_X8_editionOf : GoodIn wsX8_billOf (wsV RX8 193 RX8 yX8_editionOf wsX8_editionOf) := goodIn_app (goodIn_of _ (by decide +kernel)) ggX8_billOf_X8_editionOf
set_option maxRecDepth 20000 in
theorem ggX8_billOf_X8_centsOf : GoodIn wsX8_billOf wsX8_centsOf := goodIn_r _ [90, 48, 2, 49, 50, 51, 8, 52, 53, 54, 55, 56, 27, 57, 34, 38, 39, 40, 41, 42, 43, 58, 59, 60, 61, 62, 63, 64, 65, 66, 35, 67, 68, 69, 70, 71, 72, 73, 74, 75, 76, 77, 91, 92, 93, 94, 95, 96, 97, 98, 81, 99, 100, 101, 102, 103, 104, 105, 106, 107, 108, 109, 110, 83, 111, 112, 113, 86, 114, 115, 116, 117, 118, 119, 120, 121, 122, 124, 125, 126, 127, 128, 129, 130, 131, 136, 137, 138, 139, 140, 141, 142, 143, 144, 145, 146, 147, 148, 149, 150, 151, 152, 153, 154, 155, 156, 157, 158, 159] (by decide +kernel) (by decide +kernel)
set_option maxRecDepth 20000 in
theorem gX8_billOf_X8_centsOf : GoodIn wsX8_billOf (wsV RX8 196 RX8 yX8_centsOf wsX8_centsOf) := goodIn_app (goodIn_of _ (by decide +kernel)) ggX8_billOf_X8_centsOf
set_option maxRecDepth 20000 in
theorem ggX8_billOf_X5_get : GoodIn wsX8_billOf wsX5_get := goodIn_r _ [42, 43, 142] (by decide +kernel) (by decide +kernel)
set_option maxRecDepth 20000 in
theorem gX8_billOf_X5_get : GoodIn wsX8_billOf (wsV RX8 198 RX5 yX5_get wsX5_get) := goodIn_app (goodIn_of _ (by decide +kernel)) ggX8_billOf_X5_get
theorem dX8_billOf_0 : decode cX8_billOf 0 = .ok (.aload_n 0, 1) := by decide +kernel
theorem dX8_billOf_1 : decode cX8_billOf 1 = .ok (.iload_n 1, 1) := by decide +kernel
theorem dX8_billOf_2 : decode cX8_billOf 2 = .ok (.iload_n 2, 1) := by decide +kernel
theorem dX8_billOf_3 : decode cX8_billOf 3 = .ok (.lload_n 3, 1) := by decide +kernel
theorem dX8_billOf_4 : decode cX8_billOf 4 = .ok (.invokevirtual 143, 3) := by decide +kernel
theorem dX8_billOf_7 : decode cX8_billOf 7 = .ok (.ifCond .ne 7, 3) := by decide +kernel
theorem dX8_billOf_10 : decode cX8_billOf 10 = .ok (.ldc2_w 178, 3) := by decide +kernel
theorem dX8_billOf_13 : decode cX8_billOf 13 = .ok (.lreturn, 1) := by decide +kernel
theorem dX8_billOf_14 : decode cX8_billOf 14 = .ok (.lconst 0, 1) := by decide +kernel
theorem dX8_billOf_15 : decode cX8_billOf 15 = .ok (.lstore 5, 2) := by decide +kernel
theorem dX8_billOf_17 : decode cX8_billOf 17 = .ok (.iconst 0, 1) := by decide +kernel
theorem dX8_billOf_18 : decode cX8_billOf 18 = .ok (.istore 7, 2) := by decide +kernel
theorem dX8_billOf_20 : decode cX8_billOf 20 = .ok (.iload 7, 2) := by decide +kernel
theorem dX8_billOf_22 : decode cX8_billOf 22 = .ok (.aload_n 0, 1) := by decide +kernel
theorem dX8_billOf_23 : decode cX8_billOf 23 = .ok (.getfield 19, 3) := by decide +kernel
theorem dX8_billOf_26 : decode cX8_billOf 26 = .ok (.invokevirtual 148, 3) := by decide +kernel
theorem dX8_billOf_29 : decode cX8_billOf 29 = .ok (.if_icmp .ge 59, 3) := by decide +kernel
theorem dX8_billOf_32 : decode cX8_billOf 32 = .ok (.aload_n 0, 1) := by decide +kernel
theorem dX8_billOf_33 : decode cX8_billOf 33 = .ok (.getfield 19, 3) := by decide +kernel
theorem dX8_billOf_36 : decode cX8_billOf 36 = .ok (.iload 7, 2) := by decide +kernel
theorem dX8_billOf_38 : decode cX8_billOf 38 = .ok (.iload_n 1, 1) := by decide +kernel
theorem dX8_billOf_39 : decode cX8_billOf 39 = .ok (.iload_n 2, 1) := by decide +kernel
theorem dX8_billOf_40 : decode cX8_billOf 40 = .ok (.lload_n 3, 1) := by decide +kernel
theorem dX8_billOf_41 : decode cX8_billOf 41 = .ok (.invokevirtual 151, 3) := by decide +kernel
theorem dX8_billOf_44 : decode cX8_billOf 44 = .ok (.ifCond .eq 38, 3) := by decide +kernel
theorem dX8_billOf_47 : decode cX8_billOf 47 = .ok (.aload_n 0, 1) := by decide +kernel
theorem dX8_billOf_48 : decode cX8_billOf 48 = .ok (.iload 7, 2) := by decide +kernel
theorem dX8_billOf_50 : decode cX8_billOf 50 = .ok (.aload_n 0, 1) := by decide +kernel
theorem dX8_billOf_51 : decode cX8_billOf 51 = .ok (.iload 7, 2) := by decide +kernel
theorem dX8_billOf_53 : decode cX8_billOf 53 = .ok (.lload_n 3, 1) := by decide +kernel
theorem dX8_billOf_54 : decode cX8_billOf 54 = .ok (.invokevirtual 193, 3) := by decide +kernel
theorem dX8_billOf_57 : decode cX8_billOf 57 = .ok (.invokevirtual 196, 3) := by decide +kernel
theorem dX8_billOf_60 : decode cX8_billOf 60 = .ok (.lstore 8, 2) := by decide +kernel
theorem dX8_billOf_62 : decode cX8_billOf 62 = .ok (.lload 8, 2) := by decide +kernel
theorem dX8_billOf_64 : decode cX8_billOf 64 = .ok (.ldc2_w 62, 3) := by decide +kernel
theorem dX8_billOf_67 : decode cX8_billOf 67 = .ok (.lcmp, 1) := by decide +kernel
theorem dX8_billOf_68 : decode cX8_billOf 68 = .ok (.ifCond .ne 7, 3) := by decide +kernel
theorem dX8_billOf_71 : decode cX8_billOf 71 = .ok (.ldc2_w 178, 3) := by decide +kernel
theorem dX8_billOf_74 : decode cX8_billOf 74 = .ok (.lreturn, 1) := by decide +kernel
theorem dX8_billOf_75 : decode cX8_billOf 75 = .ok (.lload 5, 2) := by decide +kernel
theorem dX8_billOf_77 : decode cX8_billOf 77 = .ok (.lload 8, 2) := by decide +kernel
theorem dX8_billOf_79 : decode cX8_billOf 79 = .ok (.ladd, 1) := by decide +kernel
theorem dX8_billOf_80 : decode cX8_billOf 80 = .ok (.lstore 5, 2) := by decide +kernel
theorem dX8_billOf_82 : decode cX8_billOf 82 = .ok (.iinc 7 1, 3) := by decide +kernel
theorem dX8_billOf_85 : decode cX8_billOf 85 = .ok (.goto (-65), 3) := by decide +kernel
theorem dX8_billOf_88 : decode cX8_billOf 88 = .ok (.aload_n 0, 1) := by decide +kernel
theorem dX8_billOf_89 : decode cX8_billOf 89 = .ok (.getfield 58, 3) := by decide +kernel
theorem dX8_billOf_92 : decode cX8_billOf 92 = .ok (.iload_n 2, 1) := by decide +kernel
theorem dX8_billOf_93 : decode cX8_billOf 93 = .ok (.invokevirtual 198, 3) := by decide +kernel
theorem dX8_billOf_96 : decode cX8_billOf 96 = .ok (.lstore 7, 2) := by decide +kernel
theorem dX8_billOf_98 : decode cX8_billOf 98 = .ok (.lload 7, 2) := by decide +kernel
theorem dX8_billOf_100 : decode cX8_billOf 100 = .ok (.ldc2_w 62, 3) := by decide +kernel
theorem dX8_billOf_103 : decode cX8_billOf 103 = .ok (.lcmp, 1) := by decide +kernel
theorem dX8_billOf_104 : decode cX8_billOf 104 = .ok (.ifCond .eq 16, 3) := by decide +kernel
theorem dX8_billOf_107 : decode cX8_billOf 107 = .ok (.lload 5, 2) := by decide +kernel
theorem dX8_billOf_109 : decode cX8_billOf 109 = .ok (.lload 7, 2) := by decide +kernel
theorem dX8_billOf_111 : decode cX8_billOf 111 = .ok (.lcmp, 1) := by decide +kernel
theorem dX8_billOf_112 : decode cX8_billOf 112 = .ok (.ifCond .le 8, 3) := by decide +kernel
theorem dX8_billOf_115 : decode cX8_billOf 115 = .ok (.lload 7, 2) := by decide +kernel
theorem dX8_billOf_117 : decode cX8_billOf 117 = .ok (.goto 5, 3) := by decide +kernel
theorem dX8_billOf_120 : decode cX8_billOf 120 = .ok (.lload 5, 2) := by decide +kernel
theorem dX8_billOf_122 : decode cX8_billOf 122 = .ok (.lreturn, 1) := by decide +kernel
set_option maxRecDepth 20000 in
theorem ggX8_hold_X8_editionOf : GoodIn wsX8_hold wsX8_editionOf := goodIn_r _ [7, 8, 2, 9, 10, 11, 6, 12, 13, 14, 15, 16, 17, 18, 19, 20, 21, 22, 23, 24, 25, 26, 27, 28, 29, 30, 31, 32, 33, 34, 35, 36, 37, 38, 39, 40, 41, 42, 43, 44, 45, 46, 47, 48, 49, 50, 51, 52, 53, 54, 55, 128, 129, 130, 131, 132, 133, 134, 135, 136, 137, 138, 139, 140, 141, 142, 143, 144, 145, 146, 147, 148, 149, 150, 151, 152, 153, 154, 155, 156, 157, 158, 159] (by decide +kernel) (by decide +kernel)
set_option maxRecDepth 20000 in
theorem gX8_hold_X8_editionOf : GoodIn wsX8_hold (wsV RX8 193 RX8 yX8_editionOf wsX8_editionOf) := goodIn_app (goodIn_of _ (by decide +kernel)) ggX8_hold_X8_editionOf
set_option maxRecDepth 20000 in
theorem ggX8_hold_X8_centsOf : GoodIn wsX8_hold wsX8_centsOf := goodIn_r _ [59, 8, 2, 9, 10, 11, 6, 12, 13, 14, 15, 16, 17, 18, 19, 20, 21, 22, 23, 24, 25, 26, 27, 28, 29, 30, 31, 32, 33, 34, 35, 36, 37, 38, 39, 40, 41, 42, 43, 44, 45, 46, 60, 61, 62, 63, 64, 65, 66, 67, 50, 68, 69, 70, 71, 72, 73, 74, 75, 76, 77, 78, 79, 52, 80, 81, 82, 55, 83, 84, 85, 86, 87, 88, 89, 90, 91, 128, 129, 130, 131, 132, 133, 134, 135, 136, 137, 138, 139, 140, 141, 142, 143, 144, 145, 146, 147, 148, 149, 150, 151, 152, 153, 154, 155, 156, 157, 158, 159] (by decide +kernel) (by decide +kernel)
set_option maxRecDepth 20000 in
theorem gX8_hold_X8_centsOf : GoodIn wsX8_hold (wsV RX8 196 RX8 yX8_centsOf wsX8_centsOf) := goodIn_app (goodIn_of _ (by decide +kernel)) ggX8_hold_X8_centsOf
set_option maxRecDepth 20000 in
theorem ggX8_hold_X8_lackOf : GoodIn wsX8_hold wsX8_lackOf := goodIn_r _ [95, 96, 8, 2, 26, 27, 28, 17, 29, 30, 20, 21, 22, 23, 24, 25, 97, 73, 74, 50, 75, 70, 69, 76, 77, 78, 79, 52, 80, 81, 82, 55, 128, 129, 130, 131, 132, 133, 134, 135, 136, 137, 138, 139, 140, 141, 142, 148, 149, 150, 151, 152, 153, 154, 155, 156, 157, 158, 159] (by decide +kernel) (by decide +kernel)
set_option maxRecDepth 20000 in
theorem gX8_hold_X8_lackOf : GoodIn wsX8_hold (wsV RX8 201 RX8 yX8_lackOf wsX8_lackOf) := goodIn_app (goodIn_of _ (by decide +kernel)) ggX8_hold_X8_lackOf
set_option maxRecDepth 20000 in
theorem ggX8_hold_X2_add : GoodIn wsX8_hold wsX2_add := goodIn_r _ [102, 103, 104, 105, 106, 107, 108, 109, 110, 23, 111, 25, 160, 161, 162, 163, 164, 165, 166, 142] (by decide +kernel) (by decide +kernel)
set_option maxRecDepth 20000 in
theorem gX8_hold_X2_add : GoodIn wsX8_hold (wsV RX8 204 RX2 yX2_add wsX2_add) := goodIn_app (goodIn_of _ (by decide +kernel)) ggX8_hold_X2_add
set_option maxRecDepth 20000 in
theorem ggX8_hold_X1_kindOf : GoodIn wsX8_hold wsX1_kindOf := goodIn_r _ [29, 30, 20, 21, 22, 23, 24, 25, 136, 137, 138, 139, 140, 141, 142] (by decide +kernel) (by decide +kernel)
set_option maxRecDepth 20000 in
theorem gX8_hold_X1_kindOf : GoodIn wsX8_hold (wsV RX8 207 RX1 yX1_kindOf wsX1_kindOf) := goodIn_app (goodIn_of _ (by decide +kernel)) ggX8_hold_X1_kindOf
set_option maxRecDepth 20000 in
theorem ggX8_hold_X1_measureOf : GoodIn wsX8_hold wsX1_measureOf := goodIn_r _ [63, 64, 20, 21, 22, 23, 24, 25, 136, 137, 138, 139, 140, 141, 142] (by decide +kernel) (by decide +kernel)
set_option maxRecDepth 20000 in
theorem gX8_hold_X1_measureOf : GoodIn wsX8_hold (wsV RX8 210 RX1 yX1_measureOf wsX1_measureOf) := goodIn_app (goodIn_of _ (by decide +kernel)) ggX8_hold_X1_measureOf
set_option maxRecDepth 20000 in
theorem ggX8_hold_X2_print : GoodIn wsX8_hold wsX2_print := goodIn_r _ [115, 116, 117, 118, 119, 101, 120, 121, 122, 123, 124, 125, 126, 127, 108, 109, 110, 23, 111, 25, 160, 161, 162, 163, 164, 165, 166, 142] (by decide +kernel) (by decide +kernel)
set_option maxRecDepth 20000 in
theorem gX8_hold_X2_print : GoodIn wsX8_hold (wsV RX8 213 RX2 yX2_print wsX2_print) := goodIn_app (goodIn_of _ (by decide +kernel)) ggX8_hold_X2_print
theorem dX8_hold_0 : decode cX8_hold 0 = .ok (.aload_n 0, 1) := by decide +kernel
theorem dX8_hold_1 : decode cX8_hold 1 = .ok (.iload_n 1, 1) := by decide +kernel
theorem dX8_hold_2 : decode cX8_hold 2 = .ok (.lload_n 2, 1) := by decide +kernel
theorem dX8_hold_3 : decode cX8_hold 3 = .ok (.invokevirtual 193, 3) := by decide +kernel
theorem dX8_hold_6 : decode cX8_hold 6 = .ok (.istore 4, 2) := by decide +kernel
theorem dX8_hold_8 : decode cX8_hold 8 = .ok (.aload_n 0, 1) := by decide +kernel
theorem dX8_hold_9 : decode cX8_hold 9 = .ok (.iload_n 1, 1) := by decide +kernel
theorem dX8_hold_10 : decode cX8_hold 10 = .ok (.iload 4, 2) := by decide +kernel
theorem dX8_hold_12 : decode cX8_hold 12 = .ok (.invokevirtual 196, 3) := by decide +kernel
theorem dX8_hold_15 : decode cX8_hold 15 = .ok (.lstore 5, 2) := by decide +kernel
theorem dX8_hold_17 : decode cX8_hold 17 = .ok (.aload_n 0, 1) := by decide +kernel
theorem dX8_hold_18 : decode cX8_hold 18 = .ok (.getfield 71, 3) := by decide +kernel
theorem dX8_hold_21 : decode cX8_hold 21 = .ok (.iload_n 1, 1) := by decide +kernel
theorem dX8_hold_22 : decode cX8_hold 22 = .ok (.lload 5, 2) := by decide +kernel
theorem dX8_hold_24 : decode cX8_hold 24 = .ok (.iload 4, 2) := by decide +kernel
theorem dX8_hold_26 : decode cX8_hold 26 = .ok (.aload_n 0, 1) := by decide +kernel
theorem dX8_hold_27 : decode cX8_hold 27 = .ok (.iload_n 1, 1) := by decide +kernel
theorem dX8_hold_28 : decode cX8_hold 28 = .ok (.iload 4, 2) := by decide +kernel
theorem dX8_hold_30 : decode cX8_hold 30 = .ok (.lload 5, 2) := by decide +kernel
theorem dX8_hold_32 : decode cX8_hold 32 = .ok (.invokevirtual 201, 3) := by decide +kernel
theorem dX8_hold_35 : decode cX8_hold 35 = .ok (.invokevirtual 204, 3) := by decide +kernel
theorem dX8_hold_38 : decode cX8_hold 38 = .ok (.aload_n 0, 1) := by decide +kernel
theorem dX8_hold_39 : decode cX8_hold 39 = .ok (.getfield 71, 3) := by decide +kernel
theorem dX8_hold_42 : decode cX8_hold 42 = .ok (.aload_n 0, 1) := by decide +kernel
theorem dX8_hold_43 : decode cX8_hold 43 = .ok (.getfield 19, 3) := by decide +kernel
theorem dX8_hold_46 : decode cX8_hold 46 = .ok (.iload_n 1, 1) := by decide +kernel
theorem dX8_hold_47 : decode cX8_hold 47 = .ok (.invokevirtual 207, 3) := by decide +kernel
theorem dX8_hold_50 : decode cX8_hold 50 = .ok (.aload_n 0, 1) := by decide +kernel
theorem dX8_hold_51 : decode cX8_hold 51 = .ok (.getfield 19, 3) := by decide +kernel
theorem dX8_hold_54 : decode cX8_hold 54 = .ok (.iload_n 1, 1) := by decide +kernel
theorem dX8_hold_55 : decode cX8_hold 55 = .ok (.invokevirtual 210, 3) := by decide +kernel
theorem dX8_hold_58 : decode cX8_hold 58 = .ok (.lload 5, 2) := by decide +kernel
theorem dX8_hold_60 : decode cX8_hold 60 = .ok (.invokevirtual 213, 3) := by decide +kernel
theorem dX8_hold_63 : decode cX8_hold 63 = .ok (.return_, 1) := by decide +kernel
set_option maxRecDepth 20000 in
theorem ggX8_isRelieved_X1_houseOf : GoodIn wsX8_isRelieved wsX1_houseOf := goodIn_r _ [7, 8, 9, 10, 11, 12, 13, 14, 44, 45, 46, 47, 48, 49, 50] (by decide +kernel) (by decide +kernel)
set_option maxRecDepth 20000 in
theorem gX8_isRelieved_X1_houseOf : GoodIn wsX8_isRelieved (wsV RX8 217 RX1 yX1_houseOf wsX1_houseOf) := goodIn_app (goodIn_of _ (by decide +kernel)) ggX8_isRelieved_X1_houseOf
set_option maxRecDepth 20000 in
theorem ggX8_isRelieved_X1_kindOf : GoodIn wsX8_isRelieved wsX1_kindOf := goodIn_r _ [18, 19, 9, 10, 11, 12, 13, 14, 44, 45, 46, 47, 48, 49, 50] (by decide +kernel) (by decide +kernel)
set_option maxRecDepth 20000 in
theorem gX8_isRelieved_X1_kindOf : GoodIn wsX8_isRelieved (wsV RX8 207 RX1 yX1_kindOf wsX1_kindOf) := goodIn_app (goodIn_of _ (by decide +kernel)) ggX8_isRelieved_X1_kindOf
set_option maxRecDepth 20000 in
theorem ggX8_isRelieved_X1_dayOf : GoodIn wsX8_isRelieved wsX1_dayOf := goodIn_r _ [23, 24, 9, 10, 11, 12, 13, 14, 44, 45, 46, 47, 48, 49, 50] (by decide +kernel) (by decide +kernel)
set_option maxRecDepth 20000 in
theorem gX8_isRelieved_X1_dayOf : GoodIn wsX8_isRelieved (wsV RX8 220 RX1 yX1_dayOf wsX1_dayOf) := goodIn_app (goodIn_of _ (by decide +kernel)) ggX8_isRelieved_X1_dayOf
set_option maxRecDepth 20000 in
theorem ggX8_isRelieved_X4_relieve : GoodIn wsX8_isRelieved wsX4_relieve := goodIn_r _ [29, 30, 31, 32, 33, 34, 35, 10, 11, 12, 13, 14, 51, 52, 53, 54, 55, 50] (by decide +kernel) (by decide +kernel)
set_option maxRecDepth 20000 in
theorem gX8_isRelieved_X4_relieve : GoodIn wsX8_isRelieved (wsV RX8 223 RX4 yX4_relieve wsX4_relieve) := goodIn_app (goodIn_of _ (by decide +kernel)) ggX8_isRelieved_X4_relieve
theorem dX8_isRelieved_0 : decode cX8_isRelieved 0 = .ok (.aload_n 0, 1) := by decide +kernel
theorem dX8_isRelieved_1 : decode cX8_isRelieved 1 = .ok (.getfield 49, 3) := by decide +kernel
theorem dX8_isRelieved_4 : decode cX8_isRelieved 4 = .ok (.aload_n 0, 1) := by decide +kernel
theorem dX8_isRelieved_5 : decode cX8_isRelieved 5 = .ok (.getfield 19, 3) := by decide +kernel
theorem dX8_isRelieved_8 : decode cX8_isRelieved 8 = .ok (.iload_n 1, 1) := by decide +kernel
theorem dX8_isRelieved_9 : decode cX8_isRelieved 9 = .ok (.invokevirtual 217, 3) := by decide +kernel
theorem dX8_isRelieved_12 : decode cX8_isRelieved 12 = .ok (.aload_n 0, 1) := by decide +kernel
theorem dX8_isRelieved_13 : decode cX8_isRelieved 13 = .ok (.getfield 19, 3) := by decide +kernel
theorem dX8_isRelieved_16 : decode cX8_isRelieved 16 = .ok (.iload_n 1, 1) := by decide +kernel
theorem dX8_isRelieved_17 : decode cX8_isRelieved 17 = .ok (.invokevirtual 207, 3) := by decide +kernel
theorem dX8_isRelieved_20 : decode cX8_isRelieved 20 = .ok (.aload_n 0, 1) := by decide +kernel
theorem dX8_isRelieved_21 : decode cX8_isRelieved 21 = .ok (.getfield 19, 3) := by decide +kernel
theorem dX8_isRelieved_24 : decode cX8_isRelieved 24 = .ok (.iload_n 1, 1) := by decide +kernel
theorem dX8_isRelieved_25 : decode cX8_isRelieved 25 = .ok (.invokevirtual 220, 3) := by decide +kernel
theorem dX8_isRelieved_28 : decode cX8_isRelieved 28 = .ok (.invokevirtual 223, 3) := by decide +kernel
theorem dX8_isRelieved_31 : decode cX8_isRelieved 31 = .ok (.ireturn, 1) := by decide +kernel
set_option maxRecDepth 20000 in
theorem ggX8_editionOf_X8_isRelieved : GoodIn wsX8_editionOf wsX8_isRelieved := goodIn_r _ [7, 8, 2, 9, 10, 11, 12, 13, 14, 15, 16, 17, 18, 19, 20, 21, 22, 23, 24, 25, 26, 27, 28, 29, 30, 31, 32, 33, 34, 35, 36, 37, 38, 39, 40, 41, 51, 52, 53, 54, 55, 56, 57, 58, 59, 60, 61, 62, 63, 64, 65, 66, 67, 68, 69, 70] (by decide +kernel) (by decide +kernel)
set_option maxRecDepth 20000 in
theorem gX8_editionOf_X8_isRelieved : GoodIn wsX8_editionOf (wsV RX8 226 RX8 yX8_isRelieved wsX8_isRelieved) := goodIn_app (goodIn_of _ (by decide +kernel)) ggX8_editionOf_X8_isRelieved
set_option maxRecDepth 20000 in
theorem ggX8_editionOf_X1_dayOf : GoodIn wsX8_editionOf wsX1_dayOf := goodIn_r _ [29, 30, 15, 16, 17, 18, 19, 20, 59, 60, 61, 62, 63, 64, 65] (by decide +kernel) (by decide +kernel)
set_option maxRecDepth 20000 in
theorem gX8_editionOf_X1_dayOf : GoodIn wsX8_editionOf (wsV RX8 220 RX1 yX1_dayOf wsX1_dayOf) := goodIn_app (goodIn_of _ (by decide +kernel)) ggX8_editionOf_X1_dayOf
set_option maxRecDepth 20000 in
theorem ggX8_editionOf_X0_latest : GoodIn wsX8_editionOf wsX0_latest := goodIn_r _ [46, 47, 48, 49, 50, 16, 17, 18, 19, 20, 71, 72, 73, 74, 75, 76, 77, 78, 79, 80, 81, 82, 65] (by decide +kernel) (by decide +kernel)
set_option maxRecDepth 20000 in
theorem gX8_editionOf_X0_latest : GoodIn wsX8_editionOf (wsV RX8 229 RX0 yX0_latest wsX0_latest) := goodIn_app (goodIn_of _ (by decide +kernel)) ggX8_editionOf_X0_latest
theorem dX8_editionOf_0 : decode cX8_editionOf 0 = .ok (.aload_n 0, 1) := by decide +kernel
theorem dX8_editionOf_1 : decode cX8_editionOf 1 = .ok (.iload_n 1, 1) := by decide +kernel
theorem dX8_editionOf_2 : decode cX8_editionOf 2 = .ok (.invokevirtual 226, 3) := by decide +kernel
theorem dX8_editionOf_5 : decode cX8_editionOf 5 = .ok (.ifCond .eq 5, 3) := by decide +kernel
theorem dX8_editionOf_8 : decode cX8_editionOf 8 = .ok (.iconst (-1), 1) := by decide +kernel
theorem dX8_editionOf_9 : decode cX8_editionOf 9 = .ok (.ireturn, 1) := by decide +kernel
theorem dX8_editionOf_10 : decode cX8_editionOf 10 = .ok (.aload_n 0, 1) := by decide +kernel
theorem dX8_editionOf_11 : decode cX8_editionOf 11 = .ok (.getfield 33, 3) := by decide +kernel
theorem dX8_editionOf_14 : decode cX8_editionOf 14 = .ok (.aload_n 0, 1) := by decide +kernel
theorem dX8_editionOf_15 : decode cX8_editionOf 15 = .ok (.getfield 19, 3) := by decide +kernel
theorem dX8_editionOf_18 : decode cX8_editionOf 18 = .ok (.iload_n 1, 1) := by decide +kernel
theorem dX8_editionOf_19 : decode cX8_editionOf 19 = .ok (.invokevirtual 220, 3) := by decide +kernel
theorem dX8_editionOf_22 : decode cX8_editionOf 22 = .ok (.lload_n 2, 1) := by decide +kernel
theorem dX8_editionOf_23 : decode cX8_editionOf 23 = .ok (.invokevirtual 229, 3) := by decide +kernel
theorem dX8_editionOf_26 : decode cX8_editionOf 26 = .ok (.ireturn, 1) := by decide +kernel
set_option maxRecDepth 20000 in
theorem ggX8_centsOf_X8_isRelieved : GoodIn wsX8_centsOf wsX8_isRelieved := goodIn_r _ [7, 8, 2, 9, 10, 11, 12, 13, 14, 15, 16, 17, 18, 19, 20, 21, 22, 23, 24, 25, 26, 27, 28, 29, 30, 31, 32, 33, 34, 35, 36, 37, 38, 39, 40, 41, 77, 78, 79, 80, 81, 82, 83, 84, 85, 86, 87, 88, 89, 90, 91, 92, 93, 94, 95, 96] (by decide +kernel) (by decide +kernel)
set_option maxRecDepth 20000 in
theorem gX8_centsOf_X8_isRelieved : GoodIn wsX8_centsOf (wsV RX8 226 RX8 yX8_isRelieved wsX8_isRelieved) := goodIn_app (goodIn_of _ (by decide +kernel)) ggX8_centsOf_X8_isRelieved
set_option maxRecDepth 20000 in
theorem ggX8_centsOf_X1_kindOf : GoodIn wsX8_centsOf wsX1_kindOf := goodIn_r _ [24, 25, 15, 16, 17, 18, 19, 20, 85, 86, 87, 88, 89, 90, 91] (by decide +kernel) (by decide +kernel)
set_option maxRecDepth 20000 in
theorem gX8_centsOf_X1_kindOf : GoodIn wsX8_centsOf (wsV RX8 207 RX1 yX1_kindOf wsX1_kindOf) := goodIn_app (goodIn_of _ (by decide +kernel)) ggX8_centsOf_X1_kindOf
set_option maxRecDepth 20000 in
theorem ggX8_centsOf_X1_measureOf : GoodIn wsX8_centsOf wsX1_measureOf := goodIn_r _ [45, 46, 15, 16, 17, 18, 19, 20, 85, 86, 87, 88, 89, 90, 91] (by decide +kernel) (by decide +kernel)
set_option maxRecDepth 20000 in
theorem gX8_centsOf_X1_measureOf : GoodIn wsX8_centsOf (wsV RX8 210 RX1 yX1_measureOf wsX1_measureOf) := goodIn_app (goodIn_of _ (by decide +kernel)) ggX8_centsOf_X1_measureOf
set_option maxRecDepth 20000 in
theorem ggX8_centsOf_X0_feeOf : GoodIn wsX8_centsOf wsX0_feeOf := goodIn_r _ [51, 52, 53, 54, 55, 56, 57, 50, 58, 59, 60, 61, 62, 63, 64, 65, 66, 67, 16, 17, 18, 19, 20, 68, 69, 70, 71, 72, 73, 74, 75, 76, 97, 98, 99, 100, 101, 102, 103, 104, 105, 106, 107, 108, 91] (by decide +kernel) (by decide +kernel)
set_option maxRecDepth 20000 in
theorem gX8_centsOf_X0_feeOf : GoodIn wsX8_centsOf (wsV RX8 233 RX0 yX0_feeOf wsX0_feeOf) := goodIn_app (goodIn_of _ (by decide +kernel)) ggX8_centsOf_X0_feeOf
theorem dX8_centsOf_0 : decode cX8_centsOf 0 = .ok (.aload_n 0, 1) := by decide +kernel
theorem dX8_centsOf_1 : decode cX8_centsOf 1 = .ok (.iload_n 1, 1) := by decide +kernel
theorem dX8_centsOf_2 : decode cX8_centsOf 2 = .ok (.invokevirtual 226, 3) := by decide +kernel
theorem dX8_centsOf_5 : decode cX8_centsOf 5 = .ok (.ifCond .eq 5, 3) := by decide +kernel
theorem dX8_centsOf_8 : decode cX8_centsOf 8 = .ok (.lconst 0, 1) := by decide +kernel
theorem dX8_centsOf_9 : decode cX8_centsOf 9 = .ok (.lreturn, 1) := by decide +kernel
theorem dX8_centsOf_10 : decode cX8_centsOf 10 = .ok (.aload_n 0, 1) := by decide +kernel
theorem dX8_centsOf_11 : decode cX8_centsOf 11 = .ok (.getfield 33, 3) := by decide +kernel
theorem dX8_centsOf_14 : decode cX8_centsOf 14 = .ok (.iload_n 2, 1) := by decide +kernel
theorem dX8_centsOf_15 : decode cX8_centsOf 15 = .ok (.aload_n 0, 1) := by decide +kernel
theorem dX8_centsOf_16 : decode cX8_centsOf 16 = .ok (.getfield 19, 3) := by decide +kernel
theorem dX8_centsOf_19 : decode cX8_centsOf 19 = .ok (.iload_n 1, 1) := by decide +kernel
theorem dX8_centsOf_20 : decode cX8_centsOf 20 = .ok (.invokevirtual 207, 3) := by decide +kernel
theorem dX8_centsOf_23 : decode cX8_centsOf 23 = .ok (.aload_n 0, 1) := by decide +kernel
theorem dX8_centsOf_24 : decode cX8_centsOf 24 = .ok (.getfield 19, 3) := by decide +kernel
theorem dX8_centsOf_27 : decode cX8_centsOf 27 = .ok (.iload_n 1, 1) := by decide +kernel
theorem dX8_centsOf_28 : decode cX8_centsOf 28 = .ok (.invokevirtual 210, 3) := by decide +kernel
theorem dX8_centsOf_31 : decode cX8_centsOf 31 = .ok (.invokevirtual 233, 3) := by decide +kernel
theorem dX8_centsOf_34 : decode cX8_centsOf 34 = .ok (.lreturn, 1) := by decide +kernel
set_option maxRecDepth 20000 in
theorem ggX8_lackOf_X1_kindOf : GoodIn wsX8_lackOf wsX1_kindOf := goodIn_r _ [8, 9, 10, 11, 12, 13, 14, 15, 40, 41, 42, 43, 44, 45, 46] (by decide +kernel) (by decide +kernel)
set_option maxRecDepth 20000 in
theorem gX8_lackOf_X1_kindOf : GoodIn wsX8_lackOf (wsV RX8 207 RX1 yX1_kindOf wsX1_kindOf) := goodIn_app (goodIn_of _ (by decide +kernel)) ggX8_lackOf_X1_kindOf
set_option maxRecDepth 20000 in
theorem ggX8_lackOf_X0_hasRule : GoodIn wsX8_lackOf wsX0_hasRule := goodIn_r _ [20, 21, 22, 23, 24, 25, 19, 26, 27, 28, 29, 30, 31, 11, 12, 13, 14, 15, 47, 48, 49, 50, 51, 52, 53, 54, 55, 56, 57, 58, 46] (by decide +kernel) (by decide +kernel)
set_option maxRecDepth 20000 in
theorem gX8_lackOf_X0_hasRule : GoodIn wsX8_lackOf (wsV RX8 236 RX0 yX0_hasRule wsX0_hasRule) := goodIn_app (goodIn_of _ (by decide +kernel)) ggX8_lackOf_X0_hasRule
theorem dX8_lackOf_0 : decode cX8_lackOf 0 = .ok (.lload_n 3, 1) := by decide +kernel
theorem dX8_lackOf_1 : decode cX8_lackOf 1 = .ok (.ldc2_w 62, 3) := by decide +kernel
theorem dX8_lackOf_4 : decode cX8_lackOf 4 = .ok (.lcmp, 1) := by decide +kernel
theorem dX8_lackOf_5 : decode cX8_lackOf 5 = .ok (.ifCond .eq 5, 3) := by decide +kernel
theorem dX8_lackOf_8 : decode cX8_lackOf 8 = .ok (.iconst 0, 1) := by decide +kernel
theorem dX8_lackOf_9 : decode cX8_lackOf 9 = .ok (.ireturn, 1) := by decide +kernel
theorem dX8_lackOf_10 : decode cX8_lackOf 10 = .ok (.aload_n 0, 1) := by decide +kernel
theorem dX8_lackOf_11 : decode cX8_lackOf 11 = .ok (.getfield 33, 3) := by decide +kernel
theorem dX8_lackOf_14 : decode cX8_lackOf 14 = .ok (.iload_n 2, 1) := by decide +kernel
theorem dX8_lackOf_15 : decode cX8_lackOf 15 = .ok (.aload_n 0, 1) := by decide +kernel
theorem dX8_lackOf_16 : decode cX8_lackOf 16 = .ok (.getfield 19, 3) := by decide +kernel
theorem dX8_lackOf_19 : decode cX8_lackOf 19 = .ok (.iload_n 1, 1) := by decide +kernel
theorem dX8_lackOf_20 : decode cX8_lackOf 20 = .ok (.invokevirtual 207, 3) := by decide +kernel
theorem dX8_lackOf_23 : decode cX8_lackOf 23 = .ok (.invokevirtual 236, 3) := by decide +kernel
theorem dX8_lackOf_26 : decode cX8_lackOf 26 = .ok (.ifCond .eq 7, 3) := by decide +kernel
theorem dX8_lackOf_29 : decode cX8_lackOf 29 = .ok (.iconst 2, 1) := by decide +kernel
theorem dX8_lackOf_30 : decode cX8_lackOf 30 = .ok (.goto 4, 3) := by decide +kernel
theorem dX8_lackOf_33 : decode cX8_lackOf 33 = .ok (.iconst 1, 1) := by decide +kernel
theorem dX8_lackOf_34 : decode cX8_lackOf 34 = .ok (.ireturn, 1) := by decide +kernel
