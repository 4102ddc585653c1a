set_option maxRecDepth 20000 in
theorem ggX2_init_X5_init : GoodIn wsX2_init wsX5_init := goodIn_r _ [14, 15, 2, 3, 16, 17, 18] (by decide +kernel) (by decide +kernel)
set_option maxRecDepth 20000 in
theorem gX2_init_X5_init : GoodIn wsX2_init (wsX5_init) := ggX2_init_X5_init
theorem dX2_init_0 : decode cX2_init 0 = .ok (.aload_n 0, 1) := by decide +kernel
theorem dX2_init_1 : decode cX2_init 1 = .ok (.invokespecial 3, 3) := by decide +kernel
theorem dX2_init_4 : decode cX2_init 4 = .ok (.aload_n 0, 1) := by decide +kernel
theorem dX2_init_5 : decode cX2_init 5 = .ok (.new 9, 3) := by decide +kernel
theorem dX2_init_8 : decode cX2_init 8 = .ok (.dup, 1) := by decide +kernel
theorem dX2_init_9 : decode cX2_init 9 = .ok (.bipush 24, 2) := by decide +kernel
theorem dX2_init_11 : decode cX2_init 11 = .ok (.invokespecial 11, 3) := by decide +kernel
theorem dX2_init_14 : decode cX2_init 14 = .ok (.putfield 14, 3) := by decide +kernel
theorem dX2_init_17 : decode cX2_init 17 = .ok (.aload_n 0, 1) := by decide +kernel
theorem dX2_init_18 : decode cX2_init 18 = .ok (.new 9, 3) := by decide +kernel
theorem dX2_init_21 : decode cX2_init 21 = .ok (.dup, 1) := by decide +kernel
theorem dX2_init_22 : decode cX2_init 22 = .ok (.bipush 24, 2) := by decide +kernel
theorem dX2_init_24 : decode cX2_init 24 = .ok (.invokespecial 11, 3) := by decide +kernel
theorem dX2_init_27 : decode cX2_init 27 = .ok (.putfield 20, 3) := by decide +kernel
theorem dX2_init_30 : decode cX2_init 30 = .ok (.aload_n 0, 1) := by decide +kernel
theorem dX2_init_31 : decode cX2_init 31 = .ok (.new 9, 3) := by decide +kernel
theorem dX2_init_34 : decode cX2_init 34 = .ok (.dup, 1) := by decide +kernel
theorem dX2_init_35 : decode cX2_init 35 = .ok (.bipush 24, 2) := by decide +kernel
theorem dX2_init_37 : decode cX2_init 37 = .ok (.invokespecial 11, 3) := by decide +kernel
theorem dX2_init_40 : decode cX2_init 40 = .ok (.putfield 23, 3) := by decide +kernel
theorem dX2_init_43 : decode cX2_init 43 = .ok (.aload_n 0, 1) := by decide +kernel
theorem dX2_init_44 : decode cX2_init 44 = .ok (.new 9, 3) := by decide +kernel
theorem dX2_init_47 : decode cX2_init 47 = .ok (.dup, 1) := by decide +kernel
theorem dX2_init_48 : decode cX2_init 48 = .ok (.bipush 24, 2) := by decide +kernel
theorem dX2_init_50 : decode cX2_init 50 = .ok (.invokespecial 11, 3) := by decide +kernel
theorem dX2_init_53 : decode cX2_init 53 = .ok (.putfield 26, 3) := by decide +kernel
theorem dX2_init_56 : decode cX2_init 56 = .ok (.aload_n 0, 1) := by decide +kernel
theorem dX2_init_57 : decode cX2_init 57 = .ok (.new 9, 3) := by decide +kernel
theorem dX2_init_60 : decode cX2_init 60 = .ok (.dup, 1) := by decide +kernel
theorem dX2_init_61 : decode cX2_init 61 = .ok (.sipush 552, 3) := by decide +kernel
theorem dX2_init_64 : decode cX2_init 64 = .ok (.invokespecial 11, 3) := by decide +kernel
theorem dX2_init_67 : decode cX2_init 67 = .ok (.putfield 29, 3) := by decide +kernel
theorem dX2_init_70 : decode cX2_init 70 = .ok (.return_, 1) := by decide +kernel
theorem dX2_clear_0 : decode cX2_clear 0 = .ok (.aload_n 0, 1) := by decide +kernel
theorem dX2_clear_1 : decode cX2_clear 1 = .ok (.iconst 0, 1) := by decide +kernel
theorem dX2_clear_2 : decode cX2_clear 2 = .ok (.putfield 32, 3) := by decide +kernel
theorem dX2_clear_5 : decode cX2_clear 5 = .ok (.aload_n 0, 1) := by decide +kernel
theorem dX2_clear_6 : decode cX2_clear 6 = .ok (.iconst 0, 1) := by decide +kernel
theorem dX2_clear_7 : decode cX2_clear 7 = .ok (.putfield 36, 3) := by decide +kernel
theorem dX2_clear_10 : decode cX2_clear 10 = .ok (.return_, 1) := by decide +kernel
set_option maxRecDepth 20000 in
theorem ggX2_add_X5_set : GoodIn wsX2_add wsX5_set := goodIn_r _ [10, 11, 19] (by decide +kernel) (by decide +kernel)
set_option maxRecDepth 20000 in
theorem gX2_add_X5_set : GoodIn wsX2_add (wsV RX2 39 RX5 yX5_set wsX5_set) := goodIn_app (goodIn_of _ (by decide +kernel)) ggX2_add_X5_set
theorem dX2_add_0 : decode cX2_add 0 = .ok (.aload_n 0, 1) := by decide +kernel
theorem dX2_add_1 : decode cX2_add 1 = .ok (.getfield 14, 3) := by decide +kernel
theorem dX2_add_4 : decode cX2_add 4 = .ok (.aload_n 0, 1) := by decide +kernel
theorem dX2_add_5 : decode cX2_add 5 = .ok (.getfield 32, 3) := by decide +kernel
theorem dX2_add_8 : decode cX2_add 8 = .ok (.iload_n 1, 1) := by decide +kernel
theorem dX2_add_9 : decode cX2_add 9 = .ok (.i2l, 1) := by decide +kernel
theorem dX2_add_10 : decode cX2_add 10 = .ok (.invokevirtual 39, 3) := by decide +kernel
theorem dX2_add_13 : decode cX2_add 13 = .ok (.aload_n 0, 1) := by decide +kernel
theorem dX2_add_14 : decode cX2_add 14 = .ok (.getfield 20, 3) := by decide +kernel
theorem dX2_add_17 : decode cX2_add 17 = .ok (.aload_n 0, 1) := by decide +kernel
theorem dX2_add_18 : decode cX2_add 18 = .ok (.getfield 32, 3) := by decide +kernel
theorem dX2_add_21 : decode cX2_add 21 = .ok (.lload_n 2, 1) := by decide +kernel
theorem dX2_add_22 : decode cX2_add 22 = .ok (.invokevirtual 39, 3) := by decide +kernel
theorem dX2_add_25 : decode cX2_add 25 = .ok (.aload_n 0, 1) := by decide +kernel
theorem dX2_add_26 : decode cX2_add 26 = .ok (.getfield 23, 3) := by decide +kernel
theorem dX2_add_29 : decode cX2_add 29 = .ok (.aload_n 0, 1) := by decide +kernel
theorem dX2_add_30 : decode cX2_add 30 = .ok (.getfield 32, 3) := by decide +kernel
theorem dX2_add_33 : decode cX2_add 33 = .ok (.iload 4, 2) := by decide +kernel
theorem dX2_add_35 : decode cX2_add 35 = .ok (.i2l, 1) := by decide +kernel
theorem dX2_add_36 : decode cX2_add 36 = .ok (.invokevirtual 39, 3) := by decide +kernel
theorem dX2_add_39 : decode cX2_add 39 = .ok (.aload_n 0, 1) := by decide +kernel
theorem dX2_add_40 : decode cX2_add 40 = .ok (.getfield 26, 3) := by decide +kernel
theorem dX2_add_43 : decode cX2_add 43 = .ok (.aload_n 0, 1) := by decide +kernel
theorem dX2_add_44 : decode cX2_add 44 = .ok (.getfield 32, 3) := by decide +kernel
theorem dX2_add_47 : decode cX2_add 47 = .ok (.iload 5, 2) := by decide +kernel
theorem dX2_add_49 : decode cX2_add 49 = .ok (.i2l, 1) := by decide +kernel
theorem dX2_add_50 : decode cX2_add 50 = .ok (.invokevirtual 39, 3) := by decide +kernel
theorem dX2_add_53 : decode cX2_add 53 = .ok (.aload_n 0, 1) := by decide +kernel
theorem dX2_add_54 : decode cX2_add 54 = .ok (.dup, 1) := by decide +kernel
theorem dX2_add_55 : decode cX2_add 55 = .ok (.getfield 32, 3) := by decide +kernel
theorem dX2_add_58 : decode cX2_add 58 = .ok (.iconst 1, 1) := by decide +kernel
theorem dX2_add_59 : decode cX2_add 59 = .ok (.iadd, 1) := by decide +kernel
theorem dX2_add_60 : decode cX2_add 60 = .ok (.putfield 32, 3) := by decide +kernel
theorem dX2_add_63 : decode cX2_add 63 = .ok (.return_, 1) := by decide +kernel
theorem dX2_count_0 : decode cX2_count 0 = .ok (.aload_n 0, 1) := by decide +kernel
theorem dX2_count_1 : decode cX2_count 1 = .ok (.getfield 32, 3) := by decide +kernel
theorem dX2_count_4 : decode cX2_count 4 = .ok (.ireturn, 1) := by decide +kernel
theorem dX2_has_0 : decode cX2_has 0 = .ok (.iload_n 1, 1) := by decide +kernel
theorem dX2_has_1 : decode cX2_has 1 = .ok (.ifCond .lt 15, 3) := by decide +kernel
theorem dX2_has_4 : decode cX2_has 4 = .ok (.iload_n 1, 1) := by decide +kernel
theorem dX2_has_5 : decode cX2_has 5 = .ok (.aload_n 0, 1) := by decide +kernel
theorem dX2_has_6 : decode cX2_has 6 = .ok (.getfield 32, 3) := by decide +kernel
theorem dX2_has_9 : decode cX2_has 9 = .ok (.if_icmp .ge 7, 3) := by decide +kernel
theorem dX2_has_12 : decode cX2_has 12 = .ok (.iconst 1, 1) := by decide +kernel
theorem dX2_has_13 : decode cX2_has 13 = .ok (.goto 4, 3) := by decide +kernel
theorem dX2_has_16 : decode cX2_has 16 = .ok (.iconst 0, 1) := by decide +kernel
theorem dX2_has_17 : decode cX2_has 17 = .ok (.ireturn, 1) := by decide +kernel
set_option maxRecDepth 20000 in
theorem ggX2_factOf_X5_get : GoodIn wsX2_factOf wsX5_get := goodIn_r _ [6, 7, 15] (by decide +kernel) (by decide +kernel)
set_option maxRecDepth 20000 in
theorem gX2_factOf_X5_get : GoodIn wsX2_factOf (wsV RX2 43 RX5 yX5_get wsX5_get) := goodIn_app (goodIn_of _ (by decide +kernel)) ggX2_factOf_X5_get
theorem dX2_factOf_0 : decode cX2_factOf 0 = .ok (.aload_n 0, 1) := by decide +kernel
theorem dX2_factOf_1 : decode cX2_factOf 1 = .ok (.getfield 14, 3) := by decide +kernel
theorem dX2_factOf_4 : decode cX2_factOf 4 = .ok (.iload_n 1, 1) := by decide +kernel
theorem dX2_factOf_5 : decode cX2_factOf 5 = .ok (.invokevirtual 43, 3) := by decide +kernel
theorem dX2_factOf_8 : decode cX2_factOf 8 = .ok (.lreturn, 1) := by decide +kernel
set_option maxRecDepth 20000 in
theorem ggX2_centsOf_X5_get : GoodIn wsX2_centsOf wsX5_get := goodIn_r _ [6, 7, 15] (by decide +kernel) (by decide +kernel)
set_option maxRecDepth 20000 in
theorem gX2_centsOf_X5_get : GoodIn wsX2_centsOf (wsV RX2 43 RX5 yX5_get wsX5_get) := goodIn_app (goodIn_of _ (by decide +kernel)) ggX2_centsOf_X5_get
theorem dX2_centsOf_0 : decode cX2_centsOf 0 = .ok (.aload_n 0, 1) := by decide +kernel
theorem dX2_centsOf_1 : decode cX2_centsOf 1 = .ok (.getfield 20, 3) := by decide +kernel
theorem dX2_centsOf_4 : decode cX2_centsOf 4 = .ok (.iload_n 1, 1) := by decide +kernel
theorem dX2_centsOf_5 : decode cX2_centsOf 5 = .ok (.invokevirtual 43, 3) := by decide +kernel
theorem dX2_centsOf_8 : decode cX2_centsOf 8 = .ok (.lreturn, 1) := by decide +kernel
set_option maxRecDepth 20000 in
theorem ggX2_editionOf_X5_get : GoodIn wsX2_editionOf wsX5_get := goodIn_r _ [6, 7, 15] (by decide +kernel) (by decide +kernel)
set_option maxRecDepth 20000 in
theorem gX2_editionOf_X5_get : GoodIn wsX2_editionOf (wsV RX2 43 RX5 yX5_get wsX5_get) := goodIn_app (goodIn_of _ (by decide +kernel)) ggX2_editionOf_X5_get
theorem dX2_editionOf_0 : decode cX2_editionOf 0 = .ok (.aload_n 0, 1) := by decide +kernel
theorem dX2_editionOf_1 : decode cX2_editionOf 1 = .ok (.getfield 23, 3) := by decide +kernel
theorem dX2_editionOf_4 : decode cX2_editionOf 4 = .ok (.iload_n 1, 1) := by decide +kernel
theorem dX2_editionOf_5 : decode cX2_editionOf 5 = .ok (.invokevirtual 43, 3) := by decide +kernel
theorem dX2_editionOf_8 : decode cX2_editionOf 8 = .ok (.lreturn, 1) := by decide +kernel
set_option maxRecDepth 20000 in
theorem ggX2_lackOf_X5_get : GoodIn wsX2_lackOf wsX5_get := goodIn_r _ [6, 7, 15] (by decide +kernel) (by decide +kernel)
set_option maxRecDepth 20000 in
theorem gX2_lackOf_X5_get : GoodIn wsX2_lackOf (wsV RX2 43 RX5 yX5_get wsX5_get) := goodIn_app (goodIn_of _ (by decide +kernel)) ggX2_lackOf_X5_get
theorem dX2_lackOf_0 : decode cX2_lackOf 0 = .ok (.aload_n 0, 1) := by decide +kernel
theorem dX2_lackOf_1 : decode cX2_lackOf 1 = .ok (.getfield 26, 3) := by decide +kernel
theorem dX2_lackOf_4 : decode cX2_lackOf 4 = .ok (.iload_n 1, 1) := by decide +kernel
theorem dX2_lackOf_5 : decode cX2_lackOf 5 = .ok (.invokevirtual 43, 3) := by decide +kernel
theorem dX2_lackOf_8 : decode cX2_lackOf 8 = .ok (.lreturn, 1) := by decide +kernel
set_option maxRecDepth 20000 in
theorem ggX2_openFact_X5_get : GoodIn wsX2_openFact wsX5_get := goodIn_r _ [8, 9, 17] (by decide +kernel) (by decide +kernel)
set_option maxRecDepth 20000 in
theorem gX2_openFact_X5_get : GoodIn wsX2_openFact (wsV RX2 43 RX5 yX5_get wsX5_get) := goodIn_app (goodIn_of _ (by decide +kernel)) ggX2_openFact_X5_get
theorem dX2_openFact_0 : decode cX2_openFact 0 = .ok (.iconst 0, 1) := by decide +kernel
theorem dX2_openFact_1 : decode cX2_openFact 1 = .ok (.istore_n 2, 1) := by decide +kernel
theorem dX2_openFact_2 : decode cX2_openFact 2 = .ok (.iconst 0, 1) := by decide +kernel
theorem dX2_openFact_3 : decode cX2_openFact 3 = .ok (.istore_n 3, 1) := by decide +kernel
theorem dX2_openFact_4 : decode cX2_openFact 4 = .ok (.iload_n 3, 1) := by decide +kernel
theorem dX2_openFact_5 : decode cX2_openFact 5 = .ok (.aload_n 0, 1) := by decide +kernel
theorem dX2_openFact_6 : decode cX2_openFact 6 = .ok (.getfield 32, 3) := by decide +kernel
theorem dX2_openFact_9 : decode cX2_openFact 9 = .ok (.if_icmp .ge 40, 3) := by decide +kernel
theorem dX2_openFact_12 : decode cX2_openFact 12 = .ok (.aload_n 0, 1) := by decide +kernel
theorem dX2_openFact_13 : decode cX2_openFact 13 = .ok (.getfield 26, 3) := by decide +kernel
theorem dX2_openFact_16 : decode cX2_openFact 16 = .ok (.iload_n 3, 1) := by decide +kernel
theorem dX2_openFact_17 : decode cX2_openFact 17 = .ok (.invokevirtual 43, 3) := by decide +kernel
theorem dX2_openFact_20 : decode cX2_openFact 20 = .ok (.lconst 0, 1) := by decide +kernel
theorem dX2_openFact_21 : decode cX2_openFact 21 = .ok (.lcmp, 1) := by decide +kernel
theorem dX2_openFact_22 : decode cX2_openFact 22 = .ok (.ifCond .eq 21, 3) := by decide +kernel
theorem dX2_openFact_25 : decode cX2_openFact 25 = .ok (.iload_n 2, 1) := by decide +kernel
theorem dX2_openFact_26 : decode cX2_openFact 26 = .ok (.iload_n 1, 1) := by decide +kernel
theorem dX2_openFact_27 : decode cX2_openFact 27 = .ok (.if_icmp .ne 13, 3) := by decide +kernel
theorem dX2_openFact_30 : decode cX2_openFact 30 = .ok (.aload_n 0, 1) := by decide +kernel
theorem dX2_openFact_31 : decode cX2_openFact 31 = .ok (.getfield 14, 3) := by decide +kernel
theorem dX2_openFact_34 : decode cX2_openFact 34 = .ok (.iload_n 3, 1) := by decide +kernel
theorem dX2_openFact_35 : decode cX2_openFact 35 = .ok (.invokevirtual 43, 3) := by decide +kernel
theorem dX2_openFact_38 : decode cX2_openFact 38 = .ok (.l2i, 1) := by decide +kernel
theorem dX2_openFact_39 : decode cX2_openFact 39 = .ok (.ireturn, 1) := by decide +kernel
theorem dX2_openFact_40 : decode cX2_openFact 40 = .ok (.iinc 2 1, 3) := by decide +kernel
theorem dX2_openFact_43 : decode cX2_openFact 43 = .ok (.iinc 3 1, 3) := by decide +kernel
theorem dX2_openFact_46 : decode cX2_openFact 46 = .ok (.goto (-42), 3) := by decide +kernel
theorem dX2_openFact_49 : decode cX2_openFact 49 = .ok (.iconst (-1), 1) := by decide +kernel
theorem dX2_openFact_50 : decode cX2_openFact 50 = .ok (.ireturn, 1) := by decide +kernel
set_option maxRecDepth 20000 in
theorem ggX2_printedByte_X5_get : GoodIn wsX2_printedByte wsX5_get := goodIn_r _ [7, 8, 16] (by decide +kernel) (by decide +kernel)
set_option maxRecDepth 20000 in
theorem gX2_printedByte_X5_get : GoodIn wsX2_printedByte (wsV RX2 43 RX5 yX5_get wsX5_get) := goodIn_app (goodIn_of _ (by decide +kernel)) ggX2_printedByte_X5_get
theorem dX2_printedByte_0 : decode cX2_printedByte 0 = .ok (.iload_n 1, 1) := by decide +kernel
theorem dX2_printedByte_1 : decode cX2_printedByte 1 = .ok (.ifCond .lt 23, 3) := by decide +kernel
theorem dX2_printedByte_4 : decode cX2_printedByte 4 = .ok (.iload_n 1, 1) := by decide +kernel
theorem dX2_printedByte_5 : decode cX2_printedByte 5 = .ok (.aload_n 0, 1) := by decide +kernel
theorem dX2_printedByte_6 : decode cX2_printedByte 6 = .ok (.getfield 36, 3) := by decide +kernel
theorem dX2_printedByte_9 : decode cX2_printedByte 9 = .ok (.if_icmp .ge 15, 3) := by decide +kernel
theorem dX2_printedByte_12 : decode cX2_printedByte 12 = .ok (.aload_n 0, 1) := by decide +kernel
theorem dX2_printedByte_13 : decode cX2_printedByte 13 = .ok (.getfield 29, 3) := by decide +kernel
theorem dX2_printedByte_16 : decode cX2_printedByte 16 = .ok (.iload_n 1, 1) := by decide +kernel
theorem dX2_printedByte_17 : decode cX2_printedByte 17 = .ok (.invokevirtual 43, 3) := by decide +kernel
theorem dX2_printedByte_20 : decode cX2_printedByte 20 = .ok (.l2i, 1) := by decide +kernel
theorem dX2_printedByte_21 : decode cX2_printedByte 21 = .ok (.goto 4, 3) := by decide +kernel
theorem dX2_printedByte_24 : decode cX2_printedByte 24 = .ok (.iconst (-1), 1) := by decide +kernel
theorem dX2_printedByte_25 : decode cX2_printedByte 25 = .ok (.ireturn, 1) := by decide +kernel
set_option maxRecDepth 20000 in
theorem ggX2_print_X2_printNumber : GoodIn wsX2_print wsX2_printNumber := goodIn_r _ [6, 7, 8, 9, 10, 5, 11, 12, 13, 14, 15, 16, 17, 18, 19, 20, 21, 22, 23, 24, 25, 26, 27] (by decide +kernel) (by decide +kernel)
set_option maxRecDepth 20000 in
theorem gX2_print_X2_printNumber : GoodIn wsX2_print (wsV RX2 47 RX2 yX2_printNumber wsX2_printNumber) := goodIn_app (goodIn_of _ (by decide +kernel)) ggX2_print_X2_printNumber
set_option maxRecDepth 20000 in
theorem ggX2_print_X2_printSign : GoodIn wsX2_print wsX2_printSign := goodIn_r _ [11, 12, 13, 14, 15, 16, 17, 18, 19, 20, 21, 22, 23, 24, 25, 26, 27] (by decide +kernel) (by decide +kernel)
set_option maxRecDepth 20000 in
theorem gX2_print_X2_printSign : GoodIn wsX2_print (wsV RX2 51 RX2 yX2_printSign wsX2_printSign) := goodIn_app (goodIn_of _ (by decide +kernel)) ggX2_print_X2_printSign
theorem dX2_print_0 : decode cX2_print 0 = .ok (.aload_n 0, 1) := by decide +kernel
theorem dX2_print_1 : decode cX2_print 1 = .ok (.iload_n 1, 1) := by decide +kernel
theorem dX2_print_2 : decode cX2_print 2 = .ok (.i2l, 1) := by decide +kernel
theorem dX2_print_3 : decode cX2_print 3 = .ok (.invokevirtual 47, 3) := by decide +kernel
theorem dX2_print_6 : decode cX2_print 6 = .ok (.aload_n 0, 1) := by decide +kernel
theorem dX2_print_7 : decode cX2_print 7 = .ok (.bipush 32, 2) := by decide +kernel
theorem dX2_print_9 : decode cX2_print 9 = .ok (.invokevirtual 51, 3) := by decide +kernel
theorem dX2_print_12 : decode cX2_print 12 = .ok (.aload_n 0, 1) := by decide +kernel
theorem dX2_print_13 : decode cX2_print 13 = .ok (.lload_n 2, 1) := by decide +kernel
theorem dX2_print_14 : decode cX2_print 14 = .ok (.invokevirtual 47, 3) := by decide +kernel
theorem dX2_print_17 : decode cX2_print 17 = .ok (.aload_n 0, 1) := by decide +kernel
theorem dX2_print_18 : decode cX2_print 18 = .ok (.bipush 32, 2) := by decide +kernel
theorem dX2_print_20 : decode cX2_print 20 = .ok (.invokevirtual 51, 3) := by decide +kernel
theorem dX2_print_23 : decode cX2_print 23 = .ok (.lload 4, 2) := by decide +kernel
theorem dX2_print_25 : decode cX2_print 25 = .ok (.ldc2_w 54, 3) := by decide +kernel
theorem dX2_print_28 : decode cX2_print 28 = .ok (.lcmp, 1) := by decide +kernel
theorem dX2_print_29 : decode cX2_print 29 = .ok (.ifCond .ne 12, 3) := by decide +kernel
theorem dX2_print_32 : decode cX2_print 32 = .ok (.aload_n 0, 1) := by decide +kernel
theorem dX2_print_33 : decode cX2_print 33 = .ok (.bipush 63, 2) := by decide +kernel
theorem dX2_print_35 : decode cX2_print 35 = .ok (.invokevirtual 51, 3) := by decide +kernel
theorem dX2_print_38 : decode cX2_print 38 = .ok (.goto 9, 3) := by decide +kernel
theorem dX2_print_41 : decode cX2_print 41 = .ok (.aload_n 0, 1) := by decide +kernel
theorem dX2_print_42 : decode cX2_print 42 = .ok (.lload 4, 2) := by decide +kernel
theorem dX2_print_44 : decode cX2_print 44 = .ok (.invokevirtual 47, 3) := by decide +kernel
theorem dX2_print_47 : decode cX2_print 47 = .ok (.aload_n 0, 1) := by decide +kernel
theorem dX2_print_48 : decode cX2_print 48 = .ok (.bipush 10, 2) := by decide +kernel
theorem dX2_print_50 : decode cX2_print 50 = .ok (.invokevirtual 51, 3) := by decide +kernel
theorem dX2_print_53 : decode cX2_print 53 = .ok (.return_, 1) := by decide +kernel
set_option maxRecDepth 20000 in
theorem ggX2_printNumber_X2_printSign : GoodIn wsX2_printNumber wsX2_printSign := goodIn_r _ [6, 7, 8, 9, 10, 11, 12, 13, 14, 15, 16, 17, 18, 19, 20, 21, 22] (by decide +kernel) (by decide +kernel)
set_option maxRecDepth 20000 in
theorem gX2_printNumber_X2_printSign : GoodIn wsX2_printNumber (wsV RX2 51 RX2 yX2_printSign wsX2_printSign) := goodIn_app (goodIn_of _ (by decide +kernel)) ggX2_printNumber_X2_printSign
theorem dX2_printNumber_0 : decode cX2_printNumber 0 = .ok (.lconst 1, 1) := by decide +kernel
theorem dX2_printNumber_1 : decode cX2_printNumber 1 = .ok (.lstore_n 3, 1) := by decide +kernel
theorem dX2_printNumber_2 : decode cX2_printNumber 2 = .ok (.iconst 1, 1) := by decide +kernel
theorem dX2_printNumber_3 : decode cX2_printNumber 3 = .ok (.istore 5, 2) := by decide +kernel
theorem dX2_printNumber_5 : decode cX2_printNumber 5 = .ok (.iload 5, 2) := by decide +kernel
theorem dX2_printNumber_7 : decode cX2_printNumber 7 = .ok (.bipush 18, 2) := by decide +kernel
theorem dX2_printNumber_9 : decode cX2_printNumber 9 = .ok (.if_icmp .ge 25, 3) := by decide +kernel
theorem dX2_printNumber_12 : decode cX2_printNumber 12 = .ok (.lload_n 3, 1) := by decide +kernel
theorem dX2_printNumber_13 : decode cX2_printNumber 13 = .ok (.lload_n 1, 1) := by decide +kernel
theorem dX2_printNumber_14 : decode cX2_printNumber 14 = .ok (.ldc2_w 56, 3) := by decide +kernel
theorem dX2_printNumber_17 : decode cX2_printNumber 17 = .ok (.ldiv, 1) := by decide +kernel
theorem dX2_printNumber_18 : decode cX2_printNumber 18 = .ok (.lcmp, 1) := by decide +kernel
theorem dX2_printNumber_19 : decode cX2_printNumber 19 = .ok (.ifCond .gt 15, 3) := by decide +kernel
theorem dX2_printNumber_22 : decode cX2_printNumber 22 = .ok (.lload_n 3, 1) := by decide +kernel
theorem dX2_printNumber_23 : decode cX2_printNumber 23 = .ok (.ldc2_w 56, 3) := by decide +kernel
theorem dX2_printNumber_26 : decode cX2_printNumber 26 = .ok (.lmul, 1) := by decide +kernel
theorem dX2_printNumber_27 : decode cX2_printNumber 27 = .ok (.lstore_n 3, 1) := by decide +kernel
theorem dX2_printNumber_28 : decode cX2_printNumber 28 = .ok (.iinc 5 1, 3) := by decide +kernel
theorem dX2_printNumber_31 : decode cX2_printNumber 31 = .ok (.goto (-26), 3) := by decide +kernel
theorem dX2_printNumber_34 : decode cX2_printNumber 34 = .ok (.iconst 0, 1) := by decide +kernel
theorem dX2_printNumber_35 : decode cX2_printNumber 35 = .ok (.istore 5, 2) := by decide +kernel
theorem dX2_printNumber_37 : decode cX2_printNumber 37 = .ok (.iload 5, 2) := by decide +kernel
theorem dX2_printNumber_39 : decode cX2_printNumber 39 = .ok (.bipush 18, 2) := by decide +kernel
theorem dX2_printNumber_41 : decode cX2_printNumber 41 = .ok (.if_icmp .ge 36, 3) := by decide +kernel
theorem dX2_printNumber_44 : decode cX2_printNumber 44 = .ok (.lload_n 3, 1) := by decide +kernel
theorem dX2_printNumber_45 : decode cX2_printNumber 45 = .ok (.lconst 0, 1) := by decide +kernel
theorem dX2_printNumber_46 : decode cX2_printNumber 46 = .ok (.lcmp, 1) := by decide +kernel
theorem dX2_printNumber_47 : decode cX2_printNumber 47 = .ok (.ifCond .le 30, 3) := by decide +kernel
theorem dX2_printNumber_50 : decode cX2_printNumber 50 = .ok (.aload_n 0, 1) := by decide +kernel
theorem dX2_printNumber_51 : decode cX2_printNumber 51 = .ok (.lload_n 1, 1) := by decide +kernel
theorem dX2_printNumber_52 : decode cX2_printNumber 52 = .ok (.lload_n 3, 1) := by decide +kernel
theorem dX2_printNumber_53 : decode cX2_printNumber 53 = .ok (.ldiv, 1) := by decide +kernel
theorem dX2_printNumber_54 : decode cX2_printNumber 54 = .ok (.ldc2_w 56, 3) := by decide +kernel
theorem dX2_printNumber_57 : decode cX2_printNumber 57 = .ok (.lrem, 1) := by decide +kernel
theorem dX2_printNumber_58 : decode cX2_printNumber 58 = .ok (.l2i, 1) := by decide +kernel
theorem dX2_printNumber_59 : decode cX2_printNumber 59 = .ok (.bipush 48, 2) := by decide +kernel
theorem dX2_printNumber_61 : decode cX2_printNumber 61 = .ok (.iadd, 1) := by decide +kernel
theorem dX2_printNumber_62 : decode cX2_printNumber 62 = .ok (.invokevirtual 51, 3) := by decide +kernel
theorem dX2_printNumber_65 : decode cX2_printNumber 65 = .ok (.lload_n 3, 1) := by decide +kernel
theorem dX2_printNumber_66 : decode cX2_printNumber 66 = .ok (.ldc2_w 56, 3) := by decide +kernel
theorem dX2_printNumber_69 : decode cX2_printNumber 69 = .ok (.ldiv, 1) := by decide +kernel
theorem dX2_printNumber_70 : decode cX2_printNumber 70 = .ok (.lstore_n 3, 1) := by decide +kernel
theorem dX2_printNumber_71 : decode cX2_printNumber 71 = .ok (.iinc 5 1, 3) := by decide +kernel
theorem dX2_printNumber_74 : decode cX2_printNumber 74 = .ok (.goto (-37), 3) := by decide +kernel
theorem dX2_printNumber_77 : decode cX2_printNumber 77 = .ok (.return_, 1) := by decide +kernel
set_option maxRecDepth 20000 in
theorem ggX2_printSign_X5_set : GoodIn wsX2_printSign wsX5_set := goodIn_r _ [7, 8, 16] (by decide +kernel) (by decide +kernel)
set_option maxRecDepth 20000 in
theorem gX2_printSign_X5_set : GoodIn wsX2_printSign (wsV RX2 39 RX5 yX5_set wsX5_set) := goodIn_app (goodIn_of _ (by decide +kernel)) ggX2_printSign_X5_set
theorem dX2_printSign_0 : decode cX2_printSign 0 = .ok (.aload_n 0, 1) := by decide +kernel
theorem dX2_printSign_1 : decode cX2_printSign 1 = .ok (.getfield 29, 3) := by decide +kernel
theorem dX2_printSign_4 : decode cX2_printSign 4 = .ok (.aload_n 0, 1) := by decide +kernel
theorem dX2_printSign_5 : decode cX2_printSign 5 = .ok (.getfield 36, 3) := by decide +kernel
theorem dX2_printSign_8 : decode cX2_printSign 8 = .ok (.iload_n 1, 1) := by decide +kernel
theorem dX2_printSign_9 : decode cX2_printSign 9 = .ok (.i2l, 1) := by decide +kernel
theorem dX2_printSign_10 : decode cX2_printSign 10 = .ok (.invokevirtual 39, 3) := by decide +kernel
theorem dX2_printSign_13 : decode cX2_printSign 13 = .ok (.aload_n 0, 1) := by decide +kernel
theorem dX2_printSign_14 : decode cX2_printSign 14 = .ok (.dup, 1) := by decide +kernel
theorem dX2_printSign_15 : decode cX2_printSign 15 = .ok (.getfield 36, 3) := by decide +kernel
theorem dX2_printSign_18 : decode cX2_printSign 18 = .ok (.iconst 1, 1) := by decide +kernel
theorem dX2_printSign_19 : decode cX2_printSign 19 = .ok (.iadd, 1) := by decide +kernel
theorem dX2_printSign_20 : decode cX2_printSign 20 = .ok (.putfield 36, 3) := by decide +kernel
theorem dX2_printSign_23 : decode cX2_printSign 23 = .ok (.return_, 1) := by decide +kernel
set_option maxRecDepth 20000 in
theorem ggX3_init_X5_init : GoodIn wsX3_init wsX5_init := goodIn_r _ [12, 13, 2, 3, 14, 15, 16] (by decide +kernel) (by decide +kernel)
set_option maxRecDepth 20000 in
theorem gX3_init_X5_init : GoodIn wsX3_init (wsX5_init) := ggX3_init_X5_init
theorem dX3_init_0 : decode cX3_init 0 = .ok (.aload_n 0, 1) := by decide +kernel
theorem dX3_init_1 : decode cX3_init 1 = .ok (.invokespecial 3, 3) := by decide +kernel
theorem dX3_init_4 : decode cX3_init 4 = .ok (.aload_n 0, 1) := by decide +kernel
theorem dX3_init_5 : decode cX3_init 5 = .ok (.new 9, 3) := by decide +kernel
theorem dX3_init_8 : decode cX3_init 8 = .ok (.dup, 1) := by decide +kernel
theorem dX3_init_9 : decode cX3_init 9 = .ok (.iconst 4, 1) := by decide +kernel
theorem dX3_init_10 : decode cX3_init 10 = .ok (.invokespecial 11, 3) := by decide +kernel
theorem dX3_init_13 : decode cX3_init 13 = .ok (.putfield 14, 3) := by decide +kernel
theorem dX3_init_16 : decode cX3_init 16 = .ok (.aload_n 0, 1) := by decide +kernel
theorem dX3_init_17 : decode cX3_init 17 = .ok (.new 9, 3) := by decide +kernel
theorem dX3_init_20 : decode cX3_init 20 = .ok (.dup, 1) := by decide +kernel
theorem dX3_init_21 : decode cX3_init 21 = .ok (.bipush 24, 2) := by decide +kernel
theorem dX3_init_23 : decode cX3_init 23 = .ok (.invokespecial 11, 3) := by decide +kernel
theorem dX3_init_26 : decode cX3_init 26 = .ok (.putfield 20, 3) := by decide +kernel
theorem dX3_init_29 : decode cX3_init 29 = .ok (.aload_n 0, 1) := by decide +kernel
theorem dX3_init_30 : decode cX3_init 30 = .ok (.new 9, 3) := by decide +kernel
theorem dX3_init_33 : decode cX3_init 33 = .ok (.dup, 1) := by decide +kernel
theorem dX3_init_34 : decode cX3_init 34 = .ok (.sipush 480, 3) := by decide +kernel
theorem dX3_init_37 : decode cX3_init 37 = .ok (.invokespecial 11, 3) := by decide +kernel
theorem dX3_init_40 : decode cX3_init 40 = .ok (.putfield 23, 3) := by decide +kernel
theorem dX3_init_43 : decode cX3_init 43 = .ok (.return_, 1) := by decide +kernel
set_option maxRecDepth 20000 in
theorem ggX3_add_X5_set : GoodIn wsX3_add wsX5_set := goodIn_r _ [7, 8, 19] (by decide +kernel) (by decide +kernel)
set_option maxRecDepth 20000 in
theorem gX3_add_X5_set : GoodIn wsX3_add (wsV RX3 30 RX5 yX5_set wsX5_set) := goodIn_app (goodIn_of _ (by decide +kernel)) ggX3_add_X5_set
set_option maxRecDepth 20000 in
theorem ggX3_add_X3_setWeight : GoodIn wsX3_add wsX3_setWeight := goodIn_r _ [13, 14, 3, 4, 5, 6, 7, 8, 15, 16, 17, 18, 19] (by decide +kernel) (by decide +kernel)
set_option maxRecDepth 20000 in
theorem gX3_add_X3_setWeight : GoodIn wsX3_add (wsV RX3 34 RX3 yX3_setWeight wsX3_setWeight) := goodIn_app (goodIn_of _ (by decide +kernel)) ggX3_add_X3_setWeight
theorem dX3_add_0 : decode cX3_add 0 = .ok (.aload_n 0, 1) := by decide +kernel
theorem dX3_add_1 : decode cX3_add 1 = .ok (.getfield 26, 3) := by decide +kernel
theorem dX3_add_4 : decode cX3_add 4 = .ok (.iconst 4, 1) := by decide +kernel
theorem dX3_add_5 : decode cX3_add 5 = .ok (.if_icmp .lt 5, 3) := by decide +kernel
theorem dX3_add_8 : decode cX3_add 8 = .ok (.iconst (-1), 1) := by decide +kernel
theorem dX3_add_9 : decode cX3_add 9 = .ok (.ireturn, 1) := by decide +kernel
theorem dX3_add_10 : decode cX3_add 10 = .ok (.aload_n 0, 1) := by decide +kernel
theorem dX3_add_11 : decode cX3_add 11 = .ok (.getfield 26, 3) := by decide +kernel
theorem dX3_add_14 : decode cX3_add 14 = .ok (.istore_n 2, 1) := by decide +kernel
theorem dX3_add_15 : decode cX3_add 15 = .ok (.aload_n 0, 1) := by decide +kernel
theorem dX3_add_16 : decode cX3_add 16 = .ok (.getfield 14, 3) := by decide +kernel
theorem dX3_add_19 : decode cX3_add 19 = .ok (.iload_n 2, 1) := by decide +kernel
theorem dX3_add_20 : decode cX3_add 20 = .ok (.iload_n 1, 1) := by decide +kernel
theorem dX3_add_21 : decode cX3_add 21 = .ok (.i2l, 1) := by decide +kernel
theorem dX3_add_22 : decode cX3_add 22 = .ok (.invokevirtual 30, 3) := by decide +kernel
theorem dX3_add_25 : decode cX3_add 25 = .ok (.iconst 0, 1) := by decide +kernel
theorem dX3_add_26 : decode cX3_add 26 = .ok (.istore_n 3, 1) := by decide +kernel
theorem dX3_add_27 : decode cX3_add 27 = .ok (.iload_n 3, 1) := by decide +kernel
theorem dX3_add_28 : decode cX3_add 28 = .ok (.bipush 6, 2) := by decide +kernel
theorem dX3_add_30 : decode cX3_add 30 = .ok (.if_icmp .ge 16, 3) := by decide +kernel
theorem dX3_add_33 : decode cX3_add 33 = .ok (.aload_n 0, 1) := by decide +kernel
theorem dX3_add_34 : decode cX3_add 34 = .ok (.iload_n 2, 1) := by decide +kernel
theorem dX3_add_35 : decode cX3_add 35 = .ok (.iload_n 3, 1) := by decide +kernel
theorem dX3_add_36 : decode cX3_add 36 = .ok (.iconst 1, 1) := by decide +kernel
theorem dX3_add_37 : decode cX3_add 37 = .ok (.invokevirtual 34, 3) := by decide +kernel
theorem dX3_add_40 : decode cX3_add 40 = .ok (.iinc 3 1, 3) := by decide +kernel
theorem dX3_add_43 : decode cX3_add 43 = .ok (.goto (-16), 3) := by decide +kernel
theorem dX3_add_46 : decode cX3_add 46 = .ok (.aload_n 0, 1) := by decide +kernel
theorem dX3_add_47 : decode cX3_add 47 = .ok (.dup, 1) := by decide +kernel
theorem dX3_add_48 : decode cX3_add 48 = .ok (.getfield 26, 3) := by decide +kernel
theorem dX3_add_51 : decode cX3_add 51 = .ok (.iconst 1, 1) := by decide +kernel
theorem dX3_add_52 : decode cX3_add 52 = .ok (.iadd, 1) := by decide +kernel
theorem dX3_add_53 : decode cX3_add 53 = .ok (.putfield 26, 3) := by decide +kernel
theorem dX3_add_56 : decode cX3_add 56 = .ok (.iload_n 2, 1) := by decide +kernel
theorem dX3_add_57 : decode cX3_add 57 = .ok (.ireturn, 1) := by decide +kernel
theorem dX3_has_0 : decode cX3_has 0 = .ok (.iload_n 1, 1) := by decide +kernel
theorem dX3_has_1 : decode cX3_has 1 = .ok (.ifCond .lt 15, 3) := by decide +kernel
theorem dX3_has_4 : decode cX3_has 4 = .ok (.iload_n 1, 1) := by decide +kernel
theorem dX3_has_5 : decode cX3_has 5 = .ok (.aload_n 0, 1) := by decide +kernel
theorem dX3_has_6 : decode cX3_has 6 = .ok (.getfield 26, 3) := by decide +kernel
theorem dX3_has_9 : decode cX3_has 9 = .ok (.if_icmp .ge 7, 3) := by decide +kernel
theorem dX3_has_12 : decode cX3_has 12 = .ok (.iconst 1, 1) := by decide +kernel
theorem dX3_has_13 : decode cX3_has 13 = .ok (.goto 4, 3) := by decide +kernel
theorem dX3_has_16 : decode cX3_has 16 = .ok (.iconst 0, 1) := by decide +kernel
theorem dX3_has_17 : decode cX3_has 17 = .ok (.ireturn, 1) := by decide +kernel
set_option maxRecDepth 20000 in
theorem ggX3_hasFlat_X3_has : GoodIn wsX3_hasFlat wsX3_has := goodIn_r _ [6, 7, 14, 15, 16, 17] (by decide +kernel) (by decide +kernel)
set_option maxRecDepth 20000 in
theorem gX3_hasFlat_X3_has : GoodIn wsX3_hasFlat (wsV RX3 38 RX3 yX3_has wsX3_has) := goodIn_app (goodIn_of _ (by decide +kernel)) ggX3_hasFlat_X3_has
set_option maxRecDepth 20000 in
theorem ggX3_hasFlat_X5_get : GoodIn wsX3_hasFlat wsX5_get := goodIn_r _ [12, 13, 18] (by decide +kernel) (by decide +kernel)
set_option maxRecDepth 20000 in
theorem gX3_hasFlat_X5_get : GoodIn wsX3_hasFlat (wsV RX3 42 RX5 yX5_get wsX5_get) := goodIn_app (goodIn_of _ (by decide +kernel)) ggX3_hasFlat_X5_get
theorem dX3_hasFlat_0 : decode cX3_hasFlat 0 = .ok (.aload_n 0, 1) := by decide +kernel
theorem dX3_hasFlat_1 : decode cX3_hasFlat 1 = .ok (.iload_n 1, 1) := by decide +kernel
theorem dX3_hasFlat_2 : decode cX3_hasFlat 2 = .ok (.invokevirtual 38, 3) := by decide +kernel
theorem dX3_hasFlat_5 : decode cX3_hasFlat 5 = .ok (.ifCond .eq 25, 3) := by decide +kernel
theorem dX3_hasFlat_8 : decode cX3_hasFlat 8 = .ok (.iload_n 2, 1) := by decide +kernel
theorem dX3_hasFlat_9 : decode cX3_hasFlat 9 = .ok (.ifCond .lt 21, 3) := by decide +kernel
theorem dX3_hasFlat_12 : decode cX3_hasFlat 12 = .ok (.iload_n 2, 1) := by decide +kernel
theorem dX3_hasFlat_13 : decode cX3_hasFlat 13 = .ok (.i2l, 1) := by decide +kernel
theorem dX3_hasFlat_14 : decode cX3_hasFlat 14 = .ok (.aload_n 0, 1) := by decide +kernel
theorem dX3_hasFlat_15 : decode cX3_hasFlat 15 = .ok (.getfield 14, 3) := by decide +kernel
theorem dX3_hasFlat_18 : decode cX3_hasFlat 18 = .ok (.iload_n 1, 1) := by decide +kernel
theorem dX3_hasFlat_19 : decode cX3_hasFlat 19 = .ok (.invokevirtual 42, 3) := by decide +kernel
theorem dX3_hasFlat_22 : decode cX3_hasFlat 22 = .ok (.lcmp, 1) := by decide +kernel
theorem dX3_hasFlat_23 : decode cX3_hasFlat 23 = .ok (.ifCond .ge 7, 3) := by decide +kernel
theorem dX3_hasFlat_26 : decode cX3_hasFlat 26 = .ok (.iconst 1, 1) := by decide +kernel
theorem dX3_hasFlat_27 : decode cX3_hasFlat 27 = .ok (.goto 4, 3) := by decide +kernel
theorem dX3_hasFlat_30 : decode cX3_hasFlat 30 = .ok (.iconst 0, 1) := by decide +kernel
theorem dX3_hasFlat_31 : decode cX3_hasFlat 31 = .ok (.ireturn, 1) := by decide +kernel
set_option maxRecDepth 20000 in
theorem ggX3_setWeight_X5_set : GoodIn wsX3_setWeight wsX5_set := goodIn_r _ [6, 7, 12] (by decide +kernel) (by decide +kernel)
set_option maxRecDepth 20000 in
theorem gX3_setWeight_X5_set : GoodIn wsX3_setWeight (wsV RX3 30 RX5 yX5_set wsX5_set) := goodIn_app (goodIn_of _ (by decide +kernel)) ggX3_setWeight_X5_set
theorem dX3_setWeight_0 : decode cX3_setWeight 0 = .ok (.aload_n 0, 1) := by decide +kernel
theorem dX3_setWeight_1 : decode cX3_setWeight 1 = .ok (.getfield 20, 3) := by decide +kernel
theorem dX3_setWeight_4 : decode cX3_setWeight 4 = .ok (.iload_n 1, 1) := by decide +kernel
theorem dX3_setWeight_5 : decode cX3_setWeight 5 = .ok (.bipush 6, 2) := by decide +kernel
theorem dX3_setWeight_7 : decode cX3_setWeight 7 = .ok (.imul, 1) := by decide +kernel
theorem dX3_setWeight_8 : decode cX3_setWeight 8 = .ok (.iload_n 2, 1) := by decide +kernel
theorem dX3_setWeight_9 : decode cX3_setWeight 9 = .ok (.iadd, 1) := by decide +kernel
theorem dX3_setWeight_10 : decode cX3_setWeight 10 = .ok (.iload_n 3, 1) := by decide +kernel
theorem dX3_setWeight_11 : decode cX3_setWeight 11 = .ok (.i2l, 1) := by decide +kernel
theorem dX3_setWeight_12 : decode cX3_setWeight 12 = .ok (.invokevirtual 30, 3) := by decide +kernel
theorem dX3_setWeight_15 : decode cX3_setWeight 15 = .ok (.return_, 1) := by decide +kernel
set_option maxRecDepth 20000 in
theorem ggX3_weightOf_X5_get : GoodIn wsX3_weightOf wsX5_get := goodIn_r _ [6, 7, 12] (by decide +kernel) (by decide +kernel)
set_option maxRecDepth 20000 in
theorem gX3_weightOf_X5_get : GoodIn wsX3_weightOf (wsV RX3 42 RX5 yX5_get wsX5_get) := goodIn_app (goodIn_of _ (by decide +kernel)) ggX3_weightOf_X5_get
theorem dX3_weightOf_0 : decode cX3_weightOf 0 = .ok (.aload_n 0, 1) := by decide +kernel
theorem dX3_weightOf_1 : decode cX3_weightOf 1 = .ok (.getfield 20, 3) := by decide +kernel
theorem dX3_weightOf_4 : decode cX3_weightOf 4 = .ok (.iload_n 1, 1) := by decide +kernel
theorem dX3_weightOf_5 : decode cX3_weightOf 5 = .ok (.bipush 6, 2) := by decide +kernel
theorem dX3_weightOf_7 : decode cX3_weightOf 7 = .ok (.imul, 1) := by decide +kernel
theorem dX3_weightOf_8 : decode cX3_weightOf 8 = .ok (.iload_n 2, 1) := by decide +kernel
theorem dX3_weightOf_9 : decode cX3_weightOf 9 = .ok (.iadd, 1) := by decide +kernel
theorem dX3_weightOf_10 : decode cX3_weightOf 10 = .ok (.invokevirtual 42, 3) := by decide +kernel
theorem dX3_weightOf_13 : decode cX3_weightOf 13 = .ok (.lreturn, 1) := by decide +kernel
set_option maxRecDepth 20000 in
theorem ggX3_shareOf_X3_hasFlat : GoodIn wsX3_shareOf wsX3_hasFlat := goodIn_r _ [6, 7, 8, 9, 10, 5, 11, 12, 13, 14, 15, 16, 17, 18, 24, 25, 26, 27, 28] (by decide +kernel) (by decide +kernel)
set_option maxRecDepth 20000 in
theorem gX3_shareOf_X3_hasFlat : GoodIn wsX3_shareOf (wsV RX3 46 RX3 yX3_hasFlat wsX3_hasFlat) := goodIn_app (goodIn_of _ (by decide +kernel)) ggX3_shareOf_X3_hasFlat
set_option maxRecDepth 20000 in
theorem ggX3_shareOf_X3_weightOf : GoodIn wsX3_shareOf wsX3_weightOf := goodIn_r _ [22, 23, 13, 14, 15, 16, 17, 18, 24, 25, 26, 27, 28] (by decide +kernel) (by decide +kernel)
set_option maxRecDepth 20000 in
theorem gX3_shareOf_X3_weightOf : GoodIn wsX3_shareOf (wsV RX3 50 RX3 yX3_weightOf wsX3_weightOf) := goodIn_app (goodIn_of _ (by decide +kernel)) ggX3_shareOf_X3_weightOf
theorem dX3_shareOf_0 : decode cX3_shareOf 0 = .ok (.lconst 0, 1) := by decide +kernel
theorem dX3_shareOf_1 : decode cX3_shareOf 1 = .ok (.lstore 5, 2) := by decide +kernel
theorem dX3_shareOf_3 : decode cX3_shareOf 3 = .ok (.iconst 0, 1) := by decide +kernel
theorem dX3_shareOf_4 : decode cX3_shareOf 4 = .ok (.istore 7, 2) := by decide +kernel
theorem dX3_shareOf_6 : decode cX3_shareOf 6 = .ok (.aload_n 0, 1) := by decide +kernel
theorem dX3_shareOf_7 : decode cX3_shareOf 7 = .ok (.iload_n 1, 1) := by decide +kernel
theorem dX3_shareOf_8 : decode cX3_shareOf 8 = .ok (.iload 7, 2) := by decide +kernel
theorem dX3_shareOf_10 : decode cX3_shareOf 10 = .ok (.invokevirtual 46, 3) := by decide +kernel
theorem dX3_shareOf_13 : decode cX3_shareOf 13 = .ok (.ifCond .eq 28, 3) := by decide +kernel
theorem dX3_shareOf_16 : decode cX3_shareOf 16 = .ok (.iload 7, 2) := by decide +kernel
theorem dX3_shareOf_18 : decode cX3_shareOf 18 = .ok (.bipush 6, 2) := by decide +kernel
theorem dX3_shareOf_20 : decode cX3_shareOf 20 = .ok (.if_icmp .ge 21, 3) := by decide +kernel
theorem dX3_shareOf_23 : decode cX3_shareOf 23 = .ok (.lload 5, 2) := by decide +kernel
theorem dX3_shareOf_25 : decode cX3_shareOf 25 = .ok (.aload_n 0, 1) := by decide +kernel
theorem dX3_shareOf_26 : decode cX3_shareOf 26 = .ok (.iload_n 1, 1) := by decide +kernel
theorem dX3_shareOf_27 : decode cX3_shareOf 27 = .ok (.iload 7, 2) := by decide +kernel
theorem dX3_shareOf_29 : decode cX3_shareOf 29 = .ok (.invokevirtual 50, 3) := by decide +kernel
theorem dX3_shareOf_32 : decode cX3_shareOf 32 = .ok (.ladd, 1) := by decide +kernel
theorem dX3_shareOf_33 : decode cX3_shareOf 33 = .ok (.lstore 5, 2) := by decide +kernel
theorem dX3_shareOf_35 : decode cX3_shareOf 35 = .ok (.iinc 7 1, 3) := by decide +kernel
theorem dX3_shareOf_38 : decode cX3_shareOf 38 = .ok (.goto (-32), 3) := by decide +kernel
theorem dX3_shareOf_41 : decode cX3_shareOf 41 = .ok (.lload 5, 2) := by decide +kernel
theorem dX3_shareOf_43 : decode cX3_shareOf 43 = .ok (.lconst 0, 1) := by decide +kernel
theorem dX3_shareOf_44 : decode cX3_shareOf 44 = .ok (.lcmp, 1) := by decide +kernel
theorem dX3_shareOf_45 : decode cX3_shareOf 45 = .ok (.ifCond .gt 7, 3) := by decide +kernel
theorem dX3_shareOf_48 : decode cX3_shareOf 48 = .ok (.ldc2_w 54, 3) := by decide +kernel
theorem dX3_shareOf_51 : decode cX3_shareOf 51 = .ok (.lreturn, 1) := by decide +kernel
theorem dX3_shareOf_52 : decode cX3_shareOf 52 = .ok (.lload_n 3, 1) := by decide +kernel
theorem dX3_shareOf_53 : decode cX3_shareOf 53 = .ok (.lstore 7, 2) := by decide +kernel
theorem dX3_shareOf_55 : decode cX3_shareOf 55 = .ok (.lconst 0, 1) := by decide +kernel
theorem dX3_shareOf_56 : decode cX3_shareOf 56 = .ok (.lstore 9, 2) := by decide +kernel
theorem dX3_shareOf_58 : decode cX3_shareOf 58 = .ok (.iconst 0, 1) := by decide +kernel
theorem dX3_shareOf_59 : decode cX3_shareOf 59 = .ok (.istore 11, 2) := by decide +kernel
theorem dX3_shareOf_61 : decode cX3_shareOf 61 = .ok (.aload_n 0, 1) := by decide +kernel
theorem dX3_shareOf_62 : decode cX3_shareOf 62 = .ok (.iload_n 1, 1) := by decide +kernel
theorem dX3_shareOf_63 : decode cX3_shareOf 63 = .ok (.iload 11, 2) := by decide +kernel
theorem dX3_shareOf_65 : decode cX3_shareOf 65 = .ok (.invokevirtual 46, 3) := by decide +kernel
theorem dX3_shareOf_68 : decode cX3_shareOf 68 = .ok (.ifCond .eq 57, 3) := by decide +kernel
theorem dX3_shareOf_71 : decode cX3_shareOf 71 = .ok (.iload 11, 2) := by decide +kernel
theorem dX3_shareOf_73 : decode cX3_shareOf 73 = .ok (.bipush 6, 2) := by decide +kernel
theorem dX3_shareOf_75 : decode cX3_shareOf 75 = .ok (.if_icmp .ge 50, 3) := by decide +kernel
theorem dX3_shareOf_78 : decode cX3_shareOf 78 = .ok (.lload 7, 2) := by decide +kernel
theorem dX3_shareOf_80 : decode cX3_shareOf 80 = .ok (.lload_n 3, 1) := by decide +kernel
theorem dX3_shareOf_81 : decode cX3_shareOf 81 = .ok (.aload_n 0, 1) := by decide +kernel
theorem dX3_shareOf_82 : decode cX3_shareOf 82 = .ok (.iload_n 1, 1) := by decide +kernel
theorem dX3_shareOf_83 : decode cX3_shareOf 83 = .ok (.iload 11, 2) := by decide +kernel
theorem dX3_shareOf_85 : decode cX3_shareOf 85 = .ok (.invokevirtual 50, 3) := by decide +kernel
theorem dX3_shareOf_88 : decode cX3_shareOf 88 = .ok (.lmul, 1) := by decide +kernel
theorem dX3_shareOf_89 : decode cX3_shareOf 89 = .ok (.lload 5, 2) := by decide +kernel
theorem dX3_shareOf_91 : decode cX3_shareOf 91 = .ok (.ldiv, 1) := by decide +kernel
theorem dX3_shareOf_92 : decode cX3_shareOf 92 = .ok (.lsub, 1) := by decide +kernel
theorem dX3_shareOf_93 : decode cX3_shareOf 93 = .ok (.lstore 7, 2) := by decide +kernel
theorem dX3_shareOf_95 : decode cX3_shareOf 95 = .ok (.iload 11, 2) := by decide +kernel
theorem dX3_shareOf_97 : decode cX3_shareOf 97 = .ok (.iload_n 2, 1) := by decide +kernel
theorem dX3_shareOf_98 : decode cX3_shareOf 98 = .ok (.if_icmp .ge 21, 3) := by decide +kernel
theorem dX3_shareOf_101 : decode cX3_shareOf 101 = .ok (.aload_n 0, 1) := by decide +kernel
theorem dX3_shareOf_102 : decode cX3_shareOf 102 = .ok (.iload_n 1, 1) := by decide +kernel
theorem dX3_shareOf_103 : decode cX3_shareOf 103 = .ok (.iload 11, 2) := by decide +kernel
theorem dX3_shareOf_105 : decode cX3_shareOf 105 = .ok (.invokevirtual 50, 3) := by decide +kernel
theorem dX3_shareOf_108 : decode cX3_shareOf 108 = .ok (.lconst 0, 1) := by decide +kernel
theorem dX3_shareOf_109 : decode cX3_shareOf 109 = .ok (.lcmp, 1) := by decide +kernel
theorem dX3_shareOf_110 : decode cX3_shareOf 110 = .ok (.ifCond .le 9, 3) := by decide +kernel
theorem dX3_shareOf_113 : decode cX3_shareOf 113 = .ok (.lload 9, 2) := by decide +kernel
theorem dX3_shareOf_115 : decode cX3_shareOf 115 = .ok (.lconst 1, 1) := by decide +kernel
theorem dX3_shareOf_116 : decode cX3_shareOf 116 = .ok (.ladd, 1) := by decide +kernel
theorem dX3_shareOf_117 : decode cX3_shareOf 117 = .ok (.lstore 9, 2) := by decide +kernel
theorem dX3_shareOf_119 : decode cX3_shareOf 119 = .ok (.iinc 11 1, 3) := by decide +kernel
theorem dX3_shareOf_122 : decode cX3_shareOf 122 = .ok (.goto (-61), 3) := by decide +kernel
theorem dX3_shareOf_125 : decode cX3_shareOf 125 = .ok (.aload_n 0, 1) := by decide +kernel
theorem dX3_shareOf_126 : decode cX3_shareOf 126 = .ok (.iload_n 1, 1) := by decide +kernel
theorem dX3_shareOf_127 : decode cX3_shareOf 127 = .ok (.iload_n 2, 1) := by decide +kernel
theorem dX3_shareOf_128 : decode cX3_shareOf 128 = .ok (.invokevirtual 50, 3) := by decide +kernel
theorem dX3_shareOf_131 : decode cX3_shareOf 131 = .ok (.lstore 11, 2) := by decide +kernel
theorem dX3_shareOf_133 : decode cX3_shareOf 133 = .ok (.lload 11, 2) := by decide +kernel
theorem dX3_shareOf_135 : decode cX3_shareOf 135 = .ok (.lconst 0, 1) := by decide +kernel
theorem dX3_shareOf_136 : decode cX3_shareOf 136 = .ok (.lcmp, 1) := by decide +kernel
theorem dX3_shareOf_137 : decode cX3_shareOf 137 = .ok (.ifCond .le 15, 3) := by decide +kernel
theorem dX3_shareOf_140 : decode cX3_shareOf 140 = .ok (.lload 9, 2) := by decide +kernel
theorem dX3_shareOf_142 : decode cX3_shareOf 142 = .ok (.lload 7, 2) := by decide +kernel
theorem dX3_shareOf_144 : decode cX3_shareOf 144 = .ok (.lcmp, 1) := by decide +kernel
theorem dX3_shareOf_145 : decode cX3_shareOf 145 = .ok (.ifCond .ge 7, 3) := by decide +kernel
theorem dX3_shareOf_148 : decode cX3_shareOf 148 = .ok (.lconst 1, 1) := by decide +kernel
theorem dX3_shareOf_149 : decode cX3_shareOf 149 = .ok (.goto 4, 3) := by decide +kernel
theorem dX3_shareOf_152 : decode cX3_shareOf 152 = .ok (.lconst 0, 1) := by decide +kernel
theorem dX3_shareOf_153 : decode cX3_shareOf 153 = .ok (.lstore 13, 2) := by decide +kernel
theorem dX3_shareOf_155 : decode cX3_shareOf 155 = .ok (.lload_n 3, 1) := by decide +kernel
theorem dX3_shareOf_156 : decode cX3_shareOf 156 = .ok (.lload 11, 2) := by decide +kernel
theorem dX3_shareOf_158 : decode cX3_shareOf 158 = .ok (.lmul, 1) := by decide +kernel
theorem dX3_shareOf_159 : decode cX3_shareOf 159 = .ok (.lload 5, 2) := by decide +kernel
theorem dX3_shareOf_161 : decode cX3_shareOf 161 = .ok (.ldiv, 1) := by decide +kernel
theorem dX3_shareOf_162 : decode cX3_shareOf 162 = .ok (.lload 13, 2) := by decide +kernel
theorem dX3_shareOf_164 : decode cX3_shareOf 164 = .ok (.ladd, 1) := by decide +kernel
theorem dX3_shareOf_165 : decode cX3_shareOf 165 = .ok (.lreturn, 1) := by decide +kernel
set_option maxRecDepth 20000 in
theorem ggX3_issuedOf_X5_get : GoodIn wsX3_issuedOf wsX5_get := goodIn_r _ [6, 7, 12] (by decide +kernel) (by decide +kernel)
set_option maxRecDepth 20000 in
theorem gX3_issuedOf_X5_get : GoodIn wsX3_issuedOf (wsV RX3 42 RX5 yX5_get wsX5_get) := goodIn_app (goodIn_of _ (by decide +kernel)) ggX3_issuedOf_X5_get
theorem dX3_issuedOf_0 : decode cX3_issuedOf 0 = .ok (.aload_n 0, 1) := by decide +kernel
theorem dX3_issuedOf_1 : decode cX3_issuedOf 1 = .ok (.getfield 23, 3) := by decide +kernel
theorem dX3_issuedOf_4 : decode cX3_issuedOf 4 = .ok (.iload_n 1, 1) := by decide +kernel
theorem dX3_issuedOf_5 : decode cX3_issuedOf 5 = .ok (.bipush 120, 2) := by decide +kernel
theorem dX3_issuedOf_7 : decode cX3_issuedOf 7 = .ok (.imul, 1) := by decide +kernel
theorem dX3_issuedOf_8 : decode cX3_issuedOf 8 = .ok (.iload_n 2, 1) := by decide +kernel
theorem dX3_issuedOf_9 : decode cX3_issuedOf 9 = .ok (.iadd, 1) := by decide +kernel
theorem dX3_issuedOf_10 : decode cX3_issuedOf 10 = .ok (.invokevirtual 42, 3) := by decide +kernel
theorem dX3_issuedOf_13 : decode cX3_issuedOf 13 = .ok (.lreturn, 1) := by decide +kernel
set_option maxRecDepth 20000 in
theorem ggX3_setIssued_X5_set : GoodIn wsX3_setIssued wsX5_set := goodIn_r _ [6, 7, 12] (by decide +kernel) (by decide +kernel)
set_option maxRecDepth 20000 in
theorem gX3_setIssued_X5_set : GoodIn wsX3_setIssued (wsV RX3 30 RX5 yX5_set wsX5_set) := goodIn_app (goodIn_of _ (by decide +kernel)) ggX3_setIssued_X5_set
theorem dX3_setIssued_0 : decode cX3_setIssued 0 = .ok (.aload_n 0, 1) := by decide +kernel
theorem dX3_setIssued_1 : decode cX3_setIssued 1 = .ok (.getfield 23, 3) := by decide +kernel
theorem dX3_setIssued_4 : decode cX3_setIssued 4 = .ok (.iload_n 1, 1) := by decide +kernel
theorem dX3_setIssued_5 : decode cX3_setIssued 5 = .ok (.bipush 120, 2) := by decide +kernel
theorem dX3_setIssued_7 : decode cX3_setIssued 7 = .ok (.imul, 1) := by decide +kernel
theorem dX3_setIssued_8 : decode cX3_setIssued 8 = .ok (.iload_n 2, 1) := by decide +kernel
theorem dX3_setIssued_9 : decode cX3_setIssued 9 = .ok (.iadd, 1) := by decide +kernel
theorem dX3_setIssued_10 : decode cX3_setIssued 10 = .ok (.lload_n 3, 1) := by decide +kernel
theorem dX3_setIssued_11 : decode cX3_setIssued 11 = .ok (.invokevirtual 30, 3) := by decide +kernel
theorem dX3_setIssued_14 : decode cX3_setIssued 14 = .ok (.return_, 1) := by decide +kernel
set_option maxRecDepth 20000 in
theorem ggX4_init_X5_init : GoodIn wsX4_init wsX5_init := goodIn_r _ [13, 14, 2, 3, 15, 16, 17] (by decide +kernel) (by decide +kernel)
set_option maxRecDepth 20000 in
theorem gX4_init_X5_init : GoodIn wsX4_init (wsX5_init) := ggX4_init_X5_init
theorem dX4_init_0 : decode cX4_init 0 = .ok (.aload_n 0, 1) := by decide +kernel
theorem dX4_init_1 : decode cX4_init 1 = .ok (.invokespecial 3, 3) := by decide +kernel
theorem dX4_init_4 : decode cX4_init 4 = .ok (.aload_n 0, 1) := by decide +kernel
theorem dX4_init_5 : decode cX4_init 5 = .ok (.new 9, 3) := by decide +kernel
theorem dX4_init_8 : decode cX4_init 8 = .ok (.dup, 1) := by decide +kernel
theorem dX4_init_9 : decode cX4_init 9 = .ok (.bipush 8, 2) := by decide +kernel
theorem dX4_init_11 : decode cX4_init 11 = .ok (.invokespecial 11, 3) := by decide +kernel
theorem dX4_init_14 : decode cX4_init 14 = .ok (.putfield 14, 3) := by decide +kernel
theorem dX4_init_17 : decode cX4_init 17 = .ok (.aload_n 0, 1) := by decide +kernel
theorem dX4_init_18 : decode cX4_init 18 = .ok (.new 9, 3) := by decide +kernel
theorem dX4_init_21 : decode cX4_init 21 = .ok (.dup, 1) := by decide +kernel
theorem dX4_init_22 : decode cX4_init 22 = .ok (.bipush 8, 2) := by decide +kernel
theorem dX4_init_24 : decode cX4_init 24 = .ok (.invokespecial 11, 3) := by decide +kernel
theorem dX4_init_27 : decode cX4_init 27 = .ok (.putfield 20, 3) := by decide +kernel
theorem dX4_init_30 : decode cX4_init 30 = .ok (.aload_n 0, 1) := by decide +kernel
theorem dX4_init_31 : decode cX4_init 31 = .ok (.new 9, 3) := by decide +kernel
theorem dX4_init_34 : decode cX4_init 34 = .ok (.dup, 1) := by decide +kernel
theorem dX4_init_35 : decode cX4_init 35 = .ok (.bipush 8, 2) := by decide +kernel
theorem dX4_init_37 : decode cX4_init 37 = .ok (.invokespecial 11, 3) := by decide +kernel
theorem dX4_init_40 : decode cX4_init 40 = .ok (.putfield 23, 3) := by decide +kernel
theorem dX4_init_43 : decode cX4_init 43 = .ok (.aload_n 0, 1) := by decide +kernel
theorem dX4_init_44 : decode cX4_init 44 = .ok (.new 9, 3) := by decide +kernel
theorem dX4_init_47 : decode cX4_init 47 = .ok (.dup, 1) := by decide +kernel
theorem dX4_init_48 : decode cX4_init 48 = .ok (.bipush 8, 2) := by decide +kernel
theorem dX4_init_50 : decode cX4_init 50 = .ok (.invokespecial 11, 3) := by decide +kernel
theorem dX4_init_53 : decode cX4_init 53 = .ok (.putfield 26, 3) := by decide +kernel
theorem dX4_init_56 : decode cX4_init 56 = .ok (.return_, 1) := by decide +kernel
set_option maxRecDepth 20000 in
theorem ggX4_add_X5_set : GoodIn wsX4_add wsX5_set := goodIn_r _ [10, 11, 17] (by decide +kernel) (by decide +kernel)
set_option maxRecDepth 20000 in
theorem gX4_add_X5_set : GoodIn wsX4_add (wsV RX4 33 RX5 yX5_set wsX5_set) := goodIn_app (goodIn_of _ (by decide +kernel)) ggX4_add_X5_set
theorem dX4_add_0 : decode cX4_add 0 = .ok (.aload_n 0, 1) := by decide +kernel
theorem dX4_add_1 : decode cX4_add 1 = .ok (.getfield 29, 3) := by decide +kernel
theorem dX4_add_4 : decode cX4_add 4 = .ok (.bipush 8, 2) := by decide +kernel
theorem dX4_add_6 : decode cX4_add 6 = .ok (.if_icmp .lt 5, 3) := by decide +kernel
theorem dX4_add_9 : decode cX4_add 9 = .ok (.iconst 0, 1) := by decide +kernel
theorem dX4_add_10 : decode cX4_add 10 = .ok (.ireturn, 1) := by decide +kernel
theorem dX4_add_11 : decode cX4_add 11 = .ok (.aload_n 0, 1) := by decide +kernel
theorem dX4_add_12 : decode cX4_add 12 = .ok (.getfield 14, 3) := by decide +kernel
theorem dX4_add_15 : decode cX4_add 15 = .ok (.aload_n 0, 1) := by decide +kernel
theorem dX4_add_16 : decode cX4_add 16 = .ok (.getfield 29, 3) := by decide +kernel
theorem dX4_add_19 : decode cX4_add 19 = .ok (.iload_n 1, 1) := by decide +kernel
theorem dX4_add_20 : decode cX4_add 20 = .ok (.i2l, 1) := by decide +kernel
theorem dX4_add_21 : decode cX4_add 21 = .ok (.invokevirtual 33, 3) := by decide +kernel
theorem dX4_add_24 : decode cX4_add 24 = .ok (.aload_n 0, 1) := by decide +kernel
theorem dX4_add_25 : decode cX4_add 25 = .ok (.getfield 20, 3) := by decide +kernel
theorem dX4_add_28 : decode cX4_add 28 = .ok (.aload_n 0, 1) := by decide +kernel
theorem dX4_add_29 : decode cX4_add 29 = .ok (.getfield 29, 3) := by decide +kernel
theorem dX4_add_32 : decode cX4_add 32 = .ok (.iload_n 2, 1) := by decide +kernel
theorem dX4_add_33 : decode cX4_add 33 = .ok (.i2l, 1) := by decide +kernel
theorem dX4_add_34 : decode cX4_add 34 = .ok (.invokevirtual 33, 3) := by decide +kernel
theorem dX4_add_37 : decode cX4_add 37 = .ok (.aload_n 0, 1) := by decide +kernel
theorem dX4_add_38 : decode cX4_add 38 = .ok (.getfield 23, 3) := by decide +kernel
theorem dX4_add_41 : decode cX4_add 41 = .ok (.aload_n 0, 1) := by decide +kernel
theorem dX4_add_42 : decode cX4_add 42 = .ok (.getfield 29, 3) := by decide +kernel
theorem dX4_add_45 : decode cX4_add 45 = .ok (.lload_n 3, 1) := by decide +kernel
theorem dX4_add_46 : decode cX4_add 46 = .ok (.invokevirtual 33, 3) := by decide +kernel
theorem dX4_add_49 : decode cX4_add 49 = .ok (.aload_n 0, 1) := by decide +kernel
theorem dX4_add_50 : decode cX4_add 50 = .ok (.getfield 26, 3) := by decide +kernel
theorem dX4_add_53 : decode cX4_add 53 = .ok (.aload_n 0, 1) := by decide +kernel
theorem dX4_add_54 : decode cX4_add 54 = .ok (.getfield 29, 3) := by decide +kernel
theorem dX4_add_57 : decode cX4_add 57 = .ok (.lload 5, 2) := by decide +kernel
theorem dX4_add_59 : decode cX4_add 59 = .ok (.invokevirtual 33, 3) := by decide +kernel
theorem dX4_add_62 : decode cX4_add 62 = .ok (.aload_n 0, 1) := by decide +kernel
theorem dX4_add_63 : decode cX4_add 63 = .ok (.dup, 1) := by decide +kernel
theorem dX4_add_64 : decode cX4_add 64 = .ok (.getfield 29, 3) := by decide +kernel
theorem dX4_add_67 : decode cX4_add 67 = .ok (.iconst 1, 1) := by decide +kernel
theorem dX4_add_68 : decode cX4_add 68 = .ok (.iadd, 1) := by decide +kernel
theorem dX4_add_69 : decode cX4_add 69 = .ok (.putfield 29, 3) := by decide +kernel
theorem dX4_add_72 : decode cX4_add 72 = .ok (.iconst 1, 1) := by decide +kernel
theorem dX4_add_73 : decode cX4_add 73 = .ok (.ireturn, 1) := by decide +kernel
set_option maxRecDepth 20000 in
theorem ggX4_relieve_X5_get : GoodIn wsX4_relieve wsX5_get := goodIn_r _ [10, 11, 17] (by decide +kernel) (by decide +kernel)
set_option maxRecDepth 20000 in
theorem gX4_relieve_X5_get : GoodIn wsX4_relieve (wsV RX4 37 RX5 yX5_get wsX5_get) := goodIn_app (goodIn_of _ (by decide +kernel)) ggX4_relieve_X5_get
theorem dX4_relieve_0 : decode cX4_relieve 0 = .ok (.iconst 0, 1) := by decide +kernel
theorem dX4_relieve_1 : decode cX4_relieve 1 = .ok (.istore 5, 2) := by decide +kernel
theorem dX4_relieve_3 : decode cX4_relieve 3 = .ok (.iload 5, 2) := by decide +kernel
theorem dX4_relieve_5 : decode cX4_relieve 5 = .ok (.aload_n 0, 1) := by decide +kernel
theorem dX4_relieve_6 : decode cX4_relieve 6 = .ok (.getfield 29, 3) := by decide +kernel
theorem dX4_relieve_9 : decode cX4_relieve 9 = .ok (.if_icmp .ge 69, 3) := by decide +kernel
theorem dX4_relieve_12 : decode cX4_relieve 12 = .ok (.aload_n 0, 1) := by decide +kernel
theorem dX4_relieve_13 : decode cX4_relieve 13 = .ok (.getfield 14, 3) := by decide +kernel
theorem dX4_relieve_16 : decode cX4_relieve 16 = .ok (.iload 5, 2) := by decide +kernel
theorem dX4_relieve_18 : decode cX4_relieve 18 = .ok (.invokevirtual 37, 3) := by decide +kernel
theorem dX4_relieve_21 : decode cX4_relieve 21 = .ok (.iload_n 1, 1) := by decide +kernel
theorem dX4_relieve_22 : decode cX4_relieve 22 = .ok (.i2l, 1) := by decide +kernel
theorem dX4_relieve_23 : decode cX4_relieve 23 = .ok (.lcmp, 1) := by decide +kernel
theorem dX4_relieve_24 : decode cX4_relieve 24 = .ok (.ifCond .ne 48, 3) := by decide +kernel
theorem dX4_relieve_27 : decode cX4_relieve 27 = .ok (.aload_n 0, 1) := by decide +kernel
theorem dX4_relieve_28 : decode cX4_relieve 28 = .ok (.getfield 20, 3) := by decide +kernel
theorem dX4_relieve_31 : decode cX4_relieve 31 = .ok (.iload 5, 2) := by decide +kernel
theorem dX4_relieve_33 : decode cX4_relieve 33 = .ok (.invokevirtual 37, 3) := by decide +kernel
theorem dX4_relieve_36 : decode cX4_relieve 36 = .ok (.iload_n 2, 1) := by decide +kernel
theorem dX4_relieve_37 : decode cX4_relieve 37 = .ok (.i2l, 1) := by decide +kernel
theorem dX4_relieve_38 : decode cX4_relieve 38 = .ok (.lcmp, 1) := by decide +kernel
theorem dX4_relieve_39 : decode cX4_relieve 39 = .ok (.ifCond .ne 33, 3) := by decide +kernel
theorem dX4_relieve_42 : decode cX4_relieve 42 = .ok (.aload_n 0, 1) := by decide +kernel
theorem dX4_relieve_43 : decode cX4_relieve 43 = .ok (.getfield 23, 3) := by decide +kernel
theorem dX4_relieve_46 : decode cX4_relieve 46 = .ok (.iload 5, 2) := by decide +kernel
theorem dX4_relieve_48 : decode cX4_relieve 48 = .ok (.invokevirtual 37, 3) := by decide +kernel
theorem dX4_relieve_51 : decode cX4_relieve 51 = .ok (.lload_n 3, 1) := by decide +kernel
theorem dX4_relieve_52 : decode cX4_relieve 52 = .ok (.lcmp, 1) := by decide +kernel
theorem dX4_relieve_53 : decode cX4_relieve 53 = .ok (.ifCond .gt 19, 3) := by decide +kernel
theorem dX4_relieve_56 : decode cX4_relieve 56 = .ok (.lload_n 3, 1) := by decide +kernel
theorem dX4_relieve_57 : decode cX4_relieve 57 = .ok (.aload_n 0, 1) := by decide +kernel
theorem dX4_relieve_58 : decode cX4_relieve 58 = .ok (.getfield 26, 3) := by decide +kernel
theorem dX4_relieve_61 : decode cX4_relieve 61 = .ok (.iload 5, 2) := by decide +kernel
theorem dX4_relieve_63 : decode cX4_relieve 63 = .ok (.invokevirtual 37, 3) := by decide +kernel
theorem dX4_relieve_66 : decode cX4_relieve 66 = .ok (.lcmp, 1) := by decide +kernel
theorem dX4_relieve_67 : decode cX4_relieve 67 = .ok (.ifCond .gt 5, 3) := by decide +kernel
theorem dX4_relieve_70 : decode cX4_relieve 70 = .ok (.iconst 1, 1) := by decide +kernel
theorem dX4_relieve_71 : decode cX4_relieve 71 = .ok (.ireturn, 1) := by decide +kernel
theorem dX4_relieve_72 : decode cX4_relieve 72 = .ok (.iinc 5 1, 3) := by decide +kernel
theorem dX4_relieve_75 : decode cX4_relieve 75 = .ok (.goto (-72), 3) := by decide +kernel
theorem dX4_relieve_78 : decode cX4_relieve 78 = .ok (.iconst 0, 1) := by decide +kernel
theorem dX4_relieve_79 : decode cX4_relieve 79 = .ok (.ireturn, 1) := by decide +kernel
set_option maxRecDepth 20000 in
theorem ggX7_init_X5_init : GoodIn wsX7_init wsX5_init := goodIn_r _ [10, 11, 2, 3, 12, 13, 14] (by decide +kernel) (by decide +kernel)
set_option maxRecDepth 20000 in
theorem gX7_init_X5_init : GoodIn wsX7_init (wsX5_init) := ggX7_init_X5_init
theorem dX7_init_0 : decode cX7_init 0 = .ok (.aload_n 0, 1) := by decide +kernel
theorem dX7_init_1 : decode cX7_init 1 = .ok (.invokespecial 3, 3) := by decide +kernel
theorem dX7_init_4 : decode cX7_init 4 = .ok (.aload_n 0, 1) := by decide +kernel
theorem dX7_init_5 : decode cX7_init 5 = .ok (.new 9, 3) := by decide +kernel
theorem dX7_init_8 : decode cX7_init 8 = .ok (.dup, 1) := by decide +kernel
theorem dX7_init_9 : decode cX7_init 9 = .ok (.sipush 600, 3) := by decide +kernel
theorem dX7_init_12 : decode cX7_init 12 = .ok (.invokespecial 11, 3) := by decide +kernel
theorem dX7_init_15 : decode cX7_init 15 = .ok (.putfield 14, 3) := by decide +kernel
theorem dX7_init_18 : decode cX7_init 18 = .ok (.return_, 1) := by decide +kernel
set_option maxRecDepth 20000 in
theorem ggX7_add_X5_set : GoodIn wsX7_add wsX5_set := goodIn_r _ [7, 8, 14] (by decide +kernel) (by decide +kernel)
set_option maxRecDepth 20000 in
theorem gX7_add_X5_set : GoodIn wsX7_add (wsV RX7 24 RX5 yX5_set wsX5_set) := goodIn_app (goodIn_of _ (by decide +kernel)) ggX7_add_X5_set
theorem dX7_add_0 : decode cX7_add 0 = .ok (.aload_n 0, 1) := by decide +kernel
theorem dX7_add_1 : decode cX7_add 1 = .ok (.getfield 20, 3) := by decide +kernel
theorem dX7_add_4 : decode cX7_add 4 = .ok (.sipush 600, 3) := by decide +kernel
theorem dX7_add_7 : decode cX7_add 7 = .ok (.if_icmp .lt 5, 3) := by decide +kernel
theorem dX7_add_10 : decode cX7_add 10 = .ok (.iconst 0, 1) := by decide +kernel
theorem dX7_add_11 : decode cX7_add 11 = .ok (.ireturn, 1) := by decide +kernel
theorem dX7_add_12 : decode cX7_add 12 = .ok (.aload_n 0, 1) := by decide +kernel
theorem dX7_add_13 : decode cX7_add 13 = .ok (.getfield 14, 3) := by decide +kernel
theorem dX7_add_16 : decode cX7_add 16 = .ok (.aload_n 0, 1) := by decide +kernel
theorem dX7_add_17 : decode cX7_add 17 = .ok (.getfield 20, 3) := by decide +kernel
theorem dX7_add_20 : decode cX7_add 20 = .ok (.iload_n 1, 1) := by decide +kernel
theorem dX7_add_21 : decode cX7_add 21 = .ok (.i2l, 1) := by decide +kernel
theorem dX7_add_22 : decode cX7_add 22 = .ok (.invokevirtual 24, 3) := by decide +kernel
theorem dX7_add_25 : decode cX7_add 25 = .ok (.aload_n 0, 1) := by decide +kernel
theorem dX7_add_26 : decode cX7_add 26 = .ok (.dup, 1) := by decide +kernel
theorem dX7_add_27 : decode cX7_add 27 = .ok (.getfield 20, 3) := by decide +kernel
theorem dX7_add_30 : decode cX7_add 30 = .ok (.iconst 1, 1) := by decide +kernel
theorem dX7_add_31 : decode cX7_add 31 = .ok (.iadd, 1) := by decide +kernel
theorem dX7_add_32 : decode cX7_add 32 = .ok (.putfield 20, 3) := by decide +kernel
theorem dX7_add_35 : decode cX7_add 35 = .ok (.iconst 1, 1) := by decide +kernel
theorem dX7_add_36 : decode cX7_add 36 = .ok (.ireturn, 1) := by decide +kernel
theorem dX7_clear_0 : decode cX7_clear 0 = .ok (.aload_n 0, 1) := by decide +kernel
theorem dX7_clear_1 : decode cX7_clear 1 = .ok (.iconst 0, 1) := by decide +kernel
theorem dX7_clear_2 : decode cX7_clear 2 = .ok (.putfield 20, 3) := by decide +kernel
theorem dX7_clear_5 : decode cX7_clear 5 = .ok (.return_, 1) := by decide +kernel
set_option maxRecDepth 20000 in
theorem ggX7_toFirstWord_X7_toNextWord : GoodIn wsX7_toFirstWord wsX7_toNextWord := goodIn_r _ [7, 1, 8, 9, 10, 2, 11, 12, 13, 14, 15, 16, 17, 18, 6, 19, 20, 21, 22, 23, 24, 25, 26, 27] (by decide +kernel) (by decide +kernel)
set_option maxRecDepth 20000 in
theorem gX7_toFirstWord_X7_toNextWord : GoodIn wsX7_toFirstWord (wsV RX7 31 RX7 yX7_toNextWord wsX7_toNextWord) := goodIn_app (goodIn_of _ (by decide +kernel)) ggX7_toFirstWord_X7_toNextWord
theorem dX7_toFirstWord_0 : decode cX7_toFirstWord 0 = .ok (.aload_n 0, 1) := by decide +kernel
theorem dX7_toFirstWord_1 : decode cX7_toFirstWord 1 = .ok (.iconst 0, 1) := by decide +kernel
theorem dX7_toFirstWord_2 : decode cX7_toFirstWord 2 = .ok (.putfield 28, 3) := by decide +kernel
theorem dX7_toFirstWord_5 : decode cX7_toFirstWord 5 = .ok (.aload_n 0, 1) := by decide +kernel
theorem dX7_toFirstWord_6 : decode cX7_toFirstWord 6 = .ok (.invokevirtual 31, 3) := by decide +kernel
theorem dX7_toFirstWord_9 : decode cX7_toFirstWord 9 = .ok (.aload_n 0, 1) := by decide +kernel
theorem dX7_toFirstWord_10 : decode cX7_toFirstWord 10 = .ok (.iconst 0, 1) := by decide +kernel
theorem dX7_toFirstWord_11 : decode cX7_toFirstWord 11 = .ok (.putfield 34, 3) := by decide +kernel
theorem dX7_toFirstWord_14 : decode cX7_toFirstWord 14 = .ok (.return_, 1) := by decide +kernel
set_option maxRecDepth 20000 in
theorem ggX7_toNextWord_X5_get : GoodIn wsX7_toNextWord wsX5_get := goodIn_r _ [10, 11, 23] (by decide +kernel) (by decide +kernel)
set_option maxRecDepth 20000 in
theorem gX7_toNextWord_X5_get : GoodIn wsX7_toNextWord (wsV RX7 40 RX5 yX5_get wsX5_get) := goodIn_app (goodIn_of _ (by decide +kernel)) ggX7_toNextWord_X5_get
set_option maxRecDepth 20000 in
theorem ggX7_toNextWord_X7_isBlank : GoodIn wsX7_toNextWord wsX7_isBlank := goodIn_r _ [15, 16, 17] (by decide +kernel) (by decide +kernel)
set_option maxRecDepth 20000 in
theorem gX7_toNextWord_X7_isBlank : GoodIn wsX7_toNextWord (va_wsS RX7 44 yX7_isBlank wsX7_isBlank) := goodIn_app (goodIn_of _ (by decide +kernel)) ggX7_toNextWord_X7_isBlank
theorem dX7_toNextWord_0 : decode cX7_toNextWord 0 = .ok (.aload_n 0, 1) := by decide +kernel
theorem dX7_toNextWord_1 : decode cX7_toNextWord 1 = .ok (.aload_n 0, 1) := by decide +kernel
theorem dX7_toNextWord_2 : decode cX7_toNextWord 2 = .ok (.getfield 28, 3) := by decide +kernel
theorem dX7_toNextWord_5 : decode cX7_toNextWord 5 = .ok (.putfield 37, 3) := by decide +kernel
theorem dX7_toNextWord_8 : decode cX7_toNextWord 8 = .ok (.aload_n 0, 1) := by decide +kernel
theorem dX7_toNextWord_9 : decode cX7_toNextWord 9 = .ok (.getfield 37, 3) := by decide +kernel
theorem dX7_toNextWord_12 : decode cX7_toNextWord 12 = .ok (.aload_n 0, 1) := by decide +kernel
theorem dX7_toNextWord_13 : decode cX7_toNextWord 13 = .ok (.getfield 20, 3) := by decide +kernel
theorem dX7_toNextWord_16 : decode cX7_toNextWord 16 = .ok (.if_icmp .ge 33, 3) := by decide +kernel
theorem dX7_toNextWord_19 : decode cX7_toNextWord 19 = .ok (.aload_n 0, 1) := by decide +kernel
theorem dX7_toNextWord_20 : decode cX7_toNextWord 20 = .ok (.getfield 14, 3) := by decide +kernel
theorem dX7_toNextWord_23 : decode cX7_toNextWord 23 = .ok (.aload_n 0, 1) := by decide +kernel
theorem dX7_toNextWord_24 : decode cX7_toNextWord 24 = .ok (.getfield 37, 3) := by decide +kernel
theorem dX7_toNextWord_27 : decode cX7_toNextWord 27 = .ok (.invokevirtual 40, 3) := by decide +kernel
theorem dX7_toNextWord_30 : decode cX7_toNextWord 30 = .ok (.invokestatic 44, 3) := by decide +kernel
theorem dX7_toNextWord_33 : decode cX7_toNextWord 33 = .ok (.ifCond .eq 16, 3) := by decide +kernel
theorem dX7_toNextWord_36 : decode cX7_toNextWord 36 = .ok (.aload_n 0, 1) := by decide +kernel
theorem dX7_toNextWord_37 : decode cX7_toNextWord 37 = .ok (.dup, 1) := by decide +kernel
theorem dX7_toNextWord_38 : decode cX7_toNextWord 38 = .ok (.getfield 37, 3) := by decide +kernel
theorem dX7_toNextWord_41 : decode cX7_toNextWord 41 = .ok (.iconst 1, 1) := by decide +kernel
theorem dX7_toNextWord_42 : decode cX7_toNextWord 42 = .ok (.iadd, 1) := by decide +kernel
theorem dX7_toNextWord_43 : decode cX7_toNextWord 43 = .ok (.putfield 37, 3) := by decide +kernel
theorem dX7_toNextWord_46 : decode cX7_toNextWord 46 = .ok (.goto (-38), 3) := by decide +kernel
theorem dX7_toNextWord_49 : decode cX7_toNextWord 49 = .ok (.aload_n 0, 1) := by decide +kernel
theorem dX7_toNextWord_50 : decode cX7_toNextWord 50 = .ok (.aload_n 0, 1) := by decide +kernel
theorem dX7_toNextWord_51 : decode cX7_toNextWord 51 = .ok (.getfield 37, 3) := by decide +kernel
theorem dX7_toNextWord_54 : decode cX7_toNextWord 54 = .ok (.putfield 28, 3) := by decide +kernel
theorem dX7_toNextWord_57 : decode cX7_toNextWord 57 = .ok (.aload_n 0, 1) := by decide +kernel
theorem dX7_toNextWord_58 : decode cX7_toNextWord 58 = .ok (.getfield 28, 3) := by decide +kernel
theorem dX7_toNextWord_61 : decode cX7_toNextWord 61 = .ok (.aload_n 0, 1) := by decide +kernel
theorem dX7_toNextWord_62 : decode cX7_toNextWord 62 = .ok (.getfield 20, 3) := by decide +kernel
theorem dX7_toNextWord_65 : decode cX7_toNextWord 65 = .ok (.if_icmp .ge 33, 3) := by decide +kernel
theorem dX7_toNextWord_68 : decode cX7_toNextWord 68 = .ok (.aload_n 0, 1) := by decide +kernel
theorem dX7_toNextWord_69 : decode cX7_toNextWord 69 = .ok (.getfield 14, 3) := by decide +kernel
theorem dX7_toNextWord_72 : decode cX7_toNextWord 72 = .ok (.aload_n 0, 1) := by decide +kernel
theorem dX7_toNextWord_73 : decode cX7_toNextWord 73 = .ok (.getfield 28, 3) := by decide +kernel
theorem dX7_toNextWord_76 : decode cX7_toNextWord 76 = .ok (.invokevirtual 40, 3) := by decide +kernel
theorem dX7_toNextWord_79 : decode cX7_toNextWord 79 = .ok (.invokestatic 44, 3) := by decide +kernel
theorem dX7_toNextWord_82 : decode cX7_toNextWord 82 = .ok (.ifCond .ne 16, 3) := by decide +kernel
theorem dX7_toNextWord_85 : decode cX7_toNextWord 85 = .ok (.aload_n 0, 1) := by decide +kernel
theorem dX7_toNextWord_86 : decode cX7_toNextWord 86 = .ok (.dup, 1) := by decide +kernel
theorem dX7_toNextWord_87 : decode cX7_toNextWord 87 = .ok (.getfield 28, 3) := by decide +kernel
theorem dX7_toNextWord_90 : decode cX7_toNextWord 90 = .ok (.iconst 1, 1) := by decide +kernel
theorem dX7_toNextWord_91 : decode cX7_toNextWord 91 = .ok (.iadd, 1) := by decide +kernel
theorem dX7_toNextWord_92 : decode cX7_toNextWord 92 = .ok (.putfield 28, 3) := by decide +kernel
theorem dX7_toNextWord_95 : decode cX7_toNextWord 95 = .ok (.goto (-38), 3) := by decide +kernel
theorem dX7_toNextWord_98 : decode cX7_toNextWord 98 = .ok (.aload_n 0, 1) := by decide +kernel
theorem dX7_toNextWord_99 : decode cX7_toNextWord 99 = .ok (.dup, 1) := by decide +kernel
theorem dX7_toNextWord_100 : decode cX7_toNextWord 100 = .ok (.getfield 34, 3) := by decide +kernel
theorem dX7_toNextWord_103 : decode cX7_toNextWord 103 = .ok (.iconst 1, 1) := by decide +kernel
theorem dX7_toNextWord_104 : decode cX7_toNextWord 104 = .ok (.iadd, 1) := by decide +kernel
theorem dX7_toNextWord_105 : decode cX7_toNextWord 105 = .ok (.putfield 34, 3) := by decide +kernel
theorem dX7_toNextWord_108 : decode cX7_toNextWord 108 = .ok (.return_, 1) := by decide +kernel
theorem dX7_isBlank_0 : decode cX7_isBlank 0 = .ok (.lload_n 0, 1) := by decide +kernel
theorem dX7_isBlank_1 : decode cX7_isBlank 1 = .ok (.ldc2_w 48, 3) := by decide +kernel
theorem dX7_isBlank_4 : decode cX7_isBlank 4 = .ok (.lcmp, 1) := by decide +kernel
theorem dX7_isBlank_5 : decode cX7_isBlank 5 = .ok (.ifCond .eq 11, 3) := by decide +kernel
theorem dX7_isBlank_8 : decode cX7_isBlank 8 = .ok (.lload_n 0, 1) := by decide +kernel
theorem dX7_isBlank_9 : decode cX7_isBlank 9 = .ok (.ldc2_w 50, 3) := by decide +kernel
theorem dX7_isBlank_12 : decode cX7_isBlank 12 = .ok (.lcmp, 1) := by decide +kernel
theorem dX7_isBlank_13 : decode cX7_isBlank 13 = .ok (.ifCond .ne 7, 3) := by decide +kernel
theorem dX7_isBlank_16 : decode cX7_isBlank 16 = .ok (.iconst 1, 1) := by decide +kernel
theorem dX7_isBlank_17 : decode cX7_isBlank 17 = .ok (.goto 4, 3) := by decide +kernel
theorem dX7_isBlank_20 : decode cX7_isBlank 20 = .ok (.iconst 0, 1) := by decide +kernel
theorem dX7_isBlank_21 : decode cX7_isBlank 21 = .ok (.ireturn, 1) := by decide +kernel
theorem dX7_hasWord_0 : decode cX7_hasWord 0 = .ok (.aload_n 0, 1) := by decide +kernel
theorem dX7_hasWord_1 : decode cX7_hasWord 1 = .ok (.getfield 37, 3) := by decide +kernel
theorem dX7_hasWord_4 : decode cX7_hasWord 4 = .ok (.aload_n 0, 1) := by decide +kernel
theorem dX7_hasWord_5 : decode cX7_hasWord 5 = .ok (.getfield 28, 3) := by decide +kernel
theorem dX7_hasWord_8 : decode cX7_hasWord 8 = .ok (.if_icmp .ge 7, 3) := by decide +kernel
theorem dX7_hasWord_11 : decode cX7_hasWord 11 = .ok (.iconst 1, 1) := by decide +kernel
theorem dX7_hasWord_12 : decode cX7_hasWord 12 = .ok (.goto 4, 3) := by decide +kernel
theorem dX7_hasWord_15 : decode cX7_hasWord 15 = .ok (.iconst 0, 1) := by decide +kernel
theorem dX7_hasWord_16 : decode cX7_hasWord 16 = .ok (.ireturn, 1) := by decide +kernel
theorem dX7_numberOfWord_0 : decode cX7_numberOfWord 0 = .ok (.aload_n 0, 1) := by decide +kernel
theorem dX7_numberOfWord_1 : decode cX7_numberOfWord 1 = .ok (.getfield 34, 3) := by decide +kernel
theorem dX7_numberOfWord_4 : decode cX7_numberOfWord 4 = .ok (.ireturn, 1) := by decide +kernel
set_option maxRecDepth 20000 in
theorem ggX7_isWord_J0_length_8abf5 : GoodIn wsX7_isWord wsJ0_length_8abf5 := goodIn_r _ [8, 9, 10, 11, 12, 7, 13, 14, 15] (by decide +kernel) (by decide +kernel)
set_option maxRecDepth 20000 in
theorem gX7_isWord_J0_length_8abf5 : GoodIn wsX7_isWord (wsV RX7 52 RJ0 yJ0_length_8abf5 wsJ0_length_8abf5) := goodIn_app (goodIn_of _ (by decide +kernel)) ggX7_isWord_J0_length_8abf5
set_option maxRecDepth 20000 in
theorem ggX7_isWord_X5_get : GoodIn wsX7_isWord wsX5_get := goodIn_r _ [20, 21, 64] (by decide +kernel) (by decide +kernel)
set_option maxRecDepth 20000 in
theorem gX7_isWord_X5_get : GoodIn wsX7_isWord (wsV RX7 40 RX5 yX5_get wsX5_get) := goodIn_app (goodIn_of _ (by decide +kernel)) ggX7_isWord_X5_get
set_option maxRecDepth 20000 in
theorem ggX7_isWord_J0_charAt_5068e : GoodIn wsX7_isWord wsJ0_charAt_5068e := goodIn_r _ [25, 9, 26, 27, 28, 7, 29, 14, 15, 30, 31, 32, 33, 34, 35, 36, 37, 38, 39, 40, 41, 42, 43, 44, 45, 46, 47, 48, 49, 50, 51, 52, 53, 54, 55, 56, 57, 58] (by decide +kernel) (by decide +kernel)
set_option maxRecDepth 20000 in
theorem gX7_isWord_J0_charAt_5068e : GoodIn wsX7_isWord (wsV RX7 57 RJ0 yJ0_charAt_5068e wsJ0_charAt_5068e) := goodIn_app (goodIn_of _ (by decide +kernel)) ggX7_isWord_J0_charAt_5068e
theorem dX7_isWord_0 : decode cX7_isWord 0 = .ok (.aload_n 1, 1) := by decide +kernel
theorem dX7_isWord_1 : decode cX7_isWord 1 = .ok (.ifnull 19, 3) := by decide +kernel
theorem dX7_isWord_4 : decode cX7_isWord 4 = .ok (.aload_n 0, 1) := by decide +kernel
theorem dX7_isWord_5 : decode cX7_isWord 5 = .ok (.getfield 28, 3) := by decide +kernel
theorem dX7_isWord_8 : decode cX7_isWord 8 = .ok (.aload_n 0, 1) := by decide +kernel
theorem dX7_isWord_9 : decode cX7_isWord 9 = .ok (.getfield 37, 3) := by decide +kernel
theorem dX7_isWord_12 : decode cX7_isWord 12 = .ok (.isub, 1) := by decide +kernel
theorem dX7_isWord_13 : decode cX7_isWord 13 = .ok (.aload_n 1, 1) := by decide +kernel
theorem dX7_isWord_14 : decode cX7_isWord 14 = .ok (.invokevirtual 52, 3) := by decide +kernel
theorem dX7_isWord_17 : decode cX7_isWord 17 = .ok (.if_icmp .eq 5, 3) := by decide +kernel
theorem dX7_isWord_20 : decode cX7_isWord 20 = .ok (.iconst 0, 1) := by decide +kernel
theorem dX7_isWord_21 : decode cX7_isWord 21 = .ok (.ireturn, 1) := by decide +kernel
theorem dX7_isWord_22 : decode cX7_isWord 22 = .ok (.iconst 0, 1) := by decide +kernel
theorem dX7_isWord_23 : decode cX7_isWord 23 = .ok (.istore_n 2, 1) := by decide +kernel
theorem dX7_isWord_24 : decode cX7_isWord 24 = .ok (.iload_n 2, 1) := by decide +kernel
theorem dX7_isWord_25 : decode cX7_isWord 25 = .ok (.aload_n 1, 1) := by decide +kernel
theorem dX7_isWord_26 : decode cX7_isWord 26 = .ok (.invokevirtual 52, 3) := by decide +kernel
theorem dX7_isWord_29 : decode cX7_isWord 29 = .ok (.if_icmp .ge 34, 3) := by decide +kernel
theorem dX7_isWord_32 : decode cX7_isWord 32 = .ok (.aload_n 0, 1) := by decide +kernel
theorem dX7_isWord_33 : decode cX7_isWord 33 = .ok (.getfield 14, 3) := by decide +kernel
theorem dX7_isWord_36 : decode cX7_isWord 36 = .ok (.aload_n 0, 1) := by decide +kernel
theorem dX7_isWord_37 : decode cX7_isWord 37 = .ok (.getfield 37, 3) := by decide +kernel
theorem dX7_isWord_40 : decode cX7_isWord 40 = .ok (.iload_n 2, 1) := by decide +kernel
theorem dX7_isWord_41 : decode cX7_isWord 41 = .ok (.iadd, 1) := by decide +kernel
theorem dX7_isWord_42 : decode cX7_isWord 42 = .ok (.invokevirtual 40, 3) := by decide +kernel
theorem dX7_isWord_45 : decode cX7_isWord 45 = .ok (.aload_n 1, 1) := by decide +kernel
theorem dX7_isWord_46 : decode cX7_isWord 46 = .ok (.iload_n 2, 1) := by decide +kernel
theorem dX7_isWord_47 : decode cX7_isWord 47 = .ok (.invokevirtual 57, 3) := by decide +kernel
theorem dX7_isWord_50 : decode cX7_isWord 50 = .ok (.i2l, 1) := by decide +kernel
theorem dX7_isWord_51 : decode cX7_isWord 51 = .ok (.lcmp, 1) := by decide +kernel
theorem dX7_isWord_52 : decode cX7_isWord 52 = .ok (.ifCond .eq 5, 3) := by decide +kernel
theorem dX7_isWord_55 : decode cX7_isWord 55 = .ok (.iconst 0, 1) := by decide +kernel
theorem dX7_isWord_56 : decode cX7_isWord 56 = .ok (.ireturn, 1) := by decide +kernel
theorem dX7_isWord_57 : decode cX7_isWord 57 = .ok (.iinc 2 1, 3) := by decide +kernel
theorem dX7_isWord_60 : decode cX7_isWord 60 = .ok (.goto (-36), 3) := by decide +kernel
theorem dX7_isWord_63 : decode cX7_isWord 63 = .ok (.iconst 1, 1) := by decide +kernel
theorem dX7_isWord_64 : decode cX7_isWord 64 = .ok (.ireturn, 1) := by decide +kernel
set_option maxRecDepth 20000 in
theorem ggX7_asNumber_X7_hasWord : GoodIn wsX7_asNumber wsX7_hasWord := goodIn_r _ [12, 2, 1, 19, 20, 21, 22, 23] (by decide +kernel) (by decide +kernel)
set_option maxRecDepth 20000 in
theorem gX7_asNumber_X7_hasWord : GoodIn wsX7_asNumber (wsV RX7 61 RX7 yX7_hasWord wsX7_hasWord) := goodIn_app (goodIn_of _ (by decide +kernel)) ggX7_asNumber_X7_hasWord
set_option maxRecDepth 20000 in
theorem ggX7_asNumber_X5_get : GoodIn wsX7_asNumber wsX5_get := goodIn_r _ [17, 18, 24] (by decide +kernel) (by decide +kernel)
set_option maxRecDepth 20000 in
theorem gX7_asNumber_X5_get : GoodIn wsX7_asNumber (wsV RX7 40 RX5 yX5_get wsX5_get) := goodIn_app (goodIn_of _ (by decide +kernel)) ggX7_asNumber_X5_get
theorem dX7_asNumber_0 : decode cX7_asNumber 0 = .ok (.aload_n 0, 1) := by decide +kernel
theorem dX7_asNumber_1 : decode cX7_asNumber 1 = .ok (.invokevirtual 61, 3) := by decide +kernel
theorem dX7_asNumber_4 : decode cX7_asNumber 4 = .ok (.ifCond .eq 17, 3) := by decide +kernel
theorem dX7_asNumber_7 : decode cX7_asNumber 7 = .ok (.aload_n 0, 1) := by decide +kernel
theorem dX7_asNumber_8 : decode cX7_asNumber 8 = .ok (.getfield 28, 3) := by decide +kernel
theorem dX7_asNumber_11 : decode cX7_asNumber 11 = .ok (.aload_n 0, 1) := by decide +kernel
theorem dX7_asNumber_12 : decode cX7_asNumber 12 = .ok (.getfield 37, 3) := by decide +kernel
theorem dX7_asNumber_15 : decode cX7_asNumber 15 = .ok (.isub, 1) := by decide +kernel
theorem dX7_asNumber_16 : decode cX7_asNumber 16 = .ok (.bipush 6, 2) := by decide +kernel
theorem dX7_asNumber_18 : decode cX7_asNumber 18 = .ok (.if_icmp .le 7, 3) := by decide +kernel
theorem dX7_asNumber_21 : decode cX7_asNumber 21 = .ok (.ldc2_w 65, 3) := by decide +kernel
theorem dX7_asNumber_24 : decode cX7_asNumber 24 = .ok (.lreturn, 1) := by decide +kernel
theorem dX7_asNumber_25 : decode cX7_asNumber 25 = .ok (.lconst 0, 1) := by decide +kernel
theorem dX7_asNumber_26 : decode cX7_asNumber 26 = .ok (.lstore_n 1, 1) := by decide +kernel
theorem dX7_asNumber_27 : decode cX7_asNumber 27 = .ok (.aload_n 0, 1) := by decide +kernel
theorem dX7_asNumber_28 : decode cX7_asNumber 28 = .ok (.getfield 37, 3) := by decide +kernel
theorem dX7_asNumber_31 : decode cX7_asNumber 31 = .ok (.istore_n 3, 1) := by decide +kernel
theorem dX7_asNumber_32 : decode cX7_asNumber 32 = .ok (.iload_n 3, 1) := by decide +kernel
theorem dX7_asNumber_33 : decode cX7_asNumber 33 = .ok (.aload_n 0, 1) := by decide +kernel
theorem dX7_asNumber_34 : decode cX7_asNumber 34 = .ok (.getfield 28, 3) := by decide +kernel
theorem dX7_asNumber_37 : decode cX7_asNumber 37 = .ok (.if_icmp .ge 52, 3) := by decide +kernel
theorem dX7_asNumber_40 : decode cX7_asNumber 40 = .ok (.aload_n 0, 1) := by decide +kernel
theorem dX7_asNumber_41 : decode cX7_asNumber 41 = .ok (.getfield 14, 3) := by decide +kernel
theorem dX7_asNumber_44 : decode cX7_asNumber 44 = .ok (.iload_n 3, 1) := by decide +kernel
theorem dX7_asNumber_45 : decode cX7_asNumber 45 = .ok (.invokevirtual 40, 3) := by decide +kernel
theorem dX7_asNumber_48 : decode cX7_asNumber 48 = .ok (.ldc2_w 67, 3) := by decide +kernel
theorem dX7_asNumber_51 : decode cX7_asNumber 51 = .ok (.lsub, 1) := by decide +kernel
theorem dX7_asNumber_52 : decode cX7_asNumber 52 = .ok (.lstore 4, 2) := by decide +kernel
theorem dX7_asNumber_54 : decode cX7_asNumber 54 = .ok (.lload 4, 2) := by decide +kernel
theorem dX7_asNumber_56 : decode cX7_asNumber 56 = .ok (.lconst 0, 1) := by decide +kernel
theorem dX7_asNumber_57 : decode cX7_asNumber 57 = .ok (.lcmp, 1) := by decide +kernel
theorem dX7_asNumber_58 : decode cX7_asNumber 58 = .ok (.ifCond .lt 12, 3) := by decide +kernel
theorem dX7_asNumber_61 : decode cX7_asNumber 61 = .ok (.lload 4, 2) := by decide +kernel
theorem dX7_asNumber_63 : decode cX7_asNumber 63 = .ok (.ldc2_w 69, 3) := by decide +kernel
theorem dX7_asNumber_66 : decode cX7_asNumber 66 = .ok (.lcmp, 1) := by decide +kernel
theorem dX7_asNumber_67 : decode cX7_asNumber 67 = .ok (.ifCond .le 7, 3) := by decide +kernel
theorem dX7_asNumber_70 : decode cX7_asNumber 70 = .ok (.ldc2_w 65, 3) := by decide +kernel
theorem dX7_asNumber_73 : decode cX7_asNumber 73 = .ok (.lreturn, 1) := by decide +kernel
theorem dX7_asNumber_74 : decode cX7_asNumber 74 = .ok (.lload_n 1, 1) := by decide +kernel
theorem dX7_asNumber_75 : decode cX7_asNumber 75 = .ok (.ldc2_w 50, 3) := by decide +kernel
theorem dX7_asNumber_78 : decode cX7_asNumber 78 = .ok (.lmul, 1) := by decide +kernel
theorem dX7_asNumber_79 : decode cX7_asNumber 79 = .ok (.lload 4, 2) := by decide +kernel
theorem dX7_asNumber_81 : decode cX7_asNumber 81 = .ok (.ladd, 1) := by decide +kernel
theorem dX7_asNumber_82 : decode cX7_asNumber 82 = .ok (.lstore_n 1, 1) := by decide +kernel
theorem dX7_asNumber_83 : decode cX7_asNumber 83 = .ok (.iinc 3 1, 3) := by decide +kernel
theorem dX7_asNumber_86 : decode cX7_asNumber 86 = .ok (.goto (-54), 3) := by decide +kernel
theorem dX7_asNumber_89 : decode cX7_asNumber 89 = .ok (.lload_n 1, 1) := by decide +kernel
theorem dX7_asNumber_90 : decode cX7_asNumber 90 = .ok (.lreturn, 1) := by decide +kernel
