theorem dX5_init_0 : decode cX5_init 0 = .ok (.aload_n 0, 1) := by decide +kernel
theorem dX5_init_1 : decode cX5_init 1 = .ok (.invokespecial 1, 3) := by decide +kernel
theorem dX5_init_4 : decode cX5_init 4 = .ok (.aload_n 0, 1) := by decide +kernel
theorem dX5_init_5 : decode cX5_init 5 = .ok (.iload_n 1, 1) := by decide +kernel
theorem dX5_init_6 : decode cX5_init 6 = .ok (.ifCond .ge 7, 3) := by decide +kernel
theorem dX5_init_9 : decode cX5_init 9 = .ok (.iconst 0, 1) := by decide +kernel
theorem dX5_init_10 : decode cX5_init 10 = .ok (.goto 4, 3) := by decide +kernel
theorem dX5_init_13 : decode cX5_init 13 = .ok (.iload_n 1, 1) := by decide +kernel
theorem dX5_init_14 : decode cX5_init 14 = .ok (.newarray .long, 2) := by decide +kernel
theorem dX5_init_16 : decode cX5_init 16 = .ok (.putfield 7, 3) := by decide +kernel
theorem dX5_init_19 : decode cX5_init 19 = .ok (.return_, 1) := by decide +kernel
theorem dX5_get_0 : decode cX5_get 0 = .ok (.iload_n 1, 1) := by decide +kernel
theorem dX5_get_1 : decode cX5_get 1 = .ok (.ifCond .lt 21, 3) := by decide +kernel
theorem dX5_get_4 : decode cX5_get 4 = .ok (.iload_n 1, 1) := by decide +kernel
theorem dX5_get_5 : decode cX5_get 5 = .ok (.aload_n 0, 1) := by decide +kernel
theorem dX5_get_6 : decode cX5_get 6 = .ok (.getfield 7, 3) := by decide +kernel
theorem dX5_get_9 : decode cX5_get 9 = .ok (.arraylength, 1) := by decide +kernel
theorem dX5_get_10 : decode cX5_get 10 = .ok (.if_icmp .ge 12, 3) := by decide +kernel
theorem dX5_get_13 : decode cX5_get 13 = .ok (.aload_n 0, 1) := by decide +kernel
theorem dX5_get_14 : decode cX5_get 14 = .ok (.getfield 7, 3) := by decide +kernel
theorem dX5_get_17 : decode cX5_get 17 = .ok (.iload_n 1, 1) := by decide +kernel
theorem dX5_get_18 : decode cX5_get 18 = .ok (.laload, 1) := by decide +kernel
theorem dX5_get_19 : decode cX5_get 19 = .ok (.goto 4, 3) := by decide +kernel
theorem dX5_get_22 : decode cX5_get 22 = .ok (.lconst 0, 1) := by decide +kernel
theorem dX5_get_23 : decode cX5_get 23 = .ok (.lreturn, 1) := by decide +kernel
theorem dX5_set_0 : decode cX5_set 0 = .ok (.iload_n 1, 1) := by decide +kernel
theorem dX5_set_1 : decode cX5_set 1 = .ok (.ifCond .lt 19, 3) := by decide +kernel
theorem dX5_set_4 : decode cX5_set 4 = .ok (.iload_n 1, 1) := by decide +kernel
theorem dX5_set_5 : decode cX5_set 5 = .ok (.aload_n 0, 1) := by decide +kernel
theorem dX5_set_6 : decode cX5_set 6 = .ok (.getfield 7, 3) := by decide +kernel
theorem dX5_set_9 : decode cX5_set 9 = .ok (.arraylength, 1) := by decide +kernel
theorem dX5_set_10 : decode cX5_set 10 = .ok (.if_icmp .ge 10, 3) := by decide +kernel
theorem dX5_set_13 : decode cX5_set 13 = .ok (.aload_n 0, 1) := by decide +kernel
theorem dX5_set_14 : decode cX5_set 14 = .ok (.getfield 7, 3) := by decide +kernel
theorem dX5_set_17 : decode cX5_set 17 = .ok (.iload_n 1, 1) := by decide +kernel
theorem dX5_set_18 : decode cX5_set 18 = .ok (.lload_n 2, 1) := by decide +kernel
theorem dX5_set_19 : decode cX5_set 19 = .ok (.lastore, 1) := by decide +kernel
theorem dX5_set_20 : decode cX5_set 20 = .ok (.return_, 1) := by decide +kernel
set_option maxRecDepth 20000 in
theorem ggX0_init_X5_init : GoodIn wsX0_init wsX5_init := goodIn_r _ [19, 20, 2, 3, 21, 22, 23] (by decide +kernel) (by decide +kernel)
set_option maxRecDepth 20000 in
theorem gX0_init_X5_init : GoodIn wsX0_init (wsX5_init) := ggX0_init_X5_init
theorem dX0_init_0 : decode cX0_init 0 = .ok (.aload_n 0, 1) := by decide +kernel
theorem dX0_init_1 : decode cX0_init 1 = .ok (.invokespecial 3, 3) := by decide +kernel
theorem dX0_init_4 : decode cX0_init 4 = .ok (.aload_n 0, 1) := by decide +kernel
theorem dX0_init_5 : decode cX0_init 5 = .ok (.new 9, 3) := by decide +kernel
theorem dX0_init_8 : decode cX0_init 8 = .ok (.dup, 1) := by decide +kernel
theorem dX0_init_9 : decode cX0_init 9 = .ok (.bipush 6, 2) := by decide +kernel
theorem dX0_init_11 : decode cX0_init 11 = .ok (.invokespecial 11, 3) := by decide +kernel
theorem dX0_init_14 : decode cX0_init 14 = .ok (.putfield 14, 3) := by decide +kernel
theorem dX0_init_17 : decode cX0_init 17 = .ok (.aload_n 0, 1) := by decide +kernel
theorem dX0_init_18 : decode cX0_init 18 = .ok (.new 9, 3) := by decide +kernel
theorem dX0_init_21 : decode cX0_init 21 = .ok (.dup, 1) := by decide +kernel
theorem dX0_init_22 : decode cX0_init 22 = .ok (.bipush 6, 2) := by decide +kernel
theorem dX0_init_24 : decode cX0_init 24 = .ok (.invokespecial 11, 3) := by decide +kernel
theorem dX0_init_27 : decode cX0_init 27 = .ok (.putfield 20, 3) := by decide +kernel
theorem dX0_init_30 : decode cX0_init 30 = .ok (.aload_n 0, 1) := by decide +kernel
theorem dX0_init_31 : decode cX0_init 31 = .ok (.new 9, 3) := by decide +kernel
theorem dX0_init_34 : decode cX0_init 34 = .ok (.dup, 1) := by decide +kernel
theorem dX0_init_35 : decode cX0_init 35 = .ok (.bipush 6, 2) := by decide +kernel
theorem dX0_init_37 : decode cX0_init 37 = .ok (.invokespecial 11, 3) := by decide +kernel
theorem dX0_init_40 : decode cX0_init 40 = .ok (.putfield 23, 3) := by decide +kernel
theorem dX0_init_43 : decode cX0_init 43 = .ok (.aload_n 0, 1) := by decide +kernel
theorem dX0_init_44 : decode cX0_init 44 = .ok (.new 9, 3) := by decide +kernel
theorem dX0_init_47 : decode cX0_init 47 = .ok (.dup, 1) := by decide +kernel
theorem dX0_init_48 : decode cX0_init 48 = .ok (.bipush 36, 2) := by decide +kernel
theorem dX0_init_50 : decode cX0_init 50 = .ok (.invokespecial 11, 3) := by decide +kernel
theorem dX0_init_53 : decode cX0_init 53 = .ok (.putfield 26, 3) := by decide +kernel
theorem dX0_init_56 : decode cX0_init 56 = .ok (.aload_n 0, 1) := by decide +kernel
theorem dX0_init_57 : decode cX0_init 57 = .ok (.new 9, 3) := by decide +kernel
theorem dX0_init_60 : decode cX0_init 60 = .ok (.dup, 1) := by decide +kernel
theorem dX0_init_61 : decode cX0_init 61 = .ok (.bipush 36, 2) := by decide +kernel
theorem dX0_init_63 : decode cX0_init 63 = .ok (.invokespecial 11, 3) := by decide +kernel
theorem dX0_init_66 : decode cX0_init 66 = .ok (.putfield 29, 3) := by decide +kernel
theorem dX0_init_69 : decode cX0_init 69 = .ok (.aload_n 0, 1) := by decide +kernel
theorem dX0_init_70 : decode cX0_init 70 = .ok (.new 9, 3) := by decide +kernel
theorem dX0_init_73 : decode cX0_init 73 = .ok (.dup, 1) := by decide +kernel
theorem dX0_init_74 : decode cX0_init 74 = .ok (.bipush 36, 2) := by decide +kernel
theorem dX0_init_76 : decode cX0_init 76 = .ok (.invokespecial 11, 3) := by decide +kernel
theorem dX0_init_79 : decode cX0_init 79 = .ok (.putfield 32, 3) := by decide +kernel
theorem dX0_init_82 : decode cX0_init 82 = .ok (.aload_n 0, 1) := by decide +kernel
theorem dX0_init_83 : decode cX0_init 83 = .ok (.new 9, 3) := by decide +kernel
theorem dX0_init_86 : decode cX0_init 86 = .ok (.dup, 1) := by decide +kernel
theorem dX0_init_87 : decode cX0_init 87 = .ok (.bipush 36, 2) := by decide +kernel
theorem dX0_init_89 : decode cX0_init 89 = .ok (.invokespecial 11, 3) := by decide +kernel
theorem dX0_init_92 : decode cX0_init 92 = .ok (.putfield 35, 3) := by decide +kernel
theorem dX0_init_95 : decode cX0_init 95 = .ok (.aload_n 0, 1) := by decide +kernel
theorem dX0_init_96 : decode cX0_init 96 = .ok (.new 9, 3) := by decide +kernel
theorem dX0_init_99 : decode cX0_init 99 = .ok (.dup, 1) := by decide +kernel
theorem dX0_init_100 : decode cX0_init 100 = .ok (.bipush 36, 2) := by decide +kernel
theorem dX0_init_102 : decode cX0_init 102 = .ok (.invokespecial 11, 3) := by decide +kernel
theorem dX0_init_105 : decode cX0_init 105 = .ok (.putfield 38, 3) := by decide +kernel
theorem dX0_init_108 : decode cX0_init 108 = .ok (.aload_n 0, 1) := by decide +kernel
theorem dX0_init_109 : decode cX0_init 109 = .ok (.new 9, 3) := by decide +kernel
theorem dX0_init_112 : decode cX0_init 112 = .ok (.dup, 1) := by decide +kernel
theorem dX0_init_113 : decode cX0_init 113 = .ok (.sipush 396, 3) := by decide +kernel
theorem dX0_init_116 : decode cX0_init 116 = .ok (.invokespecial 11, 3) := by decide +kernel
theorem dX0_init_119 : decode cX0_init 119 = .ok (.putfield 41, 3) := by decide +kernel
theorem dX0_init_122 : decode cX0_init 122 = .ok (.aload_n 0, 1) := by decide +kernel
theorem dX0_init_123 : decode cX0_init 123 = .ok (.new 9, 3) := by decide +kernel
theorem dX0_init_126 : decode cX0_init 126 = .ok (.dup, 1) := by decide +kernel
theorem dX0_init_127 : decode cX0_init 127 = .ok (.sipush 396, 3) := by decide +kernel
theorem dX0_init_130 : decode cX0_init 130 = .ok (.invokespecial 11, 3) := by decide +kernel
theorem dX0_init_133 : decode cX0_init 133 = .ok (.putfield 44, 3) := by decide +kernel
theorem dX0_init_136 : decode cX0_init 136 = .ok (.return_, 1) := by decide +kernel
theorem dX0_isFull_0 : decode cX0_isFull 0 = .ok (.aload_n 0, 1) := by decide +kernel
theorem dX0_isFull_1 : decode cX0_isFull 1 = .ok (.getfield 47, 3) := by decide +kernel
theorem dX0_isFull_4 : decode cX0_isFull 4 = .ok (.bipush 6, 2) := by decide +kernel
theorem dX0_isFull_6 : decode cX0_isFull 6 = .ok (.if_icmp .lt 7, 3) := by decide +kernel
theorem dX0_isFull_9 : decode cX0_isFull 9 = .ok (.iconst 1, 1) := by decide +kernel
theorem dX0_isFull_10 : decode cX0_isFull 10 = .ok (.goto 4, 3) := by decide +kernel
theorem dX0_isFull_13 : decode cX0_isFull 13 = .ok (.iconst 0, 1) := by decide +kernel
theorem dX0_isFull_14 : decode cX0_isFull 14 = .ok (.ireturn, 1) := by decide +kernel
theorem dX0_has_0 : decode cX0_has 0 = .ok (.iload_n 1, 1) := by decide +kernel
theorem dX0_has_1 : decode cX0_has 1 = .ok (.ifCond .lt 15, 3) := by decide +kernel
theorem dX0_has_4 : decode cX0_has 4 = .ok (.iload_n 1, 1) := by decide +kernel
theorem dX0_has_5 : decode cX0_has 5 = .ok (.aload_n 0, 1) := by decide +kernel
theorem dX0_has_6 : decode cX0_has 6 = .ok (.getfield 47, 3) := by decide +kernel
theorem dX0_has_9 : decode cX0_has 9 = .ok (.if_icmp .ge 7, 3) := by decide +kernel
theorem dX0_has_12 : decode cX0_has 12 = .ok (.iconst 1, 1) := by decide +kernel
theorem dX0_has_13 : decode cX0_has 13 = .ok (.goto 4, 3) := by decide +kernel
theorem dX0_has_16 : decode cX0_has 16 = .ok (.iconst 0, 1) := by decide +kernel
theorem dX0_has_17 : decode cX0_has 17 = .ok (.ireturn, 1) := by decide +kernel
set_option maxRecDepth 20000 in
theorem ggX0_actsFrom_X5_get : GoodIn wsX0_actsFrom wsX5_get := goodIn_r _ [6, 7, 20] (by decide +kernel) (by decide +kernel)
set_option maxRecDepth 20000 in
theorem gX0_actsFrom_X5_get : GoodIn wsX0_actsFrom (wsV RX0 51 RX5 yX5_get wsX5_get) := goodIn_app (goodIn_of _ (by decide +kernel)) ggX0_actsFrom_X5_get
theorem dX0_actsFrom_0 : decode cX0_actsFrom 0 = .ok (.aload_n 0, 1) := by decide +kernel
theorem dX0_actsFrom_1 : decode cX0_actsFrom 1 = .ok (.getfield 14, 3) := by decide +kernel
theorem dX0_actsFrom_4 : decode cX0_actsFrom 4 = .ok (.iload_n 1, 1) := by decide +kernel
theorem dX0_actsFrom_5 : decode cX0_actsFrom 5 = .ok (.invokevirtual 51, 3) := by decide +kernel
theorem dX0_actsFrom_8 : decode cX0_actsFrom 8 = .ok (.lreturn, 1) := by decide +kernel
set_option maxRecDepth 20000 in
theorem ggX0_knownFrom_X5_get : GoodIn wsX0_knownFrom wsX5_get := goodIn_r _ [6, 7, 20] (by decide +kernel) (by decide +kernel)
set_option maxRecDepth 20000 in
theorem gX0_knownFrom_X5_get : GoodIn wsX0_knownFrom (wsV RX0 51 RX5 yX5_get wsX5_get) := goodIn_app (goodIn_of _ (by decide +kernel)) ggX0_knownFrom_X5_get
theorem dX0_knownFrom_0 : decode cX0_knownFrom 0 = .ok (.aload_n 0, 1) := by decide +kernel
theorem dX0_knownFrom_1 : decode cX0_knownFrom 1 = .ok (.getfield 20, 3) := by decide +kernel
theorem dX0_knownFrom_4 : decode cX0_knownFrom 4 = .ok (.iload_n 1, 1) := by decide +kernel
theorem dX0_knownFrom_5 : decode cX0_knownFrom 5 = .ok (.invokevirtual 51, 3) := by decide +kernel
theorem dX0_knownFrom_8 : decode cX0_knownFrom 8 = .ok (.lreturn, 1) := by decide +kernel
set_option maxRecDepth 20000 in
theorem ggX0_ruleCount_X5_get : GoodIn wsX0_ruleCount wsX5_get := goodIn_r _ [6, 7, 20] (by decide +kernel) (by decide +kernel)
set_option maxRecDepth 20000 in
theorem gX0_ruleCount_X5_get : GoodIn wsX0_ruleCount (wsV RX0 51 RX5 yX5_get wsX5_get) := goodIn_app (goodIn_of _ (by decide +kernel)) ggX0_ruleCount_X5_get
theorem dX0_ruleCount_0 : decode cX0_ruleCount 0 = .ok (.aload_n 0, 1) := by decide +kernel
theorem dX0_ruleCount_1 : decode cX0_ruleCount 1 = .ok (.getfield 23, 3) := by decide +kernel
theorem dX0_ruleCount_4 : decode cX0_ruleCount 4 = .ok (.iload_n 1, 1) := by decide +kernel
theorem dX0_ruleCount_5 : decode cX0_ruleCount 5 = .ok (.invokevirtual 51, 3) := by decide +kernel
theorem dX0_ruleCount_8 : decode cX0_ruleCount 8 = .ok (.lreturn, 1) := by decide +kernel
theorem dX0_cellOf_0 : decode cX0_cellOf 0 = .ok (.iload_n 0, 1) := by decide +kernel
theorem dX0_cellOf_1 : decode cX0_cellOf 1 = .ok (.bipush 6, 2) := by decide +kernel
theorem dX0_cellOf_3 : decode cX0_cellOf 3 = .ok (.imul, 1) := by decide +kernel
theorem dX0_cellOf_4 : decode cX0_cellOf 4 = .ok (.iload_n 1, 1) := by decide +kernel
theorem dX0_cellOf_5 : decode cX0_cellOf 5 = .ok (.iadd, 1) := by decide +kernel
theorem dX0_cellOf_6 : decode cX0_cellOf 6 = .ok (.ireturn, 1) := by decide +kernel
set_option maxRecDepth 20000 in
theorem ggX0_startDraft_X0_cellOf : GoodIn wsX0_startDraft wsX0_cellOf := goodIn_r _ [8] (by decide +kernel) (by decide +kernel)
set_option maxRecDepth 20000 in
theorem gX0_startDraft_X0_cellOf : GoodIn wsX0_startDraft (va_wsS RX0 58 yX0_cellOf wsX0_cellOf) := goodIn_app (goodIn_of _ (by decide +kernel)) ggX0_startDraft_X0_cellOf
set_option maxRecDepth 20000 in
theorem ggX0_startDraft_X5_set : GoodIn wsX0_startDraft wsX5_set := goodIn_r _ [13, 14, 27] (by decide +kernel) (by decide +kernel)
set_option maxRecDepth 20000 in
theorem gX0_startDraft_X5_set : GoodIn wsX0_startDraft (wsV RX0 64 RX5 yX5_set wsX5_set) := goodIn_app (goodIn_of _ (by decide +kernel)) ggX0_startDraft_X5_set
theorem dX0_startDraft_0 : decode cX0_startDraft 0 = .ok (.aload_n 0, 1) := by decide +kernel
theorem dX0_startDraft_1 : decode cX0_startDraft 1 = .ok (.iconst 0, 1) := by decide +kernel
theorem dX0_startDraft_2 : decode cX0_startDraft 2 = .ok (.putfield 55, 3) := by decide +kernel
theorem dX0_startDraft_5 : decode cX0_startDraft 5 = .ok (.iconst 0, 1) := by decide +kernel
theorem dX0_startDraft_6 : decode cX0_startDraft 6 = .ok (.istore_n 1, 1) := by decide +kernel
theorem dX0_startDraft_7 : decode cX0_startDraft 7 = .ok (.iload_n 1, 1) := by decide +kernel
theorem dX0_startDraft_8 : decode cX0_startDraft 8 = .ok (.bipush 6, 2) := by decide +kernel
theorem dX0_startDraft_10 : decode cX0_startDraft 10 = .ok (.if_icmp .ge 27, 3) := by decide +kernel
theorem dX0_startDraft_13 : decode cX0_startDraft 13 = .ok (.aload_n 0, 1) := by decide +kernel
theorem dX0_startDraft_14 : decode cX0_startDraft 14 = .ok (.getfield 26, 3) := by decide +kernel
theorem dX0_startDraft_17 : decode cX0_startDraft 17 = .ok (.aload_n 0, 1) := by decide +kernel
theorem dX0_startDraft_18 : decode cX0_startDraft 18 = .ok (.getfield 47, 3) := by decide +kernel
theorem dX0_startDraft_21 : decode cX0_startDraft 21 = .ok (.iload_n 1, 1) := by decide +kernel
theorem dX0_startDraft_22 : decode cX0_startDraft 22 = .ok (.invokestatic 58, 3) := by decide +kernel
theorem dX0_startDraft_25 : decode cX0_startDraft 25 = .ok (.ldc2_w 62, 3) := by decide +kernel
theorem dX0_startDraft_28 : decode cX0_startDraft 28 = .ok (.invokevirtual 64, 3) := by decide +kernel
theorem dX0_startDraft_31 : decode cX0_startDraft 31 = .ok (.iinc 1 1, 3) := by decide +kernel
theorem dX0_startDraft_34 : decode cX0_startDraft 34 = .ok (.goto (-27), 3) := by decide +kernel
theorem dX0_startDraft_37 : decode cX0_startDraft 37 = .ok (.return_, 1) := by decide +kernel
set_option maxRecDepth 20000 in
theorem ggX0_draftHasRule_X0_cellOf : GoodIn wsX0_draftHasRule wsX0_cellOf := goodIn_r _ [7] (by decide +kernel) (by decide +kernel)
set_option maxRecDepth 20000 in
theorem gX0_draftHasRule_X0_cellOf : GoodIn wsX0_draftHasRule (va_wsS RX0 58 yX0_cellOf wsX0_cellOf) := goodIn_app (goodIn_of _ (by decide +kernel)) ggX0_draftHasRule_X0_cellOf
set_option maxRecDepth 20000 in
theorem ggX0_draftHasRule_X5_get : GoodIn wsX0_draftHasRule wsX5_get := goodIn_r _ [12, 13, 26] (by decide +kernel) (by decide +kernel)
set_option maxRecDepth 20000 in
theorem gX0_draftHasRule_X5_get : GoodIn wsX0_draftHasRule (wsV RX0 51 RX5 yX5_get wsX5_get) := goodIn_app (goodIn_of _ (by decide +kernel)) ggX0_draftHasRule_X5_get
theorem dX0_draftHasRule_0 : decode cX0_draftHasRule 0 = .ok (.aload_n 0, 1) := by decide +kernel
theorem dX0_draftHasRule_1 : decode cX0_draftHasRule 1 = .ok (.getfield 26, 3) := by decide +kernel
theorem dX0_draftHasRule_4 : decode cX0_draftHasRule 4 = .ok (.aload_n 0, 1) := by decide +kernel
theorem dX0_draftHasRule_5 : decode cX0_draftHasRule 5 = .ok (.getfield 47, 3) := by decide +kernel
theorem dX0_draftHasRule_8 : decode cX0_draftHasRule 8 = .ok (.iload_n 1, 1) := by decide +kernel
theorem dX0_draftHasRule_9 : decode cX0_draftHasRule 9 = .ok (.invokestatic 58, 3) := by decide +kernel
theorem dX0_draftHasRule_12 : decode cX0_draftHasRule 12 = .ok (.invokevirtual 51, 3) := by decide +kernel
theorem dX0_draftHasRule_15 : decode cX0_draftHasRule 15 = .ok (.ldc2_w 62, 3) := by decide +kernel
theorem dX0_draftHasRule_18 : decode cX0_draftHasRule 18 = .ok (.lcmp, 1) := by decide +kernel
theorem dX0_draftHasRule_19 : decode cX0_draftHasRule 19 = .ok (.ifCond .eq 7, 3) := by decide +kernel
theorem dX0_draftHasRule_22 : decode cX0_draftHasRule 22 = .ok (.iconst 1, 1) := by decide +kernel
theorem dX0_draftHasRule_23 : decode cX0_draftHasRule 23 = .ok (.goto 4, 3) := by decide +kernel
theorem dX0_draftHasRule_26 : decode cX0_draftHasRule 26 = .ok (.iconst 0, 1) := by decide +kernel
theorem dX0_draftHasRule_27 : decode cX0_draftHasRule 27 = .ok (.ireturn, 1) := by decide +kernel
set_option maxRecDepth 20000 in
theorem ggX0_tellRule_X0_cellOf : GoodIn wsX0_tellRule wsX0_cellOf := goodIn_r _ [12] (by decide +kernel) (by decide +kernel)
set_option maxRecDepth 20000 in
theorem gX0_tellRule_X0_cellOf : GoodIn wsX0_tellRule (va_wsS RX0 58 yX0_cellOf wsX0_cellOf) := goodIn_app (goodIn_of _ (by decide +kernel)) ggX0_tellRule_X0_cellOf
set_option maxRecDepth 20000 in
theorem ggX0_tellRule_X5_set : GoodIn wsX0_tellRule wsX5_set := goodIn_r _ [17, 18, 31] (by decide +kernel) (by decide +kernel)
set_option maxRecDepth 20000 in
theorem gX0_tellRule_X5_set : GoodIn wsX0_tellRule (wsV RX0 64 RX5 yX5_set wsX5_set) := goodIn_app (goodIn_of _ (by decide +kernel)) ggX0_tellRule_X5_set
theorem dX0_tellRule_0 : decode cX0_tellRule 0 = .ok (.aload_n 0, 1) := by decide +kernel
theorem dX0_tellRule_1 : decode cX0_tellRule 1 = .ok (.getfield 47, 3) := by decide +kernel
theorem dX0_tellRule_4 : decode cX0_tellRule 4 = .ok (.iload_n 1, 1) := by decide +kernel
theorem dX0_tellRule_5 : decode cX0_tellRule 5 = .ok (.invokestatic 58, 3) := by decide +kernel
theorem dX0_tellRule_8 : decode cX0_tellRule 8 = .ok (.istore 6, 2) := by decide +kernel
theorem dX0_tellRule_10 : decode cX0_tellRule 10 = .ok (.aload_n 0, 1) := by decide +kernel
theorem dX0_tellRule_11 : decode cX0_tellRule 11 = .ok (.getfield 26, 3) := by decide +kernel
theorem dX0_tellRule_14 : decode cX0_tellRule 14 = .ok (.iload 6, 2) := by decide +kernel
theorem dX0_tellRule_16 : decode cX0_tellRule 16 = .ok (.lload_n 2, 1) := by decide +kernel
theorem dX0_tellRule_17 : decode cX0_tellRule 17 = .ok (.invokevirtual 64, 3) := by decide +kernel
theorem dX0_tellRule_20 : decode cX0_tellRule 20 = .ok (.aload_n 0, 1) := by decide +kernel
theorem dX0_tellRule_21 : decode cX0_tellRule 21 = .ok (.getfield 29, 3) := by decide +kernel
theorem dX0_tellRule_24 : decode cX0_tellRule 24 = .ok (.iload 6, 2) := by decide +kernel
theorem dX0_tellRule_26 : decode cX0_tellRule 26 = .ok (.lload 4, 2) := by decide +kernel
theorem dX0_tellRule_28 : decode cX0_tellRule 28 = .ok (.invokevirtual 64, 3) := by decide +kernel
theorem dX0_tellRule_31 : decode cX0_tellRule 31 = .ok (.aload_n 0, 1) := by decide +kernel
theorem dX0_tellRule_32 : decode cX0_tellRule 32 = .ok (.getfield 32, 3) := by decide +kernel
theorem dX0_tellRule_35 : decode cX0_tellRule 35 = .ok (.iload 6, 2) := by decide +kernel
theorem dX0_tellRule_37 : decode cX0_tellRule 37 = .ok (.ldc2_w 62, 3) := by decide +kernel
theorem dX0_tellRule_40 : decode cX0_tellRule 40 = .ok (.invokevirtual 64, 3) := by decide +kernel
theorem dX0_tellRule_43 : decode cX0_tellRule 43 = .ok (.aload_n 0, 1) := by decide +kernel
theorem dX0_tellRule_44 : decode cX0_tellRule 44 = .ok (.getfield 35, 3) := by decide +kernel
theorem dX0_tellRule_47 : decode cX0_tellRule 47 = .ok (.iload 6, 2) := by decide +kernel
theorem dX0_tellRule_49 : decode cX0_tellRule 49 = .ok (.aload_n 0, 1) := by decide +kernel
theorem dX0_tellRule_50 : decode cX0_tellRule 50 = .ok (.getfield 47, 3) := by decide +kernel
theorem dX0_tellRule_53 : decode cX0_tellRule 53 = .ok (.bipush 66, 2) := by decide +kernel
theorem dX0_tellRule_55 : decode cX0_tellRule 55 = .ok (.imul, 1) := by decide +kernel
theorem dX0_tellRule_56 : decode cX0_tellRule 56 = .ok (.aload_n 0, 1) := by decide +kernel
theorem dX0_tellRule_57 : decode cX0_tellRule 57 = .ok (.getfield 55, 3) := by decide +kernel
theorem dX0_tellRule_60 : decode cX0_tellRule 60 = .ok (.iadd, 1) := by decide +kernel
theorem dX0_tellRule_61 : decode cX0_tellRule 61 = .ok (.i2l, 1) := by decide +kernel
theorem dX0_tellRule_62 : decode cX0_tellRule 62 = .ok (.invokevirtual 64, 3) := by decide +kernel
theorem dX0_tellRule_65 : decode cX0_tellRule 65 = .ok (.aload_n 0, 1) := by decide +kernel
theorem dX0_tellRule_66 : decode cX0_tellRule 66 = .ok (.getfield 38, 3) := by decide +kernel
theorem dX0_tellRule_69 : decode cX0_tellRule 69 = .ok (.iload 6, 2) := by decide +kernel
theorem dX0_tellRule_71 : decode cX0_tellRule 71 = .ok (.lconst 0, 1) := by decide +kernel
theorem dX0_tellRule_72 : decode cX0_tellRule 72 = .ok (.invokevirtual 64, 3) := by decide +kernel
theorem dX0_tellRule_75 : decode cX0_tellRule 75 = .ok (.return_, 1) := by decide +kernel
set_option maxRecDepth 20000 in
theorem ggX0_tellStep_X0_cellOf : GoodIn wsX0_tellStep wsX0_cellOf := goodIn_r _ [9] (by decide +kernel) (by decide +kernel)
set_option maxRecDepth 20000 in
theorem gX0_tellStep_X0_cellOf : GoodIn wsX0_tellStep (va_wsS RX0 58 yX0_cellOf wsX0_cellOf) := goodIn_app (goodIn_of _ (by decide +kernel)) ggX0_tellStep_X0_cellOf
set_option maxRecDepth 20000 in
theorem ggX0_tellStep_X5_set : GoodIn wsX0_tellStep wsX5_set := goodIn_r _ [14, 15, 32] (by decide +kernel) (by decide +kernel)
set_option maxRecDepth 20000 in
theorem gX0_tellStep_X5_set : GoodIn wsX0_tellStep (wsV RX0 64 RX5 yX5_set wsX5_set) := goodIn_app (goodIn_of _ (by decide +kernel)) ggX0_tellStep_X5_set
set_option maxRecDepth 20000 in
theorem ggX0_tellStep_X5_get : GoodIn wsX0_tellStep wsX5_get := goodIn_r _ [19, 15, 32] (by decide +kernel) (by decide +kernel)
set_option maxRecDepth 20000 in
theorem gX0_tellStep_X5_get : GoodIn wsX0_tellStep (wsV RX0 51 RX5 yX5_get wsX5_get) := goodIn_app (goodIn_of _ (by decide +kernel)) ggX0_tellStep_X5_get
theorem dX0_tellStep_0 : decode cX0_tellStep 0 = .ok (.aload_n 0, 1) := by decide +kernel
theorem dX0_tellStep_1 : decode cX0_tellStep 1 = .ok (.getfield 47, 3) := by decide +kernel
theorem dX0_tellStep_4 : decode cX0_tellStep 4 = .ok (.iload_n 1, 1) := by decide +kernel
theorem dX0_tellStep_5 : decode cX0_tellStep 5 = .ok (.invokestatic 58, 3) := by decide +kernel
theorem dX0_tellStep_8 : decode cX0_tellStep 8 = .ok (.istore 6, 2) := by decide +kernel
theorem dX0_tellStep_10 : decode cX0_tellStep 10 = .ok (.aload_n 0, 1) := by decide +kernel
theorem dX0_tellStep_11 : decode cX0_tellStep 11 = .ok (.getfield 47, 3) := by decide +kernel
theorem dX0_tellStep_14 : decode cX0_tellStep 14 = .ok (.bipush 66, 2) := by decide +kernel
theorem dX0_tellStep_16 : decode cX0_tellStep 16 = .ok (.imul, 1) := by decide +kernel
theorem dX0_tellStep_17 : decode cX0_tellStep 17 = .ok (.aload_n 0, 1) := by decide +kernel
theorem dX0_tellStep_18 : decode cX0_tellStep 18 = .ok (.getfield 55, 3) := by decide +kernel
theorem dX0_tellStep_21 : decode cX0_tellStep 21 = .ok (.iadd, 1) := by decide +kernel
theorem dX0_tellStep_22 : decode cX0_tellStep 22 = .ok (.istore 7, 2) := by decide +kernel
theorem dX0_tellStep_24 : decode cX0_tellStep 24 = .ok (.aload_n 0, 1) := by decide +kernel
theorem dX0_tellStep_25 : decode cX0_tellStep 25 = .ok (.getfield 41, 3) := by decide +kernel
theorem dX0_tellStep_28 : decode cX0_tellStep 28 = .ok (.iload 7, 2) := by decide +kernel
theorem dX0_tellStep_30 : decode cX0_tellStep 30 = .ok (.lload_n 2, 1) := by decide +kernel
theorem dX0_tellStep_31 : decode cX0_tellStep 31 = .ok (.invokevirtual 64, 3) := by decide +kernel
theorem dX0_tellStep_34 : decode cX0_tellStep 34 = .ok (.aload_n 0, 1) := by decide +kernel
theorem dX0_tellStep_35 : decode cX0_tellStep 35 = .ok (.getfield 44, 3) := by decide +kernel
theorem dX0_tellStep_38 : decode cX0_tellStep 38 = .ok (.iload 7, 2) := by decide +kernel
theorem dX0_tellStep_40 : decode cX0_tellStep 40 = .ok (.lload 4, 2) := by decide +kernel
theorem dX0_tellStep_42 : decode cX0_tellStep 42 = .ok (.invokevirtual 64, 3) := by decide +kernel
theorem dX0_tellStep_45 : decode cX0_tellStep 45 = .ok (.aload_n 0, 1) := by decide +kernel
theorem dX0_tellStep_46 : decode cX0_tellStep 46 = .ok (.getfield 38, 3) := by decide +kernel
theorem dX0_tellStep_49 : decode cX0_tellStep 49 = .ok (.iload 6, 2) := by decide +kernel
theorem dX0_tellStep_51 : decode cX0_tellStep 51 = .ok (.aload_n 0, 1) := by decide +kernel
theorem dX0_tellStep_52 : decode cX0_tellStep 52 = .ok (.getfield 38, 3) := by decide +kernel
theorem dX0_tellStep_55 : decode cX0_tellStep 55 = .ok (.iload 6, 2) := by decide +kernel
theorem dX0_tellStep_57 : decode cX0_tellStep 57 = .ok (.invokevirtual 51, 3) := by decide +kernel
theorem dX0_tellStep_60 : decode cX0_tellStep 60 = .ok (.lconst 1, 1) := by decide +kernel
theorem dX0_tellStep_61 : decode cX0_tellStep 61 = .ok (.ladd, 1) := by decide +kernel
theorem dX0_tellStep_62 : decode cX0_tellStep 62 = .ok (.invokevirtual 64, 3) := by decide +kernel
theorem dX0_tellStep_65 : decode cX0_tellStep 65 = .ok (.aload_n 0, 1) := by decide +kernel
theorem dX0_tellStep_66 : decode cX0_tellStep 66 = .ok (.dup, 1) := by decide +kernel
theorem dX0_tellStep_67 : decode cX0_tellStep 67 = .ok (.getfield 55, 3) := by decide +kernel
theorem dX0_tellStep_70 : decode cX0_tellStep 70 = .ok (.iconst 1, 1) := by decide +kernel
theorem dX0_tellStep_71 : decode cX0_tellStep 71 = .ok (.iadd, 1) := by decide +kernel
theorem dX0_tellStep_72 : decode cX0_tellStep 72 = .ok (.putfield 55, 3) := by decide +kernel
theorem dX0_tellStep_75 : decode cX0_tellStep 75 = .ok (.return_, 1) := by decide +kernel
set_option maxRecDepth 20000 in
theorem ggX0_tellCap_X0_cellOf : GoodIn wsX0_tellCap wsX0_cellOf := goodIn_r _ [6] (by decide +kernel) (by decide +kernel)
set_option maxRecDepth 20000 in
theorem gX0_tellCap_X0_cellOf : GoodIn wsX0_tellCap (va_wsS RX0 58 yX0_cellOf wsX0_cellOf) := goodIn_app (goodIn_of _ (by decide +kernel)) ggX0_tellCap_X0_cellOf
set_option maxRecDepth 20000 in
theorem ggX0_tellCap_X5_set : GoodIn wsX0_tellCap wsX5_set := goodIn_r _ [11, 12, 25] (by decide +kernel) (by decide +kernel)
set_option maxRecDepth 20000 in
theorem gX0_tellCap_X5_set : GoodIn wsX0_tellCap (wsV RX0 64 RX5 yX5_set wsX5_set) := goodIn_app (goodIn_of _ (by decide +kernel)) ggX0_tellCap_X5_set
theorem dX0_tellCap_0 : decode cX0_tellCap 0 = .ok (.aload_n 0, 1) := by decide +kernel
theorem dX0_tellCap_1 : decode cX0_tellCap 1 = .ok (.getfield 32, 3) := by decide +kernel
theorem dX0_tellCap_4 : decode cX0_tellCap 4 = .ok (.aload_n 0, 1) := by decide +kernel
theorem dX0_tellCap_5 : decode cX0_tellCap 5 = .ok (.getfield 47, 3) := by decide +kernel
theorem dX0_tellCap_8 : decode cX0_tellCap 8 = .ok (.iload_n 1, 1) := by decide +kernel
theorem dX0_tellCap_9 : decode cX0_tellCap 9 = .ok (.invokestatic 58, 3) := by decide +kernel
theorem dX0_tellCap_12 : decode cX0_tellCap 12 = .ok (.lload_n 2, 1) := by decide +kernel
theorem dX0_tellCap_13 : decode cX0_tellCap 13 = .ok (.invokevirtual 64, 3) := by decide +kernel
theorem dX0_tellCap_16 : decode cX0_tellCap 16 = .ok (.return_, 1) := by decide +kernel
set_option maxRecDepth 20000 in
theorem ggX0_keepDraft_X5_set : GoodIn wsX0_keepDraft wsX5_set := goodIn_r _ [9, 10, 23] (by decide +kernel) (by decide +kernel)
set_option maxRecDepth 20000 in
theorem gX0_keepDraft_X5_set : GoodIn wsX0_keepDraft (wsV RX0 64 RX5 yX5_set wsX5_set) := goodIn_app (goodIn_of _ (by decide +kernel)) ggX0_keepDraft_X5_set
theorem dX0_keepDraft_0 : decode cX0_keepDraft 0 = .ok (.aload_n 0, 1) := by decide +kernel
theorem dX0_keepDraft_1 : decode cX0_keepDraft 1 = .ok (.getfield 14, 3) := by decide +kernel
theorem dX0_keepDraft_4 : decode cX0_keepDraft 4 = .ok (.aload_n 0, 1) := by decide +kernel
theorem dX0_keepDraft_5 : decode cX0_keepDraft 5 = .ok (.getfield 47, 3) := by decide +kernel
theorem dX0_keepDraft_8 : decode cX0_keepDraft 8 = .ok (.lload_n 1, 1) := by decide +kernel
theorem dX0_keepDraft_9 : decode cX0_keepDraft 9 = .ok (.invokevirtual 64, 3) := by decide +kernel
theorem dX0_keepDraft_12 : decode cX0_keepDraft 12 = .ok (.aload_n 0, 1) := by decide +kernel
theorem dX0_keepDraft_13 : decode cX0_keepDraft 13 = .ok (.getfield 20, 3) := by decide +kernel
theorem dX0_keepDraft_16 : decode cX0_keepDraft 16 = .ok (.aload_n 0, 1) := by decide +kernel
theorem dX0_keepDraft_17 : decode cX0_keepDraft 17 = .ok (.getfield 47, 3) := by decide +kernel
theorem dX0_keepDraft_20 : decode cX0_keepDraft 20 = .ok (.lload_n 3, 1) := by decide +kernel
theorem dX0_keepDraft_21 : decode cX0_keepDraft 21 = .ok (.invokevirtual 64, 3) := by decide +kernel
theorem dX0_keepDraft_24 : decode cX0_keepDraft 24 = .ok (.aload_n 0, 1) := by decide +kernel
theorem dX0_keepDraft_25 : decode cX0_keepDraft 25 = .ok (.getfield 23, 3) := by decide +kernel
theorem dX0_keepDraft_28 : decode cX0_keepDraft 28 = .ok (.aload_n 0, 1) := by decide +kernel
theorem dX0_keepDraft_29 : decode cX0_keepDraft 29 = .ok (.getfield 47, 3) := by decide +kernel
theorem dX0_keepDraft_32 : decode cX0_keepDraft 32 = .ok (.iload 5, 2) := by decide +kernel
theorem dX0_keepDraft_34 : decode cX0_keepDraft 34 = .ok (.i2l, 1) := by decide +kernel
theorem dX0_keepDraft_35 : decode cX0_keepDraft 35 = .ok (.invokevirtual 64, 3) := by decide +kernel
theorem dX0_keepDraft_38 : decode cX0_keepDraft 38 = .ok (.aload_n 0, 1) := by decide +kernel
theorem dX0_keepDraft_39 : decode cX0_keepDraft 39 = .ok (.dup, 1) := by decide +kernel
theorem dX0_keepDraft_40 : decode cX0_keepDraft 40 = .ok (.getfield 47, 3) := by decide +kernel
theorem dX0_keepDraft_43 : decode cX0_keepDraft 43 = .ok (.iconst 1, 1) := by decide +kernel
theorem dX0_keepDraft_44 : decode cX0_keepDraft 44 = .ok (.iadd, 1) := by decide +kernel
theorem dX0_keepDraft_45 : decode cX0_keepDraft 45 = .ok (.putfield 47, 3) := by decide +kernel
theorem dX0_keepDraft_48 : decode cX0_keepDraft 48 = .ok (.return_, 1) := by decide +kernel
set_option maxRecDepth 20000 in
theorem ggX0_latest_X5_get : GoodIn wsX0_latest wsX5_get := goodIn_r _ [8, 9, 22] (by decide +kernel) (by decide +kernel)
set_option maxRecDepth 20000 in
theorem gX0_latest_X5_get : GoodIn wsX0_latest (wsV RX0 51 RX5 yX5_get wsX5_get) := goodIn_app (goodIn_of _ (by decide +kernel)) ggX0_latest_X5_get
theorem dX0_latest_0 : decode cX0_latest 0 = .ok (.iconst (-1), 1) := by decide +kernel
theorem dX0_latest_1 : decode cX0_latest 1 = .ok (.istore 5, 2) := by decide +kernel
theorem dX0_latest_3 : decode cX0_latest 3 = .ok (.iconst 0, 1) := by decide +kernel
theorem dX0_latest_4 : decode cX0_latest 4 = .ok (.istore 6, 2) := by decide +kernel
theorem dX0_latest_6 : decode cX0_latest 6 = .ok (.iload 6, 2) := by decide +kernel
theorem dX0_latest_8 : decode cX0_latest 8 = .ok (.aload_n 0, 1) := by decide +kernel
theorem dX0_latest_9 : decode cX0_latest 9 = .ok (.getfield 47, 3) := by decide +kernel
theorem dX0_latest_12 : decode cX0_latest 12 = .ok (.if_icmp .ge 81, 3) := by decide +kernel
theorem dX0_latest_15 : decode cX0_latest 15 = .ok (.aload_n 0, 1) := by decide +kernel
theorem dX0_latest_16 : decode cX0_latest 16 = .ok (.getfield 20, 3) := by decide +kernel
theorem dX0_latest_19 : decode cX0_latest 19 = .ok (.iload 6, 2) := by decide +kernel
theorem dX0_latest_21 : decode cX0_latest 21 = .ok (.invokevirtual 51, 3) := by decide +kernel
theorem dX0_latest_24 : decode cX0_latest 24 = .ok (.lload_n 3, 1) := by decide +kernel
theorem dX0_latest_25 : decode cX0_latest 25 = .ok (.lcmp, 1) := by decide +kernel
theorem dX0_latest_26 : decode cX0_latest 26 = .ok (.ifCond .gt 21, 3) := by decide +kernel
theorem dX0_latest_29 : decode cX0_latest 29 = .ok (.aload_n 0, 1) := by decide +kernel
theorem dX0_latest_30 : decode cX0_latest 30 = .ok (.getfield 14, 3) := by decide +kernel
theorem dX0_latest_33 : decode cX0_latest 33 = .ok (.iload 6, 2) := by decide +kernel
theorem dX0_latest_35 : decode cX0_latest 35 = .ok (.invokevirtual 51, 3) := by decide +kernel
theorem dX0_latest_38 : decode cX0_latest 38 = .ok (.lload_n 1, 1) := by decide +kernel
theorem dX0_latest_39 : decode cX0_latest 39 = .ok (.lcmp, 1) := by decide +kernel
theorem dX0_latest_40 : decode cX0_latest 40 = .ok (.ifCond .gt 7, 3) := by decide +kernel
theorem dX0_latest_43 : decode cX0_latest 43 = .ok (.iconst 1, 1) := by decide +kernel
theorem dX0_latest_44 : decode cX0_latest 44 = .ok (.goto 4, 3) := by decide +kernel
theorem dX0_latest_47 : decode cX0_latest 47 = .ok (.iconst 0, 1) := by decide +kernel
theorem dX0_latest_48 : decode cX0_latest 48 = .ok (.istore 7, 2) := by decide +kernel
theorem dX0_latest_50 : decode cX0_latest 50 = .ok (.iload 7, 2) := by decide +kernel
theorem dX0_latest_52 : decode cX0_latest 52 = .ok (.ifCond .eq 35, 3) := by decide +kernel
theorem dX0_latest_55 : decode cX0_latest 55 = .ok (.iload 5, 2) := by decide +kernel
theorem dX0_latest_57 : decode cX0_latest 57 = .ok (.iconst (-1), 1) := by decide +kernel
theorem dX0_latest_58 : decode cX0_latest 58 = .ok (.if_icmp .eq 25, 3) := by decide +kernel
theorem dX0_latest_61 : decode cX0_latest 61 = .ok (.aload_n 0, 1) := by decide +kernel
theorem dX0_latest_62 : decode cX0_latest 62 = .ok (.getfield 14, 3) := by decide +kernel
theorem dX0_latest_65 : decode cX0_latest 65 = .ok (.iload 6, 2) := by decide +kernel
theorem dX0_latest_67 : decode cX0_latest 67 = .ok (.invokevirtual 51, 3) := by decide +kernel
theorem dX0_latest_70 : decode cX0_latest 70 = .ok (.aload_n 0, 1) := by decide +kernel
theorem dX0_latest_71 : decode cX0_latest 71 = .ok (.getfield 14, 3) := by decide +kernel
theorem dX0_latest_74 : decode cX0_latest 74 = .ok (.iload 5, 2) := by decide +kernel
theorem dX0_latest_76 : decode cX0_latest 76 = .ok (.invokevirtual 51, 3) := by decide +kernel
theorem dX0_latest_79 : decode cX0_latest 79 = .ok (.lcmp, 1) := by decide +kernel
theorem dX0_latest_80 : decode cX0_latest 80 = .ok (.ifCond .lt 7, 3) := by decide +kernel
theorem dX0_latest_83 : decode cX0_latest 83 = .ok (.iload 6, 2) := by decide +kernel
theorem dX0_latest_85 : decode cX0_latest 85 = .ok (.istore 5, 2) := by decide +kernel
theorem dX0_latest_87 : decode cX0_latest 87 = .ok (.iinc 6 1, 3) := by decide +kernel
theorem dX0_latest_90 : decode cX0_latest 90 = .ok (.goto (-84), 3) := by decide +kernel
theorem dX0_latest_93 : decode cX0_latest 93 = .ok (.iload 5, 2) := by decide +kernel
theorem dX0_latest_95 : decode cX0_latest 95 = .ok (.ireturn, 1) := by decide +kernel
set_option maxRecDepth 20000 in
theorem ggX0_hasRule_X0_has : GoodIn wsX0_hasRule wsX0_has := goodIn_r _ [7, 8, 18, 19, 20, 21, 22, 23, 24, 25, 26, 27, 28, 29] (by decide +kernel) (by decide +kernel)
set_option maxRecDepth 20000 in
theorem gX0_hasRule_X0_has : GoodIn wsX0_hasRule (wsV RX0 68 RX0 yX0_has wsX0_has) := goodIn_app (goodIn_of _ (by decide +kernel)) ggX0_hasRule_X0_has
set_option maxRecDepth 20000 in
theorem ggX0_hasRule_X0_cellOf : GoodIn wsX0_hasRule wsX0_cellOf := goodIn_r _ [11] (by decide +kernel) (by decide +kernel)
set_option maxRecDepth 20000 in
theorem gX0_hasRule_X0_cellOf : GoodIn wsX0_hasRule (va_wsS RX0 58 yX0_cellOf wsX0_cellOf) := goodIn_app (goodIn_of _ (by decide +kernel)) ggX0_hasRule_X0_cellOf
set_option maxRecDepth 20000 in
theorem ggX0_hasRule_X5_get : GoodIn wsX0_hasRule wsX5_get := goodIn_r _ [16, 17, 30] (by decide +kernel) (by decide +kernel)
set_option maxRecDepth 20000 in
theorem gX0_hasRule_X5_get : GoodIn wsX0_hasRule (wsV RX0 51 RX5 yX5_get wsX5_get) := goodIn_app (goodIn_of _ (by decide +kernel)) ggX0_hasRule_X5_get
theorem dX0_hasRule_0 : decode cX0_hasRule 0 = .ok (.aload_n 0, 1) := by decide +kernel
theorem dX0_hasRule_1 : decode cX0_hasRule 1 = .ok (.iload_n 1, 1) := by decide +kernel
theorem dX0_hasRule_2 : decode cX0_hasRule 2 = .ok (.invokevirtual 68, 3) := by decide +kernel
theorem dX0_hasRule_5 : decode cX0_hasRule 5 = .ok (.ifCond .eq 26, 3) := by decide +kernel
theorem dX0_hasRule_8 : decode cX0_hasRule 8 = .ok (.aload_n 0, 1) := by decide +kernel
theorem dX0_hasRule_9 : decode cX0_hasRule 9 = .ok (.getfield 26, 3) := by decide +kernel
theorem dX0_hasRule_12 : decode cX0_hasRule 12 = .ok (.iload_n 1, 1) := by decide +kernel
theorem dX0_hasRule_13 : decode cX0_hasRule 13 = .ok (.iload_n 2, 1) := by decide +kernel
theorem dX0_hasRule_14 : decode cX0_hasRule 14 = .ok (.invokestatic 58, 3) := by decide +kernel
theorem dX0_hasRule_17 : decode cX0_hasRule 17 = .ok (.invokevirtual 51, 3) := by decide +kernel
theorem dX0_hasRule_20 : decode cX0_hasRule 20 = .ok (.ldc2_w 62, 3) := by decide +kernel
theorem dX0_hasRule_23 : decode cX0_hasRule 23 = .ok (.lcmp, 1) := by decide +kernel
theorem dX0_hasRule_24 : decode cX0_hasRule 24 = .ok (.ifCond .eq 7, 3) := by decide +kernel
theorem dX0_hasRule_27 : decode cX0_hasRule 27 = .ok (.iconst 1, 1) := by decide +kernel
theorem dX0_hasRule_28 : decode cX0_hasRule 28 = .ok (.goto 4, 3) := by decide +kernel
theorem dX0_hasRule_31 : decode cX0_hasRule 31 = .ok (.iconst 0, 1) := by decide +kernel
theorem dX0_hasRule_32 : decode cX0_hasRule 32 = .ok (.ireturn, 1) := by decide +kernel
set_option maxRecDepth 20000 in
theorem ggX0_feeOf_X0_hasRule : GoodIn wsX0_feeOf wsX0_hasRule := goodIn_r _ [8, 2, 1, 9, 10, 11, 7, 12, 13, 14, 15, 16, 17, 18, 19, 20, 21, 22, 32, 33, 34, 35, 36, 37, 38, 39, 40, 41, 42, 43, 44] (by decide +kernel) (by decide +kernel)
set_option maxRecDepth 20000 in
theorem gX0_feeOf_X0_hasRule : GoodIn wsX0_feeOf (wsV RX0 72 RX0 yX0_hasRule wsX0_hasRule) := goodIn_app (goodIn_of _ (by decide +kernel)) ggX0_feeOf_X0_hasRule
set_option maxRecDepth 20000 in
theorem ggX0_feeOf_X0_cellOf : GoodIn wsX0_feeOf wsX0_cellOf := goodIn_r _ [16] (by decide +kernel) (by decide +kernel)
set_option maxRecDepth 20000 in
theorem gX0_feeOf_X0_cellOf : GoodIn wsX0_feeOf (va_wsS RX0 58 yX0_cellOf wsX0_cellOf) := goodIn_app (goodIn_of _ (by decide +kernel)) ggX0_feeOf_X0_cellOf
set_option maxRecDepth 20000 in
theorem ggX0_feeOf_X5_get : GoodIn wsX0_feeOf wsX5_get := goodIn_r _ [21, 22, 44] (by decide +kernel) (by decide +kernel)
set_option maxRecDepth 20000 in
theorem gX0_feeOf_X5_get : GoodIn wsX0_feeOf (wsV RX0 51 RX5 yX5_get wsX5_get) := goodIn_app (goodIn_of _ (by decide +kernel)) ggX0_feeOf_X5_get
set_option maxRecDepth 20000 in
theorem ggX0_feeOf_X0_priceOf : GoodIn wsX0_feeOf wsX0_priceOf := goodIn_r _ [26, 27, 28, 29, 30, 31, 17, 18, 19, 20, 21, 22, 32, 33, 34, 35, 36, 37, 38, 39, 40, 41, 42, 43, 44] (by decide +kernel) (by decide +kernel)
set_option maxRecDepth 20000 in
theorem gX0_feeOf_X0_priceOf : GoodIn wsX0_feeOf (wsV RX0 76 RX0 yX0_priceOf wsX0_priceOf) := goodIn_app (goodIn_of _ (by decide +kernel)) ggX0_feeOf_X0_priceOf
theorem dX0_feeOf_0 : decode cX0_feeOf 0 = .ok (.aload_n 0, 1) := by decide +kernel
theorem dX0_feeOf_1 : decode cX0_feeOf 1 = .ok (.iload_n 1, 1) := by decide +kernel
theorem dX0_feeOf_2 : decode cX0_feeOf 2 = .ok (.iload_n 2, 1) := by decide +kernel
theorem dX0_feeOf_3 : decode cX0_feeOf 3 = .ok (.invokevirtual 72, 3) := by decide +kernel
theorem dX0_feeOf_6 : decode cX0_feeOf 6 = .ok (.ifCond .ne 7, 3) := by decide +kernel
theorem dX0_feeOf_9 : decode cX0_feeOf 9 = .ok (.ldc2_w 62, 3) := by decide +kernel
theorem dX0_feeOf_12 : decode cX0_feeOf 12 = .ok (.lreturn, 1) := by decide +kernel
theorem dX0_feeOf_13 : decode cX0_feeOf 13 = .ok (.iload_n 1, 1) := by decide +kernel
theorem dX0_feeOf_14 : decode cX0_feeOf 14 = .ok (.iload_n 2, 1) := by decide +kernel
theorem dX0_feeOf_15 : decode cX0_feeOf 15 = .ok (.invokestatic 58, 3) := by decide +kernel
theorem dX0_feeOf_18 : decode cX0_feeOf 18 = .ok (.istore 5, 2) := by decide +kernel
theorem dX0_feeOf_20 : decode cX0_feeOf 20 = .ok (.aload_n 0, 1) := by decide +kernel
theorem dX0_feeOf_21 : decode cX0_feeOf 21 = .ok (.getfield 26, 3) := by decide +kernel
theorem dX0_feeOf_24 : decode cX0_feeOf 24 = .ok (.iload 5, 2) := by decide +kernel
theorem dX0_feeOf_26 : decode cX0_feeOf 26 = .ok (.invokevirtual 51, 3) := by decide +kernel
theorem dX0_feeOf_29 : decode cX0_feeOf 29 = .ok (.lstore 6, 2) := by decide +kernel
theorem dX0_feeOf_31 : decode cX0_feeOf 31 = .ok (.lload 6, 2) := by decide +kernel
theorem dX0_feeOf_33 : decode cX0_feeOf 33 = .ok (.lconst 0, 1) := by decide +kernel
theorem dX0_feeOf_34 : decode cX0_feeOf 34 = .ok (.lcmp, 1) := by decide +kernel
theorem dX0_feeOf_35 : decode cX0_feeOf 35 = .ok (.ifCond .gt 7, 3) := by decide +kernel
theorem dX0_feeOf_38 : decode cX0_feeOf 38 = .ok (.ldc2_w 62, 3) := by decide +kernel
theorem dX0_feeOf_41 : decode cX0_feeOf 41 = .ok (.lreturn, 1) := by decide +kernel
theorem dX0_feeOf_42 : decode cX0_feeOf 42 = .ok (.aload_n 0, 1) := by decide +kernel
theorem dX0_feeOf_43 : decode cX0_feeOf 43 = .ok (.iload 5, 2) := by decide +kernel
theorem dX0_feeOf_45 : decode cX0_feeOf 45 = .ok (.lload_n 3, 1) := by decide +kernel
theorem dX0_feeOf_46 : decode cX0_feeOf 46 = .ok (.invokevirtual 76, 3) := by decide +kernel
theorem dX0_feeOf_49 : decode cX0_feeOf 49 = .ok (.lload 6, 2) := by decide +kernel
theorem dX0_feeOf_51 : decode cX0_feeOf 51 = .ok (.ldiv, 1) := by decide +kernel
theorem dX0_feeOf_52 : decode cX0_feeOf 52 = .ok (.lstore 8, 2) := by decide +kernel
theorem dX0_feeOf_54 : decode cX0_feeOf 54 = .ok (.aload_n 0, 1) := by decide +kernel
theorem dX0_feeOf_55 : decode cX0_feeOf 55 = .ok (.getfield 32, 3) := by decide +kernel
theorem dX0_feeOf_58 : decode cX0_feeOf 58 = .ok (.iload 5, 2) := by decide +kernel
theorem dX0_feeOf_60 : decode cX0_feeOf 60 = .ok (.invokevirtual 51, 3) := by decide +kernel
theorem dX0_feeOf_63 : decode cX0_feeOf 63 = .ok (.lstore 10, 2) := by decide +kernel
theorem dX0_feeOf_65 : decode cX0_feeOf 65 = .ok (.lload 10, 2) := by decide +kernel
theorem dX0_feeOf_67 : decode cX0_feeOf 67 = .ok (.ldc2_w 62, 3) := by decide +kernel
theorem dX0_feeOf_70 : decode cX0_feeOf 70 = .ok (.lcmp, 1) := by decide +kernel
theorem dX0_feeOf_71 : decode cX0_feeOf 71 = .ok (.ifCond .eq 16, 3) := by decide +kernel
theorem dX0_feeOf_74 : decode cX0_feeOf 74 = .ok (.lload 8, 2) := by decide +kernel
theorem dX0_feeOf_76 : decode cX0_feeOf 76 = .ok (.lload 10, 2) := by decide +kernel
theorem dX0_feeOf_78 : decode cX0_feeOf 78 = .ok (.lcmp, 1) := by decide +kernel
theorem dX0_feeOf_79 : decode cX0_feeOf 79 = .ok (.ifCond .le 8, 3) := by decide +kernel
theorem dX0_feeOf_82 : decode cX0_feeOf 82 = .ok (.lload 10, 2) := by decide +kernel
theorem dX0_feeOf_84 : decode cX0_feeOf 84 = .ok (.goto 5, 3) := by decide +kernel
theorem dX0_feeOf_87 : decode cX0_feeOf 87 = .ok (.lload 8, 2) := by decide +kernel
theorem dX0_feeOf_89 : decode cX0_feeOf 89 = .ok (.lreturn, 1) := by decide +kernel
set_option maxRecDepth 20000 in
theorem ggX0_priceOf_X5_get : GoodIn wsX0_priceOf wsX5_get := goodIn_r _ [10, 11, 24] (by decide +kernel) (by decide +kernel)
set_option maxRecDepth 20000 in
theorem gX0_priceOf_X5_get : GoodIn wsX0_priceOf (wsV RX0 51 RX5 yX5_get wsX5_get) := goodIn_app (goodIn_of _ (by decide +kernel)) ggX0_priceOf_X5_get
theorem dX0_priceOf_0 : decode cX0_priceOf 0 = .ok (.lconst 0, 1) := by decide +kernel
theorem dX0_priceOf_1 : decode cX0_priceOf 1 = .ok (.lstore 4, 2) := by decide +kernel
theorem dX0_priceOf_3 : decode cX0_priceOf 3 = .ok (.lconst 0, 1) := by decide +kernel
theorem dX0_priceOf_4 : decode cX0_priceOf 4 = .ok (.lstore 6, 2) := by decide +kernel
theorem dX0_priceOf_6 : decode cX0_priceOf 6 = .ok (.aload_n 0, 1) := by decide +kernel
theorem dX0_priceOf_7 : decode cX0_priceOf 7 = .ok (.getfield 29, 3) := by decide +kernel
theorem dX0_priceOf_10 : decode cX0_priceOf 10 = .ok (.iload_n 1, 1) := by decide +kernel
theorem dX0_priceOf_11 : decode cX0_priceOf 11 = .ok (.invokevirtual 51, 3) := by decide +kernel
theorem dX0_priceOf_14 : decode cX0_priceOf 14 = .ok (.lstore 8, 2) := by decide +kernel
theorem dX0_priceOf_16 : decode cX0_priceOf 16 = .ok (.aload_n 0, 1) := by decide +kernel
theorem dX0_priceOf_17 : decode cX0_priceOf 17 = .ok (.getfield 35, 3) := by decide +kernel
theorem dX0_priceOf_20 : decode cX0_priceOf 20 = .ok (.iload_n 1, 1) := by decide +kernel
theorem dX0_priceOf_21 : decode cX0_priceOf 21 = .ok (.invokevirtual 51, 3) := by decide +kernel
theorem dX0_priceOf_24 : decode cX0_priceOf 24 = .ok (.lstore 10, 2) := by decide +kernel
theorem dX0_priceOf_26 : decode cX0_priceOf 26 = .ok (.aload_n 0, 1) := by decide +kernel
theorem dX0_priceOf_27 : decode cX0_priceOf 27 = .ok (.getfield 38, 3) := by decide +kernel
theorem dX0_priceOf_30 : decode cX0_priceOf 30 = .ok (.iload_n 1, 1) := by decide +kernel
theorem dX0_priceOf_31 : decode cX0_priceOf 31 = .ok (.invokevirtual 51, 3) := by decide +kernel
theorem dX0_priceOf_34 : decode cX0_priceOf 34 = .ok (.lstore 12, 2) := by decide +kernel
theorem dX0_priceOf_36 : decode cX0_priceOf 36 = .ok (.iconst 0, 1) := by decide +kernel
theorem dX0_priceOf_37 : decode cX0_priceOf 37 = .ok (.istore 14, 2) := by decide +kernel
theorem dX0_priceOf_39 : decode cX0_priceOf 39 = .ok (.iload 14, 2) := by decide +kernel
theorem dX0_priceOf_41 : decode cX0_priceOf 41 = .ok (.bipush 66, 2) := by decide +kernel
theorem dX0_priceOf_43 : decode cX0_priceOf 43 = .ok (.if_icmp .ge 75, 3) := by decide +kernel
theorem dX0_priceOf_46 : decode cX0_priceOf 46 = .ok (.iload 14, 2) := by decide +kernel
theorem dX0_priceOf_48 : decode cX0_priceOf 48 = .ok (.i2l, 1) := by decide +kernel
theorem dX0_priceOf_49 : decode cX0_priceOf 49 = .ok (.lload 12, 2) := by decide +kernel
theorem dX0_priceOf_51 : decode cX0_priceOf 51 = .ok (.lcmp, 1) := by decide +kernel
theorem dX0_priceOf_52 : decode cX0_priceOf 52 = .ok (.ifCond .ge 66, 3) := by decide +kernel
theorem dX0_priceOf_55 : decode cX0_priceOf 55 = .ok (.lload 10, 2) := by decide +kernel
theorem dX0_priceOf_57 : decode cX0_priceOf 57 = .ok (.l2i, 1) := by decide +kernel
theorem dX0_priceOf_58 : decode cX0_priceOf 58 = .ok (.iload 14, 2) := by decide +kernel
theorem dX0_priceOf_60 : decode cX0_priceOf 60 = .ok (.iadd, 1) := by decide +kernel
theorem dX0_priceOf_61 : decode cX0_priceOf 61 = .ok (.istore 15, 2) := by decide +kernel
theorem dX0_priceOf_63 : decode cX0_priceOf 63 = .ok (.aload_n 0, 1) := by decide +kernel
theorem dX0_priceOf_64 : decode cX0_priceOf 64 = .ok (.getfield 41, 3) := by decide +kernel
theorem dX0_priceOf_67 : decode cX0_priceOf 67 = .ok (.iload 15, 2) := by decide +kernel
theorem dX0_priceOf_69 : decode cX0_priceOf 69 = .ok (.invokevirtual 51, 3) := by decide +kernel
theorem dX0_priceOf_72 : decode cX0_priceOf 72 = .ok (.lstore 16, 2) := by decide +kernel
theorem dX0_priceOf_74 : decode cX0_priceOf 74 = .ok (.lload 16, 2) := by decide +kernel
theorem dX0_priceOf_76 : decode cX0_priceOf 76 = .ok (.lload_n 2, 1) := by decide +kernel
theorem dX0_priceOf_77 : decode cX0_priceOf 77 = .ok (.lcmp, 1) := by decide +kernel
theorem dX0_priceOf_78 : decode cX0_priceOf 78 = .ok (.ifCond .lt 6, 3) := by decide +kernel
theorem dX0_priceOf_81 : decode cX0_priceOf 81 = .ok (.goto 37, 3) := by decide +kernel
theorem dX0_priceOf_84 : decode cX0_priceOf 84 = .ok (.lload 4, 2) := by decide +kernel
theorem dX0_priceOf_86 : decode cX0_priceOf 86 = .ok (.lload 16, 2) := by decide +kernel
theorem dX0_priceOf_88 : decode cX0_priceOf 88 = .ok (.lload 6, 2) := by decide +kernel
theorem dX0_priceOf_90 : decode cX0_priceOf 90 = .ok (.lsub, 1) := by decide +kernel
theorem dX0_priceOf_91 : decode cX0_priceOf 91 = .ok (.lload 8, 2) := by decide +kernel
theorem dX0_priceOf_93 : decode cX0_priceOf 93 = .ok (.lmul, 1) := by decide +kernel
theorem dX0_priceOf_94 : decode cX0_priceOf 94 = .ok (.ladd, 1) := by decide +kernel
theorem dX0_priceOf_95 : decode cX0_priceOf 95 = .ok (.lstore 4, 2) := by decide +kernel
theorem dX0_priceOf_97 : decode cX0_priceOf 97 = .ok (.lload 16, 2) := by decide +kernel
theorem dX0_priceOf_99 : decode cX0_priceOf 99 = .ok (.lstore 6, 2) := by decide +kernel
theorem dX0_priceOf_101 : decode cX0_priceOf 101 = .ok (.aload_n 0, 1) := by decide +kernel
theorem dX0_priceOf_102 : decode cX0_priceOf 102 = .ok (.getfield 44, 3) := by decide +kernel
theorem dX0_priceOf_105 : decode cX0_priceOf 105 = .ok (.iload 15, 2) := by decide +kernel
theorem dX0_priceOf_107 : decode cX0_priceOf 107 = .ok (.invokevirtual 51, 3) := by decide +kernel
theorem dX0_priceOf_110 : decode cX0_priceOf 110 = .ok (.lstore 8, 2) := by decide +kernel
theorem dX0_priceOf_112 : decode cX0_priceOf 112 = .ok (.iinc 14 1, 3) := by decide +kernel
theorem dX0_priceOf_115 : decode cX0_priceOf 115 = .ok (.goto (-76), 3) := by decide +kernel
theorem dX0_priceOf_118 : decode cX0_priceOf 118 = .ok (.lload 4, 2) := by decide +kernel
theorem dX0_priceOf_120 : decode cX0_priceOf 120 = .ok (.lload_n 2, 1) := by decide +kernel
theorem dX0_priceOf_121 : decode cX0_priceOf 121 = .ok (.lload 6, 2) := by decide +kernel
theorem dX0_priceOf_123 : decode cX0_priceOf 123 = .ok (.lsub, 1) := by decide +kernel
theorem dX0_priceOf_124 : decode cX0_priceOf 124 = .ok (.lload 8, 2) := by decide +kernel
theorem dX0_priceOf_126 : decode cX0_priceOf 126 = .ok (.lmul, 1) := by decide +kernel
theorem dX0_priceOf_127 : decode cX0_priceOf 127 = .ok (.ladd, 1) := by decide +kernel
theorem dX0_priceOf_128 : decode cX0_priceOf 128 = .ok (.lreturn, 1) := by decide +kernel
set_option maxRecDepth 20000 in
theorem ggX1_init_X5_init : GoodIn wsX1_init wsX5_init := goodIn_r _ [14, 15, 2, 3, 16, 17, 18] (by decide +kernel) (by decide +kernel)
set_option maxRecDepth 20000 in
theorem gX1_init_X5_init : GoodIn wsX1_init (wsX5_init) := ggX1_init_X5_init
theorem dX1_init_0 : decode cX1_init 0 = .ok (.aload_n 0, 1) := by decide +kernel
theorem dX1_init_1 : decode cX1_init 1 = .ok (.invokespecial 3, 3) := by decide +kernel
theorem dX1_init_4 : decode cX1_init 4 = .ok (.aload_n 0, 1) := by decide +kernel
theorem dX1_init_5 : decode cX1_init 5 = .ok (.new 9, 3) := by decide +kernel
theorem dX1_init_8 : decode cX1_init 8 = .ok (.dup, 1) := by decide +kernel
theorem dX1_init_9 : decode cX1_init 9 = .ok (.bipush 24, 2) := by decide +kernel
theorem dX1_init_11 : decode cX1_init 11 = .ok (.invokespecial 11, 3) := by decide +kernel
theorem dX1_init_14 : decode cX1_init 14 = .ok (.putfield 14, 3) := by decide +kernel
theorem dX1_init_17 : decode cX1_init 17 = .ok (.aload_n 0, 1) := by decide +kernel
theorem dX1_init_18 : decode cX1_init 18 = .ok (.new 9, 3) := by decide +kernel
theorem dX1_init_21 : decode cX1_init 21 = .ok (.dup, 1) := by decide +kernel
theorem dX1_init_22 : decode cX1_init 22 = .ok (.bipush 24, 2) := by decide +kernel
theorem dX1_init_24 : decode cX1_init 24 = .ok (.invokespecial 11, 3) := by decide +kernel
theorem dX1_init_27 : decode cX1_init 27 = .ok (.putfield 20, 3) := by decide +kernel
theorem dX1_init_30 : decode cX1_init 30 = .ok (.aload_n 0, 1) := by decide +kernel
theorem dX1_init_31 : decode cX1_init 31 = .ok (.new 9, 3) := by decide +kernel
theorem dX1_init_34 : decode cX1_init 34 = .ok (.dup, 1) := by decide +kernel
theorem dX1_init_35 : decode cX1_init 35 = .ok (.bipush 24, 2) := by decide +kernel
theorem dX1_init_37 : decode cX1_init 37 = .ok (.invokespecial 11, 3) := by decide +kernel
theorem dX1_init_40 : decode cX1_init 40 = .ok (.putfield 23, 3) := by decide +kernel
theorem dX1_init_43 : decode cX1_init 43 = .ok (.aload_n 0, 1) := by decide +kernel
theorem dX1_init_44 : decode cX1_init 44 = .ok (.new 9, 3) := by decide +kernel
theorem dX1_init_47 : decode cX1_init 47 = .ok (.dup, 1) := by decide +kernel
theorem dX1_init_48 : decode cX1_init 48 = .ok (.bipush 24, 2) := by decide +kernel
theorem dX1_init_50 : decode cX1_init 50 = .ok (.invokespecial 11, 3) := by decide +kernel
theorem dX1_init_53 : decode cX1_init 53 = .ok (.putfield 26, 3) := by decide +kernel
theorem dX1_init_56 : decode cX1_init 56 = .ok (.aload_n 0, 1) := by decide +kernel
theorem dX1_init_57 : decode cX1_init 57 = .ok (.new 9, 3) := by decide +kernel
theorem dX1_init_60 : decode cX1_init 60 = .ok (.dup, 1) := by decide +kernel
theorem dX1_init_61 : decode cX1_init 61 = .ok (.bipush 24, 2) := by decide +kernel
theorem dX1_init_63 : decode cX1_init 63 = .ok (.invokespecial 11, 3) := by decide +kernel
theorem dX1_init_66 : decode cX1_init 66 = .ok (.putfield 29, 3) := by decide +kernel
theorem dX1_init_69 : decode cX1_init 69 = .ok (.return_, 1) := by decide +kernel
set_option maxRecDepth 20000 in
theorem ggX1_add_X5_set : GoodIn wsX1_add wsX5_set := goodIn_r _ [11, 12, 19] (by decide +kernel) (by decide +kernel)
set_option maxRecDepth 20000 in
theorem gX1_add_X5_set : GoodIn wsX1_add (wsV RX1 36 RX5 yX5_set wsX5_set) := goodIn_app (goodIn_of _ (by decide +kernel)) ggX1_add_X5_set
theorem dX1_add_0 : decode cX1_add 0 = .ok (.aload_n 0, 1) := by decide +kernel
theorem dX1_add_1 : decode cX1_add 1 = .ok (.getfield 32, 3) := by decide +kernel
theorem dX1_add_4 : decode cX1_add 4 = .ok (.bipush 24, 2) := by decide +kernel
theorem dX1_add_6 : decode cX1_add 6 = .ok (.if_icmp .lt 5, 3) := by decide +kernel
theorem dX1_add_9 : decode cX1_add 9 = .ok (.iconst (-1), 1) := by decide +kernel
theorem dX1_add_10 : decode cX1_add 10 = .ok (.ireturn, 1) := by decide +kernel
theorem dX1_add_11 : decode cX1_add 11 = .ok (.aload_n 0, 1) := by decide +kernel
theorem dX1_add_12 : decode cX1_add 12 = .ok (.getfield 32, 3) := by decide +kernel
theorem dX1_add_15 : decode cX1_add 15 = .ok (.istore 9, 2) := by decide +kernel
theorem dX1_add_17 : decode cX1_add 17 = .ok (.aload_n 0, 1) := by decide +kernel
theorem dX1_add_18 : decode cX1_add 18 = .ok (.getfield 14, 3) := by decide +kernel
theorem dX1_add_21 : decode cX1_add 21 = .ok (.iload 9, 2) := by decide +kernel
theorem dX1_add_23 : decode cX1_add 23 = .ok (.iload_n 1, 1) := by decide +kernel
theorem dX1_add_24 : decode cX1_add 24 = .ok (.i2l, 1) := by decide +kernel
theorem dX1_add_25 : decode cX1_add 25 = .ok (.invokevirtual 36, 3) := by decide +kernel
theorem dX1_add_28 : decode cX1_add 28 = .ok (.aload_n 0, 1) := by decide +kernel
theorem dX1_add_29 : decode cX1_add 29 = .ok (.getfield 20, 3) := by decide +kernel
theorem dX1_add_32 : decode cX1_add 32 = .ok (.iload 9, 2) := by decide +kernel
theorem dX1_add_34 : decode cX1_add 34 = .ok (.iload_n 2, 1) := by decide +kernel
theorem dX1_add_35 : decode cX1_add 35 = .ok (.i2l, 1) := by decide +kernel
theorem dX1_add_36 : decode cX1_add 36 = .ok (.invokevirtual 36, 3) := by decide +kernel
theorem dX1_add_39 : decode cX1_add 39 = .ok (.aload_n 0, 1) := by decide +kernel
theorem dX1_add_40 : decode cX1_add 40 = .ok (.getfield 23, 3) := by decide +kernel
theorem dX1_add_43 : decode cX1_add 43 = .ok (.iload 9, 2) := by decide +kernel
theorem dX1_add_45 : decode cX1_add 45 = .ok (.lload_n 3, 1) := by decide +kernel
theorem dX1_add_46 : decode cX1_add 46 = .ok (.invokevirtual 36, 3) := by decide +kernel
theorem dX1_add_49 : decode cX1_add 49 = .ok (.aload_n 0, 1) := by decide +kernel
theorem dX1_add_50 : decode cX1_add 50 = .ok (.getfield 26, 3) := by decide +kernel
theorem dX1_add_53 : decode cX1_add 53 = .ok (.iload 9, 2) := by decide +kernel
theorem dX1_add_55 : decode cX1_add 55 = .ok (.lload 5, 2) := by decide +kernel
theorem dX1_add_57 : decode cX1_add 57 = .ok (.invokevirtual 36, 3) := by decide +kernel
theorem dX1_add_60 : decode cX1_add 60 = .ok (.aload_n 0, 1) := by decide +kernel
theorem dX1_add_61 : decode cX1_add 61 = .ok (.getfield 29, 3) := by decide +kernel
theorem dX1_add_64 : decode cX1_add 64 = .ok (.iload 9, 2) := by decide +kernel
theorem dX1_add_66 : decode cX1_add 66 = .ok (.lload 7, 2) := by decide +kernel
theorem dX1_add_68 : decode cX1_add 68 = .ok (.invokevirtual 36, 3) := by decide +kernel
theorem dX1_add_71 : decode cX1_add 71 = .ok (.aload_n 0, 1) := by decide +kernel
theorem dX1_add_72 : decode cX1_add 72 = .ok (.dup, 1) := by decide +kernel
theorem dX1_add_73 : decode cX1_add 73 = .ok (.getfield 32, 3) := by decide +kernel
theorem dX1_add_76 : decode cX1_add 76 = .ok (.iconst 1, 1) := by decide +kernel
theorem dX1_add_77 : decode cX1_add 77 = .ok (.iadd, 1) := by decide +kernel
theorem dX1_add_78 : decode cX1_add 78 = .ok (.putfield 32, 3) := by decide +kernel
theorem dX1_add_81 : decode cX1_add 81 = .ok (.iload 9, 2) := by decide +kernel
theorem dX1_add_83 : decode cX1_add 83 = .ok (.ireturn, 1) := by decide +kernel
theorem dX1_count_0 : decode cX1_count 0 = .ok (.aload_n 0, 1) := by decide +kernel
theorem dX1_count_1 : decode cX1_count 1 = .ok (.getfield 32, 3) := by decide +kernel
theorem dX1_count_4 : decode cX1_count 4 = .ok (.ireturn, 1) := by decide +kernel
set_option maxRecDepth 20000 in
theorem ggX1_houseOf_X5_get : GoodIn wsX1_houseOf wsX5_get := goodIn_r _ [6, 7, 14] (by decide +kernel) (by decide +kernel)
set_option maxRecDepth 20000 in
theorem gX1_houseOf_X5_get : GoodIn wsX1_houseOf (wsV RX1 40 RX5 yX5_get wsX5_get) := goodIn_app (goodIn_of _ (by decide +kernel)) ggX1_houseOf_X5_get
theorem dX1_houseOf_0 : decode cX1_houseOf 0 = .ok (.aload_n 0, 1) := by decide +kernel
theorem dX1_houseOf_1 : decode cX1_houseOf 1 = .ok (.getfield 14, 3) := by decide +kernel
theorem dX1_houseOf_4 : decode cX1_houseOf 4 = .ok (.iload_n 1, 1) := by decide +kernel
theorem dX1_houseOf_5 : decode cX1_houseOf 5 = .ok (.invokevirtual 40, 3) := by decide +kernel
theorem dX1_houseOf_8 : decode cX1_houseOf 8 = .ok (.l2i, 1) := by decide +kernel
theorem dX1_houseOf_9 : decode cX1_houseOf 9 = .ok (.ireturn, 1) := by decide +kernel
set_option maxRecDepth 20000 in
theorem ggX1_kindOf_X5_get : GoodIn wsX1_kindOf wsX5_get := goodIn_r _ [6, 7, 14] (by decide +kernel) (by decide +kernel)
set_option maxRecDepth 20000 in
theorem gX1_kindOf_X5_get : GoodIn wsX1_kindOf (wsV RX1 40 RX5 yX5_get wsX5_get) := goodIn_app (goodIn_of _ (by decide +kernel)) ggX1_kindOf_X5_get
theorem dX1_kindOf_0 : decode cX1_kindOf 0 = .ok (.aload_n 0, 1) := by decide +kernel
theorem dX1_kindOf_1 : decode cX1_kindOf 1 = .ok (.getfield 20, 3) := by decide +kernel
theorem dX1_kindOf_4 : decode cX1_kindOf 4 = .ok (.iload_n 1, 1) := by decide +kernel
theorem dX1_kindOf_5 : decode cX1_kindOf 5 = .ok (.invokevirtual 40, 3) := by decide +kernel
theorem dX1_kindOf_8 : decode cX1_kindOf 8 = .ok (.l2i, 1) := by decide +kernel
theorem dX1_kindOf_9 : decode cX1_kindOf 9 = .ok (.ireturn, 1) := by decide +kernel
set_option maxRecDepth 20000 in
theorem ggX1_dayOf_X5_get : GoodIn wsX1_dayOf wsX5_get := goodIn_r _ [6, 7, 14] (by decide +kernel) (by decide +kernel)
set_option maxRecDepth 20000 in
theorem gX1_dayOf_X5_get : GoodIn wsX1_dayOf (wsV RX1 40 RX5 yX5_get wsX5_get) := goodIn_app (goodIn_of _ (by decide +kernel)) ggX1_dayOf_X5_get
theorem dX1_dayOf_0 : decode cX1_dayOf 0 = .ok (.aload_n 0, 1) := by decide +kernel
theorem dX1_dayOf_1 : decode cX1_dayOf 1 = .ok (.getfield 23, 3) := by decide +kernel
theorem dX1_dayOf_4 : decode cX1_dayOf 4 = .ok (.iload_n 1, 1) := by decide +kernel
theorem dX1_dayOf_5 : decode cX1_dayOf 5 = .ok (.invokevirtual 40, 3) := by decide +kernel
theorem dX1_dayOf_8 : decode cX1_dayOf 8 = .ok (.lreturn, 1) := by decide +kernel
set_option maxRecDepth 20000 in
theorem ggX1_measureOf_X5_get : GoodIn wsX1_measureOf wsX5_get := goodIn_r _ [6, 7, 14] (by decide +kernel) (by decide +kernel)
set_option maxRecDepth 20000 in
theorem gX1_measureOf_X5_get : GoodIn wsX1_measureOf (wsV RX1 40 RX5 yX5_get wsX5_get) := goodIn_app (goodIn_of _ (by decide +kernel)) ggX1_measureOf_X5_get
theorem dX1_measureOf_0 : decode cX1_measureOf 0 = .ok (.aload_n 0, 1) := by decide +kernel
theorem dX1_measureOf_1 : decode cX1_measureOf 1 = .ok (.getfield 26, 3) := by decide +kernel
theorem dX1_measureOf_4 : decode cX1_measureOf 4 = .ok (.iload_n 1, 1) := by decide +kernel
theorem dX1_measureOf_5 : decode cX1_measureOf 5 = .ok (.invokevirtual 40, 3) := by decide +kernel
theorem dX1_measureOf_8 : decode cX1_measureOf 8 = .ok (.lreturn, 1) := by decide +kernel
set_option maxRecDepth 20000 in
theorem ggX1_isOf_X5_get : GoodIn wsX1_isOf wsX5_get := goodIn_r _ [9, 10, 17] (by decide +kernel) (by decide +kernel)
set_option maxRecDepth 20000 in
theorem gX1_isOf_X5_get : GoodIn wsX1_isOf (wsV RX1 40 RX5 yX5_get wsX5_get) := goodIn_app (goodIn_of _ (by decide +kernel)) ggX1_isOf_X5_get
theorem dX1_isOf_0 : decode cX1_isOf 0 = .ok (.aload_n 0, 1) := by decide +kernel
theorem dX1_isOf_1 : decode cX1_isOf 1 = .ok (.getfield 14, 3) := by decide +kernel
theorem dX1_isOf_4 : decode cX1_isOf 4 = .ok (.iload_n 1, 1) := by decide +kernel
theorem dX1_isOf_5 : decode cX1_isOf 5 = .ok (.invokevirtual 40, 3) := by decide +kernel
theorem dX1_isOf_8 : decode cX1_isOf 8 = .ok (.iload_n 2, 1) := by decide +kernel
theorem dX1_isOf_9 : decode cX1_isOf 9 = .ok (.i2l, 1) := by decide +kernel
theorem dX1_isOf_10 : decode cX1_isOf 10 = .ok (.lcmp, 1) := by decide +kernel
theorem dX1_isOf_11 : decode cX1_isOf 11 = .ok (.ifCond .ne 39, 3) := by decide +kernel
theorem dX1_isOf_14 : decode cX1_isOf 14 = .ok (.aload_n 0, 1) := by decide +kernel
theorem dX1_isOf_15 : decode cX1_isOf 15 = .ok (.getfield 23, 3) := by decide +kernel
theorem dX1_isOf_18 : decode cX1_isOf 18 = .ok (.iload_n 1, 1) := by decide +kernel
theorem dX1_isOf_19 : decode cX1_isOf 19 = .ok (.invokevirtual 40, 3) := by decide +kernel
theorem dX1_isOf_22 : decode cX1_isOf 22 = .ok (.ldc2_w 44, 3) := by decide +kernel
theorem dX1_isOf_25 : decode cX1_isOf 25 = .ok (.ldiv, 1) := by decide +kernel
theorem dX1_isOf_26 : decode cX1_isOf 26 = .ok (.iload_n 3, 1) := by decide +kernel
theorem dX1_isOf_27 : decode cX1_isOf 27 = .ok (.i2l, 1) := by decide +kernel
theorem dX1_isOf_28 : decode cX1_isOf 28 = .ok (.lcmp, 1) := by decide +kernel
theorem dX1_isOf_29 : decode cX1_isOf 29 = .ok (.ifCond .ne 21, 3) := by decide +kernel
theorem dX1_isOf_32 : decode cX1_isOf 32 = .ok (.aload_n 0, 1) := by decide +kernel
theorem dX1_isOf_33 : decode cX1_isOf 33 = .ok (.getfield 29, 3) := by decide +kernel
theorem dX1_isOf_36 : decode cX1_isOf 36 = .ok (.iload_n 1, 1) := by decide +kernel
theorem dX1_isOf_37 : decode cX1_isOf 37 = .ok (.invokevirtual 40, 3) := by decide +kernel
theorem dX1_isOf_40 : decode cX1_isOf 40 = .ok (.lload 4, 2) := by decide +kernel
theorem dX1_isOf_42 : decode cX1_isOf 42 = .ok (.lcmp, 1) := by decide +kernel
theorem dX1_isOf_43 : decode cX1_isOf 43 = .ok (.ifCond .gt 7, 3) := by decide +kernel
theorem dX1_isOf_46 : decode cX1_isOf 46 = .ok (.iconst 1, 1) := by decide +kernel
theorem dX1_isOf_47 : decode cX1_isOf 47 = .ok (.goto 4, 3) := by decide +kernel
theorem dX1_isOf_50 : decode cX1_isOf 50 = .ok (.iconst 0, 1) := by decide +kernel
theorem dX1_isOf_51 : decode cX1_isOf 51 = .ok (.ireturn, 1) := by decide +kernel
