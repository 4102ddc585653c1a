theorem dX9_relief_11 : decode cX9_relief 11 = .ok (.invokevirtual 126, 3) := by decide +kernel
theorem dX9_relief_14 : decode cX9_relief 14 = .ok (.ifCond .eq 32, 3) := by decide +kernel
theorem dX9_relief_17 : decode cX9_relief 17 = .ok (.iload_n 2, 1) := by decide +kernel
theorem dX9_relief_18 : decode cX9_relief 18 = .ok (.invokestatic 130, 3) := by decide +kernel
theorem dX9_relief_21 : decode cX9_relief 21 = .ok (.ifCond .eq 25, 3) := by decide +kernel
theorem dX9_relief_24 : decode cX9_relief 24 = .ok (.lload_n 3, 1) := by decide +kernel
theorem dX9_relief_25 : decode cX9_relief 25 = .ok (.invokestatic 133, 3) := by decide +kernel
theorem dX9_relief_28 : decode cX9_relief 28 = .ok (.ifCond .eq 18, 3) := by decide +kernel
theorem dX9_relief_31 : decode cX9_relief 31 = .ok (.lload 5, 2) := by decide +kernel
theorem dX9_relief_33 : decode cX9_relief 33 = .ok (.invokestatic 133, 3) := by decide +kernel
theorem dX9_relief_36 : decode cX9_relief 36 = .ok (.ifCond .eq 10, 3) := by decide +kernel
theorem dX9_relief_39 : decode cX9_relief 39 = .ok (.lload_n 3, 1) := by decide +kernel
theorem dX9_relief_40 : decode cX9_relief 40 = .ok (.lload 5, 2) := by decide +kernel
theorem dX9_relief_42 : decode cX9_relief 42 = .ok (.lcmp, 1) := by decide +kernel
theorem dX9_relief_43 : decode cX9_relief 43 = .ok (.ifCond .le 5, 3) := by decide +kernel
theorem dX9_relief_46 : decode cX9_relief 46 = .ok (.iconst 0, 1) := by decide +kernel
theorem dX9_relief_47 : decode cX9_relief 47 = .ok (.ireturn, 1) := by decide +kernel
theorem dX9_relief_48 : decode cX9_relief 48 = .ok (.aload_n 0, 1) := by decide +kernel
theorem dX9_relief_49 : decode cX9_relief 49 = .ok (.getfield 72, 3) := by decide +kernel
theorem dX9_relief_52 : decode cX9_relief 52 = .ok (.aload_n 0, 1) := by decide +kernel
theorem dX9_relief_53 : decode cX9_relief 53 = .ok (.getfield 183, 3) := by decide +kernel
theorem dX9_relief_56 : decode cX9_relief 56 = .ok (.iload_n 1, 1) := by decide +kernel
theorem dX9_relief_57 : decode cX9_relief 57 = .ok (.iastore, 1) := by decide +kernel
theorem dX9_relief_58 : decode cX9_relief 58 = .ok (.aload_n 0, 1) := by decide +kernel
theorem dX9_relief_59 : decode cX9_relief 59 = .ok (.getfield 75, 3) := by decide +kernel
theorem dX9_relief_62 : decode cX9_relief 62 = .ok (.aload_n 0, 1) := by decide +kernel
theorem dX9_relief_63 : decode cX9_relief 63 = .ok (.getfield 183, 3) := by decide +kernel
theorem dX9_relief_66 : decode cX9_relief 66 = .ok (.iload_n 2, 1) := by decide +kernel
theorem dX9_relief_67 : decode cX9_relief 67 = .ok (.iastore, 1) := by decide +kernel
theorem dX9_relief_68 : decode cX9_relief 68 = .ok (.aload_n 0, 1) := by decide +kernel
theorem dX9_relief_69 : decode cX9_relief 69 = .ok (.getfield 78, 3) := by decide +kernel
theorem dX9_relief_72 : decode cX9_relief 72 = .ok (.aload_n 0, 1) := by decide +kernel
theorem dX9_relief_73 : decode cX9_relief 73 = .ok (.getfield 183, 3) := by decide +kernel
theorem dX9_relief_76 : decode cX9_relief 76 = .ok (.lload_n 3, 1) := by decide +kernel
theorem dX9_relief_77 : decode cX9_relief 77 = .ok (.l2i, 1) := by decide +kernel
theorem dX9_relief_78 : decode cX9_relief 78 = .ok (.iastore, 1) := by decide +kernel
theorem dX9_relief_79 : decode cX9_relief 79 = .ok (.aload_n 0, 1) := by decide +kernel
theorem dX9_relief_80 : decode cX9_relief 80 = .ok (.getfield 81, 3) := by decide +kernel
theorem dX9_relief_83 : decode cX9_relief 83 = .ok (.aload_n 0, 1) := by decide +kernel
theorem dX9_relief_84 : decode cX9_relief 84 = .ok (.getfield 183, 3) := by decide +kernel
theorem dX9_relief_87 : decode cX9_relief 87 = .ok (.lload 5, 2) := by decide +kernel
theorem dX9_relief_89 : decode cX9_relief 89 = .ok (.l2i, 1) := by decide +kernel
theorem dX9_relief_90 : decode cX9_relief 90 = .ok (.iastore, 1) := by decide +kernel
theorem dX9_relief_91 : decode cX9_relief 91 = .ok (.aload_n 0, 1) := by decide +kernel
theorem dX9_relief_92 : decode cX9_relief 92 = .ok (.dup, 1) := by decide +kernel
theorem dX9_relief_93 : decode cX9_relief 93 = .ok (.getfield 183, 3) := by decide +kernel
theorem dX9_relief_96 : decode cX9_relief 96 = .ok (.iconst 1, 1) := by decide +kernel
theorem dX9_relief_97 : decode cX9_relief 97 = .ok (.iadd, 1) := by decide +kernel
theorem dX9_relief_98 : decode cX9_relief 98 = .ok (.putfield 183, 3) := by decide +kernel
theorem dX9_relief_101 : decode cX9_relief 101 = .ok (.iconst 1, 1) := by decide +kernel
theorem dX9_relief_102 : decode cX9_relief 102 = .ok (.ireturn, 1) := by decide +kernel
set_option maxRecDepth 20000 in
theorem ggX9_isFlat_X9_isHouse : GoodIn wsX9_isFlat wsX9_isHouse := goodIn_r _ [6, 7, 8, 9, 10, 11, 12, 13, 14, 15, 16, 17, 18, 19, 20, 21, 22, 23, 24, 25, 26, 27, 28, 29, 30, 31, 32, 33, 34, 35, 36, 37, 38, 39, 40, 41, 42, 43, 44, 45, 46, 47, 48, 49, 50] (by decide +kernel) (by decide +kernel)
set_option maxRecDepth 20000 in
theorem gX9_isFlat_X9_isHouse : GoodIn wsX9_isFlat (wsV RX9 126 RX9 yX9_isHouse wsX9_isHouse) := goodIn_app (goodIn_of _ (by decide +kernel)) ggX9_isFlat_X9_isHouse
theorem dX9_isFlat_0 : decode cX9_isFlat 0 = .ok (.aload_n 0, 1) := by decide +kernel
theorem dX9_isFlat_1 : decode cX9_isFlat 1 = .ok (.iload_n 1, 1) := by decide +kernel
theorem dX9_isFlat_2 : decode cX9_isFlat 2 = .ok (.invokevirtual 126, 3) := by decide +kernel
theorem dX9_isFlat_5 : decode cX9_isFlat 5 = .ok (.ifCond .eq 21, 3) := by decide +kernel
theorem dX9_isFlat_8 : decode cX9_isFlat 8 = .ok (.iload_n 2, 1) := by decide +kernel
theorem dX9_isFlat_9 : decode cX9_isFlat 9 = .ok (.ifCond .lt 17, 3) := by decide +kernel
theorem dX9_isFlat_12 : decode cX9_isFlat 12 = .ok (.iload_n 2, 1) := by decide +kernel
theorem dX9_isFlat_13 : decode cX9_isFlat 13 = .ok (.aload_n 0, 1) := by decide +kernel
theorem dX9_isFlat_14 : decode cX9_isFlat 14 = .ok (.getfield 7, 3) := by decide +kernel
theorem dX9_isFlat_17 : decode cX9_isFlat 17 = .ok (.iload_n 1, 1) := by decide +kernel
theorem dX9_isFlat_18 : decode cX9_isFlat 18 = .ok (.iaload, 1) := by decide +kernel
theorem dX9_isFlat_19 : decode cX9_isFlat 19 = .ok (.if_icmp .ge 7, 3) := by decide +kernel
theorem dX9_isFlat_22 : decode cX9_isFlat 22 = .ok (.iconst 1, 1) := by decide +kernel
theorem dX9_isFlat_23 : decode cX9_isFlat 23 = .ok (.goto 4, 3) := by decide +kernel
theorem dX9_isFlat_26 : decode cX9_isFlat 26 = .ok (.iconst 0, 1) := by decide +kernel
theorem dX9_isFlat_27 : decode cX9_isFlat 27 = .ok (.ireturn, 1) := by decide +kernel
set_option maxRecDepth 20000 in
theorem ggX9_weight_X9_isFlat : GoodIn wsX9_weight wsX9_isFlat := goodIn_r _ [6, 7, 8, 9, 10, 5, 11, 12, 13, 14, 15, 16, 17, 18, 19, 20, 21, 22, 23, 24, 25, 26, 27, 28, 29, 30, 31, 32, 33, 34, 35, 36, 37, 38, 39, 40, 41, 42, 43, 44, 45, 46, 47, 48, 49, 50, 51, 52, 53, 54, 55] (by decide +kernel) (by decide +kernel)
set_option maxRecDepth 20000 in
theorem gX9_weight_X9_isFlat : GoodIn wsX9_weight (wsV RX9 186 RX9 yX9_isFlat wsX9_isFlat) := goodIn_app (goodIn_of _ (by decide +kernel)) ggX9_weight_X9_isFlat
theorem dX9_weight_0 : decode cX9_weight 0 = .ok (.aload_n 0, 1) := by decide +kernel
theorem dX9_weight_1 : decode cX9_weight 1 = .ok (.iload_n 1, 1) := by decide +kernel
theorem dX9_weight_2 : decode cX9_weight 2 = .ok (.iload_n 2, 1) := by decide +kernel
theorem dX9_weight_3 : decode cX9_weight 3 = .ok (.invokevirtual 186, 3) := by decide +kernel
theorem dX9_weight_6 : decode cX9_weight 6 = .ok (.ifCond .eq 14, 3) := by decide +kernel
theorem dX9_weight_9 : decode cX9_weight 9 = .ok (.iload_n 3, 1) := by decide +kernel
theorem dX9_weight_10 : decode cX9_weight 10 = .ok (.ifCond .lt 10, 3) := by decide +kernel
theorem dX9_weight_13 : decode cX9_weight 13 = .ok (.iload_n 3, 1) := by decide +kernel
theorem dX9_weight_14 : decode cX9_weight 14 = .ok (.sipush 1000, 3) := by decide +kernel
theorem dX9_weight_17 : decode cX9_weight 17 = .ok (.if_icmp .le 5, 3) := by decide +kernel
theorem dX9_weight_20 : decode cX9_weight 20 = .ok (.iconst 0, 1) := by decide +kernel
theorem dX9_weight_21 : decode cX9_weight 21 = .ok (.ireturn, 1) := by decide +kernel
theorem dX9_weight_22 : decode cX9_weight 22 = .ok (.aload_n 0, 1) := by decide +kernel
theorem dX9_weight_23 : decode cX9_weight 23 = .ok (.getfield 13, 3) := by decide +kernel
theorem dX9_weight_26 : decode cX9_weight 26 = .ok (.bipush 6, 2) := by decide +kernel
theorem dX9_weight_28 : decode cX9_weight 28 = .ok (.iload_n 1, 1) := by decide +kernel
theorem dX9_weight_29 : decode cX9_weight 29 = .ok (.imul, 1) := by decide +kernel
theorem dX9_weight_30 : decode cX9_weight 30 = .ok (.iload_n 2, 1) := by decide +kernel
theorem dX9_weight_31 : decode cX9_weight 31 = .ok (.iadd, 1) := by decide +kernel
theorem dX9_weight_32 : decode cX9_weight 32 = .ok (.iload_n 3, 1) := by decide +kernel
theorem dX9_weight_33 : decode cX9_weight 33 = .ok (.iastore, 1) := by decide +kernel
theorem dX9_weight_34 : decode cX9_weight 34 = .ok (.iconst 1, 1) := by decide +kernel
theorem dX9_weight_35 : decode cX9_weight 35 = .ok (.ireturn, 1) := by decide +kernel
theorem dX9_isRelieved_0 : decode cX9_isRelieved 0 = .ok (.iconst 0, 1) := by decide +kernel
theorem dX9_isRelieved_1 : decode cX9_isRelieved 1 = .ok (.istore_n 2, 1) := by decide +kernel
theorem dX9_isRelieved_2 : decode cX9_isRelieved 2 = .ok (.iload_n 2, 1) := by decide +kernel
theorem dX9_isRelieved_3 : decode cX9_isRelieved 3 = .ok (.aload_n 0, 1) := by decide +kernel
theorem dX9_isRelieved_4 : decode cX9_isRelieved 4 = .ok (.getfield 183, 3) := by decide +kernel
theorem dX9_isRelieved_7 : decode cX9_isRelieved 7 = .ok (.if_icmp .ge 71, 3) := by decide +kernel
theorem dX9_isRelieved_10 : decode cX9_isRelieved 10 = .ok (.aload_n 0, 1) := by decide +kernel
theorem dX9_isRelieved_11 : decode cX9_isRelieved 11 = .ok (.getfield 72, 3) := by decide +kernel
theorem dX9_isRelieved_14 : decode cX9_isRelieved 14 = .ok (.iload_n 2, 1) := by decide +kernel
theorem dX9_isRelieved_15 : decode cX9_isRelieved 15 = .ok (.iaload, 1) := by decide +kernel
theorem dX9_isRelieved_16 : decode cX9_isRelieved 16 = .ok (.aload_n 0, 1) := by decide +kernel
theorem dX9_isRelieved_17 : decode cX9_isRelieved 17 = .ok (.getfield 16, 3) := by decide +kernel
theorem dX9_isRelieved_20 : decode cX9_isRelieved 20 = .ok (.iload_n 1, 1) := by decide +kernel
theorem dX9_isRelieved_21 : decode cX9_isRelieved 21 = .ok (.iaload, 1) := by decide +kernel
theorem dX9_isRelieved_22 : decode cX9_isRelieved 22 = .ok (.if_icmp .ne 50, 3) := by decide +kernel
theorem dX9_isRelieved_25 : decode cX9_isRelieved 25 = .ok (.aload_n 0, 1) := by decide +kernel
theorem dX9_isRelieved_26 : decode cX9_isRelieved 26 = .ok (.getfield 75, 3) := by decide +kernel
theorem dX9_isRelieved_29 : decode cX9_isRelieved 29 = .ok (.iload_n 2, 1) := by decide +kernel
theorem dX9_isRelieved_30 : decode cX9_isRelieved 30 = .ok (.iaload, 1) := by decide +kernel
theorem dX9_isRelieved_31 : decode cX9_isRelieved 31 = .ok (.aload_n 0, 1) := by decide +kernel
theorem dX9_isRelieved_32 : decode cX9_isRelieved 32 = .ok (.getfield 19, 3) := by decide +kernel
theorem dX9_isRelieved_35 : decode cX9_isRelieved 35 = .ok (.iload_n 1, 1) := by decide +kernel
theorem dX9_isRelieved_36 : decode cX9_isRelieved 36 = .ok (.iaload, 1) := by decide +kernel
theorem dX9_isRelieved_37 : decode cX9_isRelieved 37 = .ok (.if_icmp .ne 35, 3) := by decide +kernel
theorem dX9_isRelieved_40 : decode cX9_isRelieved 40 = .ok (.aload_n 0, 1) := by decide +kernel
theorem dX9_isRelieved_41 : decode cX9_isRelieved 41 = .ok (.getfield 78, 3) := by decide +kernel
theorem dX9_isRelieved_44 : decode cX9_isRelieved 44 = .ok (.iload_n 2, 1) := by decide +kernel
theorem dX9_isRelieved_45 : decode cX9_isRelieved 45 = .ok (.iaload, 1) := by decide +kernel
theorem dX9_isRelieved_46 : decode cX9_isRelieved 46 = .ok (.aload_n 0, 1) := by decide +kernel
theorem dX9_isRelieved_47 : decode cX9_isRelieved 47 = .ok (.getfield 22, 3) := by decide +kernel
theorem dX9_isRelieved_50 : decode cX9_isRelieved 50 = .ok (.iload_n 1, 1) := by decide +kernel
theorem dX9_isRelieved_51 : decode cX9_isRelieved 51 = .ok (.iaload, 1) := by decide +kernel
theorem dX9_isRelieved_52 : decode cX9_isRelieved 52 = .ok (.if_icmp .gt 20, 3) := by decide +kernel
theorem dX9_isRelieved_55 : decode cX9_isRelieved 55 = .ok (.aload_n 0, 1) := by decide +kernel
theorem dX9_isRelieved_56 : decode cX9_isRelieved 56 = .ok (.getfield 22, 3) := by decide +kernel
theorem dX9_isRelieved_59 : decode cX9_isRelieved 59 = .ok (.iload_n 1, 1) := by decide +kernel
theorem dX9_isRelieved_60 : decode cX9_isRelieved 60 = .ok (.iaload, 1) := by decide +kernel
theorem dX9_isRelieved_61 : decode cX9_isRelieved 61 = .ok (.aload_n 0, 1) := by decide +kernel
theorem dX9_isRelieved_62 : decode cX9_isRelieved 62 = .ok (.getfield 81, 3) := by decide +kernel
theorem dX9_isRelieved_65 : decode cX9_isRelieved 65 = .ok (.iload_n 2, 1) := by decide +kernel
theorem dX9_isRelieved_66 : decode cX9_isRelieved 66 = .ok (.iaload, 1) := by decide +kernel
theorem dX9_isRelieved_67 : decode cX9_isRelieved 67 = .ok (.if_icmp .gt 5, 3) := by decide +kernel
theorem dX9_isRelieved_70 : decode cX9_isRelieved 70 = .ok (.iconst 1, 1) := by decide +kernel
theorem dX9_isRelieved_71 : decode cX9_isRelieved 71 = .ok (.ireturn, 1) := by decide +kernel
theorem dX9_isRelieved_72 : decode cX9_isRelieved 72 = .ok (.iinc 2 1, 3) := by decide +kernel
theorem dX9_isRelieved_75 : decode cX9_isRelieved 75 = .ok (.goto (-73), 3) := by decide +kernel
theorem dX9_isRelieved_78 : decode cX9_isRelieved 78 = .ok (.iconst 0, 1) := by decide +kernel
theorem dX9_isRelieved_79 : decode cX9_isRelieved 79 = .ok (.ireturn, 1) := by decide +kernel
theorem dX9_feeOf_0 : decode cX9_feeOf 0 = .ok (.lconst 0, 1) := by decide +kernel
theorem dX9_feeOf_1 : decode cX9_feeOf 1 = .ok (.lstore_n 3, 1) := by decide +kernel
theorem dX9_feeOf_2 : decode cX9_feeOf 2 = .ok (.iconst 0, 1) := by decide +kernel
theorem dX9_feeOf_3 : decode cX9_feeOf 3 = .ok (.istore 5, 2) := by decide +kernel
theorem dX9_feeOf_5 : decode cX9_feeOf 5 = .ok (.aload_n 0, 1) := by decide +kernel
theorem dX9_feeOf_6 : decode cX9_feeOf 6 = .ok (.getfield 53, 3) := by decide +kernel
theorem dX9_feeOf_9 : decode cX9_feeOf 9 = .ok (.iload_n 1, 1) := by decide +kernel
theorem dX9_feeOf_10 : decode cX9_feeOf 10 = .ok (.iaload, 1) := by decide +kernel
theorem dX9_feeOf_11 : decode cX9_feeOf 11 = .ok (.istore 6, 2) := by decide +kernel
theorem dX9_feeOf_13 : decode cX9_feeOf 13 = .ok (.iconst 0, 1) := by decide +kernel
theorem dX9_feeOf_14 : decode cX9_feeOf 14 = .ok (.istore 7, 2) := by decide +kernel
theorem dX9_feeOf_16 : decode cX9_feeOf 16 = .ok (.iload 7, 2) := by decide +kernel
theorem dX9_feeOf_18 : decode cX9_feeOf 18 = .ok (.aload_n 0, 1) := by decide +kernel
theorem dX9_feeOf_19 : decode cX9_feeOf 19 = .ok (.getfield 59, 3) := by decide +kernel
theorem dX9_feeOf_22 : decode cX9_feeOf 22 = .ok (.iload_n 1, 1) := by decide +kernel
theorem dX9_feeOf_23 : decode cX9_feeOf 23 = .ok (.iaload, 1) := by decide +kernel
theorem dX9_feeOf_24 : decode cX9_feeOf 24 = .ok (.if_icmp .ge 80, 3) := by decide +kernel
theorem dX9_feeOf_27 : decode cX9_feeOf 27 = .ok (.iload 5, 2) := by decide +kernel
theorem dX9_feeOf_29 : decode cX9_feeOf 29 = .ok (.iload_n 2, 1) := by decide +kernel
theorem dX9_feeOf_30 : decode cX9_feeOf 30 = .ok (.if_icmp .ge 74, 3) := by decide +kernel
theorem dX9_feeOf_33 : decode cX9_feeOf 33 = .ok (.aload_n 0, 1) := by decide +kernel
theorem dX9_feeOf_34 : decode cX9_feeOf 34 = .ok (.getfield 62, 3) := by decide +kernel
theorem dX9_feeOf_37 : decode cX9_feeOf 37 = .ok (.bipush 100, 2) := by decide +kernel
theorem dX9_feeOf_39 : decode cX9_feeOf 39 = .ok (.iload_n 1, 1) := by decide +kernel
theorem dX9_feeOf_40 : decode cX9_feeOf 40 = .ok (.imul, 1) := by decide +kernel
theorem dX9_feeOf_41 : decode cX9_feeOf 41 = .ok (.iload 7, 2) := by decide +kernel
theorem dX9_feeOf_43 : decode cX9_feeOf 43 = .ok (.iadd, 1) := by decide +kernel
theorem dX9_feeOf_44 : decode cX9_feeOf 44 = .ok (.iaload, 1) := by decide +kernel
theorem dX9_feeOf_45 : decode cX9_feeOf 45 = .ok (.iload_n 2, 1) := by decide +kernel
theorem dX9_feeOf_46 : decode cX9_feeOf 46 = .ok (.if_icmp .ge 18, 3) := by decide +kernel
theorem dX9_feeOf_49 : decode cX9_feeOf 49 = .ok (.aload_n 0, 1) := by decide +kernel
theorem dX9_feeOf_50 : decode cX9_feeOf 50 = .ok (.getfield 62, 3) := by decide +kernel
theorem dX9_feeOf_53 : decode cX9_feeOf 53 = .ok (.bipush 100, 2) := by decide +kernel
theorem dX9_feeOf_55 : decode cX9_feeOf 55 = .ok (.iload_n 1, 1) := by decide +kernel
theorem dX9_feeOf_56 : decode cX9_feeOf 56 = .ok (.imul, 1) := by decide +kernel
theorem dX9_feeOf_57 : decode cX9_feeOf 57 = .ok (.iload 7, 2) := by decide +kernel
theorem dX9_feeOf_59 : decode cX9_feeOf 59 = .ok (.iadd, 1) := by decide +kernel
theorem dX9_feeOf_60 : decode cX9_feeOf 60 = .ok (.iaload, 1) := by decide +kernel
theorem dX9_feeOf_61 : decode cX9_feeOf 61 = .ok (.goto 4, 3) := by decide +kernel
theorem dX9_feeOf_64 : decode cX9_feeOf 64 = .ok (.iload_n 2, 1) := by decide +kernel
theorem dX9_feeOf_65 : decode cX9_feeOf 65 = .ok (.istore 8, 2) := by decide +kernel
theorem dX9_feeOf_67 : decode cX9_feeOf 67 = .ok (.lload_n 3, 1) := by decide +kernel
theorem dX9_feeOf_68 : decode cX9_feeOf 68 = .ok (.iload 8, 2) := by decide +kernel
theorem dX9_feeOf_70 : decode cX9_feeOf 70 = .ok (.iload 5, 2) := by decide +kernel
theorem dX9_feeOf_72 : decode cX9_feeOf 72 = .ok (.isub, 1) := by decide +kernel
theorem dX9_feeOf_73 : decode cX9_feeOf 73 = .ok (.i2l, 1) := by decide +kernel
theorem dX9_feeOf_74 : decode cX9_feeOf 74 = .ok (.iload 6, 2) := by decide +kernel
theorem dX9_feeOf_76 : decode cX9_feeOf 76 = .ok (.i2l, 1) := by decide +kernel
theorem dX9_feeOf_77 : decode cX9_feeOf 77 = .ok (.lmul, 1) := by decide +kernel
theorem dX9_feeOf_78 : decode cX9_feeOf 78 = .ok (.ladd, 1) := by decide +kernel
theorem dX9_feeOf_79 : decode cX9_feeOf 79 = .ok (.lstore_n 3, 1) := by decide +kernel
theorem dX9_feeOf_80 : decode cX9_feeOf 80 = .ok (.iload 8, 2) := by decide +kernel
theorem dX9_feeOf_82 : decode cX9_feeOf 82 = .ok (.istore 5, 2) := by decide +kernel
theorem dX9_feeOf_84 : decode cX9_feeOf 84 = .ok (.aload_n 0, 1) := by decide +kernel
theorem dX9_feeOf_85 : decode cX9_feeOf 85 = .ok (.getfield 65, 3) := by decide +kernel
theorem dX9_feeOf_88 : decode cX9_feeOf 88 = .ok (.bipush 100, 2) := by decide +kernel
theorem dX9_feeOf_90 : decode cX9_feeOf 90 = .ok (.iload_n 1, 1) := by decide +kernel
theorem dX9_feeOf_91 : decode cX9_feeOf 91 = .ok (.imul, 1) := by decide +kernel
theorem dX9_feeOf_92 : decode cX9_feeOf 92 = .ok (.iload 7, 2) := by decide +kernel
theorem dX9_feeOf_94 : decode cX9_feeOf 94 = .ok (.iadd, 1) := by decide +kernel
theorem dX9_feeOf_95 : decode cX9_feeOf 95 = .ok (.iaload, 1) := by decide +kernel
theorem dX9_feeOf_96 : decode cX9_feeOf 96 = .ok (.istore 6, 2) := by decide +kernel
theorem dX9_feeOf_98 : decode cX9_feeOf 98 = .ok (.iinc 7 1, 3) := by decide +kernel
theorem dX9_feeOf_101 : decode cX9_feeOf 101 = .ok (.goto (-85), 3) := by decide +kernel
theorem dX9_feeOf_104 : decode cX9_feeOf 104 = .ok (.lload_n 3, 1) := by decide +kernel
theorem dX9_feeOf_105 : decode cX9_feeOf 105 = .ok (.iload_n 2, 1) := by decide +kernel
theorem dX9_feeOf_106 : decode cX9_feeOf 106 = .ok (.iload 5, 2) := by decide +kernel
theorem dX9_feeOf_108 : decode cX9_feeOf 108 = .ok (.isub, 1) := by decide +kernel
theorem dX9_feeOf_109 : decode cX9_feeOf 109 = .ok (.i2l, 1) := by decide +kernel
theorem dX9_feeOf_110 : decode cX9_feeOf 110 = .ok (.iload 6, 2) := by decide +kernel
theorem dX9_feeOf_112 : decode cX9_feeOf 112 = .ok (.i2l, 1) := by decide +kernel
theorem dX9_feeOf_113 : decode cX9_feeOf 113 = .ok (.lmul, 1) := by decide +kernel
theorem dX9_feeOf_114 : decode cX9_feeOf 114 = .ok (.ladd, 1) := by decide +kernel
theorem dX9_feeOf_115 : decode cX9_feeOf 115 = .ok (.lstore_n 3, 1) := by decide +kernel
theorem dX9_feeOf_116 : decode cX9_feeOf 116 = .ok (.lload_n 3, 1) := by decide +kernel
theorem dX9_feeOf_117 : decode cX9_feeOf 117 = .ok (.aload_n 0, 1) := by decide +kernel
theorem dX9_feeOf_118 : decode cX9_feeOf 118 = .ok (.getfield 50, 3) := by decide +kernel
theorem dX9_feeOf_121 : decode cX9_feeOf 121 = .ok (.iload_n 1, 1) := by decide +kernel
theorem dX9_feeOf_122 : decode cX9_feeOf 122 = .ok (.iaload, 1) := by decide +kernel
theorem dX9_feeOf_123 : decode cX9_feeOf 123 = .ok (.i2l, 1) := by decide +kernel
theorem dX9_feeOf_124 : decode cX9_feeOf 124 = .ok (.ldiv, 1) := by decide +kernel
theorem dX9_feeOf_125 : decode cX9_feeOf 125 = .ok (.lstore 7, 2) := by decide +kernel
theorem dX9_feeOf_127 : decode cX9_feeOf 127 = .ok (.aload_n 0, 1) := by decide +kernel
theorem dX9_feeOf_128 : decode cX9_feeOf 128 = .ok (.getfield 56, 3) := by decide +kernel
theorem dX9_feeOf_131 : decode cX9_feeOf 131 = .ok (.iload_n 1, 1) := by decide +kernel
theorem dX9_feeOf_132 : decode cX9_feeOf 132 = .ok (.iaload, 1) := by decide +kernel
theorem dX9_feeOf_133 : decode cX9_feeOf 133 = .ok (.ifCond .lt 26, 3) := by decide +kernel
theorem dX9_feeOf_136 : decode cX9_feeOf 136 = .ok (.lload 7, 2) := by decide +kernel
theorem dX9_feeOf_138 : decode cX9_feeOf 138 = .ok (.aload_n 0, 1) := by decide +kernel
theorem dX9_feeOf_139 : decode cX9_feeOf 139 = .ok (.getfield 56, 3) := by decide +kernel
theorem dX9_feeOf_142 : decode cX9_feeOf 142 = .ok (.iload_n 1, 1) := by decide +kernel
theorem dX9_feeOf_143 : decode cX9_feeOf 143 = .ok (.iaload, 1) := by decide +kernel
theorem dX9_feeOf_144 : decode cX9_feeOf 144 = .ok (.i2l, 1) := by decide +kernel
theorem dX9_feeOf_145 : decode cX9_feeOf 145 = .ok (.lcmp, 1) := by decide +kernel
theorem dX9_feeOf_146 : decode cX9_feeOf 146 = .ok (.ifCond .le 13, 3) := by decide +kernel
theorem dX9_feeOf_149 : decode cX9_feeOf 149 = .ok (.aload_n 0, 1) := by decide +kernel
theorem dX9_feeOf_150 : decode cX9_feeOf 150 = .ok (.getfield 56, 3) := by decide +kernel
theorem dX9_feeOf_153 : decode cX9_feeOf 153 = .ok (.iload_n 1, 1) := by decide +kernel
theorem dX9_feeOf_154 : decode cX9_feeOf 154 = .ok (.iaload, 1) := by decide +kernel
theorem dX9_feeOf_155 : decode cX9_feeOf 155 = .ok (.i2l, 1) := by decide +kernel
theorem dX9_feeOf_156 : decode cX9_feeOf 156 = .ok (.goto 5, 3) := by decide +kernel
theorem dX9_feeOf_159 : decode cX9_feeOf 159 = .ok (.lload 7, 2) := by decide +kernel
theorem dX9_feeOf_161 : decode cX9_feeOf 161 = .ok (.lreturn, 1) := by decide +kernel
theorem dX9_editionOf_0 : decode cX9_editionOf 0 = .ok (.iconst (-1), 1) := by decide +kernel
theorem dX9_editionOf_1 : decode cX9_editionOf 1 = .ok (.istore 4, 2) := by decide +kernel
theorem dX9_editionOf_3 : decode cX9_editionOf 3 = .ok (.iconst 0, 1) := by decide +kernel
theorem dX9_editionOf_4 : decode cX9_editionOf 4 = .ok (.istore 5, 2) := by decide +kernel
theorem dX9_editionOf_6 : decode cX9_editionOf 6 = .ok (.iload 5, 2) := by decide +kernel
theorem dX9_editionOf_8 : decode cX9_editionOf 8 = .ok (.aload_n 0, 1) := by decide +kernel
theorem dX9_editionOf_9 : decode cX9_editionOf 9 = .ok (.getfield 149, 3) := by decide +kernel
theorem dX9_editionOf_12 : decode cX9_editionOf 12 = .ok (.if_icmp .ge 67, 3) := by decide +kernel
theorem dX9_editionOf_15 : decode cX9_editionOf 15 = .ok (.aload_n 0, 1) := by decide +kernel
theorem dX9_editionOf_16 : decode cX9_editionOf 16 = .ok (.getfield 43, 3) := by decide +kernel
theorem dX9_editionOf_19 : decode cX9_editionOf 19 = .ok (.iload 5, 2) := by decide +kernel
theorem dX9_editionOf_21 : decode cX9_editionOf 21 = .ok (.iaload, 1) := by decide +kernel
theorem dX9_editionOf_22 : decode cX9_editionOf 22 = .ok (.i2l, 1) := by decide +kernel
theorem dX9_editionOf_23 : decode cX9_editionOf 23 = .ok (.lload_n 2, 1) := by decide +kernel
theorem dX9_editionOf_24 : decode cX9_editionOf 24 = .ok (.lcmp, 1) := by decide +kernel
theorem dX9_editionOf_25 : decode cX9_editionOf 25 = .ok (.ifCond .gt 48, 3) := by decide +kernel
theorem dX9_editionOf_28 : decode cX9_editionOf 28 = .ok (.aload_n 0, 1) := by decide +kernel
theorem dX9_editionOf_29 : decode cX9_editionOf 29 = .ok (.getfield 40, 3) := by decide +kernel
theorem dX9_editionOf_32 : decode cX9_editionOf 32 = .ok (.iload 5, 2) := by decide +kernel
theorem dX9_editionOf_34 : decode cX9_editionOf 34 = .ok (.iaload, 1) := by decide +kernel
theorem dX9_editionOf_35 : decode cX9_editionOf 35 = .ok (.aload_n 0, 1) := by decide +kernel
theorem dX9_editionOf_36 : decode cX9_editionOf 36 = .ok (.getfield 22, 3) := by decide +kernel
theorem dX9_editionOf_39 : decode cX9_editionOf 39 = .ok (.iload_n 1, 1) := by decide +kernel
theorem dX9_editionOf_40 : decode cX9_editionOf 40 = .ok (.iaload, 1) := by decide +kernel
theorem dX9_editionOf_41 : decode cX9_editionOf 41 = .ok (.if_icmp .le 6, 3) := by decide +kernel
theorem dX9_editionOf_44 : decode cX9_editionOf 44 = .ok (.goto 29, 3) := by decide +kernel
theorem dX9_editionOf_47 : decode cX9_editionOf 47 = .ok (.iload 4, 2) := by decide +kernel
theorem dX9_editionOf_49 : decode cX9_editionOf 49 = .ok (.ifCond .lt 20, 3) := by decide +kernel
theorem dX9_editionOf_52 : decode cX9_editionOf 52 = .ok (.aload_n 0, 1) := by decide +kernel
theorem dX9_editionOf_53 : decode cX9_editionOf 53 = .ok (.getfield 40, 3) := by decide +kernel
theorem dX9_editionOf_56 : decode cX9_editionOf 56 = .ok (.iload 5, 2) := by decide +kernel
theorem dX9_editionOf_58 : decode cX9_editionOf 58 = .ok (.iaload, 1) := by decide +kernel
theorem dX9_editionOf_59 : decode cX9_editionOf 59 = .ok (.aload_n 0, 1) := by decide +kernel
theorem dX9_editionOf_60 : decode cX9_editionOf 60 = .ok (.getfield 40, 3) := by decide +kernel
theorem dX9_editionOf_63 : decode cX9_editionOf 63 = .ok (.iload 4, 2) := by decide +kernel
theorem dX9_editionOf_65 : decode cX9_editionOf 65 = .ok (.iaload, 1) := by decide +kernel
theorem dX9_editionOf_66 : decode cX9_editionOf 66 = .ok (.if_icmp .lt 7, 3) := by decide +kernel
theorem dX9_editionOf_69 : decode cX9_editionOf 69 = .ok (.iload 5, 2) := by decide +kernel
theorem dX9_editionOf_71 : decode cX9_editionOf 71 = .ok (.istore 4, 2) := by decide +kernel
theorem dX9_editionOf_73 : decode cX9_editionOf 73 = .ok (.iinc 5 1, 3) := by decide +kernel
theorem dX9_editionOf_76 : decode cX9_editionOf 76 = .ok (.goto (-70), 3) := by decide +kernel
theorem dX9_editionOf_79 : decode cX9_editionOf 79 = .ok (.iload 4, 2) := by decide +kernel
theorem dX9_editionOf_81 : decode cX9_editionOf 81 = .ok (.ireturn, 1) := by decide +kernel
set_option maxRecDepth 20000 in
theorem ggX9_findLines_X9_isRelieved : GoodIn wsX9_findLines wsX9_isRelieved := goodIn_r _ [19, 20, 21, 3, 22, 6, 23, 4, 24, 41, 42, 43, 44, 45, 46, 47, 48, 49, 50, 51, 52, 53, 54, 55, 56, 57, 58, 59, 60, 61, 62, 63, 64, 65, 66, 67, 68, 69, 70, 71, 72, 73, 74, 75, 76, 77, 78, 79, 80, 81, 82, 83] (by decide +kernel) (by decide +kernel)
set_option maxRecDepth 20000 in
theorem gX9_findLines_X9_isRelieved : GoodIn wsX9_findLines (wsV RX9 193 RX9 yX9_isRelieved wsX9_isRelieved) := goodIn_app (goodIn_of _ (by decide +kernel)) ggX9_findLines_X9_isRelieved
set_option maxRecDepth 20000 in
theorem ggX9_findLines_X9_editionOf : GoodIn wsX9_findLines wsX9_editionOf := goodIn_r _ [28, 29, 30, 31, 4, 41, 42, 43, 44, 45, 46, 47, 48, 49, 50, 51, 52, 53, 54, 55, 56, 57, 58, 59, 60, 61, 62, 63, 64, 65, 66, 67, 68, 69, 70, 71, 72, 73, 74, 75, 76, 77, 78, 79, 80, 81, 82, 83] (by decide +kernel) (by decide +kernel)
set_option maxRecDepth 20000 in
theorem gX9_findLines_X9_editionOf : GoodIn wsX9_findLines (wsV RX9 196 RX9 yX9_editionOf wsX9_editionOf) := goodIn_app (goodIn_of _ (by decide +kernel)) ggX9_findLines_X9_editionOf
set_option maxRecDepth 20000 in
theorem ggX9_findLines_X9_feeOf : GoodIn wsX9_findLines wsX9_feeOf := goodIn_r _ [35, 36, 37, 38, 39, 8, 40, 41, 42, 43, 44, 45, 46, 47, 48, 49, 50, 51, 52, 53, 54, 55, 56, 57, 58, 59, 60, 61, 62, 63, 64, 65, 66, 67, 68, 69, 70, 71, 72, 73, 74, 75, 76, 77, 78, 79, 80, 81, 82, 83] (by decide +kernel) (by decide +kernel)
set_option maxRecDepth 20000 in
theorem gX9_findLines_X9_feeOf : GoodIn wsX9_findLines (wsV RX9 200 RX9 yX9_feeOf wsX9_feeOf) := goodIn_app (goodIn_of _ (by decide +kernel)) ggX9_findLines_X9_feeOf
theorem dX9_findLines_0 : decode cX9_findLines 0 = .ok (.aload_n 0, 1) := by decide +kernel
theorem dX9_findLines_1 : decode cX9_findLines 1 = .ok (.iconst 0, 1) := by decide +kernel
theorem dX9_findLines_2 : decode cX9_findLines 2 = .ok (.putfield 190, 3) := by decide +kernel
theorem dX9_findLines_5 : decode cX9_findLines 5 = .ok (.iconst 0, 1) := by decide +kernel
theorem dX9_findLines_6 : decode cX9_findLines 6 = .ok (.istore 5, 2) := by decide +kernel
theorem dX9_findLines_8 : decode cX9_findLines 8 = .ok (.iload 5, 2) := by decide +kernel
theorem dX9_findLines_10 : decode cX9_findLines 10 = .ok (.aload_n 0, 1) := by decide +kernel
theorem dX9_findLines_11 : decode cX9_findLines 11 = .ok (.getfield 123, 3) := by decide +kernel
theorem dX9_findLines_14 : decode cX9_findLines 14 = .ok (.if_icmp .ge 230, 3) := by decide +kernel
theorem dX9_findLines_17 : decode cX9_findLines 17 = .ok (.aload_n 0, 1) := by decide +kernel
theorem dX9_findLines_18 : decode cX9_findLines 18 = .ok (.getfield 16, 3) := by decide +kernel
theorem dX9_findLines_21 : decode cX9_findLines 21 = .ok (.iload 5, 2) := by decide +kernel
theorem dX9_findLines_23 : decode cX9_findLines 23 = .ok (.iaload, 1) := by decide +kernel
theorem dX9_findLines_24 : decode cX9_findLines 24 = .ok (.iload_n 1, 1) := by decide +kernel
theorem dX9_findLines_25 : decode cX9_findLines 25 = .ok (.if_icmp .ne 213, 3) := by decide +kernel
theorem dX9_findLines_28 : decode cX9_findLines 28 = .ok (.aload_n 0, 1) := by decide +kernel
theorem dX9_findLines_29 : decode cX9_findLines 29 = .ok (.getfield 22, 3) := by decide +kernel
theorem dX9_findLines_32 : decode cX9_findLines 32 = .ok (.iload 5, 2) := by decide +kernel
theorem dX9_findLines_34 : decode cX9_findLines 34 = .ok (.iaload, 1) := by decide +kernel
theorem dX9_findLines_35 : decode cX9_findLines 35 = .ok (.bipush 30, 2) := by decide +kernel
theorem dX9_findLines_37 : decode cX9_findLines 37 = .ok (.idiv, 1) := by decide +kernel
theorem dX9_findLines_38 : decode cX9_findLines 38 = .ok (.iload_n 2, 1) := by decide +kernel
theorem dX9_findLines_39 : decode cX9_findLines 39 = .ok (.if_icmp .ne 199, 3) := by decide +kernel
theorem dX9_findLines_42 : decode cX9_findLines 42 = .ok (.aload_n 0, 1) := by decide +kernel
theorem dX9_findLines_43 : decode cX9_findLines 43 = .ok (.getfield 28, 3) := by decide +kernel
theorem dX9_findLines_46 : decode cX9_findLines 46 = .ok (.iload 5, 2) := by decide +kernel
theorem dX9_findLines_48 : decode cX9_findLines 48 = .ok (.iaload, 1) := by decide +kernel
theorem dX9_findLines_49 : decode cX9_findLines 49 = .ok (.i2l, 1) := by decide +kernel
theorem dX9_findLines_50 : decode cX9_findLines 50 = .ok (.lload_n 3, 1) := by decide +kernel
theorem dX9_findLines_51 : decode cX9_findLines 51 = .ok (.lcmp, 1) := by decide +kernel
theorem dX9_findLines_52 : decode cX9_findLines 52 = .ok (.ifCond .le 6, 3) := by decide +kernel
theorem dX9_findLines_55 : decode cX9_findLines 55 = .ok (.goto 183, 3) := by decide +kernel
theorem dX9_findLines_58 : decode cX9_findLines 58 = .ok (.aload_n 0, 1) := by decide +kernel
theorem dX9_findLines_59 : decode cX9_findLines 59 = .ok (.iload 5, 2) := by decide +kernel
theorem dX9_findLines_61 : decode cX9_findLines 61 = .ok (.invokevirtual 193, 3) := by decide +kernel
theorem dX9_findLines_64 : decode cX9_findLines 64 = .ok (.istore 6, 2) := by decide +kernel
theorem dX9_findLines_66 : decode cX9_findLines 66 = .ok (.iload 6, 2) := by decide +kernel
theorem dX9_findLines_68 : decode cX9_findLines 68 = .ok (.ifCond .eq 7, 3) := by decide +kernel
theorem dX9_findLines_71 : decode cX9_findLines 71 = .ok (.iconst (-1), 1) := by decide +kernel
theorem dX9_findLines_72 : decode cX9_findLines 72 = .ok (.goto 10, 3) := by decide +kernel
theorem dX9_findLines_75 : decode cX9_findLines 75 = .ok (.aload_n 0, 1) := by decide +kernel
theorem dX9_findLines_76 : decode cX9_findLines 76 = .ok (.iload 5, 2) := by decide +kernel
theorem dX9_findLines_78 : decode cX9_findLines 78 = .ok (.lload_n 3, 1) := by decide +kernel
theorem dX9_findLines_79 : decode cX9_findLines 79 = .ok (.invokevirtual 196, 3) := by decide +kernel
theorem dX9_findLines_82 : decode cX9_findLines 82 = .ok (.istore 7, 2) := by decide +kernel
theorem dX9_findLines_84 : decode cX9_findLines 84 = .ok (.iload 7, 2) := by decide +kernel
theorem dX9_findLines_86 : decode cX9_findLines 86 = .ok (.ifCond .ge 7, 3) := by decide +kernel
theorem dX9_findLines_89 : decode cX9_findLines 89 = .ok (.iconst 0, 1) := by decide +kernel
theorem dX9_findLines_90 : decode cX9_findLines 90 = .ok (.goto 16, 3) := by decide +kernel
theorem dX9_findLines_93 : decode cX9_findLines 93 = .ok (.bipush 6, 2) := by decide +kernel
theorem dX9_findLines_95 : decode cX9_findLines 95 = .ok (.iload 7, 2) := by decide +kernel
theorem dX9_findLines_97 : decode cX9_findLines 97 = .ok (.imul, 1) := by decide +kernel
theorem dX9_findLines_98 : decode cX9_findLines 98 = .ok (.aload_n 0, 1) := by decide +kernel
theorem dX9_findLines_99 : decode cX9_findLines 99 = .ok (.getfield 19, 3) := by decide +kernel
theorem dX9_findLines_102 : decode cX9_findLines 102 = .ok (.iload 5, 2) := by decide +kernel
theorem dX9_findLines_104 : decode cX9_findLines 104 = .ok (.iaload, 1) := by decide +kernel
theorem dX9_findLines_105 : decode cX9_findLines 105 = .ok (.iadd, 1) := by decide +kernel
theorem dX9_findLines_106 : decode cX9_findLines 106 = .ok (.istore 8, 2) := by decide +kernel
theorem dX9_findLines_108 : decode cX9_findLines 108 = .ok (.iload 6, 2) := by decide +kernel
theorem dX9_findLines_110 : decode cX9_findLines 110 = .ok (.ifCond .eq 7, 3) := by decide +kernel
theorem dX9_findLines_113 : decode cX9_findLines 113 = .ok (.iconst 0, 1) := by decide +kernel
theorem dX9_findLines_114 : decode cX9_findLines 114 = .ok (.goto 37, 3) := by decide +kernel
theorem dX9_findLines_117 : decode cX9_findLines 117 = .ok (.iload 7, 2) := by decide +kernel
theorem dX9_findLines_119 : decode cX9_findLines 119 = .ok (.ifCond .lt 13, 3) := by decide +kernel
theorem dX9_findLines_122 : decode cX9_findLines 122 = .ok (.aload_n 0, 1) := by decide +kernel
theorem dX9_findLines_123 : decode cX9_findLines 123 = .ok (.getfield 46, 3) := by decide +kernel
theorem dX9_findLines_126 : decode cX9_findLines 126 = .ok (.iload 8, 2) := by decide +kernel
theorem dX9_findLines_128 : decode cX9_findLines 128 = .ok (.baload, 1) := by decide +kernel
theorem dX9_findLines_129 : decode cX9_findLines 129 = .ok (.ifCond .ne 7, 3) := by decide +kernel
theorem dX9_findLines_132 : decode cX9_findLines 132 = .ok (.iconst 1, 1) := by decide +kernel
theorem dX9_findLines_133 : decode cX9_findLines 133 = .ok (.goto 18, 3) := by decide +kernel
theorem dX9_findLines_136 : decode cX9_findLines 136 = .ok (.aload_n 0, 1) := by decide +kernel
theorem dX9_findLines_137 : decode cX9_findLines 137 = .ok (.getfield 50, 3) := by decide +kernel
theorem dX9_findLines_140 : decode cX9_findLines 140 = .ok (.iload 8, 2) := by decide +kernel
theorem dX9_findLines_142 : decode cX9_findLines 142 = .ok (.iaload, 1) := by decide +kernel
theorem dX9_findLines_143 : decode cX9_findLines 143 = .ok (.ifCond .ne 7, 3) := by decide +kernel
theorem dX9_findLines_146 : decode cX9_findLines 146 = .ok (.iconst 2, 1) := by decide +kernel
theorem dX9_findLines_147 : decode cX9_findLines 147 = .ok (.goto 4, 3) := by decide +kernel
theorem dX9_findLines_150 : decode cX9_findLines 150 = .ok (.iconst 0, 1) := by decide +kernel
theorem dX9_findLines_151 : decode cX9_findLines 151 = .ok (.istore 9, 2) := by decide +kernel
theorem dX9_findLines_153 : decode cX9_findLines 153 = .ok (.aload_n 0, 1) := by decide +kernel
theorem dX9_findLines_154 : decode cX9_findLines 154 = .ok (.getfield 87, 3) := by decide +kernel
theorem dX9_findLines_157 : decode cX9_findLines 157 = .ok (.aload_n 0, 1) := by decide +kernel
theorem dX9_findLines_158 : decode cX9_findLines 158 = .ok (.getfield 190, 3) := by decide +kernel
theorem dX9_findLines_161 : decode cX9_findLines 161 = .ok (.iload 5, 2) := by decide +kernel
theorem dX9_findLines_163 : decode cX9_findLines 163 = .ok (.iastore, 1) := by decide +kernel
theorem dX9_findLines_164 : decode cX9_findLines 164 = .ok (.aload_n 0, 1) := by decide +kernel
theorem dX9_findLines_165 : decode cX9_findLines 165 = .ok (.getfield 93, 3) := by decide +kernel
theorem dX9_findLines_168 : decode cX9_findLines 168 = .ok (.aload_n 0, 1) := by decide +kernel
theorem dX9_findLines_169 : decode cX9_findLines 169 = .ok (.getfield 190, 3) := by decide +kernel
theorem dX9_findLines_172 : decode cX9_findLines 172 = .ok (.iload 7, 2) := by decide +kernel
theorem dX9_findLines_174 : decode cX9_findLines 174 = .ok (.iastore, 1) := by decide +kernel
theorem dX9_findLines_175 : decode cX9_findLines 175 = .ok (.aload_n 0, 1) := by decide +kernel
theorem dX9_findLines_176 : decode cX9_findLines 176 = .ok (.getfield 96, 3) := by decide +kernel
theorem dX9_findLines_179 : decode cX9_findLines 179 = .ok (.aload_n 0, 1) := by decide +kernel
theorem dX9_findLines_180 : decode cX9_findLines 180 = .ok (.getfield 190, 3) := by decide +kernel
theorem dX9_findLines_183 : decode cX9_findLines 183 = .ok (.iload 9, 2) := by decide +kernel
theorem dX9_findLines_185 : decode cX9_findLines 185 = .ok (.iastore, 1) := by decide +kernel
theorem dX9_findLines_186 : decode cX9_findLines 186 = .ok (.aload_n 0, 1) := by decide +kernel
theorem dX9_findLines_187 : decode cX9_findLines 187 = .ok (.getfield 90, 3) := by decide +kernel
theorem dX9_findLines_190 : decode cX9_findLines 190 = .ok (.aload_n 0, 1) := by decide +kernel
theorem dX9_findLines_191 : decode cX9_findLines 191 = .ok (.getfield 190, 3) := by decide +kernel
theorem dX9_findLines_194 : decode cX9_findLines 194 = .ok (.iload 9, 2) := by decide +kernel
theorem dX9_findLines_196 : decode cX9_findLines 196 = .ok (.ifCond .le 9, 3) := by decide +kernel
theorem dX9_findLines_199 : decode cX9_findLines 199 = .ok (.ldc2_w 115, 3) := by decide +kernel
theorem dX9_findLines_202 : decode cX9_findLines 202 = .ok (.goto 25, 3) := by decide +kernel
theorem dX9_findLines_205 : decode cX9_findLines 205 = .ok (.iload 6, 2) := by decide +kernel
theorem dX9_findLines_207 : decode cX9_findLines 207 = .ok (.ifCond .eq 7, 3) := by decide +kernel
theorem dX9_findLines_210 : decode cX9_findLines 210 = .ok (.lconst 0, 1) := by decide +kernel
theorem dX9_findLines_211 : decode cX9_findLines 211 = .ok (.goto 16, 3) := by decide +kernel
theorem dX9_findLines_214 : decode cX9_findLines 214 = .ok (.aload_n 0, 1) := by decide +kernel
theorem dX9_findLines_215 : decode cX9_findLines 215 = .ok (.iload 8, 2) := by decide +kernel
theorem dX9_findLines_217 : decode cX9_findLines 217 = .ok (.aload_n 0, 1) := by decide +kernel
theorem dX9_findLines_218 : decode cX9_findLines 218 = .ok (.getfield 25, 3) := by decide +kernel
theorem dX9_findLines_221 : decode cX9_findLines 221 = .ok (.iload 5, 2) := by decide +kernel
theorem dX9_findLines_223 : decode cX9_findLines 223 = .ok (.iaload, 1) := by decide +kernel
theorem dX9_findLines_224 : decode cX9_findLines 224 = .ok (.invokevirtual 200, 3) := by decide +kernel
theorem dX9_findLines_227 : decode cX9_findLines 227 = .ok (.lastore, 1) := by decide +kernel
theorem dX9_findLines_228 : decode cX9_findLines 228 = .ok (.aload_n 0, 1) := by decide +kernel
theorem dX9_findLines_229 : decode cX9_findLines 229 = .ok (.dup, 1) := by decide +kernel
theorem dX9_findLines_230 : decode cX9_findLines 230 = .ok (.getfield 190, 3) := by decide +kernel
theorem dX9_findLines_233 : decode cX9_findLines 233 = .ok (.iconst 1, 1) := by decide +kernel
theorem dX9_findLines_234 : decode cX9_findLines 234 = .ok (.iadd, 1) := by decide +kernel
theorem dX9_findLines_235 : decode cX9_findLines 235 = .ok (.putfield 190, 3) := by decide +kernel
theorem dX9_findLines_238 : decode cX9_findLines 238 = .ok (.iinc 5 1, 3) := by decide +kernel
theorem dX9_findLines_241 : decode cX9_findLines 241 = .ok (.goto (-233), 3) := by decide +kernel
theorem dX9_findLines_244 : decode cX9_findLines 244 = .ok (.return_, 1) := by decide +kernel
set_option maxRecDepth 20000 in
theorem ggX9_isAsked_X9_isHouse : GoodIn wsX9_isAsked wsX9_isHouse := goodIn_r _ [5, 6, 14, 15, 16, 17, 18, 19, 20, 21, 22, 23, 24, 25, 26, 27, 28, 29, 30, 31, 32, 33, 34, 35, 36, 37, 38, 39, 40, 41, 42, 43, 44, 45, 46, 47, 48, 49, 50, 51, 52, 53, 54, 55, 56] (by decide +kernel) (by decide +kernel)
set_option maxRecDepth 20000 in
theorem gX9_isAsked_X9_isHouse : GoodIn wsX9_isAsked (wsV RX9 126 RX9 yX9_isHouse wsX9_isHouse) := goodIn_app (goodIn_of _ (by decide +kernel)) ggX9_isAsked_X9_isHouse
set_option maxRecDepth 20000 in
theorem ggX9_isAsked_X9_isMonth : GoodIn wsX9_isAsked wsX9_isMonth := goodIn_r _ [9] (by decide +kernel) (by decide +kernel)
set_option maxRecDepth 20000 in
theorem gX9_isAsked_X9_isMonth : GoodIn wsX9_isAsked (va_wsS RX9 178 yX9_isMonth wsX9_isMonth) := goodIn_app (goodIn_of _ (by decide +kernel)) ggX9_isAsked_X9_isMonth
set_option maxRecDepth 20000 in
theorem ggX9_isAsked_X9_isDay : GoodIn wsX9_isAsked wsX9_isDay := goodIn_r _ [12, 13] (by decide +kernel) (by decide +kernel)
set_option maxRecDepth 20000 in
theorem gX9_isAsked_X9_isDay : GoodIn wsX9_isAsked (va_wsS RX9 133 yX9_isDay wsX9_isDay) := goodIn_app (goodIn_of _ (by decide +kernel)) ggX9_isAsked_X9_isDay
theorem dX9_isAsked_0 : decode cX9_isAsked 0 = .ok (.aload_n 0, 1) := by decide +kernel
theorem dX9_isAsked_1 : decode cX9_isAsked 1 = .ok (.iload_n 1, 1) := by decide +kernel
theorem dX9_isAsked_2 : decode cX9_isAsked 2 = .ok (.invokevirtual 126, 3) := by decide +kernel
theorem dX9_isAsked_5 : decode cX9_isAsked 5 = .ok (.ifCond .eq 21, 3) := by decide +kernel
theorem dX9_isAsked_8 : decode cX9_isAsked 8 = .ok (.iload_n 2, 1) := by decide +kernel
theorem dX9_isAsked_9 : decode cX9_isAsked 9 = .ok (.invokestatic 178, 3) := by decide +kernel
theorem dX9_isAsked_12 : decode cX9_isAsked 12 = .ok (.ifCond .eq 14, 3) := by decide +kernel
theorem dX9_isAsked_15 : decode cX9_isAsked 15 = .ok (.lload_n 3, 1) := by decide +kernel
theorem dX9_isAsked_16 : decode cX9_isAsked 16 = .ok (.invokestatic 133, 3) := by decide +kernel
theorem dX9_isAsked_19 : decode cX9_isAsked 19 = .ok (.ifCond .eq 7, 3) := by decide +kernel
theorem dX9_isAsked_22 : decode cX9_isAsked 22 = .ok (.iconst 1, 1) := by decide +kernel
theorem dX9_isAsked_23 : decode cX9_isAsked 23 = .ok (.goto 4, 3) := by decide +kernel
theorem dX9_isAsked_26 : decode cX9_isAsked 26 = .ok (.iconst 0, 1) := by decide +kernel
theorem dX9_isAsked_27 : decode cX9_isAsked 27 = .ok (.ireturn, 1) := by decide +kernel
set_option maxRecDepth 20000 in
theorem ggX9_bill_X9_isAsked : GoodIn wsX9_bill wsX9_isAsked := goodIn_r _ [10, 11, 12, 13, 9, 14, 15, 16, 17, 18, 19, 20, 21, 22, 63, 64, 65, 66, 67, 68, 69, 70, 71, 72, 73, 74, 75, 76, 77, 78, 79, 80, 81, 82, 83, 84, 85, 86, 87, 88, 89, 90, 91, 92, 93, 94, 95, 96, 97, 98, 99, 100, 101, 102, 103, 104, 105] (by decide +kernel) (by decide +kernel)
set_option maxRecDepth 20000 in
theorem gX9_bill_X9_isAsked : GoodIn wsX9_bill (wsV RX9 204 RX9 yX9_isAsked wsX9_isAsked) := goodIn_app (goodIn_of _ (by decide +kernel)) ggX9_bill_X9_isAsked
set_option maxRecDepth 20000 in
theorem ggX9_bill_X9_findLines : GoodIn wsX9_bill wsX9_findLines := goodIn_r _ [26, 2, 27, 28, 29, 30, 31, 32, 33, 34, 35, 3, 4, 36, 37, 38, 39, 40, 9, 41, 42, 43, 44, 45, 46, 47, 48, 49, 50, 51, 52, 53, 54, 55, 56, 57, 58, 59, 60, 61, 62, 63, 64, 65, 66, 67, 68, 69, 70, 71, 72, 73, 74, 75, 76, 77, 78, 79, 80, 81, 82, 83, 84, 85, 86, 87, 88, 89, 90, 91, 92, 93, 94, 95, 96, 97, 98, 99, 100, 101, 102, 103, 104, 105] (by decide +kernel) (by decide +kernel)
set_option maxRecDepth 20000 in
theorem gX9_bill_X9_findLines : GoodIn wsX9_bill (wsV RX9 210 RX9 yX9_findLines wsX9_findLines) := goodIn_app (goodIn_of _ (by decide +kernel)) ggX9_bill_X9_findLines
theorem dX9_bill_0 : decode cX9_bill 0 = .ok (.aload_n 0, 1) := by decide +kernel
theorem dX9_bill_1 : decode cX9_bill 1 = .ok (.iload_n 1, 1) := by decide +kernel
theorem dX9_bill_2 : decode cX9_bill 2 = .ok (.iload_n 2, 1) := by decide +kernel
theorem dX9_bill_3 : decode cX9_bill 3 = .ok (.lload_n 3, 1) := by decide +kernel
theorem dX9_bill_4 : decode cX9_bill 4 = .ok (.invokevirtual 204, 3) := by decide +kernel
theorem dX9_bill_7 : decode cX9_bill 7 = .ok (.ifCond .ne 7, 3) := by decide +kernel
theorem dX9_bill_10 : decode cX9_bill 10 = .ok (.ldc2_w 208, 3) := by decide +kernel
theorem dX9_bill_13 : decode cX9_bill 13 = .ok (.lreturn, 1) := by decide +kernel
theorem dX9_bill_14 : decode cX9_bill 14 = .ok (.aload_n 0, 1) := by decide +kernel
theorem dX9_bill_15 : decode cX9_bill 15 = .ok (.iload_n 1, 1) := by decide +kernel
theorem dX9_bill_16 : decode cX9_bill 16 = .ok (.iload_n 2, 1) := by decide +kernel
theorem dX9_bill_17 : decode cX9_bill 17 = .ok (.lload_n 3, 1) := by decide +kernel
theorem dX9_bill_18 : decode cX9_bill 18 = .ok (.invokevirtual 210, 3) := by decide +kernel
theorem dX9_bill_21 : decode cX9_bill 21 = .ok (.lconst 0, 1) := by decide +kernel
theorem dX9_bill_22 : decode cX9_bill 22 = .ok (.lstore 5, 2) := by decide +kernel
theorem dX9_bill_24 : decode cX9_bill 24 = .ok (.iconst 0, 1) := by decide +kernel
theorem dX9_bill_25 : decode cX9_bill 25 = .ok (.istore 7, 2) := by decide +kernel
theorem dX9_bill_27 : decode cX9_bill 27 = .ok (.iload 7, 2) := by decide +kernel
theorem dX9_bill_29 : decode cX9_bill 29 = .ok (.aload_n 0, 1) := by decide +kernel
theorem dX9_bill_30 : decode cX9_bill 30 = .ok (.getfield 190, 3) := by decide +kernel
theorem dX9_bill_33 : decode cX9_bill 33 = .ok (.if_icmp .ge 35, 3) := by decide +kernel
theorem dX9_bill_36 : decode cX9_bill 36 = .ok (.aload_n 0, 1) := by decide +kernel
theorem dX9_bill_37 : decode cX9_bill 37 = .ok (.getfield 96, 3) := by decide +kernel
theorem dX9_bill_40 : decode cX9_bill 40 = .ok (.iload 7, 2) := by decide +kernel
theorem dX9_bill_42 : decode cX9_bill 42 = .ok (.iaload, 1) := by decide +kernel
theorem dX9_bill_43 : decode cX9_bill 43 = .ok (.ifCond .le 7, 3) := by decide +kernel
theorem dX9_bill_46 : decode cX9_bill 46 = .ok (.ldc2_w 208, 3) := by decide +kernel
theorem dX9_bill_49 : decode cX9_bill 49 = .ok (.lreturn, 1) := by decide +kernel
theorem dX9_bill_50 : decode cX9_bill 50 = .ok (.lload 5, 2) := by decide +kernel
theorem dX9_bill_52 : decode cX9_bill 52 = .ok (.aload_n 0, 1) := by decide +kernel
theorem dX9_bill_53 : decode cX9_bill 53 = .ok (.getfield 90, 3) := by decide +kernel
theorem dX9_bill_56 : decode cX9_bill 56 = .ok (.iload 7, 2) := by decide +kernel
theorem dX9_bill_58 : decode cX9_bill 58 = .ok (.laload, 1) := by decide +kernel
theorem dX9_bill_59 : decode cX9_bill 59 = .ok (.ladd, 1) := by decide +kernel
theorem dX9_bill_60 : decode cX9_bill 60 = .ok (.lstore 5, 2) := by decide +kernel
theorem dX9_bill_62 : decode cX9_bill 62 = .ok (.iinc 7 1, 3) := by decide +kernel
theorem dX9_bill_65 : decode cX9_bill 65 = .ok (.goto (-38), 3) := by decide +kernel
theorem dX9_bill_68 : decode cX9_bill 68 = .ok (.aload_n 0, 1) := by decide +kernel
theorem dX9_bill_69 : decode cX9_bill 69 = .ok (.getfield 68, 3) := by decide +kernel
theorem dX9_bill_72 : decode cX9_bill 72 = .ok (.iload_n 2, 1) := by decide +kernel
theorem dX9_bill_73 : decode cX9_bill 73 = .ok (.laload, 1) := by decide +kernel
theorem dX9_bill_74 : decode cX9_bill 74 = .ok (.lconst 0, 1) := by decide +kernel
theorem dX9_bill_75 : decode cX9_bill 75 = .ok (.lcmp, 1) := by decide +kernel
theorem dX9_bill_76 : decode cX9_bill 76 = .ok (.ifCond .lt 24, 3) := by decide +kernel
theorem dX9_bill_79 : decode cX9_bill 79 = .ok (.lload 5, 2) := by decide +kernel
theorem dX9_bill_81 : decode cX9_bill 81 = .ok (.aload_n 0, 1) := by decide +kernel
theorem dX9_bill_82 : decode cX9_bill 82 = .ok (.getfield 68, 3) := by decide +kernel
theorem dX9_bill_85 : decode cX9_bill 85 = .ok (.iload_n 2, 1) := by decide +kernel
theorem dX9_bill_86 : decode cX9_bill 86 = .ok (.laload, 1) := by decide +kernel
theorem dX9_bill_87 : decode cX9_bill 87 = .ok (.lcmp, 1) := by decide +kernel
theorem dX9_bill_88 : decode cX9_bill 88 = .ok (.ifCond .le 12, 3) := by decide +kernel
theorem dX9_bill_91 : decode cX9_bill 91 = .ok (.aload_n 0, 1) := by decide +kernel
theorem dX9_bill_92 : decode cX9_bill 92 = .ok (.getfield 68, 3) := by decide +kernel
theorem dX9_bill_95 : decode cX9_bill 95 = .ok (.iload_n 2, 1) := by decide +kernel
theorem dX9_bill_96 : decode cX9_bill 96 = .ok (.laload, 1) := by decide +kernel
theorem dX9_bill_97 : decode cX9_bill 97 = .ok (.goto 5, 3) := by decide +kernel
theorem dX9_bill_100 : decode cX9_bill 100 = .ok (.lload 5, 2) := by decide +kernel
theorem dX9_bill_102 : decode cX9_bill 102 = .ok (.lreturn, 1) := by decide +kernel
theorem dX9_put_0 : decode cX9_put 0 = .ok (.aload_n 0, 1) := by decide +kernel
theorem dX9_put_1 : decode cX9_put 1 = .ok (.getfield 111, 3) := by decide +kernel
theorem dX9_put_4 : decode cX9_put 4 = .ok (.aload_n 0, 1) := by decide +kernel
theorem dX9_put_5 : decode cX9_put 5 = .ok (.getfield 214, 3) := by decide +kernel
theorem dX9_put_8 : decode cX9_put 8 = .ok (.iload_n 1, 1) := by decide +kernel
theorem dX9_put_9 : decode cX9_put 9 = .ok (.i2b, 1) := by decide +kernel
theorem dX9_put_10 : decode cX9_put 10 = .ok (.bastore, 1) := by decide +kernel
theorem dX9_put_11 : decode cX9_put 11 = .ok (.aload_n 0, 1) := by decide +kernel
theorem dX9_put_12 : decode cX9_put 12 = .ok (.dup, 1) := by decide +kernel
theorem dX9_put_13 : decode cX9_put 13 = .ok (.getfield 214, 3) := by decide +kernel
theorem dX9_put_16 : decode cX9_put 16 = .ok (.iconst 1, 1) := by decide +kernel
theorem dX9_put_17 : decode cX9_put 17 = .ok (.iadd, 1) := by decide +kernel
theorem dX9_put_18 : decode cX9_put 18 = .ok (.putfield 214, 3) := by decide +kernel
theorem dX9_put_21 : decode cX9_put 21 = .ok (.return_, 1) := by decide +kernel
set_option maxRecDepth 20000 in
theorem ggX9_putNumber_X9_put : GoodIn wsX9_putNumber wsX9_put := goodIn_r _ [6, 7, 8, 9, 10, 11, 12, 13, 14, 15, 16, 17, 18, 19, 20, 21, 22, 23, 24, 25, 26, 27, 28, 29, 30, 31, 32, 33, 34, 35, 36, 37, 38, 39, 40, 41, 42, 43, 44, 45, 46, 47, 48, 49, 50, 51] (by decide +kernel) (by decide +kernel)
set_option maxRecDepth 20000 in
theorem gX9_putNumber_X9_put : GoodIn wsX9_putNumber (wsV RX9 219 RX9 yX9_put wsX9_put) := goodIn_app (goodIn_of _ (by decide +kernel)) ggX9_putNumber_X9_put
theorem dX9_putNumber_0 : decode cX9_putNumber 0 = .ok (.lconst 1, 1) := by decide +kernel
theorem dX9_putNumber_1 : decode cX9_putNumber 1 = .ok (.lstore_n 3, 1) := by decide +kernel
theorem dX9_putNumber_2 : decode cX9_putNumber 2 = .ok (.lload_n 3, 1) := by decide +kernel
theorem dX9_putNumber_3 : decode cX9_putNumber 3 = .ok (.lload_n 1, 1) := by decide +kernel
theorem dX9_putNumber_4 : decode cX9_putNumber 4 = .ok (.ldc2_w 217, 3) := by decide +kernel
theorem dX9_putNumber_7 : decode cX9_putNumber 7 = .ok (.ldiv, 1) := by decide +kernel
theorem dX9_putNumber_8 : decode cX9_putNumber 8 = .ok (.lcmp, 1) := by decide +kernel
theorem dX9_putNumber_9 : decode cX9_putNumber 9 = .ok (.ifCond .gt 12, 3) := by decide +kernel
theorem dX9_putNumber_12 : decode cX9_putNumber 12 = .ok (.lload_n 3, 1) := by decide +kernel
theorem dX9_putNumber_13 : decode cX9_putNumber 13 = .ok (.ldc2_w 217, 3) := by decide +kernel
theorem dX9_putNumber_16 : decode cX9_putNumber 16 = .ok (.lmul, 1) := by decide +kernel
theorem dX9_putNumber_17 : decode cX9_putNumber 17 = .ok (.lstore_n 3, 1) := by decide +kernel
theorem dX9_putNumber_18 : decode cX9_putNumber 18 = .ok (.goto (-16), 3) := by decide +kernel
theorem dX9_putNumber_21 : decode cX9_putNumber 21 = .ok (.lload_n 3, 1) := by decide +kernel
theorem dX9_putNumber_22 : decode cX9_putNumber 22 = .ok (.lstore 5, 2) := by decide +kernel
theorem dX9_putNumber_24 : decode cX9_putNumber 24 = .ok (.lload 5, 2) := by decide +kernel
theorem dX9_putNumber_26 : decode cX9_putNumber 26 = .ok (.lconst 0, 1) := by decide +kernel
theorem dX9_putNumber_27 : decode cX9_putNumber 27 = .ok (.lcmp, 1) := by decide +kernel
theorem dX9_putNumber_28 : decode cX9_putNumber 28 = .ok (.ifCond .le 30, 3) := by decide +kernel
theorem dX9_putNumber_31 : decode cX9_putNumber 31 = .ok (.aload_n 0, 1) := by decide +kernel
theorem dX9_putNumber_32 : decode cX9_putNumber 32 = .ok (.lload_n 1, 1) := by decide +kernel
theorem dX9_putNumber_33 : decode cX9_putNumber 33 = .ok (.lload 5, 2) := by decide +kernel
theorem dX9_putNumber_35 : decode cX9_putNumber 35 = .ok (.ldiv, 1) := by decide +kernel
theorem dX9_putNumber_36 : decode cX9_putNumber 36 = .ok (.ldc2_w 217, 3) := by decide +kernel
theorem dX9_putNumber_39 : decode cX9_putNumber 39 = .ok (.lrem, 1) := by decide +kernel
theorem dX9_putNumber_40 : decode cX9_putNumber 40 = .ok (.l2i, 1) := by decide +kernel
theorem dX9_putNumber_41 : decode cX9_putNumber 41 = .ok (.bipush 48, 2) := by decide +kernel
theorem dX9_putNumber_43 : decode cX9_putNumber 43 = .ok (.iadd, 1) := by decide +kernel
theorem dX9_putNumber_44 : decode cX9_putNumber 44 = .ok (.invokevirtual 219, 3) := by decide +kernel
theorem dX9_putNumber_47 : decode cX9_putNumber 47 = .ok (.lload 5, 2) := by decide +kernel
theorem dX9_putNumber_49 : decode cX9_putNumber 49 = .ok (.ldc2_w 217, 3) := by decide +kernel
theorem dX9_putNumber_52 : decode cX9_putNumber 52 = .ok (.ldiv, 1) := by decide +kernel
theorem dX9_putNumber_53 : decode cX9_putNumber 53 = .ok (.lstore 5, 2) := by decide +kernel
theorem dX9_putNumber_55 : decode cX9_putNumber 55 = .ok (.goto (-31), 3) := by decide +kernel
theorem dX9_putNumber_58 : decode cX9_putNumber 58 = .ok (.return_, 1) := by decide +kernel
set_option maxRecDepth 20000 in
theorem ggX9_walk_X9_isAsked : GoodIn wsX9_walk wsX9_isAsked := goodIn_r _ [18, 19, 20, 21, 17, 22, 23, 24, 25, 26, 27, 28, 29, 30, 77, 78, 79, 80, 81, 82, 83, 84, 85, 86, 87, 88, 89, 90, 91, 92, 93, 94, 95, 96, 97, 98, 99, 100, 101, 102, 103, 104, 105, 106, 107, 108, 109, 110, 111, 112, 113, 114, 115, 116, 117, 118, 119] (by decide +kernel) (by decide +kernel)
set_option maxRecDepth 20000 in
theorem gX9_walk_X9_isAsked : GoodIn wsX9_walk (wsV RX9 204 RX9 yX9_isAsked wsX9_isAsked) := goodIn_app (goodIn_of _ (by decide +kernel)) ggX9_walk_X9_isAsked
set_option maxRecDepth 20000 in
theorem ggX9_walk_X9_findLines : GoodIn wsX9_walk wsX9_findLines := goodIn_r _ [34, 1, 35, 36, 37, 38, 12, 39, 40, 4, 9, 11, 7, 41, 13, 42, 43, 44, 17, 45, 46, 47, 48, 49, 50, 51, 52, 53, 54, 55, 56, 57, 58, 59, 60, 61, 62, 63, 64, 65, 66, 77, 78, 79, 80, 81, 82, 83, 84, 85, 86, 87, 88, 89, 90, 91, 92, 93, 94, 95, 96, 97, 98, 99, 100, 101, 102, 103, 104, 105, 106, 107, 108, 109, 110, 111, 112, 113, 114, 115, 116, 117, 118, 119] (by decide +kernel) (by decide +kernel)
set_option maxRecDepth 20000 in
theorem gX9_walk_X9_findLines : GoodIn wsX9_walk (wsV RX9 210 RX9 yX9_findLines wsX9_findLines) := goodIn_app (goodIn_of _ (by decide +kernel)) ggX9_walk_X9_findLines
set_option maxRecDepth 20000 in
theorem ggX9_walk_X9_putNumber : GoodIn wsX9_walk wsX9_putNumber := goodIn_r _ [70, 71, 72, 73, 74, 17, 75, 76, 3, 77, 78, 79, 80, 81, 82, 83, 84, 85, 86, 87, 88, 89, 90, 91, 92, 93, 94, 95, 96, 97, 98, 99, 100, 101, 102, 103, 104, 105, 106, 107, 108, 109, 110, 111, 112, 113, 114, 115, 116, 117, 118, 119] (by decide +kernel) (by decide +kernel)
set_option maxRecDepth 20000 in
theorem gX9_walk_X9_putNumber : GoodIn wsX9_walk (wsV RX9 226 RX9 yX9_putNumber wsX9_putNumber) := goodIn_app (goodIn_of _ (by decide +kernel)) ggX9_walk_X9_putNumber
set_option maxRecDepth 20000 in
theorem ggX9_walk_X9_put : GoodIn wsX9_walk wsX9_put := goodIn_r _ [75, 76, 3, 77, 78, 79, 80, 81, 82, 83, 84, 85, 86, 87, 88, 89, 90, 91, 92, 93, 94, 95, 96, 97, 98, 99, 100, 101, 102, 103, 104, 105, 106, 107, 108, 109, 110, 111, 112, 113, 114, 115, 116, 117, 118, 119] (by decide +kernel) (by decide +kernel)
set_option maxRecDepth 20000 in
theorem gX9_walk_X9_put : GoodIn wsX9_walk (wsV RX9 219 RX9 yX9_put wsX9_put) := goodIn_app (goodIn_of _ (by decide +kernel)) ggX9_walk_X9_put
theorem dX9_walk_0 : decode cX9_walk 0 = .ok (.aload_n 0, 1) := by decide +kernel
theorem dX9_walk_1 : decode cX9_walk 1 = .ok (.iload_n 1, 1) := by decide +kernel
theorem dX9_walk_2 : decode cX9_walk 2 = .ok (.iload_n 2, 1) := by decide +kernel
theorem dX9_walk_3 : decode cX9_walk 3 = .ok (.lload_n 3, 1) := by decide +kernel
theorem dX9_walk_4 : decode cX9_walk 4 = .ok (.invokevirtual 204, 3) := by decide +kernel
theorem dX9_walk_7 : decode cX9_walk 7 = .ok (.ifCond .ne 5, 3) := by decide +kernel
theorem dX9_walk_10 : decode cX9_walk 10 = .ok (.iconst (-1), 1) := by decide +kernel
theorem dX9_walk_11 : decode cX9_walk 11 = .ok (.ireturn, 1) := by decide +kernel
theorem dX9_walk_12 : decode cX9_walk 12 = .ok (.aload_n 0, 1) := by decide +kernel
theorem dX9_walk_13 : decode cX9_walk 13 = .ok (.iload_n 1, 1) := by decide +kernel
theorem dX9_walk_14 : decode cX9_walk 14 = .ok (.iload_n 2, 1) := by decide +kernel
theorem dX9_walk_15 : decode cX9_walk 15 = .ok (.lload_n 3, 1) := by decide +kernel
theorem dX9_walk_16 : decode cX9_walk 16 = .ok (.invokevirtual 210, 3) := by decide +kernel
theorem dX9_walk_19 : decode cX9_walk 19 = .ok (.aload_n 0, 1) := by decide +kernel
theorem dX9_walk_20 : decode cX9_walk 20 = .ok (.aload_n 0, 1) := by decide +kernel
theorem dX9_walk_21 : decode cX9_walk 21 = .ok (.getfield 190, 3) := by decide +kernel
theorem dX9_walk_24 : decode cX9_walk 24 = .ok (.putfield 223, 3) := by decide +kernel
theorem dX9_walk_27 : decode cX9_walk 27 = .ok (.aload_n 0, 1) := by decide +kernel
theorem dX9_walk_28 : decode cX9_walk 28 = .ok (.iconst 0, 1) := by decide +kernel
theorem dX9_walk_29 : decode cX9_walk 29 = .ok (.putfield 214, 3) := by decide +kernel
theorem dX9_walk_32 : decode cX9_walk 32 = .ok (.iconst 0, 1) := by decide +kernel
theorem dX9_walk_33 : decode cX9_walk 33 = .ok (.istore 5, 2) := by decide +kernel
theorem dX9_walk_35 : decode cX9_walk 35 = .ok (.iload 5, 2) := by decide +kernel
theorem dX9_walk_37 : decode cX9_walk 37 = .ok (.aload_n 0, 1) := by decide +kernel
theorem dX9_walk_38 : decode cX9_walk 38 = .ok (.getfield 190, 3) := by decide +kernel
theorem dX9_walk_41 : decode cX9_walk 41 = .ok (.if_icmp .ge 141, 3) := by decide +kernel
theorem dX9_walk_44 : decode cX9_walk 44 = .ok (.aload_n 0, 1) := by decide +kernel
theorem dX9_walk_45 : decode cX9_walk 45 = .ok (.getfield 87, 3) := by decide +kernel
theorem dX9_walk_48 : decode cX9_walk 48 = .ok (.iload 5, 2) := by decide +kernel
theorem dX9_walk_50 : decode cX9_walk 50 = .ok (.iaload, 1) := by decide +kernel
theorem dX9_walk_51 : decode cX9_walk 51 = .ok (.istore 6, 2) := by decide +kernel
theorem dX9_walk_53 : decode cX9_walk 53 = .ok (.aload_n 0, 1) := by decide +kernel
theorem dX9_walk_54 : decode cX9_walk 54 = .ok (.getfield 99, 3) := by decide +kernel
theorem dX9_walk_57 : decode cX9_walk 57 = .ok (.iload 5, 2) := by decide +kernel
theorem dX9_walk_59 : decode cX9_walk 59 = .ok (.iload 6, 2) := by decide +kernel
theorem dX9_walk_61 : decode cX9_walk 61 = .ok (.iastore, 1) := by decide +kernel
theorem dX9_walk_62 : decode cX9_walk 62 = .ok (.aload_n 0, 1) := by decide +kernel
theorem dX9_walk_63 : decode cX9_walk 63 = .ok (.getfield 102, 3) := by decide +kernel
theorem dX9_walk_66 : decode cX9_walk 66 = .ok (.iload 5, 2) := by decide +kernel
theorem dX9_walk_68 : decode cX9_walk 68 = .ok (.aload_n 0, 1) := by decide +kernel
theorem dX9_walk_69 : decode cX9_walk 69 = .ok (.getfield 90, 3) := by decide +kernel
theorem dX9_walk_72 : decode cX9_walk 72 = .ok (.iload 5, 2) := by decide +kernel
theorem dX9_walk_74 : decode cX9_walk 74 = .ok (.laload, 1) := by decide +kernel
theorem dX9_walk_75 : decode cX9_walk 75 = .ok (.lastore, 1) := by decide +kernel
theorem dX9_walk_76 : decode cX9_walk 76 = .ok (.aload_n 0, 1) := by decide +kernel
theorem dX9_walk_77 : decode cX9_walk 77 = .ok (.getfield 105, 3) := by decide +kernel
theorem dX9_walk_80 : decode cX9_walk 80 = .ok (.iload 5, 2) := by decide +kernel
theorem dX9_walk_82 : decode cX9_walk 82 = .ok (.aload_n 0, 1) := by decide +kernel
theorem dX9_walk_83 : decode cX9_walk 83 = .ok (.getfield 93, 3) := by decide +kernel
theorem dX9_walk_86 : decode cX9_walk 86 = .ok (.iload 5, 2) := by decide +kernel
theorem dX9_walk_88 : decode cX9_walk 88 = .ok (.iaload, 1) := by decide +kernel
theorem dX9_walk_89 : decode cX9_walk 89 = .ok (.iastore, 1) := by decide +kernel
theorem dX9_walk_90 : decode cX9_walk 90 = .ok (.aload_n 0, 1) := by decide +kernel
theorem dX9_walk_91 : decode cX9_walk 91 = .ok (.getfield 108, 3) := by decide +kernel
theorem dX9_walk_94 : decode cX9_walk 94 = .ok (.iload 5, 2) := by decide +kernel
theorem dX9_walk_96 : decode cX9_walk 96 = .ok (.aload_n 0, 1) := by decide +kernel
theorem dX9_walk_97 : decode cX9_walk 97 = .ok (.getfield 96, 3) := by decide +kernel
theorem dX9_walk_100 : decode cX9_walk 100 = .ok (.iload 5, 2) := by decide +kernel
theorem dX9_walk_102 : decode cX9_walk 102 = .ok (.iaload, 1) := by decide +kernel
theorem dX9_walk_103 : decode cX9_walk 103 = .ok (.iastore, 1) := by decide +kernel
theorem dX9_walk_104 : decode cX9_walk 104 = .ok (.aload_n 0, 1) := by decide +kernel
theorem dX9_walk_105 : decode cX9_walk 105 = .ok (.aload_n 0, 1) := by decide +kernel
theorem dX9_walk_106 : decode cX9_walk 106 = .ok (.getfield 19, 3) := by decide +kernel
theorem dX9_walk_109 : decode cX9_walk 109 = .ok (.iload 6, 2) := by decide +kernel
theorem dX9_walk_111 : decode cX9_walk 111 = .ok (.iaload, 1) := by decide +kernel
theorem dX9_walk_112 : decode cX9_walk 112 = .ok (.i2l, 1) := by decide +kernel
theorem dX9_walk_113 : decode cX9_walk 113 = .ok (.invokevirtual 226, 3) := by decide +kernel
theorem dX9_walk_116 : decode cX9_walk 116 = .ok (.aload_n 0, 1) := by decide +kernel
theorem dX9_walk_117 : decode cX9_walk 117 = .ok (.bipush 32, 2) := by decide +kernel
theorem dX9_walk_119 : decode cX9_walk 119 = .ok (.invokevirtual 219, 3) := by decide +kernel
theorem dX9_walk_122 : decode cX9_walk 122 = .ok (.aload_n 0, 1) := by decide +kernel
theorem dX9_walk_123 : decode cX9_walk 123 = .ok (.aload_n 0, 1) := by decide +kernel
theorem dX9_walk_124 : decode cX9_walk 124 = .ok (.getfield 25, 3) := by decide +kernel
theorem dX9_walk_127 : decode cX9_walk 127 = .ok (.iload 6, 2) := by decide +kernel
theorem dX9_walk_129 : decode cX9_walk 129 = .ok (.iaload, 1) := by decide +kernel
theorem dX9_walk_130 : decode cX9_walk 130 = .ok (.i2l, 1) := by decide +kernel
theorem dX9_walk_131 : decode cX9_walk 131 = .ok (.invokevirtual 226, 3) := by decide +kernel
theorem dX9_walk_134 : decode cX9_walk 134 = .ok (.aload_n 0, 1) := by decide +kernel
theorem dX9_walk_135 : decode cX9_walk 135 = .ok (.bipush 32, 2) := by decide +kernel
theorem dX9_walk_137 : decode cX9_walk 137 = .ok (.invokevirtual 219, 3) := by decide +kernel
theorem dX9_walk_140 : decode cX9_walk 140 = .ok (.aload_n 0, 1) := by decide +kernel
theorem dX9_walk_141 : decode cX9_walk 141 = .ok (.getfield 96, 3) := by decide +kernel
theorem dX9_walk_144 : decode cX9_walk 144 = .ok (.iload 5, 2) := by decide +kernel
theorem dX9_walk_146 : decode cX9_walk 146 = .ok (.iaload, 1) := by decide +kernel
theorem dX9_walk_147 : decode cX9_walk 147 = .ok (.ifCond .le 12, 3) := by decide +kernel
theorem dX9_walk_150 : decode cX9_walk 150 = .ok (.aload_n 0, 1) := by decide +kernel
theorem dX9_walk_151 : decode cX9_walk 151 = .ok (.bipush 63, 2) := by decide +kernel
theorem dX9_walk_153 : decode cX9_walk 153 = .ok (.invokevirtual 219, 3) := by decide +kernel
theorem dX9_walk_156 : decode cX9_walk 156 = .ok (.goto 14, 3) := by decide +kernel
theorem dX9_walk_159 : decode cX9_walk 159 = .ok (.aload_n 0, 1) := by decide +kernel
theorem dX9_walk_160 : decode cX9_walk 160 = .ok (.aload_n 0, 1) := by decide +kernel
theorem dX9_walk_161 : decode cX9_walk 161 = .ok (.getfield 90, 3) := by decide +kernel
theorem dX9_walk_164 : decode cX9_walk 164 = .ok (.iload 5, 2) := by decide +kernel
theorem dX9_walk_166 : decode cX9_walk 166 = .ok (.laload, 1) := by decide +kernel
theorem dX9_walk_167 : decode cX9_walk 167 = .ok (.invokevirtual 226, 3) := by decide +kernel
theorem dX9_walk_170 : decode cX9_walk 170 = .ok (.aload_n 0, 1) := by decide +kernel
theorem dX9_walk_171 : decode cX9_walk 171 = .ok (.bipush 10, 2) := by decide +kernel
theorem dX9_walk_173 : decode cX9_walk 173 = .ok (.invokevirtual 219, 3) := by decide +kernel
theorem dX9_walk_176 : decode cX9_walk 176 = .ok (.iinc 5 1, 3) := by decide +kernel
theorem dX9_walk_179 : decode cX9_walk 179 = .ok (.goto (-144), 3) := by decide +kernel
theorem dX9_walk_182 : decode cX9_walk 182 = .ok (.aload_n 0, 1) := by decide +kernel
theorem dX9_walk_183 : decode cX9_walk 183 = .ok (.getfield 223, 3) := by decide +kernel
theorem dX9_walk_186 : decode cX9_walk 186 = .ok (.ireturn, 1) := by decide +kernel
theorem dX9_line_0 : decode cX9_line 0 = .ok (.iload_n 1, 1) := by decide +kernel
theorem dX9_line_1 : decode cX9_line 1 = .ok (.ifCond .lt 20, 3) := by decide +kernel
theorem dX9_line_4 : decode cX9_line 4 = .ok (.iload_n 1, 1) := by decide +kernel
theorem dX9_line_5 : decode cX9_line 5 = .ok (.aload_n 0, 1) := by decide +kernel
theorem dX9_line_6 : decode cX9_line 6 = .ok (.getfield 223, 3) := by decide +kernel
theorem dX9_line_9 : decode cX9_line 9 = .ok (.if_icmp .ge 12, 3) := by decide +kernel
theorem dX9_line_12 : decode cX9_line 12 = .ok (.iload_n 2, 1) := by decide +kernel
theorem dX9_line_13 : decode cX9_line 13 = .ok (.ifCond .lt 8, 3) := by decide +kernel
theorem dX9_line_16 : decode cX9_line 16 = .ok (.iload_n 2, 1) := by decide +kernel
theorem dX9_line_17 : decode cX9_line 17 = .ok (.iconst 3, 1) := by decide +kernel
theorem dX9_line_18 : decode cX9_line 18 = .ok (.if_icmp .le 7, 3) := by decide +kernel
theorem dX9_line_21 : decode cX9_line 21 = .ok (.ldc2_w 115, 3) := by decide +kernel
theorem dX9_line_24 : decode cX9_line 24 = .ok (.lreturn, 1) := by decide +kernel
theorem dX9_line_25 : decode cX9_line 25 = .ok (.iload_n 2, 1) := by decide +kernel
theorem dX9_line_26 : decode cX9_line 26 = .ok (.ifCond .ne 13, 3) := by decide +kernel
theorem dX9_line_29 : decode cX9_line 29 = .ok (.aload_n 0, 1) := by decide +kernel
theorem dX9_line_30 : decode cX9_line 30 = .ok (.getfield 99, 3) := by decide +kernel
theorem dX9_line_33 : decode cX9_line 33 = .ok (.iload_n 1, 1) := by decide +kernel
theorem dX9_line_34 : decode cX9_line 34 = .ok (.iaload, 1) := by decide +kernel
theorem dX9_line_35 : decode cX9_line 35 = .ok (.i2l, 1) := by decide +kernel
theorem dX9_line_36 : decode cX9_line 36 = .ok (.goto 39, 3) := by decide +kernel
theorem dX9_line_39 : decode cX9_line 39 = .ok (.iload_n 2, 1) := by decide +kernel
theorem dX9_line_40 : decode cX9_line 40 = .ok (.iconst 1, 1) := by decide +kernel
theorem dX9_line_41 : decode cX9_line 41 = .ok (.if_icmp .ne 12, 3) := by decide +kernel
theorem dX9_line_44 : decode cX9_line 44 = .ok (.aload_n 0, 1) := by decide +kernel
theorem dX9_line_45 : decode cX9_line 45 = .ok (.getfield 102, 3) := by decide +kernel
theorem dX9_line_48 : decode cX9_line 48 = .ok (.iload_n 1, 1) := by decide +kernel
theorem dX9_line_49 : decode cX9_line 49 = .ok (.laload, 1) := by decide +kernel
theorem dX9_line_50 : decode cX9_line 50 = .ok (.goto 25, 3) := by decide +kernel
theorem dX9_line_53 : decode cX9_line 53 = .ok (.iload_n 2, 1) := by decide +kernel
theorem dX9_line_54 : decode cX9_line 54 = .ok (.iconst 2, 1) := by decide +kernel
theorem dX9_line_55 : decode cX9_line 55 = .ok (.if_icmp .ne 13, 3) := by decide +kernel
theorem dX9_line_58 : decode cX9_line 58 = .ok (.aload_n 0, 1) := by decide +kernel
theorem dX9_line_59 : decode cX9_line 59 = .ok (.getfield 105, 3) := by decide +kernel
theorem dX9_line_62 : decode cX9_line 62 = .ok (.iload_n 1, 1) := by decide +kernel
theorem dX9_line_63 : decode cX9_line 63 = .ok (.iaload, 1) := by decide +kernel
theorem dX9_line_64 : decode cX9_line 64 = .ok (.i2l, 1) := by decide +kernel
theorem dX9_line_65 : decode cX9_line 65 = .ok (.goto 10, 3) := by decide +kernel
theorem dX9_line_68 : decode cX9_line 68 = .ok (.aload_n 0, 1) := by decide +kernel
theorem dX9_line_69 : decode cX9_line 69 = .ok (.getfield 108, 3) := by decide +kernel
theorem dX9_line_72 : decode cX9_line 72 = .ok (.iload_n 1, 1) := by decide +kernel
theorem dX9_line_73 : decode cX9_line 73 = .ok (.iaload, 1) := by decide +kernel
theorem dX9_line_74 : decode cX9_line 74 = .ok (.i2l, 1) := by decide +kernel
theorem dX9_line_75 : decode cX9_line 75 = .ok (.lreturn, 1) := by decide +kernel
theorem dX9_open_0 : decode cX9_open 0 = .ok (.iload_n 1, 1) := by decide +kernel
theorem dX9_open_1 : decode cX9_open 1 = .ok (.istore_n 2, 1) := by decide +kernel
theorem dX9_open_2 : decode cX9_open 2 = .ok (.iconst 0, 1) := by decide +kernel
theorem dX9_open_3 : decode cX9_open 3 = .ok (.istore_n 3, 1) := by decide +kernel
theorem dX9_open_4 : decode cX9_open 4 = .ok (.iload_n 3, 1) := by decide +kernel
theorem dX9_open_5 : decode cX9_open 5 = .ok (.aload_n 0, 1) := by decide +kernel
theorem dX9_open_6 : decode cX9_open 6 = .ok (.getfield 223, 3) := by decide +kernel
theorem dX9_open_9 : decode cX9_open 9 = .ok (.if_icmp .ge 39, 3) := by decide +kernel
theorem dX9_open_12 : decode cX9_open 12 = .ok (.iload_n 1, 1) := by decide +kernel
theorem dX9_open_13 : decode cX9_open 13 = .ok (.ifCond .lt 35, 3) := by decide +kernel
theorem dX9_open_16 : decode cX9_open 16 = .ok (.aload_n 0, 1) := by decide +kernel
theorem dX9_open_17 : decode cX9_open 17 = .ok (.getfield 108, 3) := by decide +kernel
theorem dX9_open_20 : decode cX9_open 20 = .ok (.iload_n 3, 1) := by decide +kernel
theorem dX9_open_21 : decode cX9_open 21 = .ok (.iaload, 1) := by decide +kernel
theorem dX9_open_22 : decode cX9_open 22 = .ok (.ifCond .ne 6, 3) := by decide +kernel
theorem dX9_open_25 : decode cX9_open 25 = .ok (.goto 17, 3) := by decide +kernel
theorem dX9_open_28 : decode cX9_open 28 = .ok (.iload_n 2, 1) := by decide +kernel
theorem dX9_open_29 : decode cX9_open 29 = .ok (.ifCond .ne 10, 3) := by decide +kernel
theorem dX9_open_32 : decode cX9_open 32 = .ok (.aload_n 0, 1) := by decide +kernel
theorem dX9_open_33 : decode cX9_open 33 = .ok (.getfield 99, 3) := by decide +kernel
theorem dX9_open_36 : decode cX9_open 36 = .ok (.iload_n 3, 1) := by decide +kernel
theorem dX9_open_37 : decode cX9_open 37 = .ok (.iaload, 1) := by decide +kernel
theorem dX9_open_38 : decode cX9_open 38 = .ok (.ireturn, 1) := by decide +kernel
theorem dX9_open_39 : decode cX9_open 39 = .ok (.iinc 2 (-1), 3) := by decide +kernel
theorem dX9_open_42 : decode cX9_open 42 = .ok (.iinc 3 1, 3) := by decide +kernel
theorem dX9_open_45 : decode cX9_open 45 = .ok (.goto (-41), 3) := by decide +kernel
theorem dX9_open_48 : decode cX9_open 48 = .ok (.iconst (-1), 1) := by decide +kernel
theorem dX9_open_49 : decode cX9_open 49 = .ok (.ireturn, 1) := by decide +kernel
theorem dX9_write_0 : decode cX9_write 0 = .ok (.iload_n 1, 1) := by decide +kernel
theorem dX9_write_1 : decode cX9_write 1 = .ok (.ifCond .lt 11, 3) := by decide +kernel
theorem dX9_write_4 : decode cX9_write 4 = .ok (.iload_n 1, 1) := by decide +kernel
theorem dX9_write_5 : decode cX9_write 5 = .ok (.aload_n 0, 1) := by decide +kernel
theorem dX9_write_6 : decode cX9_write 6 = .ok (.getfield 214, 3) := by decide +kernel
theorem dX9_write_9 : decode cX9_write 9 = .ok (.if_icmp .lt 7, 3) := by decide +kernel
theorem dX9_write_12 : decode cX9_write 12 = .ok (.iconst (-1), 1) := by decide +kernel
theorem dX9_write_13 : decode cX9_write 13 = .ok (.goto 9, 3) := by decide +kernel
theorem dX9_write_16 : decode cX9_write 16 = .ok (.aload_n 0, 1) := by decide +kernel
theorem dX9_write_17 : decode cX9_write 17 = .ok (.getfield 111, 3) := by decide +kernel
theorem dX9_write_20 : decode cX9_write 20 = .ok (.iload_n 1, 1) := by decide +kernel
theorem dX9_write_21 : decode cX9_write 21 = .ok (.baload, 1) := by decide +kernel
theorem dX9_write_22 : decode cX9_write 22 = .ok (.ireturn, 1) := by decide +kernel
set_option maxRecDepth 20000 in
theorem ggX9_flat_X9_isFlat : GoodIn wsX9_flat wsX9_isFlat := goodIn_r _ [8, 2, 9, 10, 11, 7, 12, 13, 73, 74, 75, 76, 77, 78, 79, 80, 81, 82, 83, 84, 85, 86, 87, 88, 89, 90, 91, 92, 93, 94, 95, 96, 97, 98, 99, 100, 101, 102, 103, 104, 105, 106, 107, 108, 109, 110, 111, 112, 113, 114, 115] (by decide +kernel) (by decide +kernel)
set_option maxRecDepth 20000 in
theorem gX9_flat_X9_isFlat : GoodIn wsX9_flat (wsV RX9 186 RX9 yX9_isFlat wsX9_isFlat) := goodIn_app (goodIn_of _ (by decide +kernel)) ggX9_flat_X9_isFlat
set_option maxRecDepth 20000 in
theorem ggX9_flat_X9_bill : GoodIn wsX9_flat wsX9_bill := goodIn_r _ [17, 1, 18, 19, 20, 21, 22, 23, 24, 7, 25, 9, 10, 11, 12, 13, 26, 27, 28, 29, 30, 31, 32, 33, 34, 35, 36, 37, 38, 39, 40, 41, 42, 43, 44, 45, 46, 47, 48, 49, 50, 51, 52, 53, 54, 55, 56, 57, 58, 59, 60, 61, 62, 63, 64, 65, 66, 67, 68, 69, 70, 71, 72, 73, 74, 75, 76, 77, 78, 79, 80, 81, 82, 83, 84, 85, 86, 87, 88, 89, 90, 91, 92, 93, 94, 95, 96, 97, 98, 99, 100, 101, 102, 103, 104, 105, 106, 107, 108, 109, 110, 111, 112, 113, 114, 115] (by decide +kernel) (by decide +kernel)
set_option maxRecDepth 20000 in
theorem gX9_flat_X9_bill : GoodIn wsX9_flat (wsV RX9 230 RX9 yX9_bill wsX9_bill) := goodIn_app (goodIn_of _ (by decide +kernel)) ggX9_flat_X9_bill
theorem dX9_flat_0 : decode cX9_flat 0 = .ok (.aload_n 0, 1) := by decide +kernel
theorem dX9_flat_1 : decode cX9_flat 1 = .ok (.iload_n 1, 1) := by decide +kernel
theorem dX9_flat_2 : decode cX9_flat 2 = .ok (.iload 5, 2) := by decide +kernel
theorem dX9_flat_4 : decode cX9_flat 4 = .ok (.invokevirtual 186, 3) := by decide +kernel
theorem dX9_flat_7 : decode cX9_flat 7 = .ok (.ifCond .ne 7, 3) := by decide +kernel
theorem dX9_flat_10 : decode cX9_flat 10 = .ok (.ldc2_w 208, 3) := by decide +kernel
theorem dX9_flat_13 : decode cX9_flat 13 = .ok (.lreturn, 1) := by decide +kernel
theorem dX9_flat_14 : decode cX9_flat 14 = .ok (.aload_n 0, 1) := by decide +kernel
theorem dX9_flat_15 : decode cX9_flat 15 = .ok (.iload_n 1, 1) := by decide +kernel
theorem dX9_flat_16 : decode cX9_flat 16 = .ok (.iload_n 2, 1) := by decide +kernel
theorem dX9_flat_17 : decode cX9_flat 17 = .ok (.lload_n 3, 1) := by decide +kernel
theorem dX9_flat_18 : decode cX9_flat 18 = .ok (.invokevirtual 230, 3) := by decide +kernel
theorem dX9_flat_21 : decode cX9_flat 21 = .ok (.lstore 6, 2) := by decide +kernel
theorem dX9_flat_23 : decode cX9_flat 23 = .ok (.lconst 0, 1) := by decide +kernel
theorem dX9_flat_24 : decode cX9_flat 24 = .ok (.lstore 8, 2) := by decide +kernel
theorem dX9_flat_26 : decode cX9_flat 26 = .ok (.iconst 0, 1) := by decide +kernel
theorem dX9_flat_27 : decode cX9_flat 27 = .ok (.istore 10, 2) := by decide +kernel
theorem dX9_flat_29 : decode cX9_flat 29 = .ok (.iload 10, 2) := by decide +kernel
theorem dX9_flat_31 : decode cX9_flat 31 = .ok (.aload_n 0, 1) := by decide +kernel
theorem dX9_flat_32 : decode cX9_flat 32 = .ok (.getfield 7, 3) := by decide +kernel
theorem dX9_flat_35 : decode cX9_flat 35 = .ok (.iload_n 1, 1) := by decide +kernel
theorem dX9_flat_36 : decode cX9_flat 36 = .ok (.iaload, 1) := by decide +kernel
theorem dX9_flat_37 : decode cX9_flat 37 = .ok (.if_icmp .ge 27, 3) := by decide +kernel
theorem dX9_flat_40 : decode cX9_flat 40 = .ok (.lload 8, 2) := by decide +kernel
theorem dX9_flat_42 : decode cX9_flat 42 = .ok (.aload_n 0, 1) := by decide +kernel
theorem dX9_flat_43 : decode cX9_flat 43 = .ok (.getfield 13, 3) := by decide +kernel
theorem dX9_flat_46 : decode cX9_flat 46 = .ok (.bipush 6, 2) := by decide +kernel
theorem dX9_flat_48 : decode cX9_flat 48 = .ok (.iload_n 1, 1) := by decide +kernel
theorem dX9_flat_49 : decode cX9_flat 49 = .ok (.imul, 1) := by decide +kernel
theorem dX9_flat_50 : decode cX9_flat 50 = .ok (.iload 10, 2) := by decide +kernel
theorem dX9_flat_52 : decode cX9_flat 52 = .ok (.iadd, 1) := by decide +kernel
theorem dX9_flat_53 : decode cX9_flat 53 = .ok (.iaload, 1) := by decide +kernel
theorem dX9_flat_54 : decode cX9_flat 54 = .ok (.i2l, 1) := by decide +kernel
theorem dX9_flat_55 : decode cX9_flat 55 = .ok (.ladd, 1) := by decide +kernel
theorem dX9_flat_56 : decode cX9_flat 56 = .ok (.lstore 8, 2) := by decide +kernel
theorem dX9_flat_58 : decode cX9_flat 58 = .ok (.iinc 10 1, 3) := by decide +kernel
theorem dX9_flat_61 : decode cX9_flat 61 = .ok (.goto (-32), 3) := by decide +kernel
theorem dX9_flat_64 : decode cX9_flat 64 = .ok (.lload 6, 2) := by decide +kernel
theorem dX9_flat_66 : decode cX9_flat 66 = .ok (.lconst 0, 1) := by decide +kernel
theorem dX9_flat_67 : decode cX9_flat 67 = .ok (.lcmp, 1) := by decide +kernel
theorem dX9_flat_68 : decode cX9_flat 68 = .ok (.ifCond .lt 10, 3) := by decide +kernel
theorem dX9_flat_71 : decode cX9_flat 71 = .ok (.lload 8, 2) := by decide +kernel
theorem dX9_flat_73 : decode cX9_flat 73 = .ok (.lconst 0, 1) := by decide +kernel
theorem dX9_flat_74 : decode cX9_flat 74 = .ok (.lcmp, 1) := by decide +kernel
theorem dX9_flat_75 : decode cX9_flat 75 = .ok (.ifCond .ne 7, 3) := by decide +kernel
theorem dX9_flat_78 : decode cX9_flat 78 = .ok (.ldc2_w 208, 3) := by decide +kernel
theorem dX9_flat_81 : decode cX9_flat 81 = .ok (.lreturn, 1) := by decide +kernel
theorem dX9_flat_82 : decode cX9_flat 82 = .ok (.lload 6, 2) := by decide +kernel
theorem dX9_flat_84 : decode cX9_flat 84 = .ok (.lstore 10, 2) := by decide +kernel
theorem dX9_flat_86 : decode cX9_flat 86 = .ok (.iconst 0, 1) := by decide +kernel
theorem dX9_flat_87 : decode cX9_flat 87 = .ok (.istore 12, 2) := by decide +kernel
theorem dX9_flat_89 : decode cX9_flat 89 = .ok (.iload 12, 2) := by decide +kernel
theorem dX9_flat_91 : decode cX9_flat 91 = .ok (.aload_n 0, 1) := by decide +kernel
theorem dX9_flat_92 : decode cX9_flat 92 = .ok (.getfield 7, 3) := by decide +kernel
theorem dX9_flat_95 : decode cX9_flat 95 = .ok (.iload_n 1, 1) := by decide +kernel
theorem dX9_flat_96 : decode cX9_flat 96 = .ok (.iaload, 1) := by decide +kernel
theorem dX9_flat_97 : decode cX9_flat 97 = .ok (.if_icmp .ge 33, 3) := by decide +kernel
theorem dX9_flat_100 : decode cX9_flat 100 = .ok (.lload 10, 2) := by decide +kernel
theorem dX9_flat_102 : decode cX9_flat 102 = .ok (.lload 6, 2) := by decide +kernel
theorem dX9_flat_104 : decode cX9_flat 104 = .ok (.aload_n 0, 1) := by decide +kernel
theorem dX9_flat_105 : decode cX9_flat 105 = .ok (.getfield 13, 3) := by decide +kernel
theorem dX9_flat_108 : decode cX9_flat 108 = .ok (.bipush 6, 2) := by decide +kernel
theorem dX9_flat_110 : decode cX9_flat 110 = .ok (.iload_n 1, 1) := by decide +kernel
theorem dX9_flat_111 : decode cX9_flat 111 = .ok (.imul, 1) := by decide +kernel
theorem dX9_flat_112 : decode cX9_flat 112 = .ok (.iload 12, 2) := by decide +kernel
theorem dX9_flat_114 : decode cX9_flat 114 = .ok (.iadd, 1) := by decide +kernel
theorem dX9_flat_115 : decode cX9_flat 115 = .ok (.iaload, 1) := by decide +kernel
theorem dX9_flat_116 : decode cX9_flat 116 = .ok (.i2l, 1) := by decide +kernel
theorem dX9_flat_117 : decode cX9_flat 117 = .ok (.lmul, 1) := by decide +kernel
theorem dX9_flat_118 : decode cX9_flat 118 = .ok (.lload 8, 2) := by decide +kernel
theorem dX9_flat_120 : decode cX9_flat 120 = .ok (.ldiv, 1) := by decide +kernel
theorem dX9_flat_121 : decode cX9_flat 121 = .ok (.lsub, 1) := by decide +kernel
theorem dX9_flat_122 : decode cX9_flat 122 = .ok (.lstore 10, 2) := by decide +kernel
theorem dX9_flat_124 : decode cX9_flat 124 = .ok (.iinc 12 1, 3) := by decide +kernel
theorem dX9_flat_127 : decode cX9_flat 127 = .ok (.goto (-38), 3) := by decide +kernel
theorem dX9_flat_130 : decode cX9_flat 130 = .ok (.lload 6, 2) := by decide +kernel
theorem dX9_flat_132 : decode cX9_flat 132 = .ok (.aload_n 0, 1) := by decide +kernel
theorem dX9_flat_133 : decode cX9_flat 133 = .ok (.getfield 13, 3) := by decide +kernel
theorem dX9_flat_136 : decode cX9_flat 136 = .ok (.bipush 6, 2) := by decide +kernel
theorem dX9_flat_138 : decode cX9_flat 138 = .ok (.iload_n 1, 1) := by decide +kernel
theorem dX9_flat_139 : decode cX9_flat 139 = .ok (.imul, 1) := by decide +kernel
theorem dX9_flat_140 : decode cX9_flat 140 = .ok (.iload 5, 2) := by decide +kernel
theorem dX9_flat_142 : decode cX9_flat 142 = .ok (.iadd, 1) := by decide +kernel
theorem dX9_flat_143 : decode cX9_flat 143 = .ok (.iaload, 1) := by decide +kernel
theorem dX9_flat_144 : decode cX9_flat 144 = .ok (.i2l, 1) := by decide +kernel
theorem dX9_flat_145 : decode cX9_flat 145 = .ok (.lmul, 1) := by decide +kernel
theorem dX9_flat_146 : decode cX9_flat 146 = .ok (.lload 8, 2) := by decide +kernel
theorem dX9_flat_148 : decode cX9_flat 148 = .ok (.ldiv, 1) := by decide +kernel
theorem dX9_flat_149 : decode cX9_flat 149 = .ok (.lstore 12, 2) := by decide +kernel
theorem dX9_flat_151 : decode cX9_flat 151 = .ok (.iconst 0, 1) := by decide +kernel
theorem dX9_flat_152 : decode cX9_flat 152 = .ok (.istore 14, 2) := by decide +kernel
theorem dX9_flat_154 : decode cX9_flat 154 = .ok (.iconst 0, 1) := by decide +kernel
theorem dX9_flat_155 : decode cX9_flat 155 = .ok (.istore 15, 2) := by decide +kernel
theorem dX9_flat_157 : decode cX9_flat 157 = .ok (.iload 15, 2) := by decide +kernel
theorem dX9_flat_159 : decode cX9_flat 159 = .ok (.iload 5, 2) := by decide +kernel
theorem dX9_flat_161 : decode cX9_flat 161 = .ok (.if_icmp .ge 35, 3) := by decide +kernel
theorem dX9_flat_164 : decode cX9_flat 164 = .ok (.aload_n 0, 1) := by decide +kernel
theorem dX9_flat_165 : decode cX9_flat 165 = .ok (.getfield 13, 3) := by decide +kernel
theorem dX9_flat_168 : decode cX9_flat 168 = .ok (.bipush 6, 2) := by decide +kernel
theorem dX9_flat_170 : decode cX9_flat 170 = .ok (.iload_n 1, 1) := by decide +kernel
theorem dX9_flat_171 : decode cX9_flat 171 = .ok (.imul, 1) := by decide +kernel
theorem dX9_flat_172 : decode cX9_flat 172 = .ok (.iload 15, 2) := by decide +kernel
theorem dX9_flat_174 : decode cX9_flat 174 = .ok (.iadd, 1) := by decide +kernel
theorem dX9_flat_175 : decode cX9_flat 175 = .ok (.iaload, 1) := by decide +kernel
theorem dX9_flat_176 : decode cX9_flat 176 = .ok (.ifCond .le 10, 3) := by decide +kernel
theorem dX9_flat_179 : decode cX9_flat 179 = .ok (.iload 14, 2) := by decide +kernel
theorem dX9_flat_181 : decode cX9_flat 181 = .ok (.iconst 1, 1) := by decide +kernel
theorem dX9_flat_182 : decode cX9_flat 182 = .ok (.iadd, 1) := by decide +kernel
theorem dX9_flat_183 : decode cX9_flat 183 = .ok (.goto 5, 3) := by decide +kernel
theorem dX9_flat_186 : decode cX9_flat 186 = .ok (.iload 14, 2) := by decide +kernel
theorem dX9_flat_188 : decode cX9_flat 188 = .ok (.istore 14, 2) := by decide +kernel
theorem dX9_flat_190 : decode cX9_flat 190 = .ok (.iinc 15 1, 3) := by decide +kernel
theorem dX9_flat_193 : decode cX9_flat 193 = .ok (.goto (-36), 3) := by decide +kernel
theorem dX9_flat_196 : decode cX9_flat 196 = .ok (.aload_n 0, 1) := by decide +kernel
theorem dX9_flat_197 : decode cX9_flat 197 = .ok (.getfield 13, 3) := by decide +kernel
theorem dX9_flat_200 : decode cX9_flat 200 = .ok (.bipush 6, 2) := by decide +kernel
theorem dX9_flat_202 : decode cX9_flat 202 = .ok (.iload_n 1, 1) := by decide +kernel
theorem dX9_flat_203 : decode cX9_flat 203 = .ok (.imul, 1) := by decide +kernel
theorem dX9_flat_204 : decode cX9_flat 204 = .ok (.iload 5, 2) := by decide +kernel
theorem dX9_flat_206 : decode cX9_flat 206 = .ok (.iadd, 1) := by decide +kernel
theorem dX9_flat_207 : decode cX9_flat 207 = .ok (.iaload, 1) := by decide +kernel
theorem dX9_flat_208 : decode cX9_flat 208 = .ok (.ifCond .le 19, 3) := by decide +kernel
theorem dX9_flat_211 : decode cX9_flat 211 = .ok (.iload 14, 2) := by decide +kernel
theorem dX9_flat_213 : decode cX9_flat 213 = .ok (.i2l, 1) := by decide +kernel
theorem dX9_flat_214 : decode cX9_flat 214 = .ok (.lload 10, 2) := by decide +kernel
theorem dX9_flat_216 : decode cX9_flat 216 = .ok (.lcmp, 1) := by decide +kernel
theorem dX9_flat_217 : decode cX9_flat 217 = .ok (.ifCond .ge 10, 3) := by decide +kernel
theorem dX9_flat_220 : decode cX9_flat 220 = .ok (.lload 12, 2) := by decide +kernel
theorem dX9_flat_222 : decode cX9_flat 222 = .ok (.lconst 1, 1) := by decide +kernel
theorem dX9_flat_223 : decode cX9_flat 223 = .ok (.ladd, 1) := by decide +kernel
theorem dX9_flat_224 : decode cX9_flat 224 = .ok (.goto 5, 3) := by decide +kernel
theorem dX9_flat_227 : decode cX9_flat 227 = .ok (.lload 12, 2) := by decide +kernel
theorem dX9_flat_229 : decode cX9_flat 229 = .ok (.lreturn, 1) := by decide +kernel
set_option maxRecDepth 20000 in
theorem ggX9_issue_X9_bill : GoodIn wsX9_issue wsX9_bill := goodIn_r _ [6, 7, 8, 9, 10, 11, 12, 13, 14, 5, 15, 16, 17, 18, 19, 20, 21, 22, 23, 24, 25, 26, 27, 28, 29, 30, 31, 32, 33, 34, 35, 36, 37, 38, 39, 40, 41, 42, 43, 44, 45, 46, 47, 48, 49, 50, 51, 52, 53, 54, 55, 56, 57, 58, 59, 60, 61, 62, 63, 64, 65, 66, 67, 68, 69, 70, 71, 72, 73, 74, 75, 76, 77, 78, 79, 80, 81, 82, 83, 84, 85, 86, 87, 88, 89, 90, 91, 92, 93, 94, 95, 96, 97, 98, 99, 100, 101, 102, 103, 104, 105, 106, 107, 108, 109, 110] (by decide +kernel) (by decide +kernel)
set_option maxRecDepth 20000 in
theorem gX9_issue_X9_bill : GoodIn wsX9_issue (wsV RX9 230 RX9 yX9_bill wsX9_bill) := goodIn_app (goodIn_of _ (by decide +kernel)) ggX9_issue_X9_bill
theorem dX9_issue_0 : decode cX9_issue 0 = .ok (.aload_n 0, 1) := by decide +kernel
theorem dX9_issue_1 : decode cX9_issue 1 = .ok (.iload_n 1, 1) := by decide +kernel
theorem dX9_issue_2 : decode cX9_issue 2 = .ok (.iload_n 2, 1) := by decide +kernel
theorem dX9_issue_3 : decode cX9_issue 3 = .ok (.lload_n 3, 1) := by decide +kernel
theorem dX9_issue_4 : decode cX9_issue 4 = .ok (.invokevirtual 230, 3) := by decide +kernel
theorem dX9_issue_7 : decode cX9_issue 7 = .ok (.lstore 5, 2) := by decide +kernel
theorem dX9_issue_9 : decode cX9_issue 9 = .ok (.lload 5, 2) := by decide +kernel
theorem dX9_issue_11 : decode cX9_issue 11 = .ok (.lconst 0, 1) := by decide +kernel
theorem dX9_issue_12 : decode cX9_issue 12 = .ok (.lcmp, 1) := by decide +kernel
theorem dX9_issue_13 : decode cX9_issue 13 = .ok (.ifCond .ge 6, 3) := by decide +kernel
theorem dX9_issue_16 : decode cX9_issue 16 = .ok (.lload 5, 2) := by decide +kernel
theorem dX9_issue_18 : decode cX9_issue 18 = .ok (.lreturn, 1) := by decide +kernel
theorem dX9_issue_19 : decode cX9_issue 19 = .ok (.lload 5, 2) := by decide +kernel
theorem dX9_issue_21 : decode cX9_issue 21 = .ok (.aload_n 0, 1) := by decide +kernel
theorem dX9_issue_22 : decode cX9_issue 22 = .ok (.getfield 84, 3) := by decide +kernel
theorem dX9_issue_25 : decode cX9_issue 25 = .ok (.bipush 120, 2) := by decide +kernel
theorem dX9_issue_27 : decode cX9_issue 27 = .ok (.iload_n 1, 1) := by decide +kernel
theorem dX9_issue_28 : decode cX9_issue 28 = .ok (.imul, 1) := by decide +kernel
theorem dX9_issue_29 : decode cX9_issue 29 = .ok (.iload_n 2, 1) := by decide +kernel
theorem dX9_issue_30 : decode cX9_issue 30 = .ok (.iadd, 1) := by decide +kernel
theorem dX9_issue_31 : decode cX9_issue 31 = .ok (.laload, 1) := by decide +kernel
theorem dX9_issue_32 : decode cX9_issue 32 = .ok (.lsub, 1) := by decide +kernel
theorem dX9_issue_33 : decode cX9_issue 33 = .ok (.lstore 7, 2) := by decide +kernel
theorem dX9_issue_35 : decode cX9_issue 35 = .ok (.aload_n 0, 1) := by decide +kernel
theorem dX9_issue_36 : decode cX9_issue 36 = .ok (.getfield 84, 3) := by decide +kernel
theorem dX9_issue_39 : decode cX9_issue 39 = .ok (.bipush 120, 2) := by decide +kernel
theorem dX9_issue_41 : decode cX9_issue 41 = .ok (.iload_n 1, 1) := by decide +kernel
theorem dX9_issue_42 : decode cX9_issue 42 = .ok (.imul, 1) := by decide +kernel
theorem dX9_issue_43 : decode cX9_issue 43 = .ok (.iload_n 2, 1) := by decide +kernel
theorem dX9_issue_44 : decode cX9_issue 44 = .ok (.iadd, 1) := by decide +kernel
theorem dX9_issue_45 : decode cX9_issue 45 = .ok (.lload 5, 2) := by decide +kernel
theorem dX9_issue_47 : decode cX9_issue 47 = .ok (.lastore, 1) := by decide +kernel
theorem dX9_issue_48 : decode cX9_issue 48 = .ok (.lload 7, 2) := by decide +kernel
theorem dX9_issue_50 : decode cX9_issue 50 = .ok (.lreturn, 1) := by decide +kernel
set_option maxRecDepth 20000 in
theorem ggX9_issued_X9_isHouse : GoodIn wsX9_issued wsX9_isHouse := goodIn_r _ [7, 8, 12, 13, 14, 15, 16, 17, 18, 19, 20, 21, 22, 23, 24, 25, 26, 27, 28, 29, 30, 31, 32, 33, 34, 35, 36, 37, 38, 39, 40, 41, 42, 43, 44, 45, 46, 47, 48, 49, 50, 51, 52, 53, 54] (by decide +kernel) (by decide +kernel)
set_option maxRecDepth 20000 in
theorem gX9_issued_X9_isHouse : GoodIn wsX9_issued (wsV RX9 126 RX9 yX9_isHouse wsX9_isHouse) := goodIn_app (goodIn_of _ (by decide +kernel)) ggX9_issued_X9_isHouse
set_option maxRecDepth 20000 in
theorem ggX9_issued_X9_isMonth : GoodIn wsX9_issued wsX9_isMonth := goodIn_r _ [11] (by decide +kernel) (by decide +kernel)
set_option maxRecDepth 20000 in
theorem gX9_issued_X9_isMonth : GoodIn wsX9_issued (va_wsS RX9 178 yX9_isMonth wsX9_isMonth) := goodIn_app (goodIn_of _ (by decide +kernel)) ggX9_issued_X9_isMonth
theorem dX9_issued_0 : decode cX9_issued 0 = .ok (.aload_n 0, 1) := by decide +kernel
theorem dX9_issued_1 : decode cX9_issued 1 = .ok (.iload_n 1, 1) := by decide +kernel
theorem dX9_issued_2 : decode cX9_issued 2 = .ok (.invokevirtual 126, 3) := by decide +kernel
theorem dX9_issued_5 : decode cX9_issued 5 = .ok (.ifCond .eq 24, 3) := by decide +kernel
theorem dX9_issued_8 : decode cX9_issued 8 = .ok (.iload_n 2, 1) := by decide +kernel
theorem dX9_issued_9 : decode cX9_issued 9 = .ok (.invokestatic 178, 3) := by decide +kernel
theorem dX9_issued_12 : decode cX9_issued 12 = .ok (.ifCond .eq 17, 3) := by decide +kernel
theorem dX9_issued_15 : decode cX9_issued 15 = .ok (.aload_n 0, 1) := by decide +kernel
theorem dX9_issued_16 : decode cX9_issued 16 = .ok (.getfield 84, 3) := by decide +kernel
theorem dX9_issued_19 : decode cX9_issued 19 = .ok (.bipush 120, 2) := by decide +kernel
theorem dX9_issued_21 : decode cX9_issued 21 = .ok (.iload_n 1, 1) := by decide +kernel
theorem dX9_issued_22 : decode cX9_issued 22 = .ok (.imul, 1) := by decide +kernel
theorem dX9_issued_23 : decode cX9_issued 23 = .ok (.iload_n 2, 1) := by decide +kernel
theorem dX9_issued_24 : decode cX9_issued 24 = .ok (.iadd, 1) := by decide +kernel
theorem dX9_issued_25 : decode cX9_issued 25 = .ok (.laload, 1) := by decide +kernel
theorem dX9_issued_26 : decode cX9_issued 26 = .ok (.goto 6, 3) := by decide +kernel
theorem dX9_issued_29 : decode cX9_issued 29 = .ok (.ldc2_w 208, 3) := by decide +kernel
theorem dX9_issued_32 : decode cX9_issued 32 = .ok (.lreturn, 1) := by decide +kernel
set_option maxRecDepth 20000 in
theorem ggX9_reverse_X9_isHouse : GoodIn wsX9_reverse wsX9_isHouse := goodIn_r _ [7, 8, 12, 13, 14, 15, 16, 17, 18, 19, 20, 21, 22, 23, 24, 25, 26, 27, 28, 29, 30, 31, 32, 33, 34, 35, 36, 37, 38, 39, 40, 41, 42, 43, 44, 45, 46, 47, 48, 49, 50, 51, 52, 53, 54] (by decide +kernel) (by decide +kernel)
set_option maxRecDepth 20000 in
theorem gX9_reverse_X9_isHouse : GoodIn wsX9_reverse (wsV RX9 126 RX9 yX9_isHouse wsX9_isHouse) := goodIn_app (goodIn_of _ (by decide +kernel)) ggX9_reverse_X9_isHouse
set_option maxRecDepth 20000 in
theorem ggX9_reverse_X9_isMonth : GoodIn wsX9_reverse wsX9_isMonth := goodIn_r _ [11] (by decide +kernel) (by decide +kernel)
set_option maxRecDepth 20000 in
theorem gX9_reverse_X9_isMonth : GoodIn wsX9_reverse (va_wsS RX9 178 yX9_isMonth wsX9_isMonth) := goodIn_app (goodIn_of _ (by decide +kernel)) ggX9_reverse_X9_isMonth
theorem dX9_reverse_0 : decode cX9_reverse 0 = .ok (.aload_n 0, 1) := by decide +kernel
theorem dX9_reverse_1 : decode cX9_reverse 1 = .ok (.iload_n 1, 1) := by decide +kernel
theorem dX9_reverse_2 : decode cX9_reverse 2 = .ok (.invokevirtual 126, 3) := by decide +kernel
theorem dX9_reverse_5 : decode cX9_reverse 5 = .ok (.ifCond .eq 10, 3) := by decide +kernel
theorem dX9_reverse_8 : decode cX9_reverse 8 = .ok (.iload_n 2, 1) := by decide +kernel
theorem dX9_reverse_9 : decode cX9_reverse 9 = .ok (.invokestatic 178, 3) := by decide +kernel
theorem dX9_reverse_12 : decode cX9_reverse 12 = .ok (.ifCond .ne 7, 3) := by decide +kernel
theorem dX9_reverse_15 : decode cX9_reverse 15 = .ok (.ldc2_w 208, 3) := by decide +kernel
theorem dX9_reverse_18 : decode cX9_reverse 18 = .ok (.lreturn, 1) := by decide +kernel
theorem dX9_reverse_19 : decode cX9_reverse 19 = .ok (.aload_n 0, 1) := by decide +kernel
theorem dX9_reverse_20 : decode cX9_reverse 20 = .ok (.getfield 84, 3) := by decide +kernel
theorem dX9_reverse_23 : decode cX9_reverse 23 = .ok (.bipush 120, 2) := by decide +kernel
theorem dX9_reverse_25 : decode cX9_reverse 25 = .ok (.iload_n 1, 1) := by decide +kernel
theorem dX9_reverse_26 : decode cX9_reverse 26 = .ok (.imul, 1) := by decide +kernel
theorem dX9_reverse_27 : decode cX9_reverse 27 = .ok (.iload_n 2, 1) := by decide +kernel
theorem dX9_reverse_28 : decode cX9_reverse 28 = .ok (.iadd, 1) := by decide +kernel
theorem dX9_reverse_29 : decode cX9_reverse 29 = .ok (.laload, 1) := by decide +kernel
theorem dX9_reverse_30 : decode cX9_reverse 30 = .ok (.lstore_n 3, 1) := by decide +kernel
theorem dX9_reverse_31 : decode cX9_reverse 31 = .ok (.aload_n 0, 1) := by decide +kernel
theorem dX9_reverse_32 : decode cX9_reverse 32 = .ok (.getfield 84, 3) := by decide +kernel
theorem dX9_reverse_35 : decode cX9_reverse 35 = .ok (.bipush 120, 2) := by decide +kernel
theorem dX9_reverse_37 : decode cX9_reverse 37 = .ok (.iload_n 1, 1) := by decide +kernel
theorem dX9_reverse_38 : decode cX9_reverse 38 = .ok (.imul, 1) := by decide +kernel
theorem dX9_reverse_39 : decode cX9_reverse 39 = .ok (.iload_n 2, 1) := by decide +kernel
theorem dX9_reverse_40 : decode cX9_reverse 40 = .ok (.iadd, 1) := by decide +kernel
theorem dX9_reverse_41 : decode cX9_reverse 41 = .ok (.lconst 0, 1) := by decide +kernel
theorem dX9_reverse_42 : decode cX9_reverse 42 = .ok (.lastore, 1) := by decide +kernel
theorem dX9_reverse_43 : decode cX9_reverse 43 = .ok (.lload_n 3, 1) := by decide +kernel
theorem dX9_reverse_44 : decode cX9_reverse 44 = .ok (.lneg, 1) := by decide +kernel
theorem dX9_reverse_45 : decode cX9_reverse 45 = .ok (.lreturn, 1) := by decide +kernel
