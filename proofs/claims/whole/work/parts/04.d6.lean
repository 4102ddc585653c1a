theorem dX6_init_0 : decode cX6_init 0 = .ok (.aload_n 0, 1) := by decide +kernel
theorem dX6_init_1 : decode cX6_init 1 = .ok (.invokespecial 3, 3) := by decide +kernel
theorem dX6_init_4 : decode cX6_init 4 = .ok (.aload_n 0, 1) := by decide +kernel
theorem dX6_init_5 : decode cX6_init 5 = .ok (.aload_n 1, 1) := by decide +kernel
theorem dX6_init_6 : decode cX6_init 6 = .ok (.putfield 9, 3) := by decide +kernel
theorem dX6_init_9 : decode cX6_init 9 = .ok (.aload_n 0, 1) := by decide +kernel
theorem dX6_init_10 : decode cX6_init 10 = .ok (.aload_n 2, 1) := by decide +kernel
theorem dX6_init_11 : decode cX6_init 11 = .ok (.putfield 15, 3) := by decide +kernel
theorem dX6_init_14 : decode cX6_init 14 = .ok (.return_, 1) := by decide +kernel
set_option maxRecDepth 20000 in
theorem ggX6_readRules_X0_startDraft : GoodIn wsX6_readRules wsX0_startDraft := goodIn_r _ [7, 8, 9, 10, 11, 12, 13, 6, 14, 15, 16, 17, 18, 19, 20, 166, 167, 168, 169, 170, 171, 172, 173, 174, 175, 176, 177, 178] (by decide +kernel) (by decide +kernel)
set_option maxRecDepth 20000 in
theorem gX6_readRules_X0_startDraft : GoodIn wsX6_readRules (wsV RX6 19 RX0 yX0_startDraft wsX0_startDraft) := goodIn_app (goodIn_of _ (by decide +kernel)) ggX6_readRules_X0_startDraft
set_option maxRecDepth 20000 in
theorem ggX6_readRules_X7_toFirstWord : GoodIn wsX6_readRules wsX7_toFirstWord := goodIn_r _ [25, 26, 27, 28, 29, 30, 24, 31, 32, 33, 34, 35, 36, 37, 18, 38, 20, 39, 40, 41, 42, 43, 179, 180, 181, 182, 183, 178] (by decide +kernel) (by decide +kernel)
set_option maxRecDepth 20000 in
theorem gX6_readRules_X7_toFirstWord : GoodIn wsX6_readRules (wsV RX6 24 RX7 yX7_toFirstWord wsX7_toFirstWord) := goodIn_app (goodIn_of _ (by decide +kernel)) ggX6_readRules_X7_toFirstWord
set_option maxRecDepth 20000 in
theorem ggX6_readRules_X7_hasWord : GoodIn wsX6_readRules wsX7_hasWord := goodIn_r _ [47, 32, 26, 179, 180, 181, 182, 183] (by decide +kernel) (by decide +kernel)
set_option maxRecDepth 20000 in
theorem gX6_readRules_X7_hasWord : GoodIn wsX6_readRules (wsV RX6 29 RX7 yX7_hasWord wsX7_hasWord) := goodIn_app (goodIn_of _ (by decide +kernel)) ggX6_readRules_X7_hasWord
set_option maxRecDepth 20000 in
theorem ggX6_readRules_X6_takeRule : GoodIn wsX6_readRules wsX6_takeRule := goodIn_r _ [52, 2, 53, 1, 54, 55, 56, 51, 57, 58, 59, 60, 24, 61, 26, 32, 34, 62, 63, 64, 65, 66, 67, 68, 69, 70, 71, 72, 73, 35, 36, 37, 18, 38, 20, 74, 75, 76, 77, 78, 79, 80, 81, 82, 83, 84, 85, 86, 87, 88, 89, 90, 91, 92, 93, 94, 95, 96, 97, 98, 99, 100, 101, 102, 103, 104, 105, 106, 107, 108, 109, 110, 111, 29, 30, 31, 33, 27, 39, 40, 41, 42, 43, 112, 113, 114, 115, 116, 117, 118, 119, 45, 46, 47, 120, 121, 122, 6, 123, 9, 10, 11, 12, 13, 14, 124, 125, 126, 127, 128, 129, 130, 131, 132, 133, 134, 135, 136, 137, 138, 139, 140, 8, 141, 15, 16, 17, 19, 142, 143, 144, 145, 146, 147, 148, 149, 150, 151, 152, 153, 154, 155, 156, 157, 158, 159, 164, 165, 179, 180, 181, 182, 183, 178, 166, 167, 168, 169, 170, 171, 172, 173, 174, 175, 176, 177] (by decide +kernel) (by decide +kernel)
set_option maxRecDepth 20000 in
theorem gX6_readRules_X6_takeRule : GoodIn wsX6_readRules (wsV RX6 33 RX6 yX6_takeRule wsX6_takeRule) := goodIn_app (goodIn_of _ (by decide +kernel)) ggX6_readRules_X6_takeRule
set_option maxRecDepth 20000 in
theorem ggX6_readRules_X7_numberOfWord : GoodIn wsX6_readRules wsX7_numberOfWord := goodIn_r _ [163, 27, 179, 180, 181, 182, 183] (by decide +kernel) (by decide +kernel)
set_option maxRecDepth 20000 in
theorem gX6_readRules_X7_numberOfWord : GoodIn wsX6_readRules (wsV RX6 36 RX7 yX7_numberOfWord wsX7_numberOfWord) := goodIn_app (goodIn_of _ (by decide +kernel)) ggX6_readRules_X7_numberOfWord
theorem dX6_readRules_0 : decode cX6_readRules 0 = .ok (.aload_n 0, 1) := by decide +kernel
theorem dX6_readRules_1 : decode cX6_readRules 1 = .ok (.getfield 15, 3) := by decide +kernel
theorem dX6_readRules_4 : decode cX6_readRules 4 = .ok (.invokevirtual 19, 3) := by decide +kernel
theorem dX6_readRules_7 : decode cX6_readRules 7 = .ok (.aload_n 0, 1) := by decide +kernel
theorem dX6_readRules_8 : decode cX6_readRules 8 = .ok (.getfield 9, 3) := by decide +kernel
theorem dX6_readRules_11 : decode cX6_readRules 11 = .ok (.invokevirtual 24, 3) := by decide +kernel
theorem dX6_readRules_14 : decode cX6_readRules 14 = .ok (.iconst 0, 1) := by decide +kernel
theorem dX6_readRules_15 : decode cX6_readRules 15 = .ok (.istore_n 1, 1) := by decide +kernel
theorem dX6_readRules_16 : decode cX6_readRules 16 = .ok (.iload_n 1, 1) := by decide +kernel
theorem dX6_readRules_17 : decode cX6_readRules 17 = .ok (.bipush 6, 2) := by decide +kernel
theorem dX6_readRules_19 : decode cX6_readRules 19 = .ok (.if_icmp .gt 31, 3) := by decide +kernel
theorem dX6_readRules_22 : decode cX6_readRules 22 = .ok (.aload_n 0, 1) := by decide +kernel
theorem dX6_readRules_23 : decode cX6_readRules 23 = .ok (.getfield 9, 3) := by decide +kernel
theorem dX6_readRules_26 : decode cX6_readRules 26 = .ok (.invokevirtual 29, 3) := by decide +kernel
theorem dX6_readRules_29 : decode cX6_readRules 29 = .ok (.ifCond .ne 5, 3) := by decide +kernel
theorem dX6_readRules_32 : decode cX6_readRules 32 = .ok (.iload_n 1, 1) := by decide +kernel
theorem dX6_readRules_33 : decode cX6_readRules 33 = .ok (.ireturn, 1) := by decide +kernel
theorem dX6_readRules_34 : decode cX6_readRules 34 = .ok (.aload_n 0, 1) := by decide +kernel
theorem dX6_readRules_35 : decode cX6_readRules 35 = .ok (.invokevirtual 33, 3) := by decide +kernel
theorem dX6_readRules_38 : decode cX6_readRules 38 = .ok (.ifCond .ne 6, 3) := by decide +kernel
theorem dX6_readRules_41 : decode cX6_readRules 41 = .ok (.goto 9, 3) := by decide +kernel
theorem dX6_readRules_44 : decode cX6_readRules 44 = .ok (.iinc 1 1, 3) := by decide +kernel
theorem dX6_readRules_47 : decode cX6_readRules 47 = .ok (.goto (-31), 3) := by decide +kernel
theorem dX6_readRules_50 : decode cX6_readRules 50 = .ok (.iconst (-1), 1) := by decide +kernel
theorem dX6_readRules_51 : decode cX6_readRules 51 = .ok (.aload_n 0, 1) := by decide +kernel
theorem dX6_readRules_52 : decode cX6_readRules 52 = .ok (.getfield 9, 3) := by decide +kernel
theorem dX6_readRules_55 : decode cX6_readRules 55 = .ok (.invokevirtual 36, 3) := by decide +kernel
theorem dX6_readRules_58 : decode cX6_readRules 58 = .ok (.isub, 1) := by decide +kernel
theorem dX6_readRules_59 : decode cX6_readRules 59 = .ok (.ireturn, 1) := by decide +kernel
set_option maxRecDepth 20000 in
theorem ggX6_takeRule_X6_takeWord : GoodIn wsX6_takeRule wsX6_takeWord := goodIn_r _ [8, 1, 9, 10, 11, 12, 13, 14, 15, 16, 17, 18, 19, 20, 21, 22, 23, 24, 25, 26, 27, 28, 29, 30, 31, 32, 33, 34, 35, 36, 37, 38, 39, 40, 41, 42, 43, 44, 45, 46, 47, 48, 49, 50, 51, 52, 53, 54, 55, 56, 57, 58, 59, 60, 61, 62, 63, 64, 65, 66, 67, 68, 69, 70, 71, 72, 73, 74, 75, 76, 77, 78, 79, 80, 81, 82, 146, 147, 148, 149, 150, 151, 152, 153] (by decide +kernel) (by decide +kernel)
set_option maxRecDepth 20000 in
theorem gX6_takeRule_X6_takeWord : GoodIn wsX6_takeRule (wsV RX6 42 RX6 yX6_takeWord wsX6_takeWord) := goodIn_app (goodIn_of _ (by decide +kernel)) ggX6_takeRule_X6_takeWord
set_option maxRecDepth 20000 in
theorem ggX6_takeRule_X7_asNumber : GoodIn wsX6_takeRule wsX7_asNumber := goodIn_r _ [86, 14, 15, 87, 16, 88, 89, 82, 90, 91, 92, 12, 93, 29, 30, 31, 32, 33, 34, 148, 149, 150, 151, 152, 153] (by decide +kernel) (by decide +kernel)
set_option maxRecDepth 20000 in
theorem gX6_takeRule_X7_asNumber : GoodIn wsX6_takeRule (wsV RX6 46 RX7 yX7_asNumber wsX7_asNumber) := goodIn_app (goodIn_of _ (by decide +kernel)) ggX6_takeRule_X7_asNumber
set_option maxRecDepth 20000 in
theorem ggX6_takeRule_X0_draftHasRule : GoodIn wsX6_takeRule wsX0_draftHasRule := goodIn_r _ [98, 99, 100, 101, 102, 103, 97, 104, 105, 30, 31, 32, 33, 34, 154, 155, 156, 157, 158, 159, 160, 161, 162, 163, 164, 165, 153] (by decide +kernel) (by decide +kernel)
set_option maxRecDepth 20000 in
theorem gX6_takeRule_X0_draftHasRule : GoodIn wsX6_takeRule (wsV RX6 52 RX0 yX0_draftHasRule wsX0_draftHasRule) := goodIn_app (goodIn_of _ (by decide +kernel)) ggX6_takeRule_X0_draftHasRule
set_option maxRecDepth 20000 in
theorem ggX6_takeRule_X7_toNextWord : GoodIn wsX6_takeRule wsX7_toNextWord := goodIn_r _ [75, 14, 15, 76, 16, 77, 29, 30, 31, 32, 33, 34, 78, 79, 12, 80, 81, 82, 148, 149, 150, 151, 152, 153] (by decide +kernel) (by decide +kernel)
set_option maxRecDepth 20000 in
theorem gX6_takeRule_X7_toNextWord : GoodIn wsX6_takeRule (wsV RX6 56 RX7 yX7_toNextWord wsX7_toNextWord) := goodIn_app (goodIn_of _ (by decide +kernel)) ggX6_takeRule_X7_toNextWord
set_option maxRecDepth 20000 in
theorem ggX6_takeRule_X6_takePrice : GoodIn wsX6_takeRule wsX6_takePrice := goodIn_r _ [109, 110, 3, 4, 5, 6, 7, 8, 1, 9, 10, 11, 12, 13, 14, 15, 16, 17, 18, 19, 20, 21, 22, 23, 24, 25, 26, 27, 28, 29, 30, 31, 32, 33, 34, 35, 36, 37, 38, 39, 40, 41, 42, 43, 44, 45, 46, 47, 48, 49, 50, 51, 52, 53, 54, 55, 56, 57, 58, 59, 60, 61, 62, 63, 64, 65, 66, 67, 68, 69, 70, 71, 72, 73, 74, 75, 76, 77, 78, 79, 80, 81, 82, 111, 112, 113, 114, 83, 84, 85, 86, 87, 88, 89, 90, 91, 92, 93, 115, 116, 117, 97, 118, 100, 99, 119, 120, 101, 121, 122, 123, 102, 103, 104, 124, 125, 126, 127, 146, 147, 148, 149, 150, 151, 152, 153, 154, 155, 156, 157, 158, 159, 160, 161, 162, 163, 164, 165] (by decide +kernel) (by decide +kernel)
set_option maxRecDepth 20000 in
theorem gX6_takeRule_X6_takePrice : GoodIn wsX6_takeRule (wsV RX6 59 RX6 yX6_takePrice wsX6_takePrice) := goodIn_app (goodIn_of _ (by decide +kernel)) ggX6_takeRule_X6_takePrice
set_option maxRecDepth 20000 in
theorem ggX6_takeRule_X6_takeSteps : GoodIn wsX6_takeRule wsX6_takeSteps := goodIn_r _ [131, 110, 3, 4, 5, 6, 7, 8, 1, 9, 10, 11, 12, 13, 14, 15, 16, 17, 18, 19, 20, 21, 22, 23, 24, 25, 26, 27, 28, 29, 30, 31, 32, 33, 34, 35, 36, 37, 38, 39, 40, 41, 42, 43, 44, 45, 46, 47, 48, 49, 50, 51, 52, 53, 54, 55, 56, 57, 58, 59, 60, 61, 62, 63, 64, 65, 66, 67, 68, 69, 70, 71, 72, 73, 74, 75, 76, 77, 78, 79, 80, 81, 82, 111, 112, 113, 114, 83, 84, 85, 86, 87, 88, 89, 90, 91, 92, 93, 132, 133, 134, 97, 135, 100, 122, 136, 137, 123, 102, 103, 104, 124, 125, 126, 127, 105, 146, 147, 148, 149, 150, 151, 152, 153, 154, 155, 156, 157, 158, 159, 160, 161, 162, 163, 164, 165] (by decide +kernel) (by decide +kernel)
set_option maxRecDepth 20000 in
theorem gX6_takeRule_X6_takeSteps : GoodIn wsX6_takeRule (wsV RX6 62 RX6 yX6_takeSteps wsX6_takeSteps) := goodIn_app (goodIn_of _ (by decide +kernel)) ggX6_takeRule_X6_takeSteps
set_option maxRecDepth 20000 in
theorem ggX6_takeRule_X6_takeCap : GoodIn wsX6_takeRule wsX6_takeCap := goodIn_r _ [141, 110, 3, 4, 5, 6, 7, 8, 1, 9, 10, 11, 12, 13, 14, 15, 16, 17, 18, 19, 20, 21, 22, 23, 24, 25, 26, 27, 28, 29, 30, 31, 32, 33, 34, 35, 36, 37, 38, 39, 40, 41, 42, 43, 44, 45, 46, 47, 48, 49, 50, 51, 52, 53, 54, 55, 56, 57, 58, 59, 60, 61, 62, 63, 64, 65, 66, 67, 68, 69, 70, 71, 72, 73, 74, 75, 76, 77, 78, 79, 80, 81, 82, 111, 112, 113, 114, 83, 84, 85, 86, 87, 88, 89, 90, 91, 92, 93, 142, 143, 144, 97, 145, 120, 100, 102, 103, 104, 124, 125, 126, 127, 146, 147, 148, 149, 150, 151, 152, 153, 154, 155, 156, 157, 158, 159, 160, 161, 162, 163, 164, 165] (by decide +kernel) (by decide +kernel)
set_option maxRecDepth 20000 in
theorem gX6_takeRule_X6_takeCap : GoodIn wsX6_takeRule (wsV RX6 65 RX6 yX6_takeCap wsX6_takeCap) := goodIn_app (goodIn_of _ (by decide +kernel)) ggX6_takeRule_X6_takeCap
theorem dX6_takeRule_0 : decode cX6_takeRule 0 = .ok (.aload_n 0, 1) := by decide +kernel
theorem dX6_takeRule_1 : decode cX6_takeRule 1 = .ok (.ldc 40, 2) := by decide +kernel
theorem dX6_takeRule_3 : decode cX6_takeRule 3 = .ok (.invokevirtual 42, 3) := by decide +kernel
theorem dX6_takeRule_6 : decode cX6_takeRule 6 = .ok (.ifCond .ne 5, 3) := by decide +kernel
theorem dX6_takeRule_9 : decode cX6_takeRule 9 = .ok (.iconst 0, 1) := by decide +kernel
theorem dX6_takeRule_10 : decode cX6_takeRule 10 = .ok (.ireturn, 1) := by decide +kernel
theorem dX6_takeRule_11 : decode cX6_takeRule 11 = .ok (.aload_n 0, 1) := by decide +kernel
theorem dX6_takeRule_12 : decode cX6_takeRule 12 = .ok (.getfield 9, 3) := by decide +kernel
theorem dX6_takeRule_15 : decode cX6_takeRule 15 = .ok (.invokevirtual 46, 3) := by decide +kernel
theorem dX6_takeRule_18 : decode cX6_takeRule 18 = .ok (.lstore_n 1, 1) := by decide +kernel
theorem dX6_takeRule_19 : decode cX6_takeRule 19 = .ok (.lload_n 1, 1) := by decide +kernel
theorem dX6_takeRule_20 : decode cX6_takeRule 20 = .ok (.lconst 0, 1) := by decide +kernel
theorem dX6_takeRule_21 : decode cX6_takeRule 21 = .ok (.lcmp, 1) := by decide +kernel
theorem dX6_takeRule_22 : decode cX6_takeRule 22 = .ok (.ifCond .lt 23, 3) := by decide +kernel
theorem dX6_takeRule_25 : decode cX6_takeRule 25 = .ok (.lload_n 1, 1) := by decide +kernel
theorem dX6_takeRule_26 : decode cX6_takeRule 26 = .ok (.ldc2_w 50, 3) := by decide +kernel
theorem dX6_takeRule_29 : decode cX6_takeRule 29 = .ok (.lcmp, 1) := by decide +kernel
theorem dX6_takeRule_30 : decode cX6_takeRule 30 = .ok (.ifCond .ge 15, 3) := by decide +kernel
theorem dX6_takeRule_33 : decode cX6_takeRule 33 = .ok (.aload_n 0, 1) := by decide +kernel
theorem dX6_takeRule_34 : decode cX6_takeRule 34 = .ok (.getfield 15, 3) := by decide +kernel
theorem dX6_takeRule_37 : decode cX6_takeRule 37 = .ok (.lload_n 1, 1) := by decide +kernel
theorem dX6_takeRule_38 : decode cX6_takeRule 38 = .ok (.l2i, 1) := by decide +kernel
theorem dX6_takeRule_39 : decode cX6_takeRule 39 = .ok (.invokevirtual 52, 3) := by decide +kernel
theorem dX6_takeRule_42 : decode cX6_takeRule 42 = .ok (.ifCond .eq 5, 3) := by decide +kernel
theorem dX6_takeRule_45 : decode cX6_takeRule 45 = .ok (.iconst 0, 1) := by decide +kernel
theorem dX6_takeRule_46 : decode cX6_takeRule 46 = .ok (.ireturn, 1) := by decide +kernel
theorem dX6_takeRule_47 : decode cX6_takeRule 47 = .ok (.aload_n 0, 1) := by decide +kernel
theorem dX6_takeRule_48 : decode cX6_takeRule 48 = .ok (.getfield 9, 3) := by decide +kernel
theorem dX6_takeRule_51 : decode cX6_takeRule 51 = .ok (.invokevirtual 56, 3) := by decide +kernel
theorem dX6_takeRule_54 : decode cX6_takeRule 54 = .ok (.lload_n 1, 1) := by decide +kernel
theorem dX6_takeRule_55 : decode cX6_takeRule 55 = .ok (.l2i, 1) := by decide +kernel
theorem dX6_takeRule_56 : decode cX6_takeRule 56 = .ok (.istore_n 3, 1) := by decide +kernel
theorem dX6_takeRule_57 : decode cX6_takeRule 57 = .ok (.aload_n 0, 1) := by decide +kernel
theorem dX6_takeRule_58 : decode cX6_takeRule 58 = .ok (.iload_n 3, 1) := by decide +kernel
theorem dX6_takeRule_59 : decode cX6_takeRule 59 = .ok (.invokevirtual 59, 3) := by decide +kernel
theorem dX6_takeRule_62 : decode cX6_takeRule 62 = .ok (.ifCond .eq 23, 3) := by decide +kernel
theorem dX6_takeRule_65 : decode cX6_takeRule 65 = .ok (.aload_n 0, 1) := by decide +kernel
theorem dX6_takeRule_66 : decode cX6_takeRule 66 = .ok (.iload_n 3, 1) := by decide +kernel
theorem dX6_takeRule_67 : decode cX6_takeRule 67 = .ok (.invokevirtual 62, 3) := by decide +kernel
theorem dX6_takeRule_70 : decode cX6_takeRule 70 = .ok (.ifCond .eq 15, 3) := by decide +kernel
theorem dX6_takeRule_73 : decode cX6_takeRule 73 = .ok (.aload_n 0, 1) := by decide +kernel
theorem dX6_takeRule_74 : decode cX6_takeRule 74 = .ok (.iload_n 3, 1) := by decide +kernel
theorem dX6_takeRule_75 : decode cX6_takeRule 75 = .ok (.invokevirtual 65, 3) := by decide +kernel
theorem dX6_takeRule_78 : decode cX6_takeRule 78 = .ok (.ifCond .eq 7, 3) := by decide +kernel
theorem dX6_takeRule_81 : decode cX6_takeRule 81 = .ok (.iconst 1, 1) := by decide +kernel
theorem dX6_takeRule_82 : decode cX6_takeRule 82 = .ok (.goto 4, 3) := by decide +kernel
theorem dX6_takeRule_85 : decode cX6_takeRule 85 = .ok (.iconst 0, 1) := by decide +kernel
theorem dX6_takeRule_86 : decode cX6_takeRule 86 = .ok (.ireturn, 1) := by decide +kernel
set_option maxRecDepth 20000 in
theorem ggX6_takePrice_X6_takeWord : GoodIn wsX6_takePrice wsX6_takeWord := goodIn_r _ [7, 8, 9, 10, 11, 12, 13, 14, 15, 16, 17, 18, 19, 20, 21, 22, 23, 24, 25, 26, 27, 28, 29, 30, 31, 32, 33, 34, 35, 36, 37, 38, 39, 40, 41, 42, 43, 44, 45, 46, 47, 48, 49, 50, 51, 52, 53, 54, 55, 56, 57, 58, 59, 60, 61, 62, 63, 64, 65, 66, 67, 68, 69, 70, 71, 72, 73, 74, 75, 76, 77, 78, 79, 80, 81, 82, 118, 119, 120, 121, 122, 123, 124, 125] (by decide +kernel) (by decide +kernel)
set_option maxRecDepth 20000 in
theorem gX6_takePrice_X6_takeWord : GoodIn wsX6_takePrice (wsV RX6 42 RX6 yX6_takeWord wsX6_takeWord) := goodIn_app (goodIn_of _ (by decide +kernel)) ggX6_takePrice_X6_takeWord
set_option maxRecDepth 20000 in
theorem ggX6_takePrice_X6_takeNumberAbove : GoodIn wsX6_takePrice wsX6_takeNumberAbove := goodIn_r _ [86, 8, 1, 87, 88, 89, 12, 90, 14, 15, 91, 16, 92, 93, 82, 94, 95, 96, 97, 29, 30, 31, 32, 33, 34, 72, 73, 74, 75, 76, 77, 78, 79, 80, 81, 118, 119, 120, 121, 122, 123, 124, 125] (by decide +kernel) (by decide +kernel)
set_option maxRecDepth 20000 in
theorem gX6_takePrice_X6_takeNumberAbove : GoodIn wsX6_takePrice (wsV RX6 72 RX6 yX6_takeNumberAbove wsX6_takeNumberAbove) := goodIn_app (goodIn_of _ (by decide +kernel)) ggX6_takePrice_X6_takeNumberAbove
set_option maxRecDepth 20000 in
theorem ggX6_takePrice_X0_tellRule : GoodIn wsX6_takePrice wsX0_tellRule := goodIn_r _ [102, 103, 104, 105, 106, 107, 108, 109, 110, 111, 112, 101, 113, 114, 115, 116, 32, 117, 34, 126, 127, 128, 129, 130, 131, 132, 133, 134, 135, 136, 137, 125] (by decide +kernel) (by decide +kernel)
set_option maxRecDepth 20000 in
theorem gX6_takePrice_X0_tellRule : GoodIn wsX6_takePrice (wsV RX6 78 RX0 yX0_tellRule wsX0_tellRule) := goodIn_app (goodIn_of _ (by decide +kernel)) ggX6_takePrice_X0_tellRule
theorem dX6_takePrice_0 : decode cX6_takePrice 0 = .ok (.aload_n 0, 1) := by decide +kernel
theorem dX6_takePrice_1 : decode cX6_takePrice 1 = .ok (.ldc 68, 2) := by decide +kernel
theorem dX6_takePrice_3 : decode cX6_takePrice 3 = .ok (.invokevirtual 42, 3) := by decide +kernel
theorem dX6_takePrice_6 : decode cX6_takePrice 6 = .ok (.ifCond .ne 5, 3) := by decide +kernel
theorem dX6_takePrice_9 : decode cX6_takePrice 9 = .ok (.iconst 0, 1) := by decide +kernel
theorem dX6_takePrice_10 : decode cX6_takePrice 10 = .ok (.ireturn, 1) := by decide +kernel
theorem dX6_takePrice_11 : decode cX6_takePrice 11 = .ok (.aload_n 0, 1) := by decide +kernel
theorem dX6_takePrice_12 : decode cX6_takePrice 12 = .ok (.ldc2_w 70, 3) := by decide +kernel
theorem dX6_takePrice_15 : decode cX6_takePrice 15 = .ok (.invokevirtual 72, 3) := by decide +kernel
theorem dX6_takePrice_18 : decode cX6_takePrice 18 = .ok (.lstore_n 2, 1) := by decide +kernel
theorem dX6_takePrice_19 : decode cX6_takePrice 19 = .ok (.lload_n 2, 1) := by decide +kernel
theorem dX6_takePrice_20 : decode cX6_takePrice 20 = .ok (.ldc2_w 70, 3) := by decide +kernel
theorem dX6_takePrice_23 : decode cX6_takePrice 23 = .ok (.lcmp, 1) := by decide +kernel
theorem dX6_takePrice_24 : decode cX6_takePrice 24 = .ok (.ifCond .eq 12, 3) := by decide +kernel
theorem dX6_takePrice_27 : decode cX6_takePrice 27 = .ok (.aload_n 0, 1) := by decide +kernel
theorem dX6_takePrice_28 : decode cX6_takePrice 28 = .ok (.ldc 76, 2) := by decide +kernel
theorem dX6_takePrice_30 : decode cX6_takePrice 30 = .ok (.invokevirtual 42, 3) := by decide +kernel
theorem dX6_takePrice_33 : decode cX6_takePrice 33 = .ok (.ifCond .ne 5, 3) := by decide +kernel
theorem dX6_takePrice_36 : decode cX6_takePrice 36 = .ok (.iconst 0, 1) := by decide +kernel
theorem dX6_takePrice_37 : decode cX6_takePrice 37 = .ok (.ireturn, 1) := by decide +kernel
theorem dX6_takePrice_38 : decode cX6_takePrice 38 = .ok (.aload_n 0, 1) := by decide +kernel
theorem dX6_takePrice_39 : decode cX6_takePrice 39 = .ok (.ldc2_w 70, 3) := by decide +kernel
theorem dX6_takePrice_42 : decode cX6_takePrice 42 = .ok (.invokevirtual 72, 3) := by decide +kernel
theorem dX6_takePrice_45 : decode cX6_takePrice 45 = .ok (.lstore 4, 2) := by decide +kernel
theorem dX6_takePrice_47 : decode cX6_takePrice 47 = .ok (.lload 4, 2) := by decide +kernel
theorem dX6_takePrice_49 : decode cX6_takePrice 49 = .ok (.ldc2_w 70, 3) := by decide +kernel
theorem dX6_takePrice_52 : decode cX6_takePrice 52 = .ok (.lcmp, 1) := by decide +kernel
theorem dX6_takePrice_53 : decode cX6_takePrice 53 = .ok (.ifCond .ne 5, 3) := by decide +kernel
theorem dX6_takePrice_56 : decode cX6_takePrice 56 = .ok (.iconst 0, 1) := by decide +kernel
theorem dX6_takePrice_57 : decode cX6_takePrice 57 = .ok (.ireturn, 1) := by decide +kernel
theorem dX6_takePrice_58 : decode cX6_takePrice 58 = .ok (.aload_n 0, 1) := by decide +kernel
theorem dX6_takePrice_59 : decode cX6_takePrice 59 = .ok (.getfield 15, 3) := by decide +kernel
theorem dX6_takePrice_62 : decode cX6_takePrice 62 = .ok (.iload_n 1, 1) := by decide +kernel
theorem dX6_takePrice_63 : decode cX6_takePrice 63 = .ok (.lload_n 2, 1) := by decide +kernel
theorem dX6_takePrice_64 : decode cX6_takePrice 64 = .ok (.lload 4, 2) := by decide +kernel
theorem dX6_takePrice_66 : decode cX6_takePrice 66 = .ok (.invokevirtual 78, 3) := by decide +kernel
theorem dX6_takePrice_69 : decode cX6_takePrice 69 = .ok (.iconst 1, 1) := by decide +kernel
theorem dX6_takePrice_70 : decode cX6_takePrice 70 = .ok (.ireturn, 1) := by decide +kernel
set_option maxRecDepth 20000 in
theorem ggX6_takeSteps_X6_takeWord : GoodIn wsX6_takeSteps wsX6_takeWord := goodIn_r _ [7, 8, 9, 10, 11, 12, 13, 14, 15, 16, 17, 18, 19, 20, 21, 22, 23, 24, 25, 26, 27, 28, 29, 30, 31, 32, 33, 34, 35, 36, 37, 38, 39, 40, 41, 42, 43, 44, 45, 46, 47, 48, 49, 50, 51, 52, 53, 54, 55, 56, 57, 58, 59, 60, 61, 62, 63, 64, 65, 66, 67, 68, 69, 70, 71, 72, 73, 74, 75, 76, 77, 78, 79, 80, 81, 82, 116, 117, 118, 119, 120, 121, 122, 123] (by decide +kernel) (by decide +kernel)
set_option maxRecDepth 20000 in
theorem gX6_takeSteps_X6_takeWord : GoodIn wsX6_takeSteps (wsV RX6 42 RX6 yX6_takeWord wsX6_takeWord) := goodIn_app (goodIn_of _ (by decide +kernel)) ggX6_takeSteps_X6_takeWord
set_option maxRecDepth 20000 in
theorem ggX6_takeSteps_X6_takeNumberAbove : GoodIn wsX6_takeSteps wsX6_takeNumberAbove := goodIn_r _ [86, 8, 1, 87, 88, 89, 12, 90, 14, 15, 91, 16, 92, 93, 82, 94, 95, 96, 97, 29, 30, 31, 32, 33, 34, 72, 73, 74, 75, 76, 77, 78, 79, 80, 81, 116, 117, 118, 119, 120, 121, 122, 123] (by decide +kernel) (by decide +kernel)
set_option maxRecDepth 20000 in
theorem gX6_takeSteps_X6_takeNumberAbove : GoodIn wsX6_takeSteps (wsV RX6 72 RX6 yX6_takeNumberAbove wsX6_takeNumberAbove) := goodIn_app (goodIn_of _ (by decide +kernel)) ggX6_takeSteps_X6_takeNumberAbove
set_option maxRecDepth 20000 in
theorem ggX6_takeSteps_X0_tellStep : GoodIn wsX6_takeSteps wsX0_tellStep := goodIn_r _ [102, 103, 104, 105, 106, 107, 108, 109, 101, 110, 111, 112, 113, 32, 114, 34, 115, 30, 31, 33, 124, 125, 126, 127, 128, 129, 130, 131, 132, 133, 134, 135, 123] (by decide +kernel) (by decide +kernel)
set_option maxRecDepth 20000 in
theorem gX6_takeSteps_X0_tellStep : GoodIn wsX6_takeSteps (wsV RX6 84 RX0 yX0_tellStep wsX0_tellStep) := goodIn_app (goodIn_of _ (by decide +kernel)) ggX6_takeSteps_X0_tellStep
theorem dX6_takeSteps_0 : decode cX6_takeSteps 0 = .ok (.lconst 0, 1) := by decide +kernel
theorem dX6_takeSteps_1 : decode cX6_takeSteps 1 = .ok (.lstore_n 2, 1) := by decide +kernel
theorem dX6_takeSteps_2 : decode cX6_takeSteps 2 = .ok (.iconst 0, 1) := by decide +kernel
theorem dX6_takeSteps_3 : decode cX6_takeSteps 3 = .ok (.istore 4, 2) := by decide +kernel
theorem dX6_takeSteps_5 : decode cX6_takeSteps 5 = .ok (.iload 4, 2) := by decide +kernel
theorem dX6_takeSteps_7 : decode cX6_takeSteps 7 = .ok (.bipush 66, 2) := by decide +kernel
theorem dX6_takeSteps_9 : decode cX6_takeSteps 9 = .ok (.if_icmp .ge 71, 3) := by decide +kernel
theorem dX6_takeSteps_12 : decode cX6_takeSteps 12 = .ok (.aload_n 0, 1) := by decide +kernel
theorem dX6_takeSteps_13 : decode cX6_takeSteps 13 = .ok (.ldc 82, 2) := by decide +kernel
theorem dX6_takeSteps_15 : decode cX6_takeSteps 15 = .ok (.invokevirtual 42, 3) := by decide +kernel
theorem dX6_takeSteps_18 : decode cX6_takeSteps 18 = .ok (.ifCond .eq 62, 3) := by decide +kernel
theorem dX6_takeSteps_21 : decode cX6_takeSteps 21 = .ok (.aload_n 0, 1) := by decide +kernel
theorem dX6_takeSteps_22 : decode cX6_takeSteps 22 = .ok (.lload_n 2, 1) := by decide +kernel
theorem dX6_takeSteps_23 : decode cX6_takeSteps 23 = .ok (.invokevirtual 72, 3) := by decide +kernel
theorem dX6_takeSteps_26 : decode cX6_takeSteps 26 = .ok (.lstore 5, 2) := by decide +kernel
theorem dX6_takeSteps_28 : decode cX6_takeSteps 28 = .ok (.lload 5, 2) := by decide +kernel
theorem dX6_takeSteps_30 : decode cX6_takeSteps 30 = .ok (.ldc2_w 70, 3) := by decide +kernel
theorem dX6_takeSteps_33 : decode cX6_takeSteps 33 = .ok (.lcmp, 1) := by decide +kernel
theorem dX6_takeSteps_34 : decode cX6_takeSteps 34 = .ok (.ifCond .ne 5, 3) := by decide +kernel
theorem dX6_takeSteps_37 : decode cX6_takeSteps 37 = .ok (.iconst 0, 1) := by decide +kernel
theorem dX6_takeSteps_38 : decode cX6_takeSteps 38 = .ok (.ireturn, 1) := by decide +kernel
theorem dX6_takeSteps_39 : decode cX6_takeSteps 39 = .ok (.aload_n 0, 1) := by decide +kernel
theorem dX6_takeSteps_40 : decode cX6_takeSteps 40 = .ok (.ldc2_w 70, 3) := by decide +kernel
theorem dX6_takeSteps_43 : decode cX6_takeSteps 43 = .ok (.invokevirtual 72, 3) := by decide +kernel
theorem dX6_takeSteps_46 : decode cX6_takeSteps 46 = .ok (.lstore 7, 2) := by decide +kernel
theorem dX6_takeSteps_48 : decode cX6_takeSteps 48 = .ok (.lload 7, 2) := by decide +kernel
theorem dX6_takeSteps_50 : decode cX6_takeSteps 50 = .ok (.ldc2_w 70, 3) := by decide +kernel
theorem dX6_takeSteps_53 : decode cX6_takeSteps 53 = .ok (.lcmp, 1) := by decide +kernel
theorem dX6_takeSteps_54 : decode cX6_takeSteps 54 = .ok (.ifCond .ne 5, 3) := by decide +kernel
theorem dX6_takeSteps_57 : decode cX6_takeSteps 57 = .ok (.iconst 0, 1) := by decide +kernel
theorem dX6_takeSteps_58 : decode cX6_takeSteps 58 = .ok (.ireturn, 1) := by decide +kernel
theorem dX6_takeSteps_59 : decode cX6_takeSteps 59 = .ok (.aload_n 0, 1) := by decide +kernel
theorem dX6_takeSteps_60 : decode cX6_takeSteps 60 = .ok (.getfield 15, 3) := by decide +kernel
theorem dX6_takeSteps_63 : decode cX6_takeSteps 63 = .ok (.iload_n 1, 1) := by decide +kernel
theorem dX6_takeSteps_64 : decode cX6_takeSteps 64 = .ok (.lload 5, 2) := by decide +kernel
theorem dX6_takeSteps_66 : decode cX6_takeSteps 66 = .ok (.lload 7, 2) := by decide +kernel
theorem dX6_takeSteps_68 : decode cX6_takeSteps 68 = .ok (.invokevirtual 84, 3) := by decide +kernel
theorem dX6_takeSteps_71 : decode cX6_takeSteps 71 = .ok (.lload 5, 2) := by decide +kernel
theorem dX6_takeSteps_73 : decode cX6_takeSteps 73 = .ok (.lstore_n 2, 1) := by decide +kernel
theorem dX6_takeSteps_74 : decode cX6_takeSteps 74 = .ok (.iinc 4 1, 3) := by decide +kernel
theorem dX6_takeSteps_77 : decode cX6_takeSteps 77 = .ok (.goto (-72), 3) := by decide +kernel
theorem dX6_takeSteps_80 : decode cX6_takeSteps 80 = .ok (.iconst 1, 1) := by decide +kernel
theorem dX6_takeSteps_81 : decode cX6_takeSteps 81 = .ok (.ireturn, 1) := by decide +kernel
set_option maxRecDepth 20000 in
theorem ggX6_takeCap_X6_takeWord : GoodIn wsX6_takeCap wsX6_takeWord := goodIn_r _ [7, 8, 9, 10, 11, 12, 13, 14, 15, 16, 17, 18, 19, 20, 21, 22, 23, 24, 25, 26, 27, 28, 29, 30, 31, 32, 33, 34, 35, 36, 37, 38, 39, 40, 41, 42, 43, 44, 45, 46, 47, 48, 49, 50, 51, 52, 53, 54, 55, 56, 57, 58, 59, 60, 61, 62, 63, 64, 65, 66, 67, 68, 69, 70, 71, 72, 73, 74, 75, 76, 77, 78, 79, 80, 81, 82, 112, 113, 114, 115, 116, 117, 118, 119] (by decide +kernel) (by decide +kernel)
set_option maxRecDepth 20000 in
theorem gX6_takeCap_X6_takeWord : GoodIn wsX6_takeCap (wsV RX6 42 RX6 yX6_takeWord wsX6_takeWord) := goodIn_app (goodIn_of _ (by decide +kernel)) ggX6_takeCap_X6_takeWord
set_option maxRecDepth 20000 in
theorem ggX6_takeCap_X6_takeNumberAbove : GoodIn wsX6_takeCap wsX6_takeNumberAbove := goodIn_r _ [86, 8, 1, 87, 88, 89, 12, 90, 14, 15, 91, 16, 92, 93, 82, 94, 95, 96, 97, 29, 30, 31, 32, 33, 34, 72, 73, 74, 75, 76, 77, 78, 79, 80, 81, 112, 113, 114, 115, 116, 117, 118, 119] (by decide +kernel) (by decide +kernel)
set_option maxRecDepth 20000 in
theorem gX6_takeCap_X6_takeNumberAbove : GoodIn wsX6_takeCap (wsV RX6 72 RX6 yX6_takeNumberAbove wsX6_takeNumberAbove) := goodIn_app (goodIn_of _ (by decide +kernel)) ggX6_takeCap_X6_takeNumberAbove
set_option maxRecDepth 20000 in
theorem ggX6_takeCap_X0_tellCap : GoodIn wsX6_takeCap wsX0_tellCap := goodIn_r _ [102, 103, 104, 105, 106, 101, 107, 108, 109, 110, 32, 111, 34, 120, 121, 122, 123, 124, 125, 126, 127, 128, 129, 130, 131, 119] (by decide +kernel) (by decide +kernel)
set_option maxRecDepth 20000 in
theorem gX6_takeCap_X0_tellCap : GoodIn wsX6_takeCap (wsV RX6 89 RX0 yX0_tellCap wsX0_tellCap) := goodIn_app (goodIn_of _ (by decide +kernel)) ggX6_takeCap_X0_tellCap
theorem dX6_takeCap_0 : decode cX6_takeCap 0 = .ok (.aload_n 0, 1) := by decide +kernel
theorem dX6_takeCap_1 : decode cX6_takeCap 1 = .ok (.ldc 87, 2) := by decide +kernel
theorem dX6_takeCap_3 : decode cX6_takeCap 3 = .ok (.invokevirtual 42, 3) := by decide +kernel
theorem dX6_takeCap_6 : decode cX6_takeCap 6 = .ok (.ifCond .ne 5, 3) := by decide +kernel
theorem dX6_takeCap_9 : decode cX6_takeCap 9 = .ok (.iconst 1, 1) := by decide +kernel
theorem dX6_takeCap_10 : decode cX6_takeCap 10 = .ok (.ireturn, 1) := by decide +kernel
theorem dX6_takeCap_11 : decode cX6_takeCap 11 = .ok (.aload_n 0, 1) := by decide +kernel
theorem dX6_takeCap_12 : decode cX6_takeCap 12 = .ok (.ldc2_w 70, 3) := by decide +kernel
theorem dX6_takeCap_15 : decode cX6_takeCap 15 = .ok (.invokevirtual 72, 3) := by decide +kernel
theorem dX6_takeCap_18 : decode cX6_takeCap 18 = .ok (.lstore_n 2, 1) := by decide +kernel
theorem dX6_takeCap_19 : decode cX6_takeCap 19 = .ok (.lload_n 2, 1) := by decide +kernel
theorem dX6_takeCap_20 : decode cX6_takeCap 20 = .ok (.ldc2_w 70, 3) := by decide +kernel
theorem dX6_takeCap_23 : decode cX6_takeCap 23 = .ok (.lcmp, 1) := by decide +kernel
theorem dX6_takeCap_24 : decode cX6_takeCap 24 = .ok (.ifCond .ne 5, 3) := by decide +kernel
theorem dX6_takeCap_27 : decode cX6_takeCap 27 = .ok (.iconst 0, 1) := by decide +kernel
theorem dX6_takeCap_28 : decode cX6_takeCap 28 = .ok (.ireturn, 1) := by decide +kernel
theorem dX6_takeCap_29 : decode cX6_takeCap 29 = .ok (.aload_n 0, 1) := by decide +kernel
theorem dX6_takeCap_30 : decode cX6_takeCap 30 = .ok (.getfield 15, 3) := by decide +kernel
theorem dX6_takeCap_33 : decode cX6_takeCap 33 = .ok (.iload_n 1, 1) := by decide +kernel
theorem dX6_takeCap_34 : decode cX6_takeCap 34 = .ok (.lload_n 2, 1) := by decide +kernel
theorem dX6_takeCap_35 : decode cX6_takeCap 35 = .ok (.invokevirtual 89, 3) := by decide +kernel
theorem dX6_takeCap_38 : decode cX6_takeCap 38 = .ok (.iconst 1, 1) := by decide +kernel
theorem dX6_takeCap_39 : decode cX6_takeCap 39 = .ok (.ireturn, 1) := by decide +kernel
set_option maxRecDepth 20000 in
theorem ggX6_takeWord_X7_isWord : GoodIn wsX6_takeWord wsX7_isWord := goodIn_r _ [6, 7, 8, 9, 10, 11, 12, 13, 14, 15, 16, 17, 18, 19, 20, 21, 22, 23, 24, 25, 26, 27, 28, 29, 30, 31, 32, 33, 34, 35, 36, 37, 38, 39, 40, 41, 42, 43, 44, 45, 46, 47, 48, 49, 50, 51, 52, 53, 54, 55, 56, 57, 58, 59, 60, 61, 62, 63, 64, 78, 79, 80, 81, 82, 83] (by decide +kernel) (by decide +kernel)
set_option maxRecDepth 20000 in
theorem gX6_takeWord_X7_isWord : GoodIn wsX6_takeWord (wsV RX6 93 RX7 yX7_isWord wsX7_isWord) := goodIn_app (goodIn_of _ (by decide +kernel)) ggX6_takeWord_X7_isWord
set_option maxRecDepth 20000 in
theorem ggX6_takeWord_X7_toNextWord : GoodIn wsX6_takeWord wsX7_toNextWord := goodIn_r _ [68, 7, 8, 69, 9, 70, 22, 23, 24, 25, 26, 27, 71, 72, 5, 73, 74, 75, 78, 79, 80, 81, 82, 83] (by decide +kernel) (by decide +kernel)
set_option maxRecDepth 20000 in
theorem gX6_takeWord_X7_toNextWord : GoodIn wsX6_takeWord (wsV RX6 56 RX7 yX7_toNextWord wsX7_toNextWord) := goodIn_app (goodIn_of _ (by decide +kernel)) ggX6_takeWord_X7_toNextWord
theorem dX6_takeWord_0 : decode cX6_takeWord 0 = .ok (.aload_n 0, 1) := by decide +kernel
theorem dX6_takeWord_1 : decode cX6_takeWord 1 = .ok (.getfield 9, 3) := by decide +kernel
theorem dX6_takeWord_4 : decode cX6_takeWord 4 = .ok (.aload_n 1, 1) := by decide +kernel
theorem dX6_takeWord_5 : decode cX6_takeWord 5 = .ok (.invokevirtual 93, 3) := by decide +kernel
theorem dX6_takeWord_8 : decode cX6_takeWord 8 = .ok (.ifCond .ne 5, 3) := by decide +kernel
theorem dX6_takeWord_11 : decode cX6_takeWord 11 = .ok (.iconst 0, 1) := by decide +kernel
theorem dX6_takeWord_12 : decode cX6_takeWord 12 = .ok (.ireturn, 1) := by decide +kernel
theorem dX6_takeWord_13 : decode cX6_takeWord 13 = .ok (.aload_n 0, 1) := by decide +kernel
theorem dX6_takeWord_14 : decode cX6_takeWord 14 = .ok (.getfield 9, 3) := by decide +kernel
theorem dX6_takeWord_17 : decode cX6_takeWord 17 = .ok (.invokevirtual 56, 3) := by decide +kernel
theorem dX6_takeWord_20 : decode cX6_takeWord 20 = .ok (.iconst 1, 1) := by decide +kernel
theorem dX6_takeWord_21 : decode cX6_takeWord 21 = .ok (.ireturn, 1) := by decide +kernel
set_option maxRecDepth 20000 in
theorem ggX6_takeNumberAbove_X7_asNumber : GoodIn wsX6_takeNumberAbove wsX7_asNumber := goodIn_r _ [7, 8, 9, 10, 11, 12, 13, 14, 15, 16, 17, 6, 18, 19, 20, 21, 22, 23, 24, 37, 38, 39, 40, 41, 42] (by decide +kernel) (by decide +kernel)
set_option maxRecDepth 20000 in
theorem gX6_takeNumberAbove_X7_asNumber : GoodIn wsX6_takeNumberAbove (wsV RX6 46 RX7 yX7_asNumber wsX7_asNumber) := goodIn_app (goodIn_of _ (by decide +kernel)) ggX6_takeNumberAbove_X7_asNumber
set_option maxRecDepth 20000 in
theorem ggX6_takeNumberAbove_X7_toNextWord : GoodIn wsX6_takeNumberAbove wsX7_toNextWord := goodIn_r _ [28, 8, 9, 29, 11, 30, 19, 20, 21, 22, 23, 24, 31, 32, 6, 33, 34, 14, 37, 38, 39, 40, 41, 42] (by decide +kernel) (by decide +kernel)
set_option maxRecDepth 20000 in
theorem gX6_takeNumberAbove_X7_toNextWord : GoodIn wsX6_takeNumberAbove (wsV RX6 56 RX7 yX7_toNextWord wsX7_toNextWord) := goodIn_app (goodIn_of _ (by decide +kernel)) ggX6_takeNumberAbove_X7_toNextWord
theorem dX6_takeNumberAbove_0 : decode cX6_takeNumberAbove 0 = .ok (.aload_n 0, 1) := by decide +kernel
theorem dX6_takeNumberAbove_1 : decode cX6_takeNumberAbove 1 = .ok (.getfield 9, 3) := by decide +kernel
theorem dX6_takeNumberAbove_4 : decode cX6_takeNumberAbove 4 = .ok (.invokevirtual 46, 3) := by decide +kernel
theorem dX6_takeNumberAbove_7 : decode cX6_takeNumberAbove 7 = .ok (.lstore_n 3, 1) := by decide +kernel
theorem dX6_takeNumberAbove_8 : decode cX6_takeNumberAbove 8 = .ok (.lload_n 3, 1) := by decide +kernel
theorem dX6_takeNumberAbove_9 : decode cX6_takeNumberAbove 9 = .ok (.lload_n 1, 1) := by decide +kernel
theorem dX6_takeNumberAbove_10 : decode cX6_takeNumberAbove 10 = .ok (.lcmp, 1) := by decide +kernel
theorem dX6_takeNumberAbove_11 : decode cX6_takeNumberAbove 11 = .ok (.ifCond .gt 7, 3) := by decide +kernel
theorem dX6_takeNumberAbove_14 : decode cX6_takeNumberAbove 14 = .ok (.ldc2_w 70, 3) := by decide +kernel
theorem dX6_takeNumberAbove_17 : decode cX6_takeNumberAbove 17 = .ok (.lreturn, 1) := by decide +kernel
theorem dX6_takeNumberAbove_18 : decode cX6_takeNumberAbove 18 = .ok (.aload_n 0, 1) := by decide +kernel
theorem dX6_takeNumberAbove_19 : decode cX6_takeNumberAbove 19 = .ok (.getfield 9, 3) := by decide +kernel
theorem dX6_takeNumberAbove_22 : decode cX6_takeNumberAbove 22 = .ok (.invokevirtual 56, 3) := by decide +kernel
theorem dX6_takeNumberAbove_25 : decode cX6_takeNumberAbove 25 = .ok (.lload_n 3, 1) := by decide +kernel
theorem dX6_takeNumberAbove_26 : decode cX6_takeNumberAbove 26 = .ok (.lreturn, 1) := by decide +kernel
set_option maxRecDepth 20000 in
theorem ggJ0_length_8abf5_J0_coder_7d493 : GoodIn wsJ0_length_8abf5 wsJ0_coder_7d493 := goodIn_r _ [6, 7, 8] (by decide +kernel) (by decide +kernel)
set_option maxRecDepth 20000 in
theorem gJ0_length_8abf5_J0_coder_7d493 : GoodIn wsJ0_length_8abf5 (wsV RJ0 335 RJ0 yJ0_coder_7d493 wsJ0_coder_7d493) := goodIn_app (goodIn_of _ (by decide +kernel)) ggJ0_length_8abf5_J0_coder_7d493
theorem dJ0_length_8abf5_0 : decode cJ0_length_8abf5 0 = .ok (.aload_n 0, 1) := by decide +kernel
theorem dJ0_length_8abf5_1 : decode cJ0_length_8abf5 1 = .ok (.getfield 9, 3) := by decide +kernel
theorem dJ0_length_8abf5_4 : decode cJ0_length_8abf5 4 = .ok (.arraylength, 1) := by decide +kernel
theorem dJ0_length_8abf5_5 : decode cJ0_length_8abf5 5 = .ok (.aload_n 0, 1) := by decide +kernel
theorem dJ0_length_8abf5_6 : decode cJ0_length_8abf5 6 = .ok (.invokevirtual 335, 3) := by decide +kernel
theorem dJ0_length_8abf5_9 : decode cJ0_length_8abf5 9 = .ok (.ishr, 1) := by decide +kernel
theorem dJ0_length_8abf5_10 : decode cJ0_length_8abf5 10 = .ok (.ireturn, 1) := by decide +kernel
set_option maxRecDepth 20000 in
theorem ggJ0_charAt_5068e_J0_isLatin1_aae02 : GoodIn wsJ0_charAt_5068e wsJ0_isLatin1_aae02 := goodIn_r _ [6, 7, 8] (by decide +kernel) (by decide +kernel)
set_option maxRecDepth 20000 in
theorem gJ0_charAt_5068e_J0_isLatin1_aae02 : GoodIn wsJ0_charAt_5068e (wsV RJ0 492 RJ0 yJ0_isLatin1_aae02 wsJ0_isLatin1_aae02) := goodIn_app (goodIn_of _ (by decide +kernel)) ggJ0_charAt_5068e_J0_isLatin1_aae02
set_option maxRecDepth 20000 in
theorem ggJ0_charAt_5068e_J1_charAt_3b067 : GoodIn wsJ0_charAt_5068e wsJ1_charAt_3b067 := goodIn_r _ [12, 13, 14, 5, 15, 16, 17, 18, 19, 20] (by decide +kernel) (by decide +kernel)
set_option maxRecDepth 20000 in
theorem gJ0_charAt_5068e_J1_charAt_3b067 : GoodIn wsJ0_charAt_5068e (va_wsS RJ0 495 yJ1_charAt_3b067 wsJ1_charAt_3b067) := goodIn_app (goodIn_of _ (by decide +kernel)) ggJ0_charAt_5068e_J1_charAt_3b067
set_option maxRecDepth 20000 in
theorem ggJ0_charAt_5068e_J2_charAt_3b067 : GoodIn wsJ0_charAt_5068e wsJ2_charAt_3b067 := goodIn_r _ [24, 25, 26, 23, 27, 28, 29, 30, 31, 14, 5, 15, 16, 17, 18, 19, 20, 32, 33, 34, 35, 36, 37] (by decide +kernel) (by decide +kernel)
set_option maxRecDepth 20000 in
theorem gJ0_charAt_5068e_J2_charAt_3b067 : GoodIn wsJ0_charAt_5068e (va_wsS RJ0 498 yJ2_charAt_3b067 wsJ2_charAt_3b067) := goodIn_app (goodIn_of _ (by decide +kernel)) ggJ0_charAt_5068e_J2_charAt_3b067
theorem dJ0_charAt_5068e_0 : decode cJ0_charAt_5068e 0 = .ok (.aload_n 0, 1) := by decide +kernel
theorem dJ0_charAt_5068e_1 : decode cJ0_charAt_5068e 1 = .ok (.invokevirtual 492, 3) := by decide +kernel
theorem dJ0_charAt_5068e_4 : decode cJ0_charAt_5068e 4 = .ok (.ifCond .eq 12, 3) := by decide +kernel
theorem dJ0_charAt_5068e_7 : decode cJ0_charAt_5068e 7 = .ok (.aload_n 0, 1) := by decide +kernel
theorem dJ0_charAt_5068e_8 : decode cJ0_charAt_5068e 8 = .ok (.getfield 9, 3) := by decide +kernel
theorem dJ0_charAt_5068e_11 : decode cJ0_charAt_5068e 11 = .ok (.iload_n 1, 1) := by decide +kernel
theorem dJ0_charAt_5068e_12 : decode cJ0_charAt_5068e 12 = .ok (.invokestatic 495, 3) := by decide +kernel
theorem dJ0_charAt_5068e_15 : decode cJ0_charAt_5068e 15 = .ok (.ireturn, 1) := by decide +kernel
theorem dJ0_charAt_5068e_16 : decode cJ0_charAt_5068e 16 = .ok (.aload_n 0, 1) := by decide +kernel
theorem dJ0_charAt_5068e_17 : decode cJ0_charAt_5068e 17 = .ok (.getfield 9, 3) := by decide +kernel
theorem dJ0_charAt_5068e_20 : decode cJ0_charAt_5068e 20 = .ok (.iload_n 1, 1) := by decide +kernel
theorem dJ0_charAt_5068e_21 : decode cJ0_charAt_5068e 21 = .ok (.invokestatic 498, 3) := by decide +kernel
theorem dJ0_charAt_5068e_24 : decode cJ0_charAt_5068e 24 = .ok (.ireturn, 1) := by decide +kernel
theorem dJ0_coder_7d493_0 : decode cJ0_coder_7d493 0 = .ok (.getstatic 38, 3) := by decide +kernel
theorem dJ0_coder_7d493_3 : decode cJ0_coder_7d493 3 = .ok (.ifCond .eq 10, 3) := by decide +kernel
theorem dJ0_coder_7d493_6 : decode cJ0_coder_7d493 6 = .ok (.aload_n 0, 1) := by decide +kernel
theorem dJ0_coder_7d493_7 : decode cJ0_coder_7d493 7 = .ok (.getfield 15, 3) := by decide +kernel
theorem dJ0_coder_7d493_10 : decode cJ0_coder_7d493 10 = .ok (.goto 4, 3) := by decide +kernel
theorem dJ0_coder_7d493_13 : decode cJ0_coder_7d493 13 = .ok (.iconst 1, 1) := by decide +kernel
theorem dJ0_coder_7d493_14 : decode cJ0_coder_7d493 14 = .ok (.ireturn, 1) := by decide +kernel
theorem dJ0_isLatin1_aae02_0 : decode cJ0_isLatin1_aae02 0 = .ok (.getstatic 38, 3) := by decide +kernel
theorem dJ0_isLatin1_aae02_3 : decode cJ0_isLatin1_aae02 3 = .ok (.ifCond .eq 14, 3) := by decide +kernel
theorem dJ0_isLatin1_aae02_6 : decode cJ0_isLatin1_aae02 6 = .ok (.aload_n 0, 1) := by decide +kernel
theorem dJ0_isLatin1_aae02_7 : decode cJ0_isLatin1_aae02 7 = .ok (.getfield 15, 3) := by decide +kernel
theorem dJ0_isLatin1_aae02_10 : decode cJ0_isLatin1_aae02 10 = .ok (.ifCond .ne 7, 3) := by decide +kernel
theorem dJ0_isLatin1_aae02_13 : decode cJ0_isLatin1_aae02 13 = .ok (.iconst 1, 1) := by decide +kernel
theorem dJ0_isLatin1_aae02_14 : decode cJ0_isLatin1_aae02 14 = .ok (.goto 4, 3) := by decide +kernel
theorem dJ0_isLatin1_aae02_17 : decode cJ0_isLatin1_aae02 17 = .ok (.iconst 0, 1) := by decide +kernel
theorem dJ0_isLatin1_aae02_18 : decode cJ0_isLatin1_aae02 18 = .ok (.ireturn, 1) := by decide +kernel
set_option maxRecDepth 20000 in
theorem ggJ0_checkIndex_df160_J3_checkIndex_8e157 : GoodIn wsJ0_checkIndex_df160 wsJ3_checkIndex_8e157 := goodIn_r _ [5] (by decide +kernel) (by decide +kernel)
set_option maxRecDepth 20000 in
theorem gJ0_checkIndex_df160_J3_checkIndex_8e157 : GoodIn wsJ0_checkIndex_df160 (va_wsS RJ0 1059 yJ3_checkIndex_8e157 wsJ3_checkIndex_8e157) := goodIn_app (goodIn_of _ (by decide +kernel)) ggJ0_checkIndex_df160_J3_checkIndex_8e157
theorem dJ0_checkIndex_df160_0 : decode cJ0_checkIndex_df160 0 = .ok (.iload_n 0, 1) := by decide +kernel
theorem dJ0_checkIndex_df160_1 : decode cJ0_checkIndex_df160 1 = .ok (.iload_n 1, 1) := by decide +kernel
theorem dJ0_checkIndex_df160_2 : decode cJ0_checkIndex_df160 2 = .ok (.getstatic 1053, 3) := by decide +kernel
theorem dJ0_checkIndex_df160_5 : decode cJ0_checkIndex_df160 5 = .ok (.invokestatic 1059, 3) := by decide +kernel
theorem dJ0_checkIndex_df160_8 : decode cJ0_checkIndex_df160 8 = .ok (.pop, 1) := by decide +kernel
theorem dJ0_checkIndex_df160_9 : decode cJ0_checkIndex_df160 9 = .ok (.return_, 1) := by decide +kernel
set_option maxRecDepth 20000 in
theorem ggJ1_charAt_3b067_J0_checkIndex_df160 : GoodIn wsJ1_charAt_3b067 wsJ0_checkIndex_df160 := goodIn_r _ [4, 5, 6, 7, 8, 9] (by decide +kernel) (by decide +kernel)
set_option maxRecDepth 20000 in
theorem gJ1_charAt_3b067_J0_checkIndex_df160 : GoodIn wsJ1_charAt_3b067 (va_wsS RJ1 9 yJ0_checkIndex_df160 wsJ0_checkIndex_df160) := goodIn_app (goodIn_of _ (by decide +kernel)) ggJ1_charAt_3b067_J0_checkIndex_df160
theorem dJ1_charAt_3b067_0 : decode cJ1_charAt_3b067 0 = .ok (.iload_n 1, 1) := by decide +kernel
theorem dJ1_charAt_3b067_1 : decode cJ1_charAt_3b067 1 = .ok (.aload_n 0, 1) := by decide +kernel
theorem dJ1_charAt_3b067_2 : decode cJ1_charAt_3b067 2 = .ok (.arraylength, 1) := by decide +kernel
theorem dJ1_charAt_3b067_3 : decode cJ1_charAt_3b067 3 = .ok (.invokestatic 9, 3) := by decide +kernel
theorem dJ1_charAt_3b067_6 : decode cJ1_charAt_3b067 6 = .ok (.aload_n 0, 1) := by decide +kernel
theorem dJ1_charAt_3b067_7 : decode cJ1_charAt_3b067 7 = .ok (.iload_n 1, 1) := by decide +kernel
theorem dJ1_charAt_3b067_8 : decode cJ1_charAt_3b067 8 = .ok (.baload, 1) := by decide +kernel
theorem dJ1_charAt_3b067_9 : decode cJ1_charAt_3b067 9 = .ok (.sipush 255, 3) := by decide +kernel
theorem dJ1_charAt_3b067_12 : decode cJ1_charAt_3b067 12 = .ok (.iand, 1) := by decide +kernel
theorem dJ1_charAt_3b067_13 : decode cJ1_charAt_3b067 13 = .ok (.i2c, 1) := by decide +kernel
theorem dJ1_charAt_3b067_14 : decode cJ1_charAt_3b067 14 = .ok (.ireturn, 1) := by decide +kernel
set_option maxRecDepth 20000 in
theorem ggJ2_getChar_3b067_J2_length_9d52b : GoodIn wsJ2_getChar_3b067 wsJ2_length_9d52b := goodIn_r _ [7] (by decide +kernel) (by decide +kernel)
set_option maxRecDepth 20000 in
theorem gJ2_getChar_3b067_J2_length_9d52b : GoodIn wsJ2_getChar_3b067 (va_wsS RJ2 48 yJ2_length_9d52b wsJ2_length_9d52b) := goodIn_app (goodIn_of _ (by decide +kernel)) ggJ2_getChar_3b067_J2_length_9d52b
theorem dJ2_getChar_3b067_0 : decode cJ2_getChar_3b067 0 = .ok (.getstatic 44, 3) := by decide +kernel
theorem dJ2_getChar_3b067_3 : decode cJ2_getChar_3b067 3 = .ok (.ifCond .ne 25, 3) := by decide +kernel
theorem dJ2_getChar_3b067_6 : decode cJ2_getChar_3b067 6 = .ok (.iload_n 1, 1) := by decide +kernel
theorem dJ2_getChar_3b067_7 : decode cJ2_getChar_3b067 7 = .ok (.ifCond .lt 11, 3) := by decide +kernel
theorem dJ2_getChar_3b067_10 : decode cJ2_getChar_3b067 10 = .ok (.iload_n 1, 1) := by decide +kernel
theorem dJ2_getChar_3b067_11 : decode cJ2_getChar_3b067 11 = .ok (.aload_n 0, 1) := by decide +kernel
theorem dJ2_getChar_3b067_12 : decode cJ2_getChar_3b067 12 = .ok (.invokestatic 48, 3) := by decide +kernel
theorem dJ2_getChar_3b067_15 : decode cJ2_getChar_3b067 15 = .ok (.if_icmp .lt 13, 3) := by decide +kernel
theorem dJ2_getChar_3b067_18 : decode cJ2_getChar_3b067 18 = .ok (.new 52, 3) := by decide +kernel
theorem dJ2_getChar_3b067_21 : decode cJ2_getChar_3b067 21 = .ok (.dup, 1) := by decide +kernel
theorem dJ2_getChar_3b067_22 : decode cJ2_getChar_3b067 22 = .ok (.ldc 54, 2) := by decide +kernel
theorem dJ2_getChar_3b067_24 : decode cJ2_getChar_3b067 24 = .ok (.invokespecial 56, 3) := by decide +kernel
theorem dJ2_getChar_3b067_27 : decode cJ2_getChar_3b067 27 = .ok (.athrow, 1) := by decide +kernel
theorem dJ2_getChar_3b067_28 : decode cJ2_getChar_3b067 28 = .ok (.iload_n 1, 1) := by decide +kernel
theorem dJ2_getChar_3b067_29 : decode cJ2_getChar_3b067 29 = .ok (.iconst 1, 1) := by decide +kernel
theorem dJ2_getChar_3b067_30 : decode cJ2_getChar_3b067 30 = .ok (.ishl, 1) := by decide +kernel
theorem dJ2_getChar_3b067_31 : decode cJ2_getChar_3b067 31 = .ok (.istore_n 1, 1) := by decide +kernel
theorem dJ2_getChar_3b067_32 : decode cJ2_getChar_3b067 32 = .ok (.aload_n 0, 1) := by decide +kernel
theorem dJ2_getChar_3b067_33 : decode cJ2_getChar_3b067 33 = .ok (.iload_n 1, 1) := by decide +kernel
theorem dJ2_getChar_3b067_34 : decode cJ2_getChar_3b067 34 = .ok (.iinc 1 1, 3) := by decide +kernel
theorem dJ2_getChar_3b067_37 : decode cJ2_getChar_3b067 37 = .ok (.baload, 1) := by decide +kernel
theorem dJ2_getChar_3b067_38 : decode cJ2_getChar_3b067 38 = .ok (.sipush 255, 3) := by decide +kernel
theorem dJ2_getChar_3b067_41 : decode cJ2_getChar_3b067 41 = .ok (.iand, 1) := by decide +kernel
theorem dJ2_getChar_3b067_42 : decode cJ2_getChar_3b067 42 = .ok (.getstatic 59, 3) := by decide +kernel
theorem dJ2_getChar_3b067_45 : decode cJ2_getChar_3b067 45 = .ok (.ishl, 1) := by decide +kernel
theorem dJ2_getChar_3b067_46 : decode cJ2_getChar_3b067 46 = .ok (.aload_n 0, 1) := by decide +kernel
theorem dJ2_getChar_3b067_47 : decode cJ2_getChar_3b067 47 = .ok (.iload_n 1, 1) := by decide +kernel
theorem dJ2_getChar_3b067_48 : decode cJ2_getChar_3b067 48 = .ok (.baload, 1) := by decide +kernel
theorem dJ2_getChar_3b067_49 : decode cJ2_getChar_3b067 49 = .ok (.sipush 255, 3) := by decide +kernel
theorem dJ2_getChar_3b067_52 : decode cJ2_getChar_3b067 52 = .ok (.iand, 1) := by decide +kernel
theorem dJ2_getChar_3b067_53 : decode cJ2_getChar_3b067 53 = .ok (.getstatic 63, 3) := by decide +kernel
theorem dJ2_getChar_3b067_56 : decode cJ2_getChar_3b067 56 = .ok (.ishl, 1) := by decide +kernel
theorem dJ2_getChar_3b067_57 : decode cJ2_getChar_3b067 57 = .ok (.ior, 1) := by decide +kernel
theorem dJ2_getChar_3b067_58 : decode cJ2_getChar_3b067 58 = .ok (.i2c, 1) := by decide +kernel
theorem dJ2_getChar_3b067_59 : decode cJ2_getChar_3b067 59 = .ok (.ireturn, 1) := by decide +kernel
theorem dJ2_length_9d52b_0 : decode cJ2_length_9d52b 0 = .ok (.aload_n 0, 1) := by decide +kernel
theorem dJ2_length_9d52b_1 : decode cJ2_length_9d52b 1 = .ok (.arraylength, 1) := by decide +kernel
theorem dJ2_length_9d52b_2 : decode cJ2_length_9d52b 2 = .ok (.iconst 1, 1) := by decide +kernel
theorem dJ2_length_9d52b_3 : decode cJ2_length_9d52b 3 = .ok (.ishr, 1) := by decide +kernel
theorem dJ2_length_9d52b_4 : decode cJ2_length_9d52b 4 = .ok (.ireturn, 1) := by decide +kernel
set_option maxRecDepth 20000 in
theorem ggJ2_charAt_3b067_J2_checkIndex_2214a : GoodIn wsJ2_charAt_3b067 wsJ2_checkIndex_2214a := goodIn_r _ [4, 5, 6, 3, 7, 8, 9, 10, 11, 12, 13, 14, 15, 16] (by decide +kernel) (by decide +kernel)
set_option maxRecDepth 20000 in
theorem gJ2_charAt_3b067_J2_checkIndex_2214a : GoodIn wsJ2_charAt_3b067 (va_wsS RJ2 67 yJ2_checkIndex_2214a wsJ2_checkIndex_2214a) := goodIn_app (goodIn_of _ (by decide +kernel)) ggJ2_charAt_3b067_J2_checkIndex_2214a
set_option maxRecDepth 20000 in
theorem ggJ2_charAt_3b067_J2_getChar_3b067 : GoodIn wsJ2_charAt_3b067 wsJ2_getChar_3b067 := goodIn_r _ [19, 20, 21, 22, 5, 6, 3, 7] (by decide +kernel) (by decide +kernel)
set_option maxRecDepth 20000 in
theorem gJ2_charAt_3b067_J2_getChar_3b067 : GoodIn wsJ2_charAt_3b067 (va_wsS RJ2 71 yJ2_getChar_3b067 wsJ2_getChar_3b067) := goodIn_app (goodIn_of _ (by decide +kernel)) ggJ2_charAt_3b067_J2_getChar_3b067
theorem dJ2_charAt_3b067_0 : decode cJ2_charAt_3b067 0 = .ok (.iload_n 1, 1) := by decide +kernel
theorem dJ2_charAt_3b067_1 : decode cJ2_charAt_3b067 1 = .ok (.aload_n 0, 1) := by decide +kernel
theorem dJ2_charAt_3b067_2 : decode cJ2_charAt_3b067 2 = .ok (.invokestatic 67, 3) := by decide +kernel
theorem dJ2_charAt_3b067_5 : decode cJ2_charAt_3b067 5 = .ok (.aload_n 0, 1) := by decide +kernel
theorem dJ2_charAt_3b067_6 : decode cJ2_charAt_3b067 6 = .ok (.iload_n 1, 1) := by decide +kernel
theorem dJ2_charAt_3b067_7 : decode cJ2_charAt_3b067 7 = .ok (.invokestatic 71, 3) := by decide +kernel
theorem dJ2_charAt_3b067_10 : decode cJ2_charAt_3b067 10 = .ok (.ireturn, 1) := by decide +kernel
set_option maxRecDepth 20000 in
theorem ggJ2_checkIndex_2214a_J2_length_9d52b : GoodIn wsJ2_checkIndex_2214a wsJ2_length_9d52b := goodIn_r _ [4] (by decide +kernel) (by decide +kernel)
set_option maxRecDepth 20000 in
theorem gJ2_checkIndex_2214a_J2_length_9d52b : GoodIn wsJ2_checkIndex_2214a (va_wsS RJ2 48 yJ2_length_9d52b wsJ2_length_9d52b) := goodIn_app (goodIn_of _ (by decide +kernel)) ggJ2_checkIndex_2214a_J2_length_9d52b
set_option maxRecDepth 20000 in
theorem ggJ2_checkIndex_2214a_J0_checkIndex_df160 : GoodIn wsJ2_checkIndex_2214a wsJ0_checkIndex_df160 := goodIn_r _ [8, 9, 10, 11, 12, 13] (by decide +kernel) (by decide +kernel)
set_option maxRecDepth 20000 in
theorem gJ2_checkIndex_2214a_J0_checkIndex_df160 : GoodIn wsJ2_checkIndex_2214a (va_wsS RJ2 414 yJ0_checkIndex_df160 wsJ0_checkIndex_df160) := goodIn_app (goodIn_of _ (by decide +kernel)) ggJ2_checkIndex_2214a_J0_checkIndex_df160
theorem dJ2_checkIndex_2214a_0 : decode cJ2_checkIndex_2214a 0 = .ok (.iload_n 0, 1) := by decide +kernel
theorem dJ2_checkIndex_2214a_1 : decode cJ2_checkIndex_2214a 1 = .ok (.aload_n 1, 1) := by decide +kernel
theorem dJ2_checkIndex_2214a_2 : decode cJ2_checkIndex_2214a 2 = .ok (.invokestatic 48, 3) := by decide +kernel
theorem dJ2_checkIndex_2214a_5 : decode cJ2_checkIndex_2214a 5 = .ok (.invokestatic 414, 3) := by decide +kernel
theorem dJ2_checkIndex_2214a_8 : decode cJ2_checkIndex_2214a 8 = .ok (.return_, 1) := by decide +kernel
theorem dJ3_checkIndex_8e157_0 : decode cJ3_checkIndex_8e157 0 = .ok (.iload_n 0, 1) := by decide +kernel
theorem dJ3_checkIndex_8e157_1 : decode cJ3_checkIndex_8e157 1 = .ok (.ifCond .lt 8, 3) := by decide +kernel
theorem dJ3_checkIndex_8e157_4 : decode cJ3_checkIndex_8e157 4 = .ok (.iload_n 0, 1) := by decide +kernel
theorem dJ3_checkIndex_8e157_5 : decode cJ3_checkIndex_8e157 5 = .ok (.iload_n 1, 1) := by decide +kernel
theorem dJ3_checkIndex_8e157_6 : decode cJ3_checkIndex_8e157 6 = .ok (.if_icmp .lt 10, 3) := by decide +kernel
theorem dJ3_checkIndex_8e157_9 : decode cJ3_checkIndex_8e157 9 = .ok (.aload_n 2, 1) := by decide +kernel
theorem dJ3_checkIndex_8e157_10 : decode cJ3_checkIndex_8e157 10 = .ok (.iload_n 0, 1) := by decide +kernel
theorem dJ3_checkIndex_8e157_11 : decode cJ3_checkIndex_8e157 11 = .ok (.iload_n 1, 1) := by decide +kernel
theorem dJ3_checkIndex_8e157_12 : decode cJ3_checkIndex_8e157 12 = .ok (.invokestatic 95, 3) := by decide +kernel
theorem dJ3_checkIndex_8e157_15 : decode cJ3_checkIndex_8e157 15 = .ok (.athrow, 1) := by decide +kernel
theorem dJ3_checkIndex_8e157_16 : decode cJ3_checkIndex_8e157 16 = .ok (.iload_n 0, 1) := by decide +kernel
theorem dJ3_checkIndex_8e157_17 : decode cJ3_checkIndex_8e157 17 = .ok (.ireturn, 1) := by decide +kernel
