set_option maxRecDepth 20000 in
theorem wsL_c_1 : GoodIn lw_tbl wsL_law_r1 := goodIn_p wsL_law_r1 [53, 56] (by decide +kernel) (by decide +kernel)
set_option maxRecDepth 20000 in
theorem wsL_c_2 : GoodIn lw_tbl wsL_law_r2 := goodIn_p wsL_law_r2 [61] (by decide +kernel) (by decide +kernel)
set_option maxRecDepth 20000 in
theorem wsL_c_3 : GoodIn lw_tbl wsL_law_r3 := goodIn_p wsL_law_r3 [67, 91, 118] (by decide +kernel) (by decide +kernel)
set_option maxRecDepth 20000 in
theorem wsL_c_4 : GoodIn lw_tbl wsL_law_r4 := goodIn_p wsL_law_r4 [142, 187] (by decide +kernel) (by decide +kernel)
set_option maxRecDepth 20000 in
theorem wsL_c_5 : GoodIn lw_tbl wsL_law_r5 := goodIn_p wsL_law_r5 [200, 226, 231] (by decide +kernel) (by decide +kernel)
set_option maxRecDepth 20000 in
theorem wsL_c_6 : GoodIn lw_tbl wsL_law_r6 := goodIn_p wsL_law_r6 [730] (by decide +kernel) (by decide +kernel)
set_option maxRecDepth 20000 in
theorem wsL_c_7 : GoodIn lw_tbl wsL_law_r7 := goodIn_p wsL_law_r7 [285] (by decide +kernel) (by decide +kernel)
set_option maxRecDepth 20000 in
theorem wsL_c_8 : GoodIn lw_tbl wsL_law_r8 := goodIn_p wsL_law_r8 [289, 294, 868, 298, 302] (by decide +kernel) (by decide +kernel)
set_option maxRecDepth 20000 in
theorem wsL_c_9 : GoodIn lw_tbl wsL_law_r9 := goodIn_p wsL_law_r9 [305, 308, 314, 872, 876, 879] (by decide +kernel) (by decide +kernel)
set_option maxRecDepth 20000 in
theorem wsL_c_10 : GoodIn lw_tbl wsL_law_r10 := goodIn_p wsL_law_r10 [882, 319, 323, 888, 328] (by decide +kernel) (by decide +kernel)
set_option maxRecDepth 20000 in
theorem wsL_c_11 : GoodIn lw_tbl wsL_law_r11 := goodIn_p wsL_law_r11 [332, 336, 340, 343, 349] (by decide +kernel) (by decide +kernel)
set_option maxRecDepth 20000 in
theorem wsL_c_12 : GoodIn lw_tbl wsL_law_r12 := goodIn_p wsL_law_r12 [353, 357, 360, 366, 370] (by decide +kernel) (by decide +kernel)
set_option maxRecDepth 20000 in
theorem wsL_c_13 : GoodIn lw_tbl wsL_law_r13 := goodIn_p wsL_law_r13 [375, 379, 383, 387, 393] (by decide +kernel) (by decide +kernel)
set_option maxRecDepth 20000 in
theorem wsL_c_14 : GoodIn lw_tbl wsL_law_r14 := goodIn_p wsL_law_r14 [397, 400, 403, 408, 411, 414] (by decide +kernel) (by decide +kernel)
set_option maxRecDepth 20000 in
theorem wsL_c_15 : GoodIn lw_tbl wsL_law_r15 := goodIn_p wsL_law_r15 [417, 421, 432, 441] (by decide +kernel) (by decide +kernel)
set_option maxRecDepth 20000 in
theorem wsL_c_16 : GoodIn lw_tbl wsL_law_r16 := goodIn_p wsL_law_r16 [446, 452, 457, 461, 466, 470] (by decide +kernel) (by decide +kernel)
set_option maxRecDepth 20000 in
theorem wsL_c_17 : GoodIn lw_tbl wsL_law_r17 := goodIn_p wsL_law_r17 [475, 479, 483, 487, 892, 896] (by decide +kernel) (by decide +kernel)
set_option maxRecDepth 20000 in
theorem wsL_c_18 : GoodIn lw_tbl wsL_law_r18 := goodIn_p wsL_law_r18 [900, 904, 908, 912, 916] (by decide +kernel) (by decide +kernel)
set_option maxRecDepth 20000 in
theorem wsL_c_19 : GoodIn lw_tbl wsL_law_r19 := goodIn_p wsL_law_r19 [920, 924, 928, 492, 496, 500] (by decide +kernel) (by decide +kernel)
set_option maxRecDepth 20000 in
theorem wsL_c_20 : GoodIn lw_tbl wsL_law_r20 := goodIn_p wsL_law_r20 [504, 508, 932, 512, 515, 936] (by decide +kernel) (by decide +kernel)
set_option maxRecDepth 20000 in
theorem wsL_c_21 : GoodIn lw_tbl wsL_law_r21 := goodIn_p wsL_law_r21 [939, 520, 524, 944, 529, 533] (by decide +kernel) (by decide +kernel)
set_option maxRecDepth 20000 in
theorem wsL_c_22 : GoodIn lw_tbl wsL_law_r22 := goodIn_p wsL_law_r22 [948, 952, 540, 544, 548] (by decide +kernel) (by decide +kernel)
set_option maxRecDepth 20000 in
theorem wsL_c_23 : GoodIn lw_tbl wsL_law_r23 := goodIn_p wsL_law_r23 [553, 557, 563, 567, 571] (by decide +kernel) (by decide +kernel)
set_option maxRecDepth 20000 in
theorem wsL_c_24 : GoodIn lw_tbl wsL_law_r24 := goodIn_p wsL_law_r24 [575, 579, 583, 588, 592, 596] (by decide +kernel) (by decide +kernel)
set_option maxRecDepth 20000 in
theorem wsL_c_25 : GoodIn lw_tbl wsL_law_r25 := goodIn_p wsL_law_r25 [600, 604, 609, 956, 960] (by decide +kernel) (by decide +kernel)
set_option maxRecDepth 20000 in
theorem wsL_c_26 : GoodIn lw_tbl wsL_law_r26 := goodIn_p wsL_law_r26 [965, 969, 973, 977, 614, 618] (by decide +kernel) (by decide +kernel)
set_option maxRecDepth 20000 in
theorem wsL_c_27 : GoodIn lw_tbl wsL_law_r27 := goodIn_p wsL_law_r27 [622, 626, 631, 636, 640] (by decide +kernel) (by decide +kernel)
set_option maxRecDepth 20000 in
theorem wsL_c_28 : GoodIn lw_tbl wsL_law_r28 := goodIn_p wsL_law_r28 [645, 650, 981, 985, 990] (by decide +kernel) (by decide +kernel)
set_option maxRecDepth 20000 in
theorem wsL_c_29 : GoodIn lw_tbl wsL_law_r29 := goodIn_p wsL_law_r29 [654, 658, 662, 667, 671] (by decide +kernel) (by decide +kernel)
set_option maxRecDepth 20000 in
theorem wsL_c_30 : GoodIn lw_tbl wsL_law_r30 := goodIn_p wsL_law_r30 [675, 994, 679, 683, 998, 687] (by decide +kernel) (by decide +kernel)
set_option maxRecDepth 20000 in
theorem wsL_c_31 : GoodIn lw_tbl wsL_law_r31 := goodIn_p wsL_law_r31 [691, 1002, 695, 699, 704, 1006] (by decide +kernel) (by decide +kernel)
set_option maxRecDepth 20000 in
theorem wsL_c_32 : GoodIn lw_tbl wsL_law_r32 := goodIn_p wsL_law_r32 [709, 713, 717, 1011, 721, 1015] (by decide +kernel) (by decide +kernel)
set_option maxRecDepth 20000 in
theorem wsL_c_33 : GoodIn lw_tbl wsL_law_r33 := goodIn_p wsL_law_r33 [725, 1019] (by decide +kernel) (by decide +kernel)
set_option maxRecDepth 20000 in
theorem wsL_t_8 : GoodIn lw_tbl wsX80 := goodIn_of _ (by decide +kernel)
set_option maxRecDepth 20000 in
theorem wsL_t_9 : GoodIn lw_tbl wsX90 := goodIn_of _ (by decide +kernel)
set_option maxRecDepth 20000 in
theorem wsL_t_3 : GoodIn lw_tbl wsX30 := goodIn_of _ (by decide +kernel)
set_option maxRecDepth 20000 in
theorem wsL_t_1 : GoodIn lw_tbl wsX10 := goodIn_of _ (by decide +kernel)
set_option maxRecDepth 20000 in
theorem wsL_t_7 : GoodIn lw_tbl wsX70 := goodIn_of _ (by decide +kernel)
set_option maxRecDepth 20000 in
theorem wsL_t_0 : GoodIn lw_tbl wsX00 := goodIn_of _ (by decide +kernel)
set_option maxRecDepth 20000 in
theorem wsL_t_6 : GoodIn lw_tbl wsX60 := goodIn_of _ (by decide +kernel)
set_option maxRecDepth 20000 in
theorem wsL_t_4 : GoodIn lw_tbl wsX40 := goodIn_of _ (by decide +kernel)
set_option maxRecDepth 20000 in
theorem wsL_t_5 : GoodIn lw_tbl wsX50 := goodIn_of _ (by decide +kernel)
set_option maxRecDepth 20000 in
theorem wsL_t_2 : GoodIn lw_tbl wsX20 := goodIn_of _ (by decide +kernel)
theorem wsL_law_good : GoodIn lw_tbl wsL_law := goodIn_app (goodIn_app (goodIn_app (goodIn_app (goodIn_app (goodIn_app (goodIn_app (goodIn_app (goodIn_app (goodIn_app (goodIn_app (goodIn_app wsL_c_1 (goodIn_app wsL_c_2 (goodIn_app wsL_c_3 (goodIn_app wsL_c_4 (goodIn_app wsL_c_5 (goodIn_app wsL_c_6 (goodIn_app wsL_c_7 (goodIn_app wsL_c_8 (goodIn_app wsL_c_9 (goodIn_app wsL_c_10 (goodIn_app wsL_c_11 (goodIn_app wsL_c_12 (goodIn_app wsL_c_13 (goodIn_app wsL_c_14 (goodIn_app wsL_c_15 (goodIn_app wsL_c_16 (goodIn_app wsL_c_17 (goodIn_app wsL_c_18 (goodIn_app wsL_c_19 (goodIn_app wsL_c_20 (goodIn_app wsL_c_21 (goodIn_app wsL_c_22 (goodIn_app wsL_c_23 (goodIn_app wsL_c_24 (goodIn_app wsL_c_25 (goodIn_app wsL_c_26 (goodIn_app wsL_c_27 (goodIn_app wsL_c_28 (goodIn_app wsL_c_29 (goodIn_app wsL_c_30 (goodIn_app wsL_c_31 (goodIn_app wsL_c_32 (wsL_c_33))))))))))))))))))))))))))))))))) wsL_t_8) wsL_t_9) wsL_t_3) wsL_t_1) wsL_t_7) wsL_t_0) wsL_t_6) wsL_t_4) wsL_t_5) wsL_t_2) (fun w h => absurd h List.not_mem_nil)
theorem wsL_law_in : ∀ w ∈ wsL_law, w ∈ lw_tbl := fun w h => (wsL_law_good w h).1
theorem inlX0 : ∀ w ∈ wsX00, w ∈ wsL_law := fun _ h => List.mem_append_left _ (List.mem_append_left _ (List.mem_append_left _ (List.mem_append_left _ (List.mem_append_left _ (List.mem_append_right _ h)))))
theorem inX0 : ∀ w ∈ wsX00, w ∈ lw_tbl := fun w h => wsL_law_in w (inlX0 w h)
theorem inlX1 : ∀ w ∈ wsX10, w ∈ wsL_law := fun _ h => List.mem_append_left _ (List.mem_append_left _ (List.mem_append_left _ (List.mem_append_left _ (List.mem_append_left _ (List.mem_append_left _ (List.mem_append_left _ (List.mem_append_right _ h)))))))
theorem inX1 : ∀ w ∈ wsX10, w ∈ lw_tbl := fun w h => wsL_law_in w (inlX1 w h)
theorem inlX2 : ∀ w ∈ wsX20, w ∈ wsL_law := fun _ h => List.mem_append_left _ (List.mem_append_right _ h)
theorem inX2 : ∀ w ∈ wsX20, w ∈ lw_tbl := fun w h => wsL_law_in w (inlX2 w h)
theorem inlX3 : ∀ w ∈ wsX30, w ∈ wsL_law := fun _ h => List.mem_append_left _ (List.mem_append_left _ (List.mem_append_left _ (List.mem_append_left _ (List.mem_append_left _ (List.mem_append_left _ (List.mem_append_left _ (List.mem_append_left _ (List.mem_append_right _ h))))))))
theorem inX3 : ∀ w ∈ wsX30, w ∈ lw_tbl := fun w h => wsL_law_in w (inlX3 w h)
theorem inlX4 : ∀ w ∈ wsX40, w ∈ wsL_law := fun _ h => List.mem_append_left _ (List.mem_append_left _ (List.mem_append_left _ (List.mem_append_right _ h)))
theorem inX4 : ∀ w ∈ wsX40, w ∈ lw_tbl := fun w h => wsL_law_in w (inlX4 w h)
theorem inlX5 : ∀ w ∈ wsX50, w ∈ wsL_law := fun _ h => List.mem_append_left _ (List.mem_append_left _ (List.mem_append_right _ h))
theorem inX5 : ∀ w ∈ wsX50, w ∈ lw_tbl := fun w h => wsL_law_in w (inlX5 w h)
theorem inlX6 : ∀ w ∈ wsX60, w ∈ wsL_law := fun _ h => List.mem_append_left _ (List.mem_append_left _ (List.mem_append_left _ (List.mem_append_left _ (List.mem_append_right _ h))))
theorem inX6 : ∀ w ∈ wsX60, w ∈ lw_tbl := fun w h => wsL_law_in w (inlX6 w h)
theorem inlX7 : ∀ w ∈ wsX70, w ∈ wsL_law := fun _ h => List.mem_append_left _ (List.mem_append_left _ (List.mem_append_left _ (List.mem_append_left _ (List.mem_append_left _ (List.mem_append_left _ (List.mem_append_right _ h))))))
theorem inX7 : ∀ w ∈ wsX70, w ∈ lw_tbl := fun w h => wsL_law_in w (inlX7 w h)
theorem inlX8 : ∀ w ∈ wsX80, w ∈ wsL_law := fun _ h => List.mem_append_left _ (List.mem_append_left _ (List.mem_append_left _ (List.mem_append_left _ (List.mem_append_left _ (List.mem_append_left _ (List.mem_append_left _ (List.mem_append_left _ (List.mem_append_left _ (List.mem_append_left _ (List.mem_append_right _ h))))))))))
theorem inX8 : ∀ w ∈ wsX80, w ∈ lw_tbl := fun w h => wsL_law_in w (inlX8 w h)
theorem inlX9 : ∀ w ∈ wsX90, w ∈ wsL_law := fun _ h => List.mem_append_left _ (List.mem_append_left _ (List.mem_append_left _ (List.mem_append_left _ (List.mem_append_left _ (List.mem_append_left _ (List.mem_append_left _ (List.mem_append_left _ (List.mem_append_left _ (List.mem_append_right _ h)))))))))
theorem inX9 : ∀ w ∈ wsX90, w ∈ lw_tbl := fun w h => wsL_law_in w (inlX9 w h)
theorem inJ0 : ∀ w ∈ wsJ00, w ∈ lw_tbl := by decide +kernel
theorem inJ1 : ∀ w ∈ wsJ10, w ∈ lw_tbl := by decide +kernel
theorem inJ2 : ∀ w ∈ wsJ20, w ∈ lw_tbl := by decide +kernel
theorem inJ3 : ∀ w ∈ wsJ30, w ∈ lw_tbl := by decide +kernel
