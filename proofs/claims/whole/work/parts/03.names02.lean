theorem wsL_law_x0 : ∀ w ∈ (vx_atS RX4 122 "java/lang/IllegalStateException" ["java/lang/RuntimeException", "java/lang/Exception"]).filter goodWord, w ∈ lw_tbl := by decide +kernel
theorem wsL_law_x1 : ∀ w ∈ (vx_atS RX4 129 "java/lang/IndexOutOfBoundsException" ["java/lang/RuntimeException", "java/lang/Exception"]).filter goodWord, w ∈ lw_tbl := by decide +kernel
theorem wsL_law_in : ∀ w ∈ wsL_law, w ∈ lw_tbl := fun w h => (List.mem_append.mp h).elim (fun h => (List.mem_append.mp h).elim (fun h => wsL_law_in0 w h) (fun h => wsL_law_x0 w h)) (fun h => wsL_law_x1 w h)
theorem inlX0 : ∀ w ∈ wsX00, w ∈ wsL_law := fun _ h => List.mem_append_left _ (List.mem_append_left _ (List.mem_append_left _ (List.mem_append_left _ (List.mem_append_left _ (List.mem_append_left _ (List.mem_append_right _ h))))))
theorem inX0 : ∀ w ∈ wsX00, w ∈ lw_tbl := fun w h => wsL_law_in w (inlX0 w h)
theorem inlX1 : ∀ w ∈ wsX10, w ∈ wsL_law := fun _ h => List.mem_append_left _ (List.mem_append_left _ (List.mem_append_left _ (List.mem_append_left _ (List.mem_append_right _ h))))
theorem inX1 : ∀ w ∈ wsX10, w ∈ lw_tbl := fun w h => wsL_law_in w (inlX1 w h)
theorem inlX2 : ∀ w ∈ wsX20, w ∈ wsL_law := fun _ h => List.mem_append_left _ (List.mem_append_left _ (List.mem_append_left _ (List.mem_append_right _ h)))
theorem inX2 : ∀ w ∈ wsX20, w ∈ lw_tbl := fun w h => wsL_law_in w (inlX2 w h)
theorem inlX3 : ∀ w ∈ wsX30, w ∈ wsL_law := fun _ h => List.mem_append_left _ (List.mem_append_left _ (List.mem_append_left _ (List.mem_append_left _ (List.mem_append_left _ (List.mem_append_right _ h)))))
theorem inX3 : ∀ w ∈ wsX30, w ∈ lw_tbl := fun w h => wsL_law_in w (inlX3 w h)
theorem inlX4 : ∀ w ∈ wsX40, w ∈ wsL_law := fun _ h => List.mem_append_left _ (List.mem_append_left _ (List.mem_append_left _ (List.mem_append_left _ (List.mem_append_left _ (List.mem_append_left _ (List.mem_append_left _ (List.mem_append_left _ (List.mem_append_right _ h))))))))
theorem inX4 : ∀ w ∈ wsX40, w ∈ lw_tbl := fun w h => wsL_law_in w (inlX4 w h)
theorem inlX5 : ∀ w ∈ wsX50, w ∈ wsL_law := fun _ h => List.mem_append_left _ (List.mem_append_left _ (List.mem_append_left _ (List.mem_append_left _ (List.mem_append_left _ (List.mem_append_left _ (List.mem_append_left _ (List.mem_append_right _ h)))))))
theorem inX5 : ∀ w ∈ wsX50, w ∈ lw_tbl := fun w h => wsL_law_in w (inlX5 w h)
theorem inJ9 : ∀ w ∈ wsJ90, w ∈ lw_tbl := by decide +kernel
theorem inJ0 : ∀ w ∈ wsJ00, w ∈ lw_tbl := by decide +kernel
theorem inJ10 : ∀ w ∈ wsJ100, w ∈ lw_tbl := by decide +kernel
theorem dX0_init_0 : decode cX0_init 0 = .ok (.aload_n 0, 1) := by decide +kernel
theorem dX0_init_1 : decode cX0_init 1 = .ok (.invokespecial 3, 3) := by decide +kernel
theorem dX0_init_4 : decode cX0_init 4 = .ok (.aload_n 0, 1) := by decide +kernel
theorem dX0_init_5 : decode cX0_init 5 = .ok (.iload_n 1, 1) := by decide +kernel
theorem dX0_init_6 : decode cX0_init 6 = .ok (.putfield 9, 3) := by decide +kernel
theorem dX0_init_9 : decode cX0_init 9 = .ok (.aload_n 0, 1) := by decide +kernel
theorem dX0_init_10 : decode cX0_init 10 = .ok (.iload_n 2, 1) := by decide +kernel
theorem dX0_init_11 : decode cX0_init 11 = .ok (.newarray .long, 2) := by decide +kernel
theorem dX0_init_13 : decode cX0_init 13 = .ok (.putfield 15, 3) := by decide +kernel
theorem dX0_init_16 : decode cX0_init 16 = .ok (.aload_n 0, 1) := by decide +kernel
theorem dX0_init_17 : decode cX0_init 17 = .ok (.iload_n 2, 1) := by decide +kernel
theorem dX0_init_18 : decode cX0_init 18 = .ok (.newarray .int, 2) := by decide +kernel
theorem dX0_init_20 : decode cX0_init 20 = .ok (.putfield 19, 3) := by decide +kernel
theorem dX0_init_23 : decode cX0_init 23 = .ok (.return_, 1) := by decide +kernel
theorem dX0_length_0 : decode cX0_length 0 = .ok (.aload_n 0, 1) := by decide +kernel
theorem dX0_length_1 : decode cX0_length 1 = .ok (.getfield 15, 3) := by decide +kernel
theorem dX0_length_4 : decode cX0_length 4 = .ok (.arraylength, 1) := by decide +kernel
theorem dX0_length_5 : decode cX0_length 5 = .ok (.ireturn, 1) := by decide +kernel
theorem dX0_isNoBook_0 : decode cX0_isNoBook 0 = .ok (.aload_n 0, 1) := by decide +kernel
theorem dX0_isNoBook_1 : decode cX0_isNoBook 1 = .ok (.getfield 9, 3) := by decide +kernel
theorem dX0_isNoBook_4 : decode cX0_isNoBook 4 = .ok (.ifCond .ge 7, 3) := by decide +kernel
theorem dX0_isNoBook_7 : decode cX0_isNoBook 7 = .ok (.iconst 1, 1) := by decide +kernel
theorem dX0_isNoBook_8 : decode cX0_isNoBook 8 = .ok (.goto 4, 3) := by decide +kernel
theorem dX0_isNoBook_11 : decode cX0_isNoBook 11 = .ok (.iconst 0, 1) := by decide +kernel
theorem dX0_isNoBook_12 : decode cX0_isNoBook 12 = .ok (.ireturn, 1) := by decide +kernel
theorem dX0_hasPictures_0 : decode cX0_hasPictures 0 = .ok (.aload_n 0, 1) := by decide +kernel
theorem dX0_hasPictures_1 : decode cX0_hasPictures 1 = .ok (.getfield 9, 3) := by decide +kernel
theorem dX0_hasPictures_4 : decode cX0_hasPictures 4 = .ok (.bipush 6, 2) := by decide +kernel
theorem dX0_hasPictures_6 : decode cX0_hasPictures 6 = .ok (.if_icmp .lt 7, 3) := by decide +kernel
theorem dX0_hasPictures_9 : decode cX0_hasPictures 9 = .ok (.iconst 1, 1) := by decide +kernel
theorem dX0_hasPictures_10 : decode cX0_hasPictures 10 = .ok (.goto 4, 3) := by decide +kernel
theorem dX0_hasPictures_13 : decode cX0_hasPictures 13 = .ok (.iconst 0, 1) := by decide +kernel
theorem dX0_hasPictures_14 : decode cX0_hasPictures 14 = .ok (.ireturn, 1) := by decide +kernel
set_option maxRecDepth 20000 in
theorem ggX0_isAlike_X0_isNoBook : GoodIn wsX0_isAlike wsX0_isNoBook := goodIn_r _ [6, 1, 11, 12, 13] (by decide +kernel) (by decide +kernel)
set_option maxRecDepth 20000 in
theorem gX0_isAlike_X0_isNoBook : GoodIn wsX0_isAlike (wsV RX0 23 RX0 yX0_isNoBook wsX0_isNoBook) := goodIn_app (goodIn_of _ (by decide +kernel)) ggX0_isAlike_X0_isNoBook
set_option maxRecDepth 20000 in
theorem ggX0_isAlike_X0_hasPictures : GoodIn wsX0_isAlike wsX0_hasPictures := goodIn_r _ [10, 1, 11, 12, 13] (by decide +kernel) (by decide +kernel)
set_option maxRecDepth 20000 in
theorem gX0_isAlike_X0_hasPictures : GoodIn wsX0_isAlike (wsV RX0 27 RX0 yX0_hasPictures wsX0_hasPictures) := goodIn_app (goodIn_of _ (by decide +kernel)) ggX0_isAlike_X0_hasPictures
theorem dX0_isAlike_0 : decode cX0_isAlike 0 = .ok (.aload_n 0, 1) := by decide +kernel
theorem dX0_isAlike_1 : decode cX0_isAlike 1 = .ok (.invokevirtual 23, 3) := by decide +kernel
theorem dX0_isAlike_4 : decode cX0_isAlike 4 = .ok (.ifCond .ne 32, 3) := by decide +kernel
theorem dX0_isAlike_7 : decode cX0_isAlike 7 = .ok (.aload_n 0, 1) := by decide +kernel
theorem dX0_isAlike_8 : decode cX0_isAlike 8 = .ok (.getfield 9, 3) := by decide +kernel
theorem dX0_isAlike_11 : decode cX0_isAlike 11 = .ok (.aload_n 1, 1) := by decide +kernel
theorem dX0_isAlike_12 : decode cX0_isAlike 12 = .ok (.getfield 9, 3) := by decide +kernel
theorem dX0_isAlike_15 : decode cX0_isAlike 15 = .ok (.if_icmp .eq 17, 3) := by decide +kernel
theorem dX0_isAlike_18 : decode cX0_isAlike 18 = .ok (.aload_n 0, 1) := by decide +kernel
theorem dX0_isAlike_19 : decode cX0_isAlike 19 = .ok (.invokevirtual 27, 3) := by decide +kernel
theorem dX0_isAlike_22 : decode cX0_isAlike 22 = .ok (.ifCond .eq 14, 3) := by decide +kernel
theorem dX0_isAlike_25 : decode cX0_isAlike 25 = .ok (.aload_n 1, 1) := by decide +kernel
theorem dX0_isAlike_26 : decode cX0_isAlike 26 = .ok (.invokevirtual 27, 3) := by decide +kernel
theorem dX0_isAlike_29 : decode cX0_isAlike 29 = .ok (.ifCond .eq 7, 3) := by decide +kernel
theorem dX0_isAlike_32 : decode cX0_isAlike 32 = .ok (.iconst 1, 1) := by decide +kernel
theorem dX0_isAlike_33 : decode cX0_isAlike 33 = .ok (.goto 4, 3) := by decide +kernel
theorem dX0_isAlike_36 : decode cX0_isAlike 36 = .ok (.iconst 0, 1) := by decide +kernel
theorem dX0_isAlike_37 : decode cX0_isAlike 37 = .ok (.ireturn, 1) := by decide +kernel
theorem dX0_hasPlace_0 : decode cX0_hasPlace 0 = .ok (.iload_n 1, 1) := by decide +kernel
theorem dX0_hasPlace_1 : decode cX0_hasPlace 1 = .ok (.ifCond .lt 16, 3) := by decide +kernel
theorem dX0_hasPlace_4 : decode cX0_hasPlace 4 = .ok (.iload_n 1, 1) := by decide +kernel
theorem dX0_hasPlace_5 : decode cX0_hasPlace 5 = .ok (.aload_n 0, 1) := by decide +kernel
theorem dX0_hasPlace_6 : decode cX0_hasPlace 6 = .ok (.getfield 15, 3) := by decide +kernel
theorem dX0_hasPlace_9 : decode cX0_hasPlace 9 = .ok (.arraylength, 1) := by decide +kernel
theorem dX0_hasPlace_10 : decode cX0_hasPlace 10 = .ok (.if_icmp .ge 7, 3) := by decide +kernel
theorem dX0_hasPlace_13 : decode cX0_hasPlace 13 = .ok (.iconst 1, 1) := by decide +kernel
theorem dX0_hasPlace_14 : decode cX0_hasPlace 14 = .ok (.goto 4, 3) := by decide +kernel
theorem dX0_hasPlace_17 : decode cX0_hasPlace 17 = .ok (.iconst 0, 1) := by decide +kernel
theorem dX0_hasPlace_18 : decode cX0_hasPlace 18 = .ok (.ireturn, 1) := by decide +kernel
theorem dX0_hasRun_0 : decode cX0_hasRun 0 = .ok (.iload_n 1, 1) := by decide +kernel
theorem dX0_hasRun_1 : decode cX0_hasRun 1 = .ok (.ifCond .lt 22, 3) := by decide +kernel
theorem dX0_hasRun_4 : decode cX0_hasRun 4 = .ok (.iload_n 2, 1) := by decide +kernel
theorem dX0_hasRun_5 : decode cX0_hasRun 5 = .ok (.ifCond .lt 18, 3) := by decide +kernel
theorem dX0_hasRun_8 : decode cX0_hasRun 8 = .ok (.iload_n 1, 1) := by decide +kernel
theorem dX0_hasRun_9 : decode cX0_hasRun 9 = .ok (.aload_n 0, 1) := by decide +kernel
theorem dX0_hasRun_10 : decode cX0_hasRun 10 = .ok (.getfield 15, 3) := by decide +kernel
theorem dX0_hasRun_13 : decode cX0_hasRun 13 = .ok (.arraylength, 1) := by decide +kernel
theorem dX0_hasRun_14 : decode cX0_hasRun 14 = .ok (.iload_n 2, 1) := by decide +kernel
theorem dX0_hasRun_15 : decode cX0_hasRun 15 = .ok (.isub, 1) := by decide +kernel
theorem dX0_hasRun_16 : decode cX0_hasRun 16 = .ok (.if_icmp .gt 7, 3) := by decide +kernel
theorem dX0_hasRun_19 : decode cX0_hasRun 19 = .ok (.iconst 1, 1) := by decide +kernel
theorem dX0_hasRun_20 : decode cX0_hasRun 20 = .ok (.goto 4, 3) := by decide +kernel
theorem dX0_hasRun_23 : decode cX0_hasRun 23 = .ok (.iconst 0, 1) := by decide +kernel
theorem dX0_hasRun_24 : decode cX0_hasRun 24 = .ok (.ireturn, 1) := by decide +kernel
theorem dX0_admits_0 : decode cX0_admits 0 = .ok (.aload_n 0, 1) := by decide +kernel
theorem dX0_admits_1 : decode cX0_admits 1 = .ok (.getfield 9, 3) := by decide +kernel
theorem dX0_admits_4 : decode cX0_admits 4 = .ok (.bipush 7, 2) := by decide +kernel
theorem dX0_admits_6 : decode cX0_admits 6 = .ok (.if_icmp .ne 14, 3) := by decide +kernel
theorem dX0_admits_9 : decode cX0_admits 9 = .ok (.iload_n 1, 1) := by decide +kernel
theorem dX0_admits_10 : decode cX0_admits 10 = .ok (.iconst 2, 1) := by decide +kernel
theorem dX0_admits_11 : decode cX0_admits 11 = .ok (.if_icmp .eq 7, 3) := by decide +kernel
theorem dX0_admits_14 : decode cX0_admits 14 = .ok (.iconst 1, 1) := by decide +kernel
theorem dX0_admits_15 : decode cX0_admits 15 = .ok (.goto 4, 3) := by decide +kernel
theorem dX0_admits_18 : decode cX0_admits 18 = .ok (.iconst 0, 1) := by decide +kernel
theorem dX0_admits_19 : decode cX0_admits 19 = .ok (.ireturn, 1) := by decide +kernel
theorem dX0_admits_20 : decode cX0_admits 20 = .ok (.aload_n 0, 1) := by decide +kernel
theorem dX0_admits_21 : decode cX0_admits 21 = .ok (.getfield 9, 3) := by decide +kernel
theorem dX0_admits_24 : decode cX0_admits 24 = .ok (.bipush 8, 2) := by decide +kernel
theorem dX0_admits_26 : decode cX0_admits 26 = .ok (.if_icmp .ne 8, 3) := by decide +kernel
theorem dX0_admits_29 : decode cX0_admits 29 = .ok (.iload_n 1, 1) := by decide +kernel
theorem dX0_admits_30 : decode cX0_admits 30 = .ok (.iconst 1, 1) := by decide +kernel
theorem dX0_admits_31 : decode cX0_admits 31 = .ok (.if_icmp .eq 7, 3) := by decide +kernel
theorem dX0_admits_34 : decode cX0_admits 34 = .ok (.iconst 1, 1) := by decide +kernel
theorem dX0_admits_35 : decode cX0_admits 35 = .ok (.goto 4, 3) := by decide +kernel
theorem dX0_admits_38 : decode cX0_admits 38 = .ok (.iconst 0, 1) := by decide +kernel
theorem dX0_admits_39 : decode cX0_admits 39 = .ok (.ireturn, 1) := by decide +kernel
theorem dX0_cut_0 : decode cX0_cut 0 = .ok (.aload_n 0, 1) := by decide +kernel
theorem dX0_cut_1 : decode cX0_cut 1 = .ok (.getfield 9, 3) := by decide +kernel
theorem dX0_cut_4 : decode cX0_cut 4 = .ok (.tableswitch 63 0 5 #[40, 45, 50, 55, 63, 59], 40) := by decide +kernel
theorem dX0_cut_44 : decode cX0_cut 44 = .ok (.lload_n 1, 1) := by decide +kernel
theorem dX0_cut_45 : decode cX0_cut 45 = .ok (.l2i, 1) := by decide +kernel
theorem dX0_cut_46 : decode cX0_cut 46 = .ok (.i2b, 1) := by decide +kernel
theorem dX0_cut_47 : decode cX0_cut 47 = .ok (.i2l, 1) := by decide +kernel
theorem dX0_cut_48 : decode cX0_cut 48 = .ok (.lreturn, 1) := by decide +kernel
theorem dX0_cut_49 : decode cX0_cut 49 = .ok (.lload_n 1, 1) := by decide +kernel
theorem dX0_cut_50 : decode cX0_cut 50 = .ok (.l2i, 1) := by decide +kernel
theorem dX0_cut_51 : decode cX0_cut 51 = .ok (.i2c, 1) := by decide +kernel
theorem dX0_cut_52 : decode cX0_cut 52 = .ok (.i2l, 1) := by decide +kernel
theorem dX0_cut_53 : decode cX0_cut 53 = .ok (.lreturn, 1) := by decide +kernel
theorem dX0_cut_54 : decode cX0_cut 54 = .ok (.lload_n 1, 1) := by decide +kernel
theorem dX0_cut_55 : decode cX0_cut 55 = .ok (.l2i, 1) := by decide +kernel
theorem dX0_cut_56 : decode cX0_cut 56 = .ok (.i2s, 1) := by decide +kernel
theorem dX0_cut_57 : decode cX0_cut 57 = .ok (.i2l, 1) := by decide +kernel
theorem dX0_cut_58 : decode cX0_cut 58 = .ok (.lreturn, 1) := by decide +kernel
theorem dX0_cut_59 : decode cX0_cut 59 = .ok (.lload_n 1, 1) := by decide +kernel
theorem dX0_cut_60 : decode cX0_cut 60 = .ok (.l2i, 1) := by decide +kernel
theorem dX0_cut_61 : decode cX0_cut 61 = .ok (.i2l, 1) := by decide +kernel
theorem dX0_cut_62 : decode cX0_cut 62 = .ok (.lreturn, 1) := by decide +kernel
theorem dX0_cut_63 : decode cX0_cut 63 = .ok (.lload_n 1, 1) := by decide +kernel
theorem dX0_cut_64 : decode cX0_cut 64 = .ok (.lconst 1, 1) := by decide +kernel
theorem dX0_cut_65 : decode cX0_cut 65 = .ok (.land, 1) := by decide +kernel
theorem dX0_cut_66 : decode cX0_cut 66 = .ok (.lreturn, 1) := by decide +kernel
theorem dX0_cut_67 : decode cX0_cut 67 = .ok (.lload_n 1, 1) := by decide +kernel
theorem dX0_cut_68 : decode cX0_cut 68 = .ok (.lreturn, 1) := by decide +kernel
set_option maxRecDepth 20000 in
theorem ggX0_paint_X0_admits : GoodIn wsX0_paint wsX0_admits := goodIn_r _ [7, 8, 9, 10, 11] (by decide +kernel) (by decide +kernel)
set_option maxRecDepth 20000 in
theorem gX0_paint_X0_admits : GoodIn wsX0_paint (wsV RX0 30 RX0 yX0_admits wsX0_admits) := goodIn_app (goodIn_of _ (by decide +kernel)) ggX0_paint_X0_admits
theorem dX0_paint_0 : decode cX0_paint 0 = .ok (.aload_n 0, 1) := by decide +kernel
theorem dX0_paint_1 : decode cX0_paint 1 = .ok (.iload_n 2, 1) := by decide +kernel
theorem dX0_paint_2 : decode cX0_paint 2 = .ok (.invokevirtual 30, 3) := by decide +kernel
theorem dX0_paint_5 : decode cX0_paint 5 = .ok (.ifCond .ne 5, 3) := by decide +kernel
theorem dX0_paint_8 : decode cX0_paint 8 = .ok (.iconst 0, 1) := by decide +kernel
theorem dX0_paint_9 : decode cX0_paint 9 = .ok (.ireturn, 1) := by decide +kernel
theorem dX0_paint_10 : decode cX0_paint 10 = .ok (.aload_n 0, 1) := by decide +kernel
theorem dX0_paint_11 : decode cX0_paint 11 = .ok (.getfield 19, 3) := by decide +kernel
theorem dX0_paint_14 : decode cX0_paint 14 = .ok (.iload_n 1, 1) := by decide +kernel
theorem dX0_paint_15 : decode cX0_paint 15 = .ok (.iload_n 2, 1) := by decide +kernel
theorem dX0_paint_16 : decode cX0_paint 16 = .ok (.iastore, 1) := by decide +kernel
theorem dX0_paint_17 : decode cX0_paint 17 = .ok (.aload_n 0, 1) := by decide +kernel
theorem dX0_paint_18 : decode cX0_paint 18 = .ok (.getfield 15, 3) := by decide +kernel
theorem dX0_paint_21 : decode cX0_paint 21 = .ok (.iload_n 1, 1) := by decide +kernel
theorem dX0_paint_22 : decode cX0_paint 22 = .ok (.iload_n 2, 1) := by decide +kernel
theorem dX0_paint_23 : decode cX0_paint 23 = .ok (.ifCond .ne 7, 3) := by decide +kernel
theorem dX0_paint_26 : decode cX0_paint 26 = .ok (.lconst 0, 1) := by decide +kernel
theorem dX0_paint_27 : decode cX0_paint 27 = .ok (.goto 6, 3) := by decide +kernel
theorem dX0_paint_30 : decode cX0_paint 30 = .ok (.lload_n 3, 1) := by decide +kernel
theorem dX0_paint_31 : decode cX0_paint 31 = .ok (.l2i, 1) := by decide +kernel
theorem dX0_paint_32 : decode cX0_paint 32 = .ok (.i2l, 1) := by decide +kernel
theorem dX0_paint_33 : decode cX0_paint 33 = .ok (.lastore, 1) := by decide +kernel
theorem dX0_paint_34 : decode cX0_paint 34 = .ok (.iconst 1, 1) := by decide +kernel
theorem dX0_paint_35 : decode cX0_paint 35 = .ok (.ireturn, 1) := by decide +kernel
set_option maxRecDepth 20000 in
theorem ggX0_signAt_X0_hasPictures : GoodIn wsX0_signAt wsX0_hasPictures := goodIn_r _ [8, 9, 10, 11, 12] (by decide +kernel) (by decide +kernel)
set_option maxRecDepth 20000 in
theorem gX0_signAt_X0_hasPictures : GoodIn wsX0_signAt (wsV RX0 27 RX0 yX0_hasPictures wsX0_hasPictures) := goodIn_app (goodIn_of _ (by decide +kernel)) ggX0_signAt_X0_hasPictures
theorem dX0_signAt_0 : decode cX0_signAt 0 = .ok (.aload_n 0, 1) := by decide +kernel
theorem dX0_signAt_1 : decode cX0_signAt 1 = .ok (.invokevirtual 27, 3) := by decide +kernel
theorem dX0_signAt_4 : decode cX0_signAt 4 = .ok (.ifCond .eq 24, 3) := by decide +kernel
theorem dX0_signAt_7 : decode cX0_signAt 7 = .ok (.ldc2_w 34, 3) := by decide +kernel
theorem dX0_signAt_10 : decode cX0_signAt 10 = .ok (.aload_n 0, 1) := by decide +kernel
theorem dX0_signAt_11 : decode cX0_signAt 11 = .ok (.getfield 15, 3) := by decide +kernel
theorem dX0_signAt_14 : decode cX0_signAt 14 = .ok (.iload_n 1, 1) := by decide +kernel
theorem dX0_signAt_15 : decode cX0_signAt 15 = .ok (.laload, 1) := by decide +kernel
theorem dX0_signAt_16 : decode cX0_signAt 16 = .ok (.lmul, 1) := by decide +kernel
theorem dX0_signAt_17 : decode cX0_signAt 17 = .ok (.aload_n 0, 1) := by decide +kernel
theorem dX0_signAt_18 : decode cX0_signAt 18 = .ok (.getfield 19, 3) := by decide +kernel
theorem dX0_signAt_21 : decode cX0_signAt 21 = .ok (.iload_n 1, 1) := by decide +kernel
theorem dX0_signAt_22 : decode cX0_signAt 22 = .ok (.iaload, 1) := by decide +kernel
theorem dX0_signAt_23 : decode cX0_signAt 23 = .ok (.i2l, 1) := by decide +kernel
theorem dX0_signAt_24 : decode cX0_signAt 24 = .ok (.ladd, 1) := by decide +kernel
theorem dX0_signAt_25 : decode cX0_signAt 25 = .ok (.goto 9, 3) := by decide +kernel
theorem dX0_signAt_28 : decode cX0_signAt 28 = .ok (.aload_n 0, 1) := by decide +kernel
theorem dX0_signAt_29 : decode cX0_signAt 29 = .ok (.getfield 15, 3) := by decide +kernel
theorem dX0_signAt_32 : decode cX0_signAt 32 = .ok (.iload_n 1, 1) := by decide +kernel
theorem dX0_signAt_33 : decode cX0_signAt 33 = .ok (.laload, 1) := by decide +kernel
theorem dX0_signAt_34 : decode cX0_signAt 34 = .ok (.lreturn, 1) := by decide +kernel
set_option maxRecDepth 20000 in
theorem ggX0_fittingOf_X0_admits : GoodIn wsX0_fittingOf wsX0_admits := goodIn_r _ [6, 7, 8, 9, 10] (by decide +kernel) (by decide +kernel)
set_option maxRecDepth 20000 in
theorem gX0_fittingOf_X0_admits : GoodIn wsX0_fittingOf (wsV RX0 30 RX0 yX0_admits wsX0_admits) := goodIn_app (goodIn_of _ (by decide +kernel)) ggX0_fittingOf_X0_admits
theorem dX0_fittingOf_0 : decode cX0_fittingOf 0 = .ok (.iconst 0, 1) := by decide +kernel
theorem dX0_fittingOf_1 : decode cX0_fittingOf 1 = .ok (.istore 4, 2) := by decide +kernel
theorem dX0_fittingOf_3 : decode cX0_fittingOf 3 = .ok (.iload 4, 2) := by decide +kernel
theorem dX0_fittingOf_5 : decode cX0_fittingOf 5 = .ok (.iload_n 3, 1) := by decide +kernel
theorem dX0_fittingOf_6 : decode cX0_fittingOf 6 = .ok (.if_icmp .ge 28, 3) := by decide +kernel
theorem dX0_fittingOf_9 : decode cX0_fittingOf 9 = .ok (.aload_n 0, 1) := by decide +kernel
theorem dX0_fittingOf_10 : decode cX0_fittingOf 10 = .ok (.aload_n 1, 1) := by decide +kernel
theorem dX0_fittingOf_11 : decode cX0_fittingOf 11 = .ok (.getfield 19, 3) := by decide +kernel
theorem dX0_fittingOf_14 : decode cX0_fittingOf 14 = .ok (.iload_n 2, 1) := by decide +kernel
theorem dX0_fittingOf_15 : decode cX0_fittingOf 15 = .ok (.iload 4, 2) := by decide +kernel
theorem dX0_fittingOf_17 : decode cX0_fittingOf 17 = .ok (.iadd, 1) := by decide +kernel
theorem dX0_fittingOf_18 : decode cX0_fittingOf 18 = .ok (.iaload, 1) := by decide +kernel
theorem dX0_fittingOf_19 : decode cX0_fittingOf 19 = .ok (.invokevirtual 30, 3) := by decide +kernel
theorem dX0_fittingOf_22 : decode cX0_fittingOf 22 = .ok (.ifCond .ne 6, 3) := by decide +kernel
theorem dX0_fittingOf_25 : decode cX0_fittingOf 25 = .ok (.iload 4, 2) := by decide +kernel
theorem dX0_fittingOf_27 : decode cX0_fittingOf 27 = .ok (.ireturn, 1) := by decide +kernel
theorem dX0_fittingOf_28 : decode cX0_fittingOf 28 = .ok (.iinc 4 1, 3) := by decide +kernel
theorem dX0_fittingOf_31 : decode cX0_fittingOf 31 = .ok (.goto (-28), 3) := by decide +kernel
theorem dX0_fittingOf_34 : decode cX0_fittingOf 34 = .ok (.iload_n 3, 1) := by decide +kernel
theorem dX0_fittingOf_35 : decode cX0_fittingOf 35 = .ok (.ireturn, 1) := by decide +kernel
theorem dX0_take_0 : decode cX0_take 0 = .ok (.aload_n 1, 1) := by decide +kernel
theorem dX0_take_1 : decode cX0_take 1 = .ok (.getfield 15, 3) := by decide +kernel
theorem dX0_take_4 : decode cX0_take 4 = .ok (.iload_n 2, 1) := by decide +kernel
theorem dX0_take_5 : decode cX0_take 5 = .ok (.aload_n 0, 1) := by decide +kernel
theorem dX0_take_6 : decode cX0_take 6 = .ok (.getfield 15, 3) := by decide +kernel
theorem dX0_take_9 : decode cX0_take 9 = .ok (.iload_n 3, 1) := by decide +kernel
theorem dX0_take_10 : decode cX0_take 10 = .ok (.iload 4, 2) := by decide +kernel
theorem dX0_take_12 : decode cX0_take 12 = .ok (.invokestatic 36, 3) := by decide +kernel
theorem dX0_take_15 : decode cX0_take 15 = .ok (.aload_n 1, 1) := by decide +kernel
theorem dX0_take_16 : decode cX0_take 16 = .ok (.getfield 19, 3) := by decide +kernel
theorem dX0_take_19 : decode cX0_take 19 = .ok (.iload_n 2, 1) := by decide +kernel
theorem dX0_take_20 : decode cX0_take 20 = .ok (.aload_n 0, 1) := by decide +kernel
theorem dX0_take_21 : decode cX0_take 21 = .ok (.getfield 19, 3) := by decide +kernel
theorem dX0_take_24 : decode cX0_take 24 = .ok (.iload_n 3, 1) := by decide +kernel
theorem dX0_take_25 : decode cX0_take 25 = .ok (.iload 4, 2) := by decide +kernel
theorem dX0_take_27 : decode cX0_take 27 = .ok (.invokestatic 36, 3) := by decide +kernel
theorem dX0_take_30 : decode cX0_take 30 = .ok (.return_, 1) := by decide +kernel
theorem dX1_init_0 : decode cX1_init 0 = .ok (.aload_n 0, 1) := by decide +kernel
theorem dX1_init_1 : decode cX1_init 1 = .ok (.invokespecial 3, 3) := by decide +kernel
theorem dX1_init_4 : decode cX1_init 4 = .ok (.aload_n 0, 1) := by decide +kernel
theorem dX1_init_5 : decode cX1_init 5 = .ok (.bipush 16, 2) := by decide +kernel
theorem dX1_init_7 : decode cX1_init 7 = .ok (.newarray .int, 2) := by decide +kernel
theorem dX1_init_9 : decode cX1_init 9 = .ok (.putfield 9, 3) := by decide +kernel
theorem dX1_init_12 : decode cX1_init 12 = .ok (.aload_n 0, 1) := by decide +kernel
theorem dX1_init_13 : decode cX1_init 13 = .ok (.bipush 16, 2) := by decide +kernel
theorem dX1_init_15 : decode cX1_init 15 = .ok (.newarray .int, 2) := by decide +kernel
theorem dX1_init_17 : decode cX1_init 17 = .ok (.putfield 15, 3) := by decide +kernel
theorem dX1_init_20 : decode cX1_init 20 = .ok (.aload_n 0, 1) := by decide +kernel
theorem dX1_init_21 : decode cX1_init 21 = .ok (.bipush 16, 2) := by decide +kernel
theorem dX1_init_23 : decode cX1_init 23 = .ok (.newarray .int, 2) := by decide +kernel
theorem dX1_init_25 : decode cX1_init 25 = .ok (.putfield 18, 3) := by decide +kernel
theorem dX1_init_28 : decode cX1_init 28 = .ok (.aload_n 0, 1) := by decide +kernel
theorem dX1_init_29 : decode cX1_init 29 = .ok (.bipush 16, 2) := by decide +kernel
theorem dX1_init_31 : decode cX1_init 31 = .ok (.newarray .int, 2) := by decide +kernel
theorem dX1_init_33 : decode cX1_init 33 = .ok (.putfield 21, 3) := by decide +kernel
theorem dX1_init_36 : decode cX1_init 36 = .ok (.return_, 1) := by decide +kernel
theorem dX1_has_0 : decode cX1_has 0 = .ok (.iload_n 1, 1) := by decide +kernel
theorem dX1_has_1 : decode cX1_has 1 = .ok (.ifCond .lt 15, 3) := by decide +kernel
theorem dX1_has_4 : decode cX1_has 4 = .ok (.iload_n 1, 1) := by decide +kernel
theorem dX1_has_5 : decode cX1_has 5 = .ok (.aload_n 0, 1) := by decide +kernel
theorem dX1_has_6 : decode cX1_has 6 = .ok (.getfield 24, 3) := by decide +kernel
theorem dX1_has_9 : decode cX1_has 9 = .ok (.if_icmp .ge 7, 3) := by decide +kernel
theorem dX1_has_12 : decode cX1_has 12 = .ok (.iconst 1, 1) := by decide +kernel
theorem dX1_has_13 : decode cX1_has 13 = .ok (.goto 4, 3) := by decide +kernel
theorem dX1_has_16 : decode cX1_has 16 = .ok (.iconst 0, 1) := by decide +kernel
theorem dX1_has_17 : decode cX1_has 17 = .ok (.ireturn, 1) := by decide +kernel
set_option maxRecDepth 20000 in
theorem ggX1_rowOf_J9_floorMod_7cf53 : GoodIn wsX1_rowOf wsJ9_floorMod_7cf53 := goodIn_r _ [5] (by decide +kernel) (by decide +kernel)
set_option maxRecDepth 20000 in
theorem gX1_rowOf_J9_floorMod_7cf53 : GoodIn wsX1_rowOf (va_wsS RX1 31 yJ9_floorMod_7cf53 wsJ9_floorMod_7cf53) := goodIn_app (goodIn_of _ (by decide +kernel)) ggX1_rowOf_J9_floorMod_7cf53
theorem dX1_rowOf_0 : decode cX1_rowOf 0 = .ok (.aload_n 0, 1) := by decide +kernel
theorem dX1_rowOf_1 : decode cX1_rowOf 1 = .ok (.getfield 28, 3) := by decide +kernel
theorem dX1_rowOf_4 : decode cX1_rowOf 4 = .ok (.iconst 1, 1) := by decide +kernel
theorem dX1_rowOf_5 : decode cX1_rowOf 5 = .ok (.isub, 1) := by decide +kernel
theorem dX1_rowOf_6 : decode cX1_rowOf 6 = .ok (.iload_n 1, 1) := by decide +kernel
theorem dX1_rowOf_7 : decode cX1_rowOf 7 = .ok (.isub, 1) := by decide +kernel
theorem dX1_rowOf_8 : decode cX1_rowOf 8 = .ok (.bipush 16, 2) := by decide +kernel
theorem dX1_rowOf_10 : decode cX1_rowOf 10 = .ok (.invokestatic 31, 3) := by decide +kernel
theorem dX1_rowOf_13 : decode cX1_rowOf 13 = .ok (.ireturn, 1) := by decide +kernel
theorem dX1_add_0 : decode cX1_add 0 = .ok (.aload_n 0, 1) := by decide +kernel
theorem dX1_add_1 : decode cX1_add 1 = .ok (.getfield 9, 3) := by decide +kernel
theorem dX1_add_4 : decode cX1_add 4 = .ok (.aload_n 0, 1) := by decide +kernel
theorem dX1_add_5 : decode cX1_add 5 = .ok (.getfield 28, 3) := by decide +kernel
theorem dX1_add_8 : decode cX1_add 8 = .ok (.aload_n 1, 1) := by decide +kernel
theorem dX1_add_9 : decode cX1_add 9 = .ok (.getfield 37, 3) := by decide +kernel
theorem dX1_add_12 : decode cX1_add 12 = .ok (.iastore, 1) := by decide +kernel
theorem dX1_add_13 : decode cX1_add 13 = .ok (.aload_n 0, 1) := by decide +kernel
theorem dX1_add_14 : decode cX1_add 14 = .ok (.getfield 15, 3) := by decide +kernel
theorem dX1_add_17 : decode cX1_add 17 = .ok (.aload_n 0, 1) := by decide +kernel
theorem dX1_add_18 : decode cX1_add 18 = .ok (.getfield 28, 3) := by decide +kernel
theorem dX1_add_21 : decode cX1_add 21 = .ok (.aload_n 1, 1) := by decide +kernel
theorem dX1_add_22 : decode cX1_add 22 = .ok (.getfield 42, 3) := by decide +kernel
theorem dX1_add_25 : decode cX1_add 25 = .ok (.iastore, 1) := by decide +kernel
theorem dX1_add_26 : decode cX1_add 26 = .ok (.aload_n 0, 1) := by decide +kernel
theorem dX1_add_27 : decode cX1_add 27 = .ok (.getfield 18, 3) := by decide +kernel
theorem dX1_add_30 : decode cX1_add 30 = .ok (.aload_n 0, 1) := by decide +kernel
theorem dX1_add_31 : decode cX1_add 31 = .ok (.getfield 28, 3) := by decide +kernel
theorem dX1_add_34 : decode cX1_add 34 = .ok (.aload_n 1, 1) := by decide +kernel
theorem dX1_add_35 : decode cX1_add 35 = .ok (.getfield 45, 3) := by decide +kernel
theorem dX1_add_38 : decode cX1_add 38 = .ok (.iastore, 1) := by decide +kernel
theorem dX1_add_39 : decode cX1_add 39 = .ok (.aload_n 0, 1) := by decide +kernel
theorem dX1_add_40 : decode cX1_add 40 = .ok (.getfield 21, 3) := by decide +kernel
theorem dX1_add_43 : decode cX1_add 43 = .ok (.aload_n 0, 1) := by decide +kernel
theorem dX1_add_44 : decode cX1_add 44 = .ok (.getfield 28, 3) := by decide +kernel
theorem dX1_add_47 : decode cX1_add 47 = .ok (.iload_n 2, 1) := by decide +kernel
theorem dX1_add_48 : decode cX1_add 48 = .ok (.iastore, 1) := by decide +kernel
theorem dX1_add_49 : decode cX1_add 49 = .ok (.aload_n 0, 1) := by decide +kernel
theorem dX1_add_50 : decode cX1_add 50 = .ok (.aload_n 0, 1) := by decide +kernel
theorem dX1_add_51 : decode cX1_add 51 = .ok (.getfield 28, 3) := by decide +kernel
theorem dX1_add_54 : decode cX1_add 54 = .ok (.iconst 1, 1) := by decide +kernel
theorem dX1_add_55 : decode cX1_add 55 = .ok (.iadd, 1) := by decide +kernel
theorem dX1_add_56 : decode cX1_add 56 = .ok (.bipush 16, 2) := by decide +kernel
theorem dX1_add_58 : decode cX1_add 58 = .ok (.irem, 1) := by decide +kernel
theorem dX1_add_59 : decode cX1_add 59 = .ok (.putfield 28, 3) := by decide +kernel
theorem dX1_add_62 : decode cX1_add 62 = .ok (.aload_n 0, 1) := by decide +kernel
theorem dX1_add_63 : decode cX1_add 63 = .ok (.bipush 16, 2) := by decide +kernel
theorem dX1_add_65 : decode cX1_add 65 = .ok (.aload_n 0, 1) := by decide +kernel
theorem dX1_add_66 : decode cX1_add 66 = .ok (.getfield 24, 3) := by decide +kernel
theorem dX1_add_69 : decode cX1_add 69 = .ok (.iconst 1, 1) := by decide +kernel
theorem dX1_add_70 : decode cX1_add 70 = .ok (.iadd, 1) := by decide +kernel
theorem dX1_add_71 : decode cX1_add 71 = .ok (.invokestatic 48, 3) := by decide +kernel
theorem dX1_add_74 : decode cX1_add 74 = .ok (.putfield 24, 3) := by decide +kernel
theorem dX1_add_77 : decode cX1_add 77 = .ok (.return_, 1) := by decide +kernel
theorem dX2_init_0 : decode cX2_init 0 = .ok (.aload_n 0, 1) := by decide +kernel
theorem dX2_init_1 : decode cX2_init 1 = .ok (.invokespecial 1, 3) := by decide +kernel
theorem dX2_init_4 : decode cX2_init 4 = .ok (.aload_n 0, 1) := by decide +kernel
theorem dX2_init_5 : decode cX2_init 5 = .ok (.iload_n 1, 1) := by decide +kernel
theorem dX2_init_6 : decode cX2_init 6 = .ok (.putfield 7, 3) := by decide +kernel
theorem dX2_init_9 : decode cX2_init 9 = .ok (.aload_n 0, 1) := by decide +kernel
theorem dX2_init_10 : decode cX2_init 10 = .ok (.iload_n 2, 1) := by decide +kernel
theorem dX2_init_11 : decode cX2_init 11 = .ok (.putfield 13, 3) := by decide +kernel
theorem dX2_init_14 : decode cX2_init 14 = .ok (.aload_n 0, 1) := by decide +kernel
theorem dX2_init_15 : decode cX2_init 15 = .ok (.iload_n 3, 1) := by decide +kernel
theorem dX2_init_16 : decode cX2_init 16 = .ok (.putfield 16, 3) := by decide +kernel
theorem dX2_init_19 : decode cX2_init 19 = .ok (.aload_n 0, 1) := by decide +kernel
theorem dX2_init_20 : decode cX2_init 20 = .ok (.iload 4, 2) := by decide +kernel
theorem dX2_init_22 : decode cX2_init 22 = .ok (.putfield 19, 3) := by decide +kernel
theorem dX2_init_25 : decode cX2_init 25 = .ok (.aload_n 0, 1) := by decide +kernel
theorem dX2_init_26 : decode cX2_init 26 = .ok (.iload 5, 2) := by decide +kernel
theorem dX2_init_28 : decode cX2_init 28 = .ok (.putfield 22, 3) := by decide +kernel
theorem dX2_init_31 : decode cX2_init 31 = .ok (.aload_n 0, 1) := by decide +kernel
theorem dX2_init_32 : decode cX2_init 32 = .ok (.iload 6, 2) := by decide +kernel
theorem dX2_init_34 : decode cX2_init 34 = .ok (.putfield 25, 3) := by decide +kernel
theorem dX2_init_37 : decode cX2_init 37 = .ok (.return_, 1) := by decide +kernel
theorem dX3_init_0 : decode cX3_init 0 = .ok (.aload_n 0, 1) := by decide +kernel
theorem dX3_init_1 : decode cX3_init 1 = .ok (.invokespecial 3, 3) := by decide +kernel
theorem dX3_init_4 : decode cX3_init 4 = .ok (.aload_n 0, 1) := by decide +kernel
theorem dX3_init_5 : decode cX3_init 5 = .ok (.bipush 100, 2) := by decide +kernel
theorem dX3_init_7 : decode cX3_init 7 = .ok (.putfield 9, 3) := by decide +kernel
theorem dX3_init_10 : decode cX3_init 10 = .ok (.aload_n 0, 1) := by decide +kernel
theorem dX3_init_11 : decode cX3_init 11 = .ok (.bipush 8, 2) := by decide +kernel
theorem dX3_init_13 : decode cX3_init 13 = .ok (.anewarray 15, 3) := by decide +kernel
theorem dX3_init_16 : decode cX3_init 16 = .ok (.putfield 17, 3) := by decide +kernel
theorem dX3_init_19 : decode cX3_init 19 = .ok (.return_, 1) := by decide +kernel
theorem dX3_use_0 : decode cX3_use 0 = .ok (.aload_n 0, 1) := by decide +kernel
theorem dX3_use_1 : decode cX3_use 1 = .ok (.dup, 1) := by decide +kernel
theorem dX3_use_2 : decode cX3_use 2 = .ok (.getfield 9, 3) := by decide +kernel
theorem dX3_use_5 : decode cX3_use 5 = .ok (.iload_n 1, 1) := by decide +kernel
theorem dX3_use_6 : decode cX3_use 6 = .ok (.isub, 1) := by decide +kernel
theorem dX3_use_7 : decode cX3_use 7 = .ok (.putfield 9, 3) := by decide +kernel
theorem dX3_use_10 : decode cX3_use 10 = .ok (.aload_n 0, 1) := by decide +kernel
theorem dX3_use_11 : decode cX3_use 11 = .ok (.dup, 1) := by decide +kernel
theorem dX3_use_12 : decode cX3_use 12 = .ok (.getfield 21, 3) := by decide +kernel
theorem dX3_use_15 : decode cX3_use 15 = .ok (.iload_n 1, 1) := by decide +kernel
theorem dX3_use_16 : decode cX3_use 16 = .ok (.iadd, 1) := by decide +kernel
theorem dX3_use_17 : decode cX3_use 17 = .ok (.putfield 21, 3) := by decide +kernel
theorem dX3_use_20 : decode cX3_use 20 = .ok (.return_, 1) := by decide +kernel
theorem dX3_addOrder_0 : decode cX3_addOrder 0 = .ok (.aload_n 0, 1) := by decide +kernel
theorem dX3_addOrder_1 : decode cX3_addOrder 1 = .ok (.getfield 24, 3) := by decide +kernel
theorem dX3_addOrder_4 : decode cX3_addOrder 4 = .ok (.bipush 8, 2) := by decide +kernel
theorem dX3_addOrder_6 : decode cX3_addOrder 6 = .ok (.if_icmp .lt 6, 3) := by decide +kernel
theorem dX3_addOrder_9 : decode cX3_addOrder 9 = .ok (.bipush (-99), 2) := by decide +kernel
theorem dX3_addOrder_11 : decode cX3_addOrder 11 = .ok (.ireturn, 1) := by decide +kernel
theorem dX3_addOrder_12 : decode cX3_addOrder 12 = .ok (.aload_n 0, 1) := by decide +kernel
theorem dX3_addOrder_13 : decode cX3_addOrder 13 = .ok (.getfield 17, 3) := by decide +kernel
theorem dX3_addOrder_16 : decode cX3_addOrder 16 = .ok (.aload_n 0, 1) := by decide +kernel
theorem dX3_addOrder_17 : decode cX3_addOrder 17 = .ok (.getfield 24, 3) := by decide +kernel
theorem dX3_addOrder_20 : decode cX3_addOrder 20 = .ok (.aload_n 1, 1) := by decide +kernel
theorem dX3_addOrder_21 : decode cX3_addOrder 21 = .ok (.aastore, 1) := by decide +kernel
theorem dX3_addOrder_22 : decode cX3_addOrder 22 = .ok (.aload_n 0, 1) := by decide +kernel
theorem dX3_addOrder_23 : decode cX3_addOrder 23 = .ok (.dup, 1) := by decide +kernel
theorem dX3_addOrder_24 : decode cX3_addOrder 24 = .ok (.getfield 24, 3) := by decide +kernel
theorem dX3_addOrder_27 : decode cX3_addOrder 27 = .ok (.iconst 1, 1) := by decide +kernel
theorem dX3_addOrder_28 : decode cX3_addOrder 28 = .ok (.iadd, 1) := by decide +kernel
theorem dX3_addOrder_29 : decode cX3_addOrder 29 = .ok (.putfield 24, 3) := by decide +kernel
theorem dX3_addOrder_32 : decode cX3_addOrder 32 = .ok (.aload_n 0, 1) := by decide +kernel
theorem dX3_addOrder_33 : decode cX3_addOrder 33 = .ok (.getfield 24, 3) := by decide +kernel
theorem dX3_addOrder_36 : decode cX3_addOrder 36 = .ok (.ireturn, 1) := by decide +kernel
theorem dX3_firstOrder_0 : decode cX3_firstOrder 0 = .ok (.aload_n 0, 1) := by decide +kernel
theorem dX3_firstOrder_1 : decode cX3_firstOrder 1 = .ok (.getfield 24, 3) := by decide +kernel
theorem dX3_firstOrder_4 : decode cX3_firstOrder 4 = .ok (.ifCond .le 12, 3) := by decide +kernel
theorem dX3_firstOrder_7 : decode cX3_firstOrder 7 = .ok (.aload_n 0, 1) := by decide +kernel
theorem dX3_firstOrder_8 : decode cX3_firstOrder 8 = .ok (.getfield 17, 3) := by decide +kernel
theorem dX3_firstOrder_11 : decode cX3_firstOrder 11 = .ok (.iconst 0, 1) := by decide +kernel
theorem dX3_firstOrder_12 : decode cX3_firstOrder 12 = .ok (.aaload, 1) := by decide +kernel
theorem dX3_firstOrder_13 : decode cX3_firstOrder 13 = .ok (.goto 4, 3) := by decide +kernel
theorem dX3_firstOrder_16 : decode cX3_firstOrder 16 = .ok (.aconst_null, 1) := by decide +kernel
theorem dX3_firstOrder_17 : decode cX3_firstOrder 17 = .ok (.areturn, 1) := by decide +kernel
theorem dX3_dropFirstOrder_0 : decode cX3_dropFirstOrder 0 = .ok (.iconst 1, 1) := by decide +kernel
theorem dX3_dropFirstOrder_1 : decode cX3_dropFirstOrder 1 = .ok (.istore_n 1, 1) := by decide +kernel
theorem dX3_dropFirstOrder_2 : decode cX3_dropFirstOrder 2 = .ok (.iload_n 1, 1) := by decide +kernel
theorem dX3_dropFirstOrder_3 : decode cX3_dropFirstOrder 3 = .ok (.aload_n 0, 1) := by decide +kernel
theorem dX3_dropFirstOrder_4 : decode cX3_dropFirstOrder 4 = .ok (.getfield 24, 3) := by decide +kernel
theorem dX3_dropFirstOrder_7 : decode cX3_dropFirstOrder 7 = .ok (.if_icmp .ge 23, 3) := by decide +kernel
theorem dX3_dropFirstOrder_10 : decode cX3_dropFirstOrder 10 = .ok (.aload_n 0, 1) := by decide +kernel
theorem dX3_dropFirstOrder_11 : decode cX3_dropFirstOrder 11 = .ok (.getfield 17, 3) := by decide +kernel
theorem dX3_dropFirstOrder_14 : decode cX3_dropFirstOrder 14 = .ok (.iload_n 1, 1) := by decide +kernel
theorem dX3_dropFirstOrder_15 : decode cX3_dropFirstOrder 15 = .ok (.iconst 1, 1) := by decide +kernel
theorem dX3_dropFirstOrder_16 : decode cX3_dropFirstOrder 16 = .ok (.isub, 1) := by decide +kernel
theorem dX3_dropFirstOrder_17 : decode cX3_dropFirstOrder 17 = .ok (.aload_n 0, 1) := by decide +kernel
theorem dX3_dropFirstOrder_18 : decode cX3_dropFirstOrder 18 = .ok (.getfield 17, 3) := by decide +kernel
theorem dX3_dropFirstOrder_21 : decode cX3_dropFirstOrder 21 = .ok (.iload_n 1, 1) := by decide +kernel
theorem dX3_dropFirstOrder_22 : decode cX3_dropFirstOrder 22 = .ok (.aaload, 1) := by decide +kernel
theorem dX3_dropFirstOrder_23 : decode cX3_dropFirstOrder 23 = .ok (.aastore, 1) := by decide +kernel
theorem dX3_dropFirstOrder_24 : decode cX3_dropFirstOrder 24 = .ok (.iinc 1 1, 3) := by decide +kernel
theorem dX3_dropFirstOrder_27 : decode cX3_dropFirstOrder 27 = .ok (.goto (-25), 3) := by decide +kernel
theorem dX3_dropFirstOrder_30 : decode cX3_dropFirstOrder 30 = .ok (.aload_n 0, 1) := by decide +kernel
theorem dX3_dropFirstOrder_31 : decode cX3_dropFirstOrder 31 = .ok (.getfield 24, 3) := by decide +kernel
theorem dX3_dropFirstOrder_34 : decode cX3_dropFirstOrder 34 = .ok (.ifCond .le 23, 3) := by decide +kernel
theorem dX3_dropFirstOrder_37 : decode cX3_dropFirstOrder 37 = .ok (.aload_n 0, 1) := by decide +kernel
theorem dX3_dropFirstOrder_38 : decode cX3_dropFirstOrder 38 = .ok (.dup, 1) := by decide +kernel
theorem dX3_dropFirstOrder_39 : decode cX3_dropFirstOrder 39 = .ok (.getfield 24, 3) := by decide +kernel
