theorem dX3_dropFirstOrder_42 : decode cX3_dropFirstOrder 42 = .ok (.iconst 1, 1) := by decide +kernel
theorem dX3_dropFirstOrder_43 : decode cX3_dropFirstOrder 43 = .ok (.isub, 1) := by decide +kernel
theorem dX3_dropFirstOrder_44 : decode cX3_dropFirstOrder 44 = .ok (.putfield 24, 3) := by decide +kernel
theorem dX3_dropFirstOrder_47 : decode cX3_dropFirstOrder 47 = .ok (.aload_n 0, 1) := by decide +kernel
theorem dX3_dropFirstOrder_48 : decode cX3_dropFirstOrder 48 = .ok (.getfield 17, 3) := by decide +kernel
theorem dX3_dropFirstOrder_51 : decode cX3_dropFirstOrder 51 = .ok (.aload_n 0, 1) := by decide +kernel
theorem dX3_dropFirstOrder_52 : decode cX3_dropFirstOrder 52 = .ok (.getfield 24, 3) := by decide +kernel
theorem dX3_dropFirstOrder_55 : decode cX3_dropFirstOrder 55 = .ok (.aconst_null, 1) := by decide +kernel
theorem dX3_dropFirstOrder_56 : decode cX3_dropFirstOrder 56 = .ok (.aastore, 1) := by decide +kernel
theorem dX3_dropFirstOrder_57 : decode cX3_dropFirstOrder 57 = .ok (.return_, 1) := by decide +kernel
set_option maxRecDepth 20000 in
theorem ggX4_init_X0_init : GoodIn wsX4_init wsX0_init := goodIn_r _ [22, 23, 2, 3, 24, 25, 26, 18, 27, 43, 44, 45] (by decide +kernel) (by decide +kernel)
set_option maxRecDepth 20000 in
theorem gX4_init_X0_init : GoodIn wsX4_init (wsX0_init) := ggX4_init_X0_init
set_option maxRecDepth 20000 in
theorem ggX4_init_X3_init : GoodIn wsX4_init wsX3_init := goodIn_r _ [30, 31, 2, 3, 32, 33, 34, 52, 53, 54, 55] (by decide +kernel) (by decide +kernel)
set_option maxRecDepth 20000 in
theorem gX4_init_X3_init : GoodIn wsX4_init (wsX3_init) := ggX4_init_X3_init
set_option maxRecDepth 20000 in
theorem ggX4_init_X1_init : GoodIn wsX4_init wsX1_init := goodIn_r _ [37, 38, 2, 3, 18, 39, 40, 41, 42, 56, 57, 58, 59, 60, 61] (by decide +kernel) (by decide +kernel)
set_option maxRecDepth 20000 in
theorem gX4_init_X1_init : GoodIn wsX4_init (wsX1_init) := ggX4_init_X1_init
theorem dX4_init_0 : decode cX4_init 0 = .ok (.aload_n 0, 1) := by decide +kernel
theorem dX4_init_1 : decode cX4_init 1 = .ok (.invokespecial 1, 3) := by decide +kernel
theorem dX4_init_4 : decode cX4_init 4 = .ok (.aload_n 0, 1) := by decide +kernel
theorem dX4_init_5 : decode cX4_init 5 = .ok (.new 7, 3) := by decide +kernel
theorem dX4_init_8 : decode cX4_init 8 = .ok (.dup, 1) := by decide +kernel
theorem dX4_init_9 : decode cX4_init 9 = .ok (.iconst (-1), 1) := by decide +kernel
theorem dX4_init_10 : decode cX4_init 10 = .ok (.iconst 0, 1) := by decide +kernel
theorem dX4_init_11 : decode cX4_init 11 = .ok (.invokespecial 11, 3) := by decide +kernel
theorem dX4_init_14 : decode cX4_init 14 = .ok (.putfield 14, 3) := by decide +kernel
theorem dX4_init_17 : decode cX4_init 17 = .ok (.aload_n 0, 1) := by decide +kernel
theorem dX4_init_18 : decode cX4_init 18 = .ok (.new 7, 3) := by decide +kernel
theorem dX4_init_21 : decode cX4_init 21 = .ok (.dup, 1) := by decide +kernel
theorem dX4_init_22 : decode cX4_init 22 = .ok (.bipush (-2), 2) := by decide +kernel
theorem dX4_init_24 : decode cX4_init 24 = .ok (.iconst 0, 1) := by decide +kernel
theorem dX4_init_25 : decode cX4_init 25 = .ok (.invokespecial 11, 3) := by decide +kernel
theorem dX4_init_28 : decode cX4_init 28 = .ok (.putfield 18, 3) := by decide +kernel
theorem dX4_init_31 : decode cX4_init 31 = .ok (.aload_n 0, 1) := by decide +kernel
theorem dX4_init_32 : decode cX4_init 32 = .ok (.bipush 6, 2) := by decide +kernel
theorem dX4_init_34 : decode cX4_init 34 = .ok (.anewarray 7, 3) := by decide +kernel
theorem dX4_init_37 : decode cX4_init 37 = .ok (.putfield 21, 3) := by decide +kernel
theorem dX4_init_40 : decode cX4_init 40 = .ok (.iconst 0, 1) := by decide +kernel
theorem dX4_init_41 : decode cX4_init 41 = .ok (.istore_n 1, 1) := by decide +kernel
theorem dX4_init_42 : decode cX4_init 42 = .ok (.iload_n 1, 1) := by decide +kernel
theorem dX4_init_43 : decode cX4_init 43 = .ok (.bipush 6, 2) := by decide +kernel
theorem dX4_init_45 : decode cX4_init 45 = .ok (.if_icmp .ge 19, 3) := by decide +kernel
theorem dX4_init_48 : decode cX4_init 48 = .ok (.aload_n 0, 1) := by decide +kernel
theorem dX4_init_49 : decode cX4_init 49 = .ok (.getfield 21, 3) := by decide +kernel
theorem dX4_init_52 : decode cX4_init 52 = .ok (.iload_n 1, 1) := by decide +kernel
theorem dX4_init_53 : decode cX4_init 53 = .ok (.aload_n 0, 1) := by decide +kernel
theorem dX4_init_54 : decode cX4_init 54 = .ok (.getfield 14, 3) := by decide +kernel
theorem dX4_init_57 : decode cX4_init 57 = .ok (.aastore, 1) := by decide +kernel
theorem dX4_init_58 : decode cX4_init 58 = .ok (.iinc 1 1, 3) := by decide +kernel
theorem dX4_init_61 : decode cX4_init 61 = .ok (.goto (-19), 3) := by decide +kernel
theorem dX4_init_64 : decode cX4_init 64 = .ok (.aload_n 0, 1) := by decide +kernel
theorem dX4_init_65 : decode cX4_init 65 = .ok (.iconst 3, 1) := by decide +kernel
theorem dX4_init_66 : decode cX4_init 66 = .ok (.anewarray 25, 3) := by decide +kernel
theorem dX4_init_69 : decode cX4_init 69 = .ok (.putfield 27, 3) := by decide +kernel
theorem dX4_init_72 : decode cX4_init 72 = .ok (.iconst 0, 1) := by decide +kernel
theorem dX4_init_73 : decode cX4_init 73 = .ok (.istore_n 1, 1) := by decide +kernel
theorem dX4_init_74 : decode cX4_init 74 = .ok (.iload_n 1, 1) := by decide +kernel
theorem dX4_init_75 : decode cX4_init 75 = .ok (.iconst 3, 1) := by decide +kernel
theorem dX4_init_76 : decode cX4_init 76 = .ok (.if_icmp .ge 22, 3) := by decide +kernel
theorem dX4_init_79 : decode cX4_init 79 = .ok (.aload_n 0, 1) := by decide +kernel
theorem dX4_init_80 : decode cX4_init 80 = .ok (.getfield 27, 3) := by decide +kernel
theorem dX4_init_83 : decode cX4_init 83 = .ok (.iload_n 1, 1) := by decide +kernel
theorem dX4_init_84 : decode cX4_init 84 = .ok (.new 25, 3) := by decide +kernel
theorem dX4_init_87 : decode cX4_init 87 = .ok (.dup, 1) := by decide +kernel
theorem dX4_init_88 : decode cX4_init 88 = .ok (.invokespecial 31, 3) := by decide +kernel
theorem dX4_init_91 : decode cX4_init 91 = .ok (.aastore, 1) := by decide +kernel
theorem dX4_init_92 : decode cX4_init 92 = .ok (.iinc 1 1, 3) := by decide +kernel
theorem dX4_init_95 : decode cX4_init 95 = .ok (.goto (-21), 3) := by decide +kernel
theorem dX4_init_98 : decode cX4_init 98 = .ok (.aload_n 0, 1) := by decide +kernel
theorem dX4_init_99 : decode cX4_init 99 = .ok (.new 32, 3) := by decide +kernel
theorem dX4_init_102 : decode cX4_init 102 = .ok (.dup, 1) := by decide +kernel
theorem dX4_init_103 : decode cX4_init 103 = .ok (.invokespecial 34, 3) := by decide +kernel
theorem dX4_init_106 : decode cX4_init 106 = .ok (.putfield 35, 3) := by decide +kernel
theorem dX4_init_109 : decode cX4_init 109 = .ok (.aload_n 0, 1) := by decide +kernel
theorem dX4_init_110 : decode cX4_init 110 = .ok (.bipush 8, 2) := by decide +kernel
theorem dX4_init_112 : decode cX4_init 112 = .ok (.newarray .int, 2) := by decide +kernel
theorem dX4_init_114 : decode cX4_init 114 = .ok (.putfield 39, 3) := by decide +kernel
theorem dX4_init_117 : decode cX4_init 117 = .ok (.return_, 1) := by decide +kernel
set_option maxRecDepth 20000 in
theorem ggX4_bind_X4_isDesk : GoodIn wsX4_bind wsX4_isDesk := goodIn_r _ [8] (by decide +kernel) (by decide +kernel)
set_option maxRecDepth 20000 in
theorem gX4_bind_X4_isDesk : GoodIn wsX4_bind (va_wsS RX4 43 yX4_isDesk wsX4_isDesk) := goodIn_app (goodIn_of _ (by decide +kernel)) ggX4_bind_X4_isDesk
set_option maxRecDepth 20000 in
theorem ggX4_bind_X0_init : GoodIn wsX4_bind wsX0_init := goodIn_r _ [11, 12, 13, 14, 15, 16, 17, 18, 19, 31, 32, 33] (by decide +kernel) (by decide +kernel)
set_option maxRecDepth 20000 in
theorem gX4_bind_X0_init : GoodIn wsX4_bind (wsX0_init) := ggX4_bind_X0_init
set_option maxRecDepth 20000 in
theorem ggX4_bind_X4_lay : GoodIn wsX4_bind wsX4_lay := goodIn_r _ [23, 24, 5, 6, 7, 8, 25, 26, 27, 28, 29, 30] (by decide +kernel) (by decide +kernel)
set_option maxRecDepth 20000 in
theorem gX4_bind_X4_lay : GoodIn wsX4_bind (wsV RX4 47 RX4 yX4_lay wsX4_lay) := goodIn_app (goodIn_of _ (by decide +kernel)) ggX4_bind_X4_lay
theorem dX4_bind_0 : decode cX4_bind 0 = .ok (.iload_n 1, 1) := by decide +kernel
theorem dX4_bind_1 : decode cX4_bind 1 = .ok (.invokestatic 43, 3) := by decide +kernel
theorem dX4_bind_4 : decode cX4_bind 4 = .ok (.ifCond .eq 13, 3) := by decide +kernel
theorem dX4_bind_7 : decode cX4_bind 7 = .ok (.iload_n 2, 1) := by decide +kernel
theorem dX4_bind_8 : decode cX4_bind 8 = .ok (.ifCond .lt 9, 3) := by decide +kernel
theorem dX4_bind_11 : decode cX4_bind 11 = .ok (.iload_n 2, 1) := by decide +kernel
theorem dX4_bind_12 : decode cX4_bind 12 = .ok (.bipush 8, 2) := by decide +kernel
theorem dX4_bind_14 : decode cX4_bind 14 = .ok (.if_icmp .le 6, 3) := by decide +kernel
theorem dX4_bind_17 : decode cX4_bind 17 = .ok (.bipush (-99), 2) := by decide +kernel
theorem dX4_bind_19 : decode cX4_bind 19 = .ok (.ireturn, 1) := by decide +kernel
theorem dX4_bind_20 : decode cX4_bind 20 = .ok (.iload_n 3, 1) := by decide +kernel
theorem dX4_bind_21 : decode cX4_bind 21 = .ok (.ifCond .lt 9, 3) := by decide +kernel
theorem dX4_bind_24 : decode cX4_bind 24 = .ok (.iload_n 3, 1) := by decide +kernel
theorem dX4_bind_25 : decode cX4_bind 25 = .ok (.bipush 40, 2) := by decide +kernel
theorem dX4_bind_27 : decode cX4_bind 27 = .ok (.if_icmp .le 6, 3) := by decide +kernel
theorem dX4_bind_30 : decode cX4_bind 30 = .ok (.bipush (-99), 2) := by decide +kernel
theorem dX4_bind_32 : decode cX4_bind 32 = .ok (.ireturn, 1) := by decide +kernel
theorem dX4_bind_33 : decode cX4_bind 33 = .ok (.aload_n 0, 1) := by decide +kernel
theorem dX4_bind_34 : decode cX4_bind 34 = .ok (.getfield 39, 3) := by decide +kernel
theorem dX4_bind_37 : decode cX4_bind 37 = .ok (.bipush 7, 2) := by decide +kernel
theorem dX4_bind_39 : decode cX4_bind 39 = .ok (.dup2, 1) := by decide +kernel
theorem dX4_bind_40 : decode cX4_bind 40 = .ok (.iaload, 1) := by decide +kernel
theorem dX4_bind_41 : decode cX4_bind 41 = .ok (.iconst 1, 1) := by decide +kernel
theorem dX4_bind_42 : decode cX4_bind 42 = .ok (.iadd, 1) := by decide +kernel
theorem dX4_bind_43 : decode cX4_bind 43 = .ok (.iastore, 1) := by decide +kernel
theorem dX4_bind_44 : decode cX4_bind 44 = .ok (.aload_n 0, 1) := by decide +kernel
theorem dX4_bind_45 : decode cX4_bind 45 = .ok (.iload_n 1, 1) := by decide +kernel
theorem dX4_bind_46 : decode cX4_bind 46 = .ok (.new 7, 3) := by decide +kernel
theorem dX4_bind_49 : decode cX4_bind 49 = .ok (.dup, 1) := by decide +kernel
theorem dX4_bind_50 : decode cX4_bind 50 = .ok (.iload_n 2, 1) := by decide +kernel
theorem dX4_bind_51 : decode cX4_bind 51 = .ok (.iload_n 3, 1) := by decide +kernel
theorem dX4_bind_52 : decode cX4_bind 52 = .ok (.invokespecial 11, 3) := by decide +kernel
theorem dX4_bind_55 : decode cX4_bind 55 = .ok (.invokevirtual 47, 3) := by decide +kernel
theorem dX4_bind_58 : decode cX4_bind 58 = .ok (.ireturn, 1) := by decide +kernel
set_option maxRecDepth 20000 in
theorem ggX4_stone_X4_lay : GoodIn wsX4_stone wsX4_lay := goodIn_r _ [6, 7, 8, 9, 5, 10, 11, 12, 13, 14, 15, 16] (by decide +kernel) (by decide +kernel)
set_option maxRecDepth 20000 in
theorem gX4_stone_X4_lay : GoodIn wsX4_stone (wsV RX4 47 RX4 yX4_lay wsX4_lay) := goodIn_app (goodIn_of _ (by decide +kernel)) ggX4_stone_X4_lay
theorem dX4_stone_0 : decode cX4_stone 0 = .ok (.aload_n 0, 1) := by decide +kernel
theorem dX4_stone_1 : decode cX4_stone 1 = .ok (.iload_n 1, 1) := by decide +kernel
theorem dX4_stone_2 : decode cX4_stone 2 = .ok (.aload_n 0, 1) := by decide +kernel
theorem dX4_stone_3 : decode cX4_stone 3 = .ok (.getfield 18, 3) := by decide +kernel
theorem dX4_stone_6 : decode cX4_stone 6 = .ok (.invokevirtual 47, 3) := by decide +kernel
theorem dX4_stone_9 : decode cX4_stone 9 = .ok (.ireturn, 1) := by decide +kernel
set_option maxRecDepth 20000 in
theorem ggX4_share_X4_isDesk : GoodIn wsX4_share wsX4_isDesk := goodIn_r _ [5] (by decide +kernel) (by decide +kernel)
set_option maxRecDepth 20000 in
theorem gX4_share_X4_isDesk : GoodIn wsX4_share (va_wsS RX4 43 yX4_isDesk wsX4_isDesk) := goodIn_app (goodIn_of _ (by decide +kernel)) ggX4_share_X4_isDesk
set_option maxRecDepth 20000 in
theorem ggX4_share_X4_lay : GoodIn wsX4_share wsX4_lay := goodIn_r _ [9, 1, 2, 3, 4, 5, 10, 11, 12, 13, 14, 15] (by decide +kernel) (by decide +kernel)
set_option maxRecDepth 20000 in
theorem gX4_share_X4_lay : GoodIn wsX4_share (wsV RX4 47 RX4 yX4_lay wsX4_lay) := goodIn_app (goodIn_of _ (by decide +kernel)) ggX4_share_X4_lay
theorem dX4_share_0 : decode cX4_share 0 = .ok (.iload_n 1, 1) := by decide +kernel
theorem dX4_share_1 : decode cX4_share 1 = .ok (.invokestatic 43, 3) := by decide +kernel
theorem dX4_share_4 : decode cX4_share 4 = .ok (.ifCond .eq 17, 3) := by decide +kernel
theorem dX4_share_7 : decode cX4_share 7 = .ok (.aload_n 0, 1) := by decide +kernel
theorem dX4_share_8 : decode cX4_share 8 = .ok (.iload_n 2, 1) := by decide +kernel
theorem dX4_share_9 : decode cX4_share 9 = .ok (.aload_n 0, 1) := by decide +kernel
theorem dX4_share_10 : decode cX4_share 10 = .ok (.getfield 21, 3) := by decide +kernel
theorem dX4_share_13 : decode cX4_share 13 = .ok (.iload_n 1, 1) := by decide +kernel
theorem dX4_share_14 : decode cX4_share 14 = .ok (.aaload, 1) := by decide +kernel
theorem dX4_share_15 : decode cX4_share 15 = .ok (.invokevirtual 47, 3) := by decide +kernel
theorem dX4_share_18 : decode cX4_share 18 = .ok (.goto 5, 3) := by decide +kernel
theorem dX4_share_21 : decode cX4_share 21 = .ok (.bipush (-99), 2) := by decide +kernel
theorem dX4_share_23 : decode cX4_share 23 = .ok (.ireturn, 1) := by decide +kernel
set_option maxRecDepth 20000 in
theorem ggX4_clear_X4_lay : GoodIn wsX4_clear wsX4_lay := goodIn_r _ [6, 7, 8, 9, 5, 10, 11, 12, 13, 14, 15, 16] (by decide +kernel) (by decide +kernel)
set_option maxRecDepth 20000 in
theorem gX4_clear_X4_lay : GoodIn wsX4_clear (wsV RX4 47 RX4 yX4_lay wsX4_lay) := goodIn_app (goodIn_of _ (by decide +kernel)) ggX4_clear_X4_lay
theorem dX4_clear_0 : decode cX4_clear 0 = .ok (.aload_n 0, 1) := by decide +kernel
theorem dX4_clear_1 : decode cX4_clear 1 = .ok (.iload_n 1, 1) := by decide +kernel
theorem dX4_clear_2 : decode cX4_clear 2 = .ok (.aload_n 0, 1) := by decide +kernel
theorem dX4_clear_3 : decode cX4_clear 3 = .ok (.getfield 14, 3) := by decide +kernel
theorem dX4_clear_6 : decode cX4_clear 6 = .ok (.invokevirtual 47, 3) := by decide +kernel
theorem dX4_clear_9 : decode cX4_clear 9 = .ok (.ireturn, 1) := by decide +kernel
set_option maxRecDepth 20000 in
theorem ggX4_write_X4_isDesk : GoodIn wsX4_write wsX4_isDesk := goodIn_r _ [7] (by decide +kernel) (by decide +kernel)
set_option maxRecDepth 20000 in
theorem gX4_write_X4_isDesk : GoodIn wsX4_write (va_wsS RX4 43 yX4_isDesk wsX4_isDesk) := goodIn_app (goodIn_of _ (by decide +kernel)) ggX4_write_X4_isDesk
set_option maxRecDepth 20000 in
theorem ggX4_write_X0_hasPictures : GoodIn wsX4_write wsX0_hasPictures := goodIn_r _ [12, 13, 42, 43, 44] (by decide +kernel) (by decide +kernel)
set_option maxRecDepth 20000 in
theorem gX4_write_X0_hasPictures : GoodIn wsX4_write (wsV RX4 51 RX0 yX0_hasPictures wsX0_hasPictures) := goodIn_app (goodIn_of _ (by decide +kernel)) ggX4_write_X0_hasPictures
set_option maxRecDepth 20000 in
theorem ggX4_write_X0_isNoBook : GoodIn wsX4_write wsX0_isNoBook := goodIn_r _ [17, 13, 42, 43, 44] (by decide +kernel) (by decide +kernel)
set_option maxRecDepth 20000 in
theorem gX4_write_X0_isNoBook : GoodIn wsX4_write (wsV RX4 55 RX0 yX0_isNoBook wsX0_isNoBook) := goodIn_app (goodIn_of _ (by decide +kernel)) ggX4_write_X0_isNoBook
set_option maxRecDepth 20000 in
theorem ggX4_write_X0_hasPlace : GoodIn wsX4_write wsX0_hasPlace := goodIn_r _ [21, 22, 42, 43, 44] (by decide +kernel) (by decide +kernel)
set_option maxRecDepth 20000 in
theorem gX4_write_X0_hasPlace : GoodIn wsX4_write (wsV RX4 62 RX0 yX0_hasPlace wsX0_hasPlace) := goodIn_app (goodIn_of _ (by decide +kernel)) ggX4_write_X0_hasPlace
set_option maxRecDepth 20000 in
theorem ggX4_write_X0_paint : GoodIn wsX4_write wsX0_paint := goodIn_r _ [26, 27, 22, 28, 29, 30, 11, 31, 13, 42, 43, 44] (by decide +kernel) (by decide +kernel)
set_option maxRecDepth 20000 in
theorem gX4_write_X0_paint : GoodIn wsX4_write (wsV RX4 65 RX0 yX0_paint wsX0_paint) := goodIn_app (goodIn_of _ (by decide +kernel)) ggX4_write_X0_paint
set_option maxRecDepth 20000 in
theorem ggX4_write_X0_cut : GoodIn wsX4_write wsX0_cut := goodIn_r _ [35, 13, 42, 43, 44] (by decide +kernel) (by decide +kernel)
set_option maxRecDepth 20000 in
theorem gX4_write_X0_cut : GoodIn wsX4_write (wsV RX4 73 RX0 yX0_cut wsX0_cut) := goodIn_app (goodIn_of _ (by decide +kernel)) ggX4_write_X0_cut
theorem dX4_write_0 : decode cX4_write 0 = .ok (.iload_n 1, 1) := by decide +kernel
theorem dX4_write_1 : decode cX4_write 1 = .ok (.invokestatic 43, 3) := by decide +kernel
theorem dX4_write_4 : decode cX4_write 4 = .ok (.ifCond .ne 6, 3) := by decide +kernel
theorem dX4_write_7 : decode cX4_write 7 = .ok (.bipush (-99), 2) := by decide +kernel
theorem dX4_write_9 : decode cX4_write 9 = .ok (.ireturn, 1) := by decide +kernel
theorem dX4_write_10 : decode cX4_write 10 = .ok (.aload_n 0, 1) := by decide +kernel
theorem dX4_write_11 : decode cX4_write 11 = .ok (.getfield 21, 3) := by decide +kernel
theorem dX4_write_14 : decode cX4_write 14 = .ok (.iload_n 1, 1) := by decide +kernel
theorem dX4_write_15 : decode cX4_write 15 = .ok (.aaload, 1) := by decide +kernel
theorem dX4_write_16 : decode cX4_write 16 = .ok (.astore 6, 2) := by decide +kernel
theorem dX4_write_18 : decode cX4_write 18 = .ok (.aload 6, 2) := by decide +kernel
theorem dX4_write_20 : decode cX4_write 20 = .ok (.invokevirtual 51, 3) := by decide +kernel
theorem dX4_write_23 : decode cX4_write 23 = .ok (.ifCond .eq 15, 3) := by decide +kernel
theorem dX4_write_26 : decode cX4_write 26 = .ok (.iload_n 3, 1) := by decide +kernel
theorem dX4_write_27 : decode cX4_write 27 = .ok (.ifCond .lt 8, 3) := by decide +kernel
theorem dX4_write_30 : decode cX4_write 30 = .ok (.iload_n 3, 1) := by decide +kernel
theorem dX4_write_31 : decode cX4_write 31 = .ok (.iconst 2, 1) := by decide +kernel
theorem dX4_write_32 : decode cX4_write 32 = .ok (.if_icmp .le 6, 3) := by decide +kernel
theorem dX4_write_35 : decode cX4_write 35 = .ok (.bipush (-99), 2) := by decide +kernel
theorem dX4_write_37 : decode cX4_write 37 = .ok (.ireturn, 1) := by decide +kernel
theorem dX4_write_38 : decode cX4_write 38 = .ok (.aload 6, 2) := by decide +kernel
theorem dX4_write_40 : decode cX4_write 40 = .ok (.invokevirtual 55, 3) := by decide +kernel
theorem dX4_write_43 : decode cX4_write 43 = .ok (.ifCond .eq 9, 3) := by decide +kernel
theorem dX4_write_46 : decode cX4_write 46 = .ok (.aload 6, 2) := by decide +kernel
theorem dX4_write_48 : decode cX4_write 48 = .ok (.getfield 58, 3) := by decide +kernel
theorem dX4_write_51 : decode cX4_write 51 = .ok (.ireturn, 1) := by decide +kernel
theorem dX4_write_52 : decode cX4_write 52 = .ok (.aload 6, 2) := by decide +kernel
theorem dX4_write_54 : decode cX4_write 54 = .ok (.iload_n 2, 1) := by decide +kernel
theorem dX4_write_55 : decode cX4_write 55 = .ok (.invokevirtual 62, 3) := by decide +kernel
theorem dX4_write_58 : decode cX4_write 58 = .ok (.ifCond .ne 6, 3) := by decide +kernel
theorem dX4_write_61 : decode cX4_write 61 = .ok (.bipush (-3), 2) := by decide +kernel
theorem dX4_write_63 : decode cX4_write 63 = .ok (.ireturn, 1) := by decide +kernel
theorem dX4_write_64 : decode cX4_write 64 = .ok (.aload 6, 2) := by decide +kernel
theorem dX4_write_66 : decode cX4_write 66 = .ok (.invokevirtual 51, 3) := by decide +kernel
theorem dX4_write_69 : decode cX4_write 69 = .ok (.ifCond .eq 22, 3) := by decide +kernel
theorem dX4_write_72 : decode cX4_write 72 = .ok (.aload 6, 2) := by decide +kernel
theorem dX4_write_74 : decode cX4_write 74 = .ok (.iload_n 2, 1) := by decide +kernel
theorem dX4_write_75 : decode cX4_write 75 = .ok (.iload_n 3, 1) := by decide +kernel
theorem dX4_write_76 : decode cX4_write 76 = .ok (.lload 4, 2) := by decide +kernel
theorem dX4_write_78 : decode cX4_write 78 = .ok (.invokevirtual 65, 3) := by decide +kernel
theorem dX4_write_81 : decode cX4_write 81 = .ok (.ifCond .eq 7, 3) := by decide +kernel
theorem dX4_write_84 : decode cX4_write 84 = .ok (.iconst 0, 1) := by decide +kernel
theorem dX4_write_85 : decode cX4_write 85 = .ok (.goto 5, 3) := by decide +kernel
theorem dX4_write_88 : decode cX4_write 88 = .ok (.bipush (-10), 2) := by decide +kernel
theorem dX4_write_90 : decode cX4_write 90 = .ok (.ireturn, 1) := by decide +kernel
theorem dX4_write_91 : decode cX4_write 91 = .ok (.aload 6, 2) := by decide +kernel
theorem dX4_write_93 : decode cX4_write 93 = .ok (.getfield 69, 3) := by decide +kernel
theorem dX4_write_96 : decode cX4_write 96 = .ok (.iload_n 2, 1) := by decide +kernel
theorem dX4_write_97 : decode cX4_write 97 = .ok (.aload 6, 2) := by decide +kernel
theorem dX4_write_99 : decode cX4_write 99 = .ok (.lload 4, 2) := by decide +kernel
theorem dX4_write_101 : decode cX4_write 101 = .ok (.invokevirtual 73, 3) := by decide +kernel
theorem dX4_write_104 : decode cX4_write 104 = .ok (.lastore, 1) := by decide +kernel
theorem dX4_write_105 : decode cX4_write 105 = .ok (.iconst 0, 1) := by decide +kernel
theorem dX4_write_106 : decode cX4_write 106 = .ok (.ireturn, 1) := by decide +kernel
set_option maxRecDepth 20000 in
theorem ggX4_copy_X2_init : GoodIn wsX4_copy wsX2_init := goodIn_r _ [6, 7, 8, 9, 10, 11, 12, 13, 14, 15, 115, 116, 117, 118, 119, 120] (by decide +kernel) (by decide +kernel)
set_option maxRecDepth 20000 in
theorem gX4_copy_X2_init : GoodIn wsX4_copy (wsX2_init) := ggX4_copy_X2_init
set_option maxRecDepth 20000 in
theorem ggX4_copy_X4_perform : GoodIn wsX4_copy wsX4_perform := goodIn_r _ [20, 21, 22, 23, 24, 25, 26, 27, 28, 29, 30, 31, 19, 32, 33, 34, 35, 36, 37, 38, 39, 40, 41, 42, 43, 44, 45, 46, 47, 48, 49, 50, 51, 52, 53, 54, 55, 56, 57, 58, 59, 60, 61, 62, 63, 64, 65, 66, 67, 68, 69, 70, 71, 72, 73, 74, 75, 76, 77, 78, 79, 80, 81, 82, 83, 84, 85, 86, 87, 88, 89, 90, 91, 92, 93, 94, 95, 96, 97, 98, 99, 100, 101, 102, 103, 104, 105, 106, 107, 108, 109, 110, 111, 112, 113, 114, 121, 122, 123, 124, 125, 126, 115, 116, 117, 118, 119, 120, 127, 128, 129, 130, 131, 132, 133, 134, 135, 136, 137, 138, 139] (by decide +kernel) (by decide +kernel)
set_option maxRecDepth 20000 in
theorem gX4_copy_X4_perform : GoodIn wsX4_copy (wsV RX4 82 RX4 yX4_perform wsX4_perform) := goodIn_app (goodIn_of _ (by decide +kernel)) ggX4_copy_X4_perform
theorem dX4_copy_0 : decode cX4_copy 0 = .ok (.aload_n 0, 1) := by decide +kernel
theorem dX4_copy_1 : decode cX4_copy 1 = .ok (.new 77, 3) := by decide +kernel
theorem dX4_copy_4 : decode cX4_copy 4 = .ok (.dup, 1) := by decide +kernel
theorem dX4_copy_5 : decode cX4_copy 5 = .ok (.iload_n 1, 1) := by decide +kernel
theorem dX4_copy_6 : decode cX4_copy 6 = .ok (.iload_n 2, 1) := by decide +kernel
theorem dX4_copy_7 : decode cX4_copy 7 = .ok (.iload_n 3, 1) := by decide +kernel
theorem dX4_copy_8 : decode cX4_copy 8 = .ok (.iload 4, 2) := by decide +kernel
theorem dX4_copy_10 : decode cX4_copy 10 = .ok (.iload 5, 2) := by decide +kernel
theorem dX4_copy_12 : decode cX4_copy 12 = .ok (.iload 6, 2) := by decide +kernel
theorem dX4_copy_14 : decode cX4_copy 14 = .ok (.invokespecial 79, 3) := by decide +kernel
theorem dX4_copy_17 : decode cX4_copy 17 = .ok (.invokevirtual 82, 3) := by decide +kernel
theorem dX4_copy_20 : decode cX4_copy 20 = .ok (.ireturn, 1) := by decide +kernel
set_option maxRecDepth 20000 in
theorem ggX4_order_X2_init : GoodIn wsX4_order wsX2_init := goodIn_r _ [7, 8, 9, 10, 11, 12, 13, 14, 15, 16, 37, 38, 39, 40, 41, 42] (by decide +kernel) (by decide +kernel)
set_option maxRecDepth 20000 in
theorem gX4_order_X2_init : GoodIn wsX4_order (wsX2_init) := ggX4_order_X2_init
set_option maxRecDepth 20000 in
theorem ggX4_order_X4_isPossible : GoodIn wsX4_order wsX4_isPossible := goodIn_r _ [20, 21, 22, 23, 24, 25, 19, 26, 27, 28, 29, 37, 38, 39, 40, 41, 42] (by decide +kernel) (by decide +kernel)
set_option maxRecDepth 20000 in
theorem gX4_order_X4_isPossible : GoodIn wsX4_order (va_wsS RX4 86 yX4_isPossible wsX4_isPossible) := goodIn_app (goodIn_of _ (by decide +kernel)) ggX4_order_X4_isPossible
set_option maxRecDepth 20000 in
theorem ggX4_order_X3_addOrder : GoodIn wsX4_order wsX3_addOrder := goodIn_r _ [34, 35, 36, 49, 50, 51, 52] (by decide +kernel) (by decide +kernel)
set_option maxRecDepth 20000 in
theorem gX4_order_X3_addOrder : GoodIn wsX4_order (wsV RX4 90 RX3 yX3_addOrder wsX3_addOrder) := goodIn_app (goodIn_of _ (by decide +kernel)) ggX4_order_X3_addOrder
theorem dX4_order_0 : decode cX4_order 0 = .ok (.new 77, 3) := by decide +kernel
theorem dX4_order_3 : decode cX4_order 3 = .ok (.dup, 1) := by decide +kernel
theorem dX4_order_4 : decode cX4_order 4 = .ok (.iload_n 1, 1) := by decide +kernel
theorem dX4_order_5 : decode cX4_order 5 = .ok (.iload_n 2, 1) := by decide +kernel
theorem dX4_order_6 : decode cX4_order 6 = .ok (.iload_n 3, 1) := by decide +kernel
theorem dX4_order_7 : decode cX4_order 7 = .ok (.iload 4, 2) := by decide +kernel
theorem dX4_order_9 : decode cX4_order 9 = .ok (.iload 5, 2) := by decide +kernel
theorem dX4_order_11 : decode cX4_order 11 = .ok (.iload 6, 2) := by decide +kernel
theorem dX4_order_13 : decode cX4_order 13 = .ok (.invokespecial 79, 3) := by decide +kernel
theorem dX4_order_16 : decode cX4_order 16 = .ok (.astore 7, 2) := by decide +kernel
theorem dX4_order_18 : decode cX4_order 18 = .ok (.aload 7, 2) := by decide +kernel
theorem dX4_order_20 : decode cX4_order 20 = .ok (.invokestatic 86, 3) := by decide +kernel
theorem dX4_order_23 : decode cX4_order 23 = .ok (.ifCond .eq 17, 3) := by decide +kernel
theorem dX4_order_26 : decode cX4_order 26 = .ok (.aload_n 0, 1) := by decide +kernel
theorem dX4_order_27 : decode cX4_order 27 = .ok (.getfield 27, 3) := by decide +kernel
theorem dX4_order_30 : decode cX4_order 30 = .ok (.iload_n 1, 1) := by decide +kernel
theorem dX4_order_31 : decode cX4_order 31 = .ok (.aaload, 1) := by decide +kernel
theorem dX4_order_32 : decode cX4_order 32 = .ok (.aload 7, 2) := by decide +kernel
theorem dX4_order_34 : decode cX4_order 34 = .ok (.invokevirtual 90, 3) := by decide +kernel
theorem dX4_order_37 : decode cX4_order 37 = .ok (.goto 5, 3) := by decide +kernel
theorem dX4_order_40 : decode cX4_order 40 = .ok (.bipush (-99), 2) := by decide +kernel
theorem dX4_order_42 : decode cX4_order 42 = .ok (.ireturn, 1) := by decide +kernel
set_option maxRecDepth 20000 in
theorem ggX4_day_X3_firstOrder : GoodIn wsX4_day wsX3_firstOrder := goodIn_r _ [6, 7, 8, 116, 117, 118, 119] (by decide +kernel) (by decide +kernel)
set_option maxRecDepth 20000 in
theorem gX4_day_X3_firstOrder : GoodIn wsX4_day (wsV RX4 93 RX3 yX3_firstOrder wsX3_firstOrder) := goodIn_app (goodIn_of _ (by decide +kernel)) ggX4_day_X3_firstOrder
set_option maxRecDepth 20000 in
theorem ggX4_day_X4_perform : GoodIn wsX4_day wsX4_perform := goodIn_r _ [13, 1, 14, 15, 16, 17, 18, 19, 20, 21, 22, 23, 12, 24, 25, 26, 27, 28, 29, 30, 31, 32, 33, 34, 35, 36, 37, 38, 39, 40, 41, 42, 43, 44, 45, 46, 47, 48, 49, 50, 51, 52, 53, 54, 55, 56, 57, 58, 59, 60, 61, 62, 63, 64, 65, 66, 67, 68, 69, 70, 71, 72, 73, 74, 75, 76, 77, 78, 79, 80, 81, 5, 82, 83, 84, 85, 86, 87, 88, 89, 90, 91, 92, 93, 94, 95, 96, 97, 98, 99, 100, 101, 102, 103, 104, 105, 110, 111, 112, 113, 114, 115, 120, 121, 122, 123, 124, 125, 116, 117, 118, 119, 126, 127, 128, 129, 130, 131, 132, 133, 134] (by decide +kernel) (by decide +kernel)
set_option maxRecDepth 20000 in
theorem gX4_day_X4_perform : GoodIn wsX4_day (wsV RX4 82 RX4 yX4_perform wsX4_perform) := goodIn_app (goodIn_of _ (by decide +kernel)) ggX4_day_X4_perform
set_option maxRecDepth 20000 in
theorem ggX4_day_X3_dropFirstOrder : GoodIn wsX4_day wsX3_dropFirstOrder := goodIn_r _ [109, 7, 8, 116, 117, 118, 119] (by decide +kernel) (by decide +kernel)
set_option maxRecDepth 20000 in
theorem gX4_day_X3_dropFirstOrder : GoodIn wsX4_day (wsV RX4 97 RX3 yX3_dropFirstOrder wsX3_dropFirstOrder) := goodIn_app (goodIn_of _ (by decide +kernel)) ggX4_day_X3_dropFirstOrder
theorem dX4_day_0 : decode cX4_day 0 = .ok (.iconst 0, 1) := by decide +kernel
theorem dX4_day_1 : decode cX4_day 1 = .ok (.istore_n 1, 1) := by decide +kernel
theorem dX4_day_2 : decode cX4_day 2 = .ok (.iconst 0, 1) := by decide +kernel
theorem dX4_day_3 : decode cX4_day 3 = .ok (.istore_n 2, 1) := by decide +kernel
theorem dX4_day_4 : decode cX4_day 4 = .ok (.iload_n 2, 1) := by decide +kernel
theorem dX4_day_5 : decode cX4_day 5 = .ok (.iconst 3, 1) := by decide +kernel
theorem dX4_day_6 : decode cX4_day 6 = .ok (.if_icmp .ge 45, 3) := by decide +kernel
theorem dX4_day_9 : decode cX4_day 9 = .ok (.aload_n 0, 1) := by decide +kernel
theorem dX4_day_10 : decode cX4_day 10 = .ok (.getfield 27, 3) := by decide +kernel
theorem dX4_day_13 : decode cX4_day 13 = .ok (.iload_n 2, 1) := by decide +kernel
theorem dX4_day_14 : decode cX4_day 14 = .ok (.aaload, 1) := by decide +kernel
theorem dX4_day_15 : decode cX4_day 15 = .ok (.invokevirtual 93, 3) := by decide +kernel
theorem dX4_day_18 : decode cX4_day 18 = .ok (.astore_n 3, 1) := by decide +kernel
theorem dX4_day_19 : decode cX4_day 19 = .ok (.aload_n 3, 1) := by decide +kernel
theorem dX4_day_20 : decode cX4_day 20 = .ok (.ifnull 25, 3) := by decide +kernel
theorem dX4_day_23 : decode cX4_day 23 = .ok (.aload_n 0, 1) := by decide +kernel
theorem dX4_day_24 : decode cX4_day 24 = .ok (.aload_n 3, 1) := by decide +kernel
theorem dX4_day_25 : decode cX4_day 25 = .ok (.invokevirtual 82, 3) := by decide +kernel
theorem dX4_day_28 : decode cX4_day 28 = .ok (.bipush (-50), 2) := by decide +kernel
theorem dX4_day_30 : decode cX4_day 30 = .ok (.if_icmp .eq 15, 3) := by decide +kernel
theorem dX4_day_33 : decode cX4_day 33 = .ok (.aload_n 0, 1) := by decide +kernel
theorem dX4_day_34 : decode cX4_day 34 = .ok (.getfield 27, 3) := by decide +kernel
theorem dX4_day_37 : decode cX4_day 37 = .ok (.iload_n 2, 1) := by decide +kernel
theorem dX4_day_38 : decode cX4_day 38 = .ok (.aaload, 1) := by decide +kernel
theorem dX4_day_39 : decode cX4_day 39 = .ok (.invokevirtual 97, 3) := by decide +kernel
theorem dX4_day_42 : decode cX4_day 42 = .ok (.iinc 1 1, 3) := by decide +kernel
theorem dX4_day_45 : decode cX4_day 45 = .ok (.iinc 2 1, 3) := by decide +kernel
theorem dX4_day_48 : decode cX4_day 48 = .ok (.goto (-44), 3) := by decide +kernel
theorem dX4_day_51 : decode cX4_day 51 = .ok (.iload_n 1, 1) := by decide +kernel
theorem dX4_day_52 : decode cX4_day 52 = .ok (.ireturn, 1) := by decide +kernel
set_option maxRecDepth 20000 in
theorem ggX4_fill_X4_isScribe : GoodIn wsX4_fill wsX4_isScribe := goodIn_r _ [10] (by decide +kernel) (by decide +kernel)
set_option maxRecDepth 20000 in
theorem gX4_fill_X4_isScribe : GoodIn wsX4_fill (va_wsS RX4 100 yX4_isScribe wsX4_isScribe) := goodIn_app (goodIn_of _ (by decide +kernel)) ggX4_fill_X4_isScribe
theorem dX4_fill_0 : decode cX4_fill 0 = .ok (.iload_n 1, 1) := by decide +kernel
theorem dX4_fill_1 : decode cX4_fill 1 = .ok (.invokestatic 100, 3) := by decide +kernel
theorem dX4_fill_4 : decode cX4_fill 4 = .ok (.ifCond .eq 14, 3) := by decide +kernel
theorem dX4_fill_7 : decode cX4_fill 7 = .ok (.iload_n 2, 1) := by decide +kernel
theorem dX4_fill_8 : decode cX4_fill 8 = .ok (.ifCond .lt 10, 3) := by decide +kernel
theorem dX4_fill_11 : decode cX4_fill 11 = .ok (.iload_n 2, 1) := by decide +kernel
theorem dX4_fill_12 : decode cX4_fill 12 = .ok (.sipush 1000, 3) := by decide +kernel
theorem dX4_fill_15 : decode cX4_fill 15 = .ok (.if_icmp .le 6, 3) := by decide +kernel
theorem dX4_fill_18 : decode cX4_fill 18 = .ok (.bipush (-99), 2) := by decide +kernel
theorem dX4_fill_20 : decode cX4_fill 20 = .ok (.ireturn, 1) := by decide +kernel
theorem dX4_fill_21 : decode cX4_fill 21 = .ok (.aload_n 0, 1) := by decide +kernel
theorem dX4_fill_22 : decode cX4_fill 22 = .ok (.getfield 27, 3) := by decide +kernel
theorem dX4_fill_25 : decode cX4_fill 25 = .ok (.iload_n 1, 1) := by decide +kernel
theorem dX4_fill_26 : decode cX4_fill 26 = .ok (.aaload, 1) := by decide +kernel
theorem dX4_fill_27 : decode cX4_fill 27 = .ok (.sipush 1000, 3) := by decide +kernel
theorem dX4_fill_30 : decode cX4_fill 30 = .ok (.aload_n 0, 1) := by decide +kernel
theorem dX4_fill_31 : decode cX4_fill 31 = .ok (.getfield 27, 3) := by decide +kernel
theorem dX4_fill_34 : decode cX4_fill 34 = .ok (.iload_n 1, 1) := by decide +kernel
theorem dX4_fill_35 : decode cX4_fill 35 = .ok (.aaload, 1) := by decide +kernel
theorem dX4_fill_36 : decode cX4_fill 36 = .ok (.getfield 103, 3) := by decide +kernel
theorem dX4_fill_39 : decode cX4_fill 39 = .ok (.iload_n 2, 1) := by decide +kernel
theorem dX4_fill_40 : decode cX4_fill 40 = .ok (.iadd, 1) := by decide +kernel
theorem dX4_fill_41 : decode cX4_fill 41 = .ok (.invokestatic 106, 3) := by decide +kernel
theorem dX4_fill_44 : decode cX4_fill 44 = .ok (.putfield 103, 3) := by decide +kernel
theorem dX4_fill_47 : decode cX4_fill 47 = .ok (.aload_n 0, 1) := by decide +kernel
theorem dX4_fill_48 : decode cX4_fill 48 = .ok (.getfield 27, 3) := by decide +kernel
theorem dX4_fill_51 : decode cX4_fill 51 = .ok (.iload_n 1, 1) := by decide +kernel
theorem dX4_fill_52 : decode cX4_fill 52 = .ok (.aaload, 1) := by decide +kernel
theorem dX4_fill_53 : decode cX4_fill 53 = .ok (.getfield 103, 3) := by decide +kernel
theorem dX4_fill_56 : decode cX4_fill 56 = .ok (.ireturn, 1) := by decide +kernel
set_option maxRecDepth 20000 in
theorem ggX4_scribe_X4_isScribe : GoodIn wsX4_scribe wsX4_isScribe := goodIn_r _ [8] (by decide +kernel) (by decide +kernel)
set_option maxRecDepth 20000 in
theorem gX4_scribe_X4_isScribe : GoodIn wsX4_scribe (va_wsS RX4 100 yX4_isScribe wsX4_isScribe) := goodIn_app (goodIn_of _ (by decide +kernel)) ggX4_scribe_X4_isScribe
theorem dX4_scribe_0 : decode cX4_scribe 0 = .ok (.iload_n 1, 1) := by decide +kernel
theorem dX4_scribe_1 : decode cX4_scribe 1 = .ok (.invokestatic 100, 3) := by decide +kernel
theorem dX4_scribe_4 : decode cX4_scribe 4 = .ok (.ifCond .ne 6, 3) := by decide +kernel
theorem dX4_scribe_7 : decode cX4_scribe 7 = .ok (.bipush (-99), 2) := by decide +kernel
theorem dX4_scribe_9 : decode cX4_scribe 9 = .ok (.ireturn, 1) := by decide +kernel
theorem dX4_scribe_10 : decode cX4_scribe 10 = .ok (.iload_n 2, 1) := by decide +kernel
theorem dX4_scribe_11 : decode cX4_scribe 11 = .ok (.tableswitch 55 0 2 #[25, 35, 45], 25) := by decide +kernel
theorem dX4_scribe_36 : decode cX4_scribe 36 = .ok (.aload_n 0, 1) := by decide +kernel
theorem dX4_scribe_37 : decode cX4_scribe 37 = .ok (.getfield 27, 3) := by decide +kernel
theorem dX4_scribe_40 : decode cX4_scribe 40 = .ok (.iload_n 1, 1) := by decide +kernel
theorem dX4_scribe_41 : decode cX4_scribe 41 = .ok (.aaload, 1) := by decide +kernel
theorem dX4_scribe_42 : decode cX4_scribe 42 = .ok (.getfield 103, 3) := by decide +kernel
theorem dX4_scribe_45 : decode cX4_scribe 45 = .ok (.ireturn, 1) := by decide +kernel
theorem dX4_scribe_46 : decode cX4_scribe 46 = .ok (.aload_n 0, 1) := by decide +kernel
theorem dX4_scribe_47 : decode cX4_scribe 47 = .ok (.getfield 27, 3) := by decide +kernel
theorem dX4_scribe_50 : decode cX4_scribe 50 = .ok (.iload_n 1, 1) := by decide +kernel
theorem dX4_scribe_51 : decode cX4_scribe 51 = .ok (.aaload, 1) := by decide +kernel
theorem dX4_scribe_52 : decode cX4_scribe 52 = .ok (.getfield 112, 3) := by decide +kernel
theorem dX4_scribe_55 : decode cX4_scribe 55 = .ok (.ireturn, 1) := by decide +kernel
theorem dX4_scribe_56 : decode cX4_scribe 56 = .ok (.aload_n 0, 1) := by decide +kernel
theorem dX4_scribe_57 : decode cX4_scribe 57 = .ok (.getfield 27, 3) := by decide +kernel
theorem dX4_scribe_60 : decode cX4_scribe 60 = .ok (.iload_n 1, 1) := by decide +kernel
theorem dX4_scribe_61 : decode cX4_scribe 61 = .ok (.aaload, 1) := by decide +kernel
theorem dX4_scribe_62 : decode cX4_scribe 62 = .ok (.getfield 115, 3) := by decide +kernel
theorem dX4_scribe_65 : decode cX4_scribe 65 = .ok (.ireturn, 1) := by decide +kernel
theorem dX4_scribe_66 : decode cX4_scribe 66 = .ok (.bipush (-99), 2) := by decide +kernel
theorem dX4_scribe_68 : decode cX4_scribe 68 = .ok (.ireturn, 1) := by decide +kernel
set_option maxRecDepth 20000 in
theorem ggX4_sign_X4_isDesk : GoodIn wsX4_sign wsX4_isDesk := goodIn_r _ [9] (by decide +kernel) (by decide +kernel)
set_option maxRecDepth 20000 in
theorem gX4_sign_X4_isDesk : GoodIn wsX4_sign (va_wsS RX4 43 yX4_isDesk wsX4_isDesk) := goodIn_app (goodIn_of _ (by decide +kernel)) ggX4_sign_X4_isDesk
set_option maxRecDepth 20000 in
theorem ggX4_sign_X0_isNoBook : GoodIn wsX4_sign wsX0_isNoBook := goodIn_r _ [14, 15, 37, 38, 39] (by decide +kernel) (by decide +kernel)
set_option maxRecDepth 20000 in
theorem gX4_sign_X0_isNoBook : GoodIn wsX4_sign (wsV RX4 55 RX0 yX0_isNoBook wsX0_isNoBook) := goodIn_app (goodIn_of _ (by decide +kernel)) ggX4_sign_X0_isNoBook
set_option maxRecDepth 20000 in
theorem ggX4_sign_X0_hasPlace : GoodIn wsX4_sign wsX0_hasPlace := goodIn_r _ [19, 20, 37, 38, 39] (by decide +kernel) (by decide +kernel)
set_option maxRecDepth 20000 in
theorem gX4_sign_X0_hasPlace : GoodIn wsX4_sign (wsV RX4 62 RX0 yX0_hasPlace wsX0_hasPlace) := goodIn_app (goodIn_of _ (by decide +kernel)) ggX4_sign_X0_hasPlace
set_option maxRecDepth 20000 in
theorem ggX4_sign_X0_signAt : GoodIn wsX4_sign wsX0_signAt := goodIn_r _ [24, 25, 20, 26, 27, 28, 29, 13, 30, 15, 37, 38, 39] (by decide +kernel) (by decide +kernel)
set_option maxRecDepth 20000 in
theorem gX4_sign_X0_signAt : GoodIn wsX4_sign (wsV RX4 130 RX0 yX0_signAt wsX0_signAt) := goodIn_app (goodIn_of _ (by decide +kernel)) ggX4_sign_X0_signAt
theorem dX4_sign_0 : decode cX4_sign 0 = .ok (.iload_n 1, 1) := by decide +kernel
theorem dX4_sign_1 : decode cX4_sign 1 = .ok (.invokestatic 43, 3) := by decide +kernel
theorem dX4_sign_4 : decode cX4_sign 4 = .ok (.ifCond .eq 15, 3) := by decide +kernel
theorem dX4_sign_7 : decode cX4_sign 7 = .ok (.aload_n 0, 1) := by decide +kernel
theorem dX4_sign_8 : decode cX4_sign 8 = .ok (.getfield 21, 3) := by decide +kernel
theorem dX4_sign_11 : decode cX4_sign 11 = .ok (.iload_n 1, 1) := by decide +kernel
theorem dX4_sign_12 : decode cX4_sign 12 = .ok (.aaload, 1) := by decide +kernel
theorem dX4_sign_13 : decode cX4_sign 13 = .ok (.invokevirtual 55, 3) := by decide +kernel
theorem dX4_sign_16 : decode cX4_sign 16 = .ok (.ifCond .eq 13, 3) := by decide +kernel
theorem dX4_sign_19 : decode cX4_sign 19 = .ok (.new 118, 3) := by decide +kernel
theorem dX4_sign_22 : decode cX4_sign 22 = .ok (.dup, 1) := by decide +kernel
theorem dX4_sign_23 : decode cX4_sign 23 = .ok (.ldc 120, 2) := by decide +kernel
theorem dX4_sign_25 : decode cX4_sign 25 = .ok (.invokespecial 122, 3) := by decide +kernel
theorem dX4_sign_28 : decode cX4_sign 28 = .ok (.athrow, 1) := by decide +kernel
theorem dX4_sign_29 : decode cX4_sign 29 = .ok (.aload_n 0, 1) := by decide +kernel
theorem dX4_sign_30 : decode cX4_sign 30 = .ok (.getfield 21, 3) := by decide +kernel
theorem dX4_sign_33 : decode cX4_sign 33 = .ok (.iload_n 1, 1) := by decide +kernel
theorem dX4_sign_34 : decode cX4_sign 34 = .ok (.aaload, 1) := by decide +kernel
theorem dX4_sign_35 : decode cX4_sign 35 = .ok (.iload_n 2, 1) := by decide +kernel
theorem dX4_sign_36 : decode cX4_sign 36 = .ok (.invokevirtual 62, 3) := by decide +kernel
theorem dX4_sign_39 : decode cX4_sign 39 = .ok (.ifCond .ne 13, 3) := by decide +kernel
theorem dX4_sign_42 : decode cX4_sign 42 = .ok (.new 125, 3) := by decide +kernel
theorem dX4_sign_45 : decode cX4_sign 45 = .ok (.dup, 1) := by decide +kernel
theorem dX4_sign_46 : decode cX4_sign 46 = .ok (.ldc 127, 2) := by decide +kernel
theorem dX4_sign_48 : decode cX4_sign 48 = .ok (.invokespecial 129, 3) := by decide +kernel
theorem dX4_sign_51 : decode cX4_sign 51 = .ok (.athrow, 1) := by decide +kernel
theorem dX4_sign_52 : decode cX4_sign 52 = .ok (.aload_n 0, 1) := by decide +kernel
theorem dX4_sign_53 : decode cX4_sign 53 = .ok (.getfield 21, 3) := by decide +kernel
theorem dX4_sign_56 : decode cX4_sign 56 = .ok (.iload_n 1, 1) := by decide +kernel
theorem dX4_sign_57 : decode cX4_sign 57 = .ok (.aaload, 1) := by decide +kernel
theorem dX4_sign_58 : decode cX4_sign 58 = .ok (.iload_n 2, 1) := by decide +kernel
theorem dX4_sign_59 : decode cX4_sign 59 = .ok (.invokevirtual 130, 3) := by decide +kernel
theorem dX4_sign_62 : decode cX4_sign 62 = .ok (.lreturn, 1) := by decide +kernel
set_option maxRecDepth 20000 in
theorem ggX4_book_X4_isDesk : GoodIn wsX4_book wsX4_isDesk := goodIn_r _ [6] (by decide +kernel) (by decide +kernel)
set_option maxRecDepth 20000 in
theorem gX4_book_X4_isDesk : GoodIn wsX4_book (va_wsS RX4 43 yX4_isDesk wsX4_isDesk) := goodIn_app (goodIn_of _ (by decide +kernel)) ggX4_book_X4_isDesk
set_option maxRecDepth 20000 in
theorem ggX4_book_X0_isNoBook : GoodIn wsX4_book wsX0_isNoBook := goodIn_r _ [11, 12, 24, 25, 26] (by decide +kernel) (by decide +kernel)
set_option maxRecDepth 20000 in
theorem gX4_book_X0_isNoBook : GoodIn wsX4_book (wsV RX4 55 RX0 yX0_isNoBook wsX0_isNoBook) := goodIn_app (goodIn_of _ (by decide +kernel)) ggX4_book_X0_isNoBook
set_option maxRecDepth 20000 in
theorem ggX4_book_X0_length : GoodIn wsX4_book wsX0_length := goodIn_r _ [16, 17, 24, 25, 26] (by decide +kernel) (by decide +kernel)
set_option maxRecDepth 20000 in
theorem gX4_book_X0_length : GoodIn wsX4_book (wsV RX4 134 RX0 yX0_length wsX0_length) := goodIn_app (goodIn_of _ (by decide +kernel)) ggX4_book_X0_length
theorem dX4_book_0 : decode cX4_book 0 = .ok (.iload_n 1, 1) := by decide +kernel
theorem dX4_book_1 : decode cX4_book 1 = .ok (.invokestatic 43, 3) := by decide +kernel
theorem dX4_book_4 : decode cX4_book 4 = .ok (.ifCond .eq 12, 3) := by decide +kernel
theorem dX4_book_7 : decode cX4_book 7 = .ok (.iload_n 2, 1) := by decide +kernel
theorem dX4_book_8 : decode cX4_book 8 = .ok (.ifCond .lt 8, 3) := by decide +kernel
theorem dX4_book_11 : decode cX4_book 11 = .ok (.iload_n 2, 1) := by decide +kernel
theorem dX4_book_12 : decode cX4_book 12 = .ok (.iconst 1, 1) := by decide +kernel
theorem dX4_book_13 : decode cX4_book 13 = .ok (.if_icmp .le 6, 3) := by decide +kernel
theorem dX4_book_16 : decode cX4_book 16 = .ok (.bipush (-99), 2) := by decide +kernel
theorem dX4_book_18 : decode cX4_book 18 = .ok (.ireturn, 1) := by decide +kernel
theorem dX4_book_19 : decode cX4_book 19 = .ok (.aload_n 0, 1) := by decide +kernel
theorem dX4_book_20 : decode cX4_book 20 = .ok (.getfield 21, 3) := by decide +kernel
theorem dX4_book_23 : decode cX4_book 23 = .ok (.iload_n 1, 1) := by decide +kernel
theorem dX4_book_24 : decode cX4_book 24 = .ok (.aaload, 1) := by decide +kernel
theorem dX4_book_25 : decode cX4_book 25 = .ok (.astore_n 3, 1) := by decide +kernel
theorem dX4_book_26 : decode cX4_book 26 = .ok (.iload_n 2, 1) := by decide +kernel
