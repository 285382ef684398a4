theorem dX4_book_27 : decode cX4_book 27 = .ok (.ifCond .eq 10, 3) := by decide +kernel
theorem dX4_book_30 : decode cX4_book 30 = .ok (.aload_n 3, 1) := by decide +kernel
theorem dX4_book_31 : decode cX4_book 31 = .ok (.invokevirtual 55, 3) := by decide +kernel
theorem dX4_book_34 : decode cX4_book 34 = .ok (.ifCond .eq 10, 3) := by decide +kernel
theorem dX4_book_37 : decode cX4_book 37 = .ok (.aload_n 3, 1) := by decide +kernel
theorem dX4_book_38 : decode cX4_book 38 = .ok (.getfield 58, 3) := by decide +kernel
theorem dX4_book_41 : decode cX4_book 41 = .ok (.goto 7, 3) := by decide +kernel
theorem dX4_book_44 : decode cX4_book 44 = .ok (.aload_n 3, 1) := by decide +kernel
theorem dX4_book_45 : decode cX4_book 45 = .ok (.invokevirtual 134, 3) := by decide +kernel
theorem dX4_book_48 : decode cX4_book 48 = .ok (.ireturn, 1) := by decide +kernel
set_option maxRecDepth 20000 in
theorem ggX4_differ_X4_isDesk : GoodIn wsX4_differ wsX4_isDesk := goodIn_r _ [5] (by decide +kernel) (by decide +kernel)
set_option maxRecDepth 20000 in
theorem gX4_differ_X4_isDesk : GoodIn wsX4_differ (va_wsS RX4 43 yX4_isDesk wsX4_isDesk) := goodIn_app (goodIn_of _ (by decide +kernel)) ggX4_differ_X4_isDesk
set_option maxRecDepth 20000 in
theorem ggX4_differ_X4_hindranceBetween : GoodIn wsX4_differ wsX4_hindranceBetween := goodIn_r _ [8, 9, 10, 11, 12, 13, 14, 15, 16, 17, 18, 19, 20, 21, 22, 23, 44, 45, 46] (by decide +kernel) (by decide +kernel)
set_option maxRecDepth 20000 in
theorem gX4_differ_X4_hindranceBetween : GoodIn wsX4_differ (va_wsS RX4 138 yX4_hindranceBetween wsX4_hindranceBetween) := goodIn_app (goodIn_of _ (by decide +kernel)) ggX4_differ_X4_hindranceBetween
set_option maxRecDepth 20000 in
theorem ggX4_differ_X4_firstDifference : GoodIn wsX4_differ wsX4_firstDifference := goodIn_r _ [26, 27, 28, 29, 30, 31, 32, 33, 34, 35, 13, 36, 37, 44, 45, 46] (by decide +kernel) (by decide +kernel)
set_option maxRecDepth 20000 in
theorem gX4_differ_X4_firstDifference : GoodIn wsX4_differ (va_wsS RX4 142 yX4_firstDifference wsX4_firstDifference) := goodIn_app (goodIn_of _ (by decide +kernel)) ggX4_differ_X4_firstDifference
theorem dX4_differ_0 : decode cX4_differ 0 = .ok (.iload_n 1, 1) := by decide +kernel
theorem dX4_differ_1 : decode cX4_differ 1 = .ok (.invokestatic 43, 3) := by decide +kernel
theorem dX4_differ_4 : decode cX4_differ 4 = .ok (.ifCond .eq 10, 3) := by decide +kernel
theorem dX4_differ_7 : decode cX4_differ 7 = .ok (.iload_n 2, 1) := by decide +kernel
theorem dX4_differ_8 : decode cX4_differ 8 = .ok (.invokestatic 43, 3) := by decide +kernel
theorem dX4_differ_11 : decode cX4_differ 11 = .ok (.ifCond .ne 6, 3) := by decide +kernel
theorem dX4_differ_14 : decode cX4_differ 14 = .ok (.bipush (-99), 2) := by decide +kernel
theorem dX4_differ_16 : decode cX4_differ 16 = .ok (.ireturn, 1) := by decide +kernel
theorem dX4_differ_17 : decode cX4_differ 17 = .ok (.aload_n 0, 1) := by decide +kernel
theorem dX4_differ_18 : decode cX4_differ 18 = .ok (.getfield 21, 3) := by decide +kernel
theorem dX4_differ_21 : decode cX4_differ 21 = .ok (.iload_n 1, 1) := by decide +kernel
theorem dX4_differ_22 : decode cX4_differ 22 = .ok (.aaload, 1) := by decide +kernel
theorem dX4_differ_23 : decode cX4_differ 23 = .ok (.aload_n 0, 1) := by decide +kernel
theorem dX4_differ_24 : decode cX4_differ 24 = .ok (.getfield 21, 3) := by decide +kernel
theorem dX4_differ_27 : decode cX4_differ 27 = .ok (.iload_n 2, 1) := by decide +kernel
theorem dX4_differ_28 : decode cX4_differ 28 = .ok (.aaload, 1) := by decide +kernel
theorem dX4_differ_29 : decode cX4_differ 29 = .ok (.invokestatic 138, 3) := by decide +kernel
theorem dX4_differ_32 : decode cX4_differ 32 = .ok (.istore_n 3, 1) := by decide +kernel
theorem dX4_differ_33 : decode cX4_differ 33 = .ok (.iload_n 3, 1) := by decide +kernel
theorem dX4_differ_34 : decode cX4_differ 34 = .ok (.ifCond .eq 7, 3) := by decide +kernel
theorem dX4_differ_37 : decode cX4_differ 37 = .ok (.iload_n 3, 1) := by decide +kernel
theorem dX4_differ_38 : decode cX4_differ 38 = .ok (.goto 18, 3) := by decide +kernel
theorem dX4_differ_41 : decode cX4_differ 41 = .ok (.aload_n 0, 1) := by decide +kernel
theorem dX4_differ_42 : decode cX4_differ 42 = .ok (.getfield 21, 3) := by decide +kernel
theorem dX4_differ_45 : decode cX4_differ 45 = .ok (.iload_n 1, 1) := by decide +kernel
theorem dX4_differ_46 : decode cX4_differ 46 = .ok (.aaload, 1) := by decide +kernel
theorem dX4_differ_47 : decode cX4_differ 47 = .ok (.aload_n 0, 1) := by decide +kernel
theorem dX4_differ_48 : decode cX4_differ 48 = .ok (.getfield 21, 3) := by decide +kernel
theorem dX4_differ_51 : decode cX4_differ 51 = .ok (.iload_n 2, 1) := by decide +kernel
theorem dX4_differ_52 : decode cX4_differ 52 = .ok (.aaload, 1) := by decide +kernel
theorem dX4_differ_53 : decode cX4_differ 53 = .ok (.invokestatic 142, 3) := by decide +kernel
theorem dX4_differ_56 : decode cX4_differ 56 = .ok (.ireturn, 1) := by decide +kernel
set_option maxRecDepth 20000 in
theorem ggX4_chronicle_X1_has : GoodIn wsX4_chronicle wsX1_has := goodIn_r _ [10, 11, 27, 28, 29, 30, 31, 32] (by decide +kernel) (by decide +kernel)
set_option maxRecDepth 20000 in
theorem gX4_chronicle_X1_has : GoodIn wsX4_chronicle (wsV RX4 145 RX1 yX1_has wsX1_has) := goodIn_app (goodIn_of _ (by decide +kernel)) ggX4_chronicle_X1_has
set_option maxRecDepth 20000 in
theorem ggX4_chronicle_X1_rowOf : GoodIn wsX4_chronicle wsX1_rowOf := goodIn_r _ [15, 16, 17, 18, 19, 20, 27, 28, 29, 30, 31, 32] (by decide +kernel) (by decide +kernel)
set_option maxRecDepth 20000 in
theorem gX4_chronicle_X1_rowOf : GoodIn wsX4_chronicle (wsV RX4 148 RX1 yX1_rowOf wsX1_rowOf) := goodIn_app (goodIn_of _ (by decide +kernel)) ggX4_chronicle_X1_rowOf
theorem dX4_chronicle_0 : decode cX4_chronicle 0 = .ok (.aload_n 0, 1) := by decide +kernel
theorem dX4_chronicle_1 : decode cX4_chronicle 1 = .ok (.getfield 35, 3) := by decide +kernel
theorem dX4_chronicle_4 : decode cX4_chronicle 4 = .ok (.iload_n 1, 1) := by decide +kernel
theorem dX4_chronicle_5 : decode cX4_chronicle 5 = .ok (.invokevirtual 145, 3) := by decide +kernel
theorem dX4_chronicle_8 : decode cX4_chronicle 8 = .ok (.ifCond .ne 6, 3) := by decide +kernel
theorem dX4_chronicle_11 : decode cX4_chronicle 11 = .ok (.bipush (-99), 2) := by decide +kernel
theorem dX4_chronicle_13 : decode cX4_chronicle 13 = .ok (.ireturn, 1) := by decide +kernel
theorem dX4_chronicle_14 : decode cX4_chronicle 14 = .ok (.aload_n 0, 1) := by decide +kernel
theorem dX4_chronicle_15 : decode cX4_chronicle 15 = .ok (.getfield 35, 3) := by decide +kernel
theorem dX4_chronicle_18 : decode cX4_chronicle 18 = .ok (.iload_n 1, 1) := by decide +kernel
theorem dX4_chronicle_19 : decode cX4_chronicle 19 = .ok (.invokevirtual 148, 3) := by decide +kernel
theorem dX4_chronicle_22 : decode cX4_chronicle 22 = .ok (.istore_n 3, 1) := by decide +kernel
theorem dX4_chronicle_23 : decode cX4_chronicle 23 = .ok (.iload_n 2, 1) := by decide +kernel
theorem dX4_chronicle_24 : decode cX4_chronicle 24 = .ok (.tableswitch 72 0 3 #[32, 42, 52, 62], 32) := by decide +kernel
theorem dX4_chronicle_56 : decode cX4_chronicle 56 = .ok (.aload_n 0, 1) := by decide +kernel
theorem dX4_chronicle_57 : decode cX4_chronicle 57 = .ok (.getfield 35, 3) := by decide +kernel
theorem dX4_chronicle_60 : decode cX4_chronicle 60 = .ok (.getfield 152, 3) := by decide +kernel
theorem dX4_chronicle_63 : decode cX4_chronicle 63 = .ok (.iload_n 3, 1) := by decide +kernel
theorem dX4_chronicle_64 : decode cX4_chronicle 64 = .ok (.iaload, 1) := by decide +kernel
theorem dX4_chronicle_65 : decode cX4_chronicle 65 = .ok (.ireturn, 1) := by decide +kernel
theorem dX4_chronicle_66 : decode cX4_chronicle 66 = .ok (.aload_n 0, 1) := by decide +kernel
theorem dX4_chronicle_67 : decode cX4_chronicle 67 = .ok (.getfield 35, 3) := by decide +kernel
theorem dX4_chronicle_70 : decode cX4_chronicle 70 = .ok (.getfield 155, 3) := by decide +kernel
theorem dX4_chronicle_73 : decode cX4_chronicle 73 = .ok (.iload_n 3, 1) := by decide +kernel
theorem dX4_chronicle_74 : decode cX4_chronicle 74 = .ok (.iaload, 1) := by decide +kernel
theorem dX4_chronicle_75 : decode cX4_chronicle 75 = .ok (.ireturn, 1) := by decide +kernel
theorem dX4_chronicle_76 : decode cX4_chronicle 76 = .ok (.aload_n 0, 1) := by decide +kernel
theorem dX4_chronicle_77 : decode cX4_chronicle 77 = .ok (.getfield 35, 3) := by decide +kernel
theorem dX4_chronicle_80 : decode cX4_chronicle 80 = .ok (.getfield 158, 3) := by decide +kernel
theorem dX4_chronicle_83 : decode cX4_chronicle 83 = .ok (.iload_n 3, 1) := by decide +kernel
theorem dX4_chronicle_84 : decode cX4_chronicle 84 = .ok (.iaload, 1) := by decide +kernel
theorem dX4_chronicle_85 : decode cX4_chronicle 85 = .ok (.ireturn, 1) := by decide +kernel
theorem dX4_chronicle_86 : decode cX4_chronicle 86 = .ok (.aload_n 0, 1) := by decide +kernel
theorem dX4_chronicle_87 : decode cX4_chronicle 87 = .ok (.getfield 35, 3) := by decide +kernel
theorem dX4_chronicle_90 : decode cX4_chronicle 90 = .ok (.getfield 161, 3) := by decide +kernel
theorem dX4_chronicle_93 : decode cX4_chronicle 93 = .ok (.iload_n 3, 1) := by decide +kernel
theorem dX4_chronicle_94 : decode cX4_chronicle 94 = .ok (.iaload, 1) := by decide +kernel
theorem dX4_chronicle_95 : decode cX4_chronicle 95 = .ok (.ireturn, 1) := by decide +kernel
theorem dX4_chronicle_96 : decode cX4_chronicle 96 = .ok (.bipush (-99), 2) := by decide +kernel
theorem dX4_chronicle_98 : decode cX4_chronicle 98 = .ok (.ireturn, 1) := by decide +kernel
theorem dX4_count_0 : decode cX4_count 0 = .ok (.iload_n 1, 1) := by decide +kernel
theorem dX4_count_1 : decode cX4_count 1 = .ok (.ifCond .lt 18, 3) := by decide +kernel
theorem dX4_count_4 : decode cX4_count 4 = .ok (.iload_n 1, 1) := by decide +kernel
theorem dX4_count_5 : decode cX4_count 5 = .ok (.bipush 8, 2) := by decide +kernel
theorem dX4_count_7 : decode cX4_count 7 = .ok (.if_icmp .ge 12, 3) := by decide +kernel
theorem dX4_count_10 : decode cX4_count 10 = .ok (.aload_n 0, 1) := by decide +kernel
theorem dX4_count_11 : decode cX4_count 11 = .ok (.getfield 39, 3) := by decide +kernel
theorem dX4_count_14 : decode cX4_count 14 = .ok (.iload_n 1, 1) := by decide +kernel
theorem dX4_count_15 : decode cX4_count 15 = .ok (.iaload, 1) := by decide +kernel
theorem dX4_count_16 : decode cX4_count 16 = .ok (.goto 5, 3) := by decide +kernel
theorem dX4_count_19 : decode cX4_count 19 = .ok (.bipush (-99), 2) := by decide +kernel
theorem dX4_count_21 : decode cX4_count 21 = .ok (.ireturn, 1) := by decide +kernel
theorem dX4_isDesk_0 : decode cX4_isDesk 0 = .ok (.iload_n 0, 1) := by decide +kernel
theorem dX4_isDesk_1 : decode cX4_isDesk 1 = .ok (.ifCond .lt 13, 3) := by decide +kernel
theorem dX4_isDesk_4 : decode cX4_isDesk 4 = .ok (.iload_n 0, 1) := by decide +kernel
theorem dX4_isDesk_5 : decode cX4_isDesk 5 = .ok (.bipush 6, 2) := by decide +kernel
theorem dX4_isDesk_7 : decode cX4_isDesk 7 = .ok (.if_icmp .ge 7, 3) := by decide +kernel
theorem dX4_isDesk_10 : decode cX4_isDesk 10 = .ok (.iconst 1, 1) := by decide +kernel
theorem dX4_isDesk_11 : decode cX4_isDesk 11 = .ok (.goto 4, 3) := by decide +kernel
theorem dX4_isDesk_14 : decode cX4_isDesk 14 = .ok (.iconst 0, 1) := by decide +kernel
theorem dX4_isDesk_15 : decode cX4_isDesk 15 = .ok (.ireturn, 1) := by decide +kernel
theorem dX4_isScribe_0 : decode cX4_isScribe 0 = .ok (.iload_n 0, 1) := by decide +kernel
theorem dX4_isScribe_1 : decode cX4_isScribe 1 = .ok (.ifCond .lt 12, 3) := by decide +kernel
theorem dX4_isScribe_4 : decode cX4_isScribe 4 = .ok (.iload_n 0, 1) := by decide +kernel
theorem dX4_isScribe_5 : decode cX4_isScribe 5 = .ok (.iconst 3, 1) := by decide +kernel
theorem dX4_isScribe_6 : decode cX4_isScribe 6 = .ok (.if_icmp .ge 7, 3) := by decide +kernel
theorem dX4_isScribe_9 : decode cX4_isScribe 9 = .ok (.iconst 1, 1) := by decide +kernel
theorem dX4_isScribe_10 : decode cX4_isScribe 10 = .ok (.goto 4, 3) := by decide +kernel
theorem dX4_isScribe_13 : decode cX4_isScribe 13 = .ok (.iconst 0, 1) := by decide +kernel
theorem dX4_isScribe_14 : decode cX4_isScribe 14 = .ok (.ireturn, 1) := by decide +kernel
set_option maxRecDepth 20000 in
theorem ggX4_isPossible_X4_isScribe : GoodIn wsX4_isPossible wsX4_isScribe := goodIn_r _ [7] (by decide +kernel) (by decide +kernel)
set_option maxRecDepth 20000 in
theorem gX4_isPossible_X4_isScribe : GoodIn wsX4_isPossible (va_wsS RX4 100 yX4_isScribe wsX4_isScribe) := goodIn_app (goodIn_of _ (by decide +kernel)) ggX4_isPossible_X4_isScribe
set_option maxRecDepth 20000 in
theorem ggX4_isPossible_X4_isDesk : GoodIn wsX4_isPossible wsX4_isDesk := goodIn_r _ [10] (by decide +kernel) (by decide +kernel)
set_option maxRecDepth 20000 in
theorem gX4_isPossible_X4_isDesk : GoodIn wsX4_isPossible (va_wsS RX4 43 yX4_isDesk wsX4_isDesk) := goodIn_app (goodIn_of _ (by decide +kernel)) ggX4_isPossible_X4_isDesk
theorem dX4_isPossible_0 : decode cX4_isPossible 0 = .ok (.aload_n 0, 1) := by decide +kernel
theorem dX4_isPossible_1 : decode cX4_isPossible 1 = .ok (.getfield 164, 3) := by decide +kernel
theorem dX4_isPossible_4 : decode cX4_isPossible 4 = .ok (.invokestatic 100, 3) := by decide +kernel
theorem dX4_isPossible_7 : decode cX4_isPossible 7 = .ok (.ifCond .eq 27, 3) := by decide +kernel
theorem dX4_isPossible_10 : decode cX4_isPossible 10 = .ok (.aload_n 0, 1) := by decide +kernel
theorem dX4_isPossible_11 : decode cX4_isPossible 11 = .ok (.getfield 167, 3) := by decide +kernel
theorem dX4_isPossible_14 : decode cX4_isPossible 14 = .ok (.invokestatic 43, 3) := by decide +kernel
theorem dX4_isPossible_17 : decode cX4_isPossible 17 = .ok (.ifCond .eq 17, 3) := by decide +kernel
theorem dX4_isPossible_20 : decode cX4_isPossible 20 = .ok (.aload_n 0, 1) := by decide +kernel
theorem dX4_isPossible_21 : decode cX4_isPossible 21 = .ok (.getfield 170, 3) := by decide +kernel
theorem dX4_isPossible_24 : decode cX4_isPossible 24 = .ok (.invokestatic 43, 3) := by decide +kernel
theorem dX4_isPossible_27 : decode cX4_isPossible 27 = .ok (.ifCond .eq 7, 3) := by decide +kernel
theorem dX4_isPossible_30 : decode cX4_isPossible 30 = .ok (.iconst 1, 1) := by decide +kernel
theorem dX4_isPossible_31 : decode cX4_isPossible 31 = .ok (.goto 4, 3) := by decide +kernel
theorem dX4_isPossible_34 : decode cX4_isPossible 34 = .ok (.iconst 0, 1) := by decide +kernel
theorem dX4_isPossible_35 : decode cX4_isPossible 35 = .ok (.ireturn, 1) := by decide +kernel
set_option maxRecDepth 20000 in
theorem ggX4_lay_X4_isDesk : GoodIn wsX4_lay wsX4_isDesk := goodIn_r _ [5] (by decide +kernel) (by decide +kernel)
set_option maxRecDepth 20000 in
theorem gX4_lay_X4_isDesk : GoodIn wsX4_lay (va_wsS RX4 43 yX4_isDesk wsX4_isDesk) := goodIn_app (goodIn_of _ (by decide +kernel)) ggX4_lay_X4_isDesk
theorem dX4_lay_0 : decode cX4_lay 0 = .ok (.iload_n 1, 1) := by decide +kernel
theorem dX4_lay_1 : decode cX4_lay 1 = .ok (.invokestatic 43, 3) := by decide +kernel
theorem dX4_lay_4 : decode cX4_lay 4 = .ok (.ifCond .ne 6, 3) := by decide +kernel
theorem dX4_lay_7 : decode cX4_lay 7 = .ok (.bipush (-99), 2) := by decide +kernel
theorem dX4_lay_9 : decode cX4_lay 9 = .ok (.ireturn, 1) := by decide +kernel
theorem dX4_lay_10 : decode cX4_lay 10 = .ok (.aload_n 0, 1) := by decide +kernel
theorem dX4_lay_11 : decode cX4_lay 11 = .ok (.getfield 21, 3) := by decide +kernel
theorem dX4_lay_14 : decode cX4_lay 14 = .ok (.iload_n 1, 1) := by decide +kernel
theorem dX4_lay_15 : decode cX4_lay 15 = .ok (.aload_n 2, 1) := by decide +kernel
theorem dX4_lay_16 : decode cX4_lay 16 = .ok (.aastore, 1) := by decide +kernel
theorem dX4_lay_17 : decode cX4_lay 17 = .ok (.iconst 0, 1) := by decide +kernel
theorem dX4_lay_18 : decode cX4_lay 18 = .ok (.ireturn, 1) := by decide +kernel
set_option maxRecDepth 20000 in
theorem ggX4_perform_X4_isPossible : GoodIn wsX4_perform wsX4_isPossible := goodIn_r _ [13, 2, 6, 7, 14, 15, 12, 16, 17, 18, 19, 102, 103, 104, 105, 106, 107] (by decide +kernel) (by decide +kernel)
set_option maxRecDepth 20000 in
theorem gX4_perform_X4_isPossible : GoodIn wsX4_perform (va_wsS RX4 86 yX4_isPossible wsX4_isPossible) := goodIn_app (goodIn_of _ (by decide +kernel)) ggX4_perform_X4_isPossible
set_option maxRecDepth 20000 in
theorem ggX4_perform_X4_transcribe : GoodIn wsX4_perform wsX4_transcribe := goodIn_r _ [22, 23, 4, 24, 25, 26, 12, 27, 28, 29, 30, 31, 32, 33, 34, 35, 36, 37, 38, 39, 40, 41, 42, 43, 44, 45, 46, 47, 48, 49, 50, 51, 52, 53, 54, 55, 56, 57, 58, 59, 60, 61, 62, 63, 64, 102, 103, 104, 105, 106, 107, 112, 113, 114] (by decide +kernel) (by decide +kernel)
set_option maxRecDepth 20000 in
theorem gX4_perform_X4_transcribe : GoodIn wsX4_perform (va_wsS RX4 176 yX4_transcribe wsX4_transcribe) := goodIn_app (goodIn_of _ (by decide +kernel)) ggX4_perform_X4_transcribe
set_option maxRecDepth 20000 in
theorem ggX4_perform_X4_signsCopied : GoodIn wsX4_perform wsX4_signsCopied := goodIn_r _ [67] (by decide +kernel) (by decide +kernel)
set_option maxRecDepth 20000 in
theorem gX4_perform_X4_signsCopied : GoodIn wsX4_perform (va_wsS RX4 180 yX4_signsCopied wsX4_signsCopied) := goodIn_app (goodIn_of _ (by decide +kernel)) ggX4_perform_X4_signsCopied
set_option maxRecDepth 20000 in
theorem ggX4_perform_X3_use : GoodIn wsX4_perform wsX3_use := goodIn_r _ [72, 73, 74, 108, 109, 110, 111] (by decide +kernel) (by decide +kernel)
set_option maxRecDepth 20000 in
theorem gX4_perform_X3_use : GoodIn wsX4_perform (wsV RX4 183 RX3 yX3_use wsX3_use) := goodIn_app (goodIn_of _ (by decide +kernel)) ggX4_perform_X3_use
set_option maxRecDepth 20000 in
theorem ggX4_perform_X4_tallyOf : GoodIn wsX4_perform wsX4_tallyOf := goodIn_r _ [77] (by decide +kernel) (by decide +kernel)
set_option maxRecDepth 20000 in
theorem gX4_perform_X4_tallyOf : GoodIn wsX4_perform (va_wsS RX4 187 yX4_tallyOf wsX4_tallyOf) := goodIn_app (goodIn_of _ (by decide +kernel)) ggX4_perform_X4_tallyOf
set_option maxRecDepth 20000 in
theorem ggX4_perform_X1_add : GoodIn wsX4_perform wsX1_add := goodIn_r _ [82, 83, 84, 85, 86, 87, 88, 89, 90, 91, 92, 93, 94, 95, 115, 116, 117, 118, 119, 120, 102, 103, 104, 105, 106, 107] (by decide +kernel) (by decide +kernel)
set_option maxRecDepth 20000 in
theorem gX4_perform_X1_add : GoodIn wsX4_perform (wsV RX4 190 RX1 yX1_add wsX1_add) := goodIn_app (goodIn_of _ (by decide +kernel)) ggX4_perform_X1_add
theorem dX4_perform_0 : decode cX4_perform 0 = .ok (.aload_n 1, 1) := by decide +kernel
theorem dX4_perform_1 : decode cX4_perform 1 = .ok (.invokestatic 86, 3) := by decide +kernel
theorem dX4_perform_4 : decode cX4_perform 4 = .ok (.ifCond .ne 6, 3) := by decide +kernel
theorem dX4_perform_7 : decode cX4_perform 7 = .ok (.bipush (-99), 2) := by decide +kernel
theorem dX4_perform_9 : decode cX4_perform 9 = .ok (.ireturn, 1) := by decide +kernel
theorem dX4_perform_10 : decode cX4_perform 10 = .ok (.aload_n 0, 1) := by decide +kernel
theorem dX4_perform_11 : decode cX4_perform 11 = .ok (.getfield 27, 3) := by decide +kernel
theorem dX4_perform_14 : decode cX4_perform 14 = .ok (.aload_n 1, 1) := by decide +kernel
theorem dX4_perform_15 : decode cX4_perform 15 = .ok (.getfield 164, 3) := by decide +kernel
theorem dX4_perform_18 : decode cX4_perform 18 = .ok (.aaload, 1) := by decide +kernel
theorem dX4_perform_19 : decode cX4_perform 19 = .ok (.astore_n 2, 1) := by decide +kernel
theorem dX4_perform_20 : decode cX4_perform 20 = .ok (.aload_n 2, 1) := by decide +kernel
theorem dX4_perform_21 : decode cX4_perform 21 = .ok (.getfield 103, 3) := by decide +kernel
theorem dX4_perform_24 : decode cX4_perform 24 = .ok (.aload_n 1, 1) := by decide +kernel
theorem dX4_perform_25 : decode cX4_perform 25 = .ok (.getfield 173, 3) := by decide +kernel
theorem dX4_perform_28 : decode cX4_perform 28 = .ok (.if_icmp .ge 6, 3) := by decide +kernel
theorem dX4_perform_31 : decode cX4_perform 31 = .ok (.bipush (-50), 2) := by decide +kernel
theorem dX4_perform_33 : decode cX4_perform 33 = .ok (.ireturn, 1) := by decide +kernel
theorem dX4_perform_34 : decode cX4_perform 34 = .ok (.aload_n 1, 1) := by decide +kernel
theorem dX4_perform_35 : decode cX4_perform 35 = .ok (.aload_n 0, 1) := by decide +kernel
theorem dX4_perform_36 : decode cX4_perform 36 = .ok (.getfield 21, 3) := by decide +kernel
theorem dX4_perform_39 : decode cX4_perform 39 = .ok (.aload_n 1, 1) := by decide +kernel
theorem dX4_perform_40 : decode cX4_perform 40 = .ok (.getfield 167, 3) := by decide +kernel
theorem dX4_perform_43 : decode cX4_perform 43 = .ok (.aaload, 1) := by decide +kernel
theorem dX4_perform_44 : decode cX4_perform 44 = .ok (.aload_n 0, 1) := by decide +kernel
theorem dX4_perform_45 : decode cX4_perform 45 = .ok (.getfield 21, 3) := by decide +kernel
theorem dX4_perform_48 : decode cX4_perform 48 = .ok (.aload_n 1, 1) := by decide +kernel
theorem dX4_perform_49 : decode cX4_perform 49 = .ok (.getfield 170, 3) := by decide +kernel
theorem dX4_perform_52 : decode cX4_perform 52 = .ok (.aaload, 1) := by decide +kernel
theorem dX4_perform_53 : decode cX4_perform 53 = .ok (.invokestatic 176, 3) := by decide +kernel
theorem dX4_perform_56 : decode cX4_perform 56 = .ok (.istore_n 3, 1) := by decide +kernel
theorem dX4_perform_57 : decode cX4_perform 57 = .ok (.iload_n 3, 1) := by decide +kernel
theorem dX4_perform_58 : decode cX4_perform 58 = .ok (.invokestatic 180, 3) := by decide +kernel
theorem dX4_perform_61 : decode cX4_perform 61 = .ok (.istore 4, 2) := by decide +kernel
theorem dX4_perform_63 : decode cX4_perform 63 = .ok (.aload_n 2, 1) := by decide +kernel
theorem dX4_perform_64 : decode cX4_perform 64 = .ok (.iload 4, 2) := by decide +kernel
theorem dX4_perform_66 : decode cX4_perform 66 = .ok (.invokevirtual 183, 3) := by decide +kernel
theorem dX4_perform_69 : decode cX4_perform 69 = .ok (.aload_n 0, 1) := by decide +kernel
theorem dX4_perform_70 : decode cX4_perform 70 = .ok (.getfield 39, 3) := by decide +kernel
theorem dX4_perform_73 : decode cX4_perform 73 = .ok (.iconst 0, 1) := by decide +kernel
theorem dX4_perform_74 : decode cX4_perform 74 = .ok (.dup2, 1) := by decide +kernel
theorem dX4_perform_75 : decode cX4_perform 75 = .ok (.iaload, 1) := by decide +kernel
theorem dX4_perform_76 : decode cX4_perform 76 = .ok (.iconst 1, 1) := by decide +kernel
theorem dX4_perform_77 : decode cX4_perform 77 = .ok (.iadd, 1) := by decide +kernel
theorem dX4_perform_78 : decode cX4_perform 78 = .ok (.iastore, 1) := by decide +kernel
theorem dX4_perform_79 : decode cX4_perform 79 = .ok (.aload_n 0, 1) := by decide +kernel
theorem dX4_perform_80 : decode cX4_perform 80 = .ok (.getfield 39, 3) := by decide +kernel
theorem dX4_perform_83 : decode cX4_perform 83 = .ok (.iload_n 3, 1) := by decide +kernel
theorem dX4_perform_84 : decode cX4_perform 84 = .ok (.invokestatic 187, 3) := by decide +kernel
theorem dX4_perform_87 : decode cX4_perform 87 = .ok (.dup2, 1) := by decide +kernel
theorem dX4_perform_88 : decode cX4_perform 88 = .ok (.iaload, 1) := by decide +kernel
theorem dX4_perform_89 : decode cX4_perform 89 = .ok (.iconst 1, 1) := by decide +kernel
theorem dX4_perform_90 : decode cX4_perform 90 = .ok (.iadd, 1) := by decide +kernel
theorem dX4_perform_91 : decode cX4_perform 91 = .ok (.iastore, 1) := by decide +kernel
theorem dX4_perform_92 : decode cX4_perform 92 = .ok (.aload_n 0, 1) := by decide +kernel
theorem dX4_perform_93 : decode cX4_perform 93 = .ok (.getfield 39, 3) := by decide +kernel
theorem dX4_perform_96 : decode cX4_perform 96 = .ok (.bipush 6, 2) := by decide +kernel
theorem dX4_perform_98 : decode cX4_perform 98 = .ok (.dup2, 1) := by decide +kernel
theorem dX4_perform_99 : decode cX4_perform 99 = .ok (.iaload, 1) := by decide +kernel
theorem dX4_perform_100 : decode cX4_perform 100 = .ok (.iload 4, 2) := by decide +kernel
theorem dX4_perform_102 : decode cX4_perform 102 = .ok (.iadd, 1) := by decide +kernel
theorem dX4_perform_103 : decode cX4_perform 103 = .ok (.iastore, 1) := by decide +kernel
theorem dX4_perform_104 : decode cX4_perform 104 = .ok (.aload_n 0, 1) := by decide +kernel
theorem dX4_perform_105 : decode cX4_perform 105 = .ok (.getfield 35, 3) := by decide +kernel
theorem dX4_perform_108 : decode cX4_perform 108 = .ok (.aload_n 1, 1) := by decide +kernel
theorem dX4_perform_109 : decode cX4_perform 109 = .ok (.iload_n 3, 1) := by decide +kernel
theorem dX4_perform_110 : decode cX4_perform 110 = .ok (.invokevirtual 190, 3) := by decide +kernel
theorem dX4_perform_113 : decode cX4_perform 113 = .ok (.iload_n 3, 1) := by decide +kernel
theorem dX4_perform_114 : decode cX4_perform 114 = .ok (.ireturn, 1) := by decide +kernel
set_option maxRecDepth 20000 in
theorem ggX4_transcribe_X4_hindranceBetween : GoodIn wsX4_transcribe wsX4_hindranceBetween := goodIn_r _ [7, 8, 9, 10, 11, 12, 13, 14, 15, 16, 17, 18, 19, 20, 21, 22, 51, 52, 53] (by decide +kernel) (by decide +kernel)
set_option maxRecDepth 20000 in
theorem gX4_transcribe_X4_hindranceBetween : GoodIn wsX4_transcribe (va_wsS RX4 138 yX4_hindranceBetween wsX4_hindranceBetween) := goodIn_app (goodIn_of _ (by decide +kernel)) ggX4_transcribe_X4_hindranceBetween
set_option maxRecDepth 20000 in
theorem ggX4_transcribe_X0_hasRun : GoodIn wsX4_transcribe wsX0_hasRun := goodIn_r _ [26, 27, 51, 52, 53] (by decide +kernel) (by decide +kernel)
set_option maxRecDepth 20000 in
theorem gX4_transcribe_X0_hasRun : GoodIn wsX4_transcribe (wsV RX4 197 RX0 yX0_hasRun wsX0_hasRun) := goodIn_app (goodIn_of _ (by decide +kernel)) ggX4_transcribe_X0_hasRun
set_option maxRecDepth 20000 in
theorem ggX4_transcribe_X0_fittingOf : GoodIn wsX4_transcribe wsX0_fittingOf := goodIn_r _ [31, 32, 33, 34, 35, 12, 36, 14, 51, 52, 53] (by decide +kernel) (by decide +kernel)
set_option maxRecDepth 20000 in
theorem gX4_transcribe_X0_fittingOf : GoodIn wsX4_transcribe (wsV RX4 204 RX0 yX0_fittingOf wsX0_fittingOf) := goodIn_app (goodIn_of _ (by decide +kernel)) ggX4_transcribe_X0_fittingOf
set_option maxRecDepth 20000 in
theorem ggX4_transcribe_X0_take : GoodIn wsX4_transcribe wsX0_take := goodIn_r _ [40, 27, 41, 42, 43, 44, 32, 51, 52, 53] (by decide +kernel) (by decide +kernel)
set_option maxRecDepth 20000 in
theorem gX4_transcribe_X0_take : GoodIn wsX4_transcribe (wsV RX4 208 RX0 yX0_take wsX0_take) := goodIn_app (goodIn_of _ (by decide +kernel)) ggX4_transcribe_X0_take
theorem dX4_transcribe_0 : decode cX4_transcribe 0 = .ok (.aload_n 1, 1) := by decide +kernel
theorem dX4_transcribe_1 : decode cX4_transcribe 1 = .ok (.aload_n 2, 1) := by decide +kernel
theorem dX4_transcribe_2 : decode cX4_transcribe 2 = .ok (.invokestatic 138, 3) := by decide +kernel
theorem dX4_transcribe_5 : decode cX4_transcribe 5 = .ok (.istore_n 3, 1) := by decide +kernel
theorem dX4_transcribe_6 : decode cX4_transcribe 6 = .ok (.iload_n 3, 1) := by decide +kernel
theorem dX4_transcribe_7 : decode cX4_transcribe 7 = .ok (.ifCond .eq 5, 3) := by decide +kernel
theorem dX4_transcribe_10 : decode cX4_transcribe 10 = .ok (.iload_n 3, 1) := by decide +kernel
theorem dX4_transcribe_11 : decode cX4_transcribe 11 = .ok (.ireturn, 1) := by decide +kernel
theorem dX4_transcribe_12 : decode cX4_transcribe 12 = .ok (.aload_n 1, 1) := by decide +kernel
theorem dX4_transcribe_13 : decode cX4_transcribe 13 = .ok (.aload_n 0, 1) := by decide +kernel
theorem dX4_transcribe_14 : decode cX4_transcribe 14 = .ok (.getfield 194, 3) := by decide +kernel
theorem dX4_transcribe_17 : decode cX4_transcribe 17 = .ok (.aload_n 0, 1) := by decide +kernel
theorem dX4_transcribe_18 : decode cX4_transcribe 18 = .ok (.getfield 173, 3) := by decide +kernel
theorem dX4_transcribe_21 : decode cX4_transcribe 21 = .ok (.invokevirtual 197, 3) := by decide +kernel
theorem dX4_transcribe_24 : decode cX4_transcribe 24 = .ok (.ifCond .eq 18, 3) := by decide +kernel
theorem dX4_transcribe_27 : decode cX4_transcribe 27 = .ok (.aload_n 2, 1) := by decide +kernel
theorem dX4_transcribe_28 : decode cX4_transcribe 28 = .ok (.aload_n 0, 1) := by decide +kernel
theorem dX4_transcribe_29 : decode cX4_transcribe 29 = .ok (.getfield 201, 3) := by decide +kernel
theorem dX4_transcribe_32 : decode cX4_transcribe 32 = .ok (.aload_n 0, 1) := by decide +kernel
theorem dX4_transcribe_33 : decode cX4_transcribe 33 = .ok (.getfield 173, 3) := by decide +kernel
theorem dX4_transcribe_36 : decode cX4_transcribe 36 = .ok (.invokevirtual 197, 3) := by decide +kernel
theorem dX4_transcribe_39 : decode cX4_transcribe 39 = .ok (.ifCond .ne 6, 3) := by decide +kernel
theorem dX4_transcribe_42 : decode cX4_transcribe 42 = .ok (.bipush (-3), 2) := by decide +kernel
theorem dX4_transcribe_44 : decode cX4_transcribe 44 = .ok (.ireturn, 1) := by decide +kernel
theorem dX4_transcribe_45 : decode cX4_transcribe 45 = .ok (.aload_n 2, 1) := by decide +kernel
theorem dX4_transcribe_46 : decode cX4_transcribe 46 = .ok (.aload_n 1, 1) := by decide +kernel
theorem dX4_transcribe_47 : decode cX4_transcribe 47 = .ok (.aload_n 0, 1) := by decide +kernel
theorem dX4_transcribe_48 : decode cX4_transcribe 48 = .ok (.getfield 194, 3) := by decide +kernel
theorem dX4_transcribe_51 : decode cX4_transcribe 51 = .ok (.aload_n 0, 1) := by decide +kernel
theorem dX4_transcribe_52 : decode cX4_transcribe 52 = .ok (.getfield 173, 3) := by decide +kernel
theorem dX4_transcribe_55 : decode cX4_transcribe 55 = .ok (.invokevirtual 204, 3) := by decide +kernel
theorem dX4_transcribe_58 : decode cX4_transcribe 58 = .ok (.istore 4, 2) := by decide +kernel
theorem dX4_transcribe_60 : decode cX4_transcribe 60 = .ok (.aload_n 2, 1) := by decide +kernel
theorem dX4_transcribe_61 : decode cX4_transcribe 61 = .ok (.aload_n 1, 1) := by decide +kernel
theorem dX4_transcribe_62 : decode cX4_transcribe 62 = .ok (.aload_n 0, 1) := by decide +kernel
theorem dX4_transcribe_63 : decode cX4_transcribe 63 = .ok (.getfield 194, 3) := by decide +kernel
theorem dX4_transcribe_66 : decode cX4_transcribe 66 = .ok (.aload_n 0, 1) := by decide +kernel
theorem dX4_transcribe_67 : decode cX4_transcribe 67 = .ok (.getfield 201, 3) := by decide +kernel
theorem dX4_transcribe_70 : decode cX4_transcribe 70 = .ok (.iload 4, 2) := by decide +kernel
theorem dX4_transcribe_72 : decode cX4_transcribe 72 = .ok (.invokevirtual 208, 3) := by decide +kernel
theorem dX4_transcribe_75 : decode cX4_transcribe 75 = .ok (.iload 4, 2) := by decide +kernel
theorem dX4_transcribe_77 : decode cX4_transcribe 77 = .ok (.aload_n 0, 1) := by decide +kernel
theorem dX4_transcribe_78 : decode cX4_transcribe 78 = .ok (.getfield 173, 3) := by decide +kernel
theorem dX4_transcribe_81 : decode cX4_transcribe 81 = .ok (.if_icmp .ge 11, 3) := by decide +kernel
theorem dX4_transcribe_84 : decode cX4_transcribe 84 = .ok (.bipush (-10), 2) := by decide +kernel
theorem dX4_transcribe_86 : decode cX4_transcribe 86 = .ok (.iload 4, 2) := by decide +kernel
theorem dX4_transcribe_88 : decode cX4_transcribe 88 = .ok (.isub, 1) := by decide +kernel
theorem dX4_transcribe_89 : decode cX4_transcribe 89 = .ok (.goto 7, 3) := by decide +kernel
theorem dX4_transcribe_92 : decode cX4_transcribe 92 = .ok (.aload_n 0, 1) := by decide +kernel
theorem dX4_transcribe_93 : decode cX4_transcribe 93 = .ok (.getfield 173, 3) := by decide +kernel
theorem dX4_transcribe_96 : decode cX4_transcribe 96 = .ok (.ireturn, 1) := by decide +kernel
set_option maxRecDepth 20000 in
theorem ggX4_hindranceBetween_X0_isAlike : GoodIn wsX4_hindranceBetween wsX0_isAlike := goodIn_r _ [6, 7, 8, 9, 10, 5, 11, 12, 13, 14, 15, 16, 17, 18] (by decide +kernel) (by decide +kernel)
set_option maxRecDepth 20000 in
theorem gX4_hindranceBetween_X0_isAlike : GoodIn wsX4_hindranceBetween (wsV RX4 212 RX0 yX0_isAlike wsX0_isAlike) := goodIn_app (goodIn_of _ (by decide +kernel)) ggX4_hindranceBetween_X0_isAlike
theorem dX4_hindranceBetween_0 : decode cX4_hindranceBetween 0 = .ok (.aload_n 0, 1) := by decide +kernel
theorem dX4_hindranceBetween_1 : decode cX4_hindranceBetween 1 = .ok (.getfield 58, 3) := by decide +kernel
theorem dX4_hindranceBetween_4 : decode cX4_hindranceBetween 4 = .ok (.iconst (-1), 1) := by decide +kernel
theorem dX4_hindranceBetween_5 : decode cX4_hindranceBetween 5 = .ok (.if_icmp .eq 11, 3) := by decide +kernel
theorem dX4_hindranceBetween_8 : decode cX4_hindranceBetween 8 = .ok (.aload_n 1, 1) := by decide +kernel
theorem dX4_hindranceBetween_9 : decode cX4_hindranceBetween 9 = .ok (.getfield 58, 3) := by decide +kernel
theorem dX4_hindranceBetween_12 : decode cX4_hindranceBetween 12 = .ok (.iconst (-1), 1) := by decide +kernel
theorem dX4_hindranceBetween_13 : decode cX4_hindranceBetween 13 = .ok (.if_icmp .ne 5, 3) := by decide +kernel
theorem dX4_hindranceBetween_16 : decode cX4_hindranceBetween 16 = .ok (.iconst (-1), 1) := by decide +kernel
theorem dX4_hindranceBetween_17 : decode cX4_hindranceBetween 17 = .ok (.ireturn, 1) := by decide +kernel
theorem dX4_hindranceBetween_18 : decode cX4_hindranceBetween 18 = .ok (.aload_n 0, 1) := by decide +kernel
theorem dX4_hindranceBetween_19 : decode cX4_hindranceBetween 19 = .ok (.aload_n 1, 1) := by decide +kernel
theorem dX4_hindranceBetween_20 : decode cX4_hindranceBetween 20 = .ok (.invokevirtual 212, 3) := by decide +kernel
theorem dX4_hindranceBetween_23 : decode cX4_hindranceBetween 23 = .ok (.ifCond .eq 7, 3) := by decide +kernel
theorem dX4_hindranceBetween_26 : decode cX4_hindranceBetween 26 = .ok (.iconst 0, 1) := by decide +kernel
theorem dX4_hindranceBetween_27 : decode cX4_hindranceBetween 27 = .ok (.goto 5, 3) := by decide +kernel
theorem dX4_hindranceBetween_30 : decode cX4_hindranceBetween 30 = .ok (.bipush (-2), 2) := by decide +kernel
theorem dX4_hindranceBetween_32 : decode cX4_hindranceBetween 32 = .ok (.ireturn, 1) := by decide +kernel
set_option maxRecDepth 20000 in
theorem ggX4_firstDifference_X0_length : GoodIn wsX4_firstDifference wsX0_length := goodIn_r _ [11, 12, 13, 14, 15] (by decide +kernel) (by decide +kernel)
set_option maxRecDepth 20000 in
theorem gX4_firstDifference_X0_length : GoodIn wsX4_firstDifference (wsV RX4 134 RX0 yX0_length wsX0_length) := goodIn_app (goodIn_of _ (by decide +kernel)) ggX4_firstDifference_X0_length
theorem dX4_firstDifference_0 : decode cX4_firstDifference 0 = .ok (.aload_n 0, 1) := by decide +kernel
theorem dX4_firstDifference_1 : decode cX4_firstDifference 1 = .ok (.invokevirtual 134, 3) := by decide +kernel
theorem dX4_firstDifference_4 : decode cX4_firstDifference 4 = .ok (.aload_n 1, 1) := by decide +kernel
theorem dX4_firstDifference_5 : decode cX4_firstDifference 5 = .ok (.invokevirtual 134, 3) := by decide +kernel
theorem dX4_firstDifference_8 : decode cX4_firstDifference 8 = .ok (.invokestatic 106, 3) := by decide +kernel
theorem dX4_firstDifference_11 : decode cX4_firstDifference 11 = .ok (.istore_n 2, 1) := by decide +kernel
theorem dX4_firstDifference_12 : decode cX4_firstDifference 12 = .ok (.iconst 0, 1) := by decide +kernel
theorem dX4_firstDifference_13 : decode cX4_firstDifference 13 = .ok (.istore_n 3, 1) := by decide +kernel
theorem dX4_firstDifference_14 : decode cX4_firstDifference 14 = .ok (.iload_n 3, 1) := by decide +kernel
theorem dX4_firstDifference_15 : decode cX4_firstDifference 15 = .ok (.iload_n 2, 1) := by decide +kernel
theorem dX4_firstDifference_16 : decode cX4_firstDifference 16 = .ok (.if_icmp .ge 42, 3) := by decide +kernel
theorem dX4_firstDifference_19 : decode cX4_firstDifference 19 = .ok (.aload_n 0, 1) := by decide +kernel
theorem dX4_firstDifference_20 : decode cX4_firstDifference 20 = .ok (.getfield 69, 3) := by decide +kernel
theorem dX4_firstDifference_23 : decode cX4_firstDifference 23 = .ok (.iload_n 3, 1) := by decide +kernel
theorem dX4_firstDifference_24 : decode cX4_firstDifference 24 = .ok (.laload, 1) := by decide +kernel
theorem dX4_firstDifference_25 : decode cX4_firstDifference 25 = .ok (.aload_n 1, 1) := by decide +kernel
theorem dX4_firstDifference_26 : decode cX4_firstDifference 26 = .ok (.getfield 69, 3) := by decide +kernel
theorem dX4_firstDifference_29 : decode cX4_firstDifference 29 = .ok (.iload_n 3, 1) := by decide +kernel
theorem dX4_firstDifference_30 : decode cX4_firstDifference 30 = .ok (.laload, 1) := by decide +kernel
theorem dX4_firstDifference_31 : decode cX4_firstDifference 31 = .ok (.lcmp, 1) := by decide +kernel
theorem dX4_firstDifference_32 : decode cX4_firstDifference 32 = .ok (.ifCond .ne 18, 3) := by decide +kernel
theorem dX4_firstDifference_35 : decode cX4_firstDifference 35 = .ok (.aload_n 0, 1) := by decide +kernel
theorem dX4_firstDifference_36 : decode cX4_firstDifference 36 = .ok (.getfield 216, 3) := by decide +kernel
theorem dX4_firstDifference_39 : decode cX4_firstDifference 39 = .ok (.iload_n 3, 1) := by decide +kernel
theorem dX4_firstDifference_40 : decode cX4_firstDifference 40 = .ok (.iaload, 1) := by decide +kernel
theorem dX4_firstDifference_41 : decode cX4_firstDifference 41 = .ok (.aload_n 1, 1) := by decide +kernel
theorem dX4_firstDifference_42 : decode cX4_firstDifference 42 = .ok (.getfield 216, 3) := by decide +kernel
theorem dX4_firstDifference_45 : decode cX4_firstDifference 45 = .ok (.iload_n 3, 1) := by decide +kernel
theorem dX4_firstDifference_46 : decode cX4_firstDifference 46 = .ok (.iaload, 1) := by decide +kernel
theorem dX4_firstDifference_47 : decode cX4_firstDifference 47 = .ok (.if_icmp .eq 5, 3) := by decide +kernel
theorem dX4_firstDifference_50 : decode cX4_firstDifference 50 = .ok (.iload_n 3, 1) := by decide +kernel
theorem dX4_firstDifference_51 : decode cX4_firstDifference 51 = .ok (.ireturn, 1) := by decide +kernel
theorem dX4_firstDifference_52 : decode cX4_firstDifference 52 = .ok (.iinc 3 1, 3) := by decide +kernel
theorem dX4_firstDifference_55 : decode cX4_firstDifference 55 = .ok (.goto (-41), 3) := by decide +kernel
theorem dX4_firstDifference_58 : decode cX4_firstDifference 58 = .ok (.aload_n 0, 1) := by decide +kernel
theorem dX4_firstDifference_59 : decode cX4_firstDifference 59 = .ok (.invokevirtual 134, 3) := by decide +kernel
theorem dX4_firstDifference_62 : decode cX4_firstDifference 62 = .ok (.aload_n 1, 1) := by decide +kernel
theorem dX4_firstDifference_63 : decode cX4_firstDifference 63 = .ok (.invokevirtual 134, 3) := by decide +kernel
theorem dX4_firstDifference_66 : decode cX4_firstDifference 66 = .ok (.if_icmp .ne 8, 3) := by decide +kernel
theorem dX4_firstDifference_69 : decode cX4_firstDifference 69 = .ok (.bipush (-60), 2) := by decide +kernel
theorem dX4_firstDifference_71 : decode cX4_firstDifference 71 = .ok (.goto 4, 3) := by decide +kernel
theorem dX4_firstDifference_74 : decode cX4_firstDifference 74 = .ok (.iload_n 2, 1) := by decide +kernel
theorem dX4_firstDifference_75 : decode cX4_firstDifference 75 = .ok (.ireturn, 1) := by decide +kernel
theorem dX4_signsCopied_0 : decode cX4_signsCopied 0 = .ok (.iload_n 0, 1) := by decide +kernel
theorem dX4_signsCopied_1 : decode cX4_signsCopied 1 = .ok (.ifCond .lt 5, 3) := by decide +kernel
theorem dX4_signsCopied_4 : decode cX4_signsCopied 4 = .ok (.iload_n 0, 1) := by decide +kernel
theorem dX4_signsCopied_5 : decode cX4_signsCopied 5 = .ok (.ireturn, 1) := by decide +kernel
theorem dX4_signsCopied_6 : decode cX4_signsCopied 6 = .ok (.iload_n 0, 1) := by decide +kernel
theorem dX4_signsCopied_7 : decode cX4_signsCopied 7 = .ok (.bipush (-10), 2) := by decide +kernel
theorem dX4_signsCopied_9 : decode cX4_signsCopied 9 = .ok (.if_icmp .gt 10, 3) := by decide +kernel
theorem dX4_signsCopied_12 : decode cX4_signsCopied 12 = .ok (.bipush (-10), 2) := by decide +kernel
theorem dX4_signsCopied_14 : decode cX4_signsCopied 14 = .ok (.iload_n 0, 1) := by decide +kernel
theorem dX4_signsCopied_15 : decode cX4_signsCopied 15 = .ok (.isub, 1) := by decide +kernel
theorem dX4_signsCopied_16 : decode cX4_signsCopied 16 = .ok (.goto 4, 3) := by decide +kernel
theorem dX4_signsCopied_19 : decode cX4_signsCopied 19 = .ok (.iconst 0, 1) := by decide +kernel
theorem dX4_signsCopied_20 : decode cX4_signsCopied 20 = .ok (.ireturn, 1) := by decide +kernel
theorem dX4_tallyOf_0 : decode cX4_tallyOf 0 = .ok (.iload_n 0, 1) := by decide +kernel
theorem dX4_tallyOf_1 : decode cX4_tallyOf 1 = .ok (.tableswitch 33 (-3) (-1) #[31, 29, 27], 27) := by decide +kernel
theorem dX4_tallyOf_28 : decode cX4_tallyOf 28 = .ok (.iconst 2, 1) := by decide +kernel
theorem dX4_tallyOf_29 : decode cX4_tallyOf 29 = .ok (.ireturn, 1) := by decide +kernel
theorem dX4_tallyOf_30 : decode cX4_tallyOf 30 = .ok (.iconst 3, 1) := by decide +kernel
theorem dX4_tallyOf_31 : decode cX4_tallyOf 31 = .ok (.ireturn, 1) := by decide +kernel
theorem dX4_tallyOf_32 : decode cX4_tallyOf 32 = .ok (.iconst 4, 1) := by decide +kernel
theorem dX4_tallyOf_33 : decode cX4_tallyOf 33 = .ok (.ireturn, 1) := by decide +kernel
theorem dX4_tallyOf_34 : decode cX4_tallyOf 34 = .ok (.iload_n 0, 1) := by decide +kernel
theorem dX4_tallyOf_35 : decode cX4_tallyOf 35 = .ok (.ifCond .lt 7, 3) := by decide +kernel
theorem dX4_tallyOf_38 : decode cX4_tallyOf 38 = .ok (.iconst 1, 1) := by decide +kernel
theorem dX4_tallyOf_39 : decode cX4_tallyOf 39 = .ok (.goto 4, 3) := by decide +kernel
theorem dX4_tallyOf_42 : decode cX4_tallyOf 42 = .ok (.iconst 5, 1) := by decide +kernel
theorem dX4_tallyOf_43 : decode cX4_tallyOf 43 = .ok (.ireturn, 1) := by decide +kernel
theorem dX5_init_0 : decode cX5_init 0 = .ok (.aload_n 0, 1) := by decide +kernel
theorem dX5_init_1 : decode cX5_init 1 = .ok (.invokespecial 1, 3) := by decide +kernel
theorem dX5_init_4 : decode cX5_init 4 = .ok (.aload_n 0, 1) := by decide +kernel
theorem dX5_init_5 : decode cX5_init 5 = .ok (.bipush 6, 2) := by decide +kernel
theorem dX5_init_7 : decode cX5_init 7 = .ok (.newarray .int, 2) := by decide +kernel
theorem dX5_init_9 : decode cX5_init 9 = .ok (.dup, 1) := by decide +kernel
theorem dX5_init_10 : decode cX5_init 10 = .ok (.iconst 0, 1) := by decide +kernel
theorem dX5_init_11 : decode cX5_init 11 = .ok (.iconst (-1), 1) := by decide +kernel
theorem dX5_init_12 : decode cX5_init 12 = .ok (.iastore, 1) := by decide +kernel
theorem dX5_init_13 : decode cX5_init 13 = .ok (.dup, 1) := by decide +kernel
theorem dX5_init_14 : decode cX5_init 14 = .ok (.iconst 1, 1) := by decide +kernel
theorem dX5_init_15 : decode cX5_init 15 = .ok (.iconst (-1), 1) := by decide +kernel
theorem dX5_init_16 : decode cX5_init 16 = .ok (.iastore, 1) := by decide +kernel
theorem dX5_init_17 : decode cX5_init 17 = .ok (.dup, 1) := by decide +kernel
theorem dX5_init_18 : decode cX5_init 18 = .ok (.iconst 2, 1) := by decide +kernel
theorem dX5_init_19 : decode cX5_init 19 = .ok (.iconst (-1), 1) := by decide +kernel
theorem dX5_init_20 : decode cX5_init 20 = .ok (.iastore, 1) := by decide +kernel
theorem dX5_init_21 : decode cX5_init 21 = .ok (.dup, 1) := by decide +kernel
theorem dX5_init_22 : decode cX5_init 22 = .ok (.iconst 3, 1) := by decide +kernel
theorem dX5_init_23 : decode cX5_init 23 = .ok (.iconst (-1), 1) := by decide +kernel
theorem dX5_init_24 : decode cX5_init 24 = .ok (.iastore, 1) := by decide +kernel
theorem dX5_init_25 : decode cX5_init 25 = .ok (.dup, 1) := by decide +kernel
theorem dX5_init_26 : decode cX5_init 26 = .ok (.iconst 4, 1) := by decide +kernel
theorem dX5_init_27 : decode cX5_init 27 = .ok (.iconst (-1), 1) := by decide +kernel
theorem dX5_init_28 : decode cX5_init 28 = .ok (.iastore, 1) := by decide +kernel
theorem dX5_init_29 : decode cX5_init 29 = .ok (.dup, 1) := by decide +kernel
theorem dX5_init_30 : decode cX5_init 30 = .ok (.iconst 5, 1) := by decide +kernel
theorem dX5_init_31 : decode cX5_init 31 = .ok (.iconst (-1), 1) := by decide +kernel
theorem dX5_init_32 : decode cX5_init 32 = .ok (.iastore, 1) := by decide +kernel
theorem dX5_init_33 : decode cX5_init 33 = .ok (.putfield 7, 3) := by decide +kernel
theorem dX5_init_36 : decode cX5_init 36 = .ok (.aload_n 0, 1) := by decide +kernel
theorem dX5_init_37 : decode cX5_init 37 = .ok (.bipush 6, 2) := by decide +kernel
