theorem dX5_day_45 : decode cX5_day 45 = .ok (.getfield 29, 3) := by decide +kernel
theorem dX5_day_48 : decode cX5_day 48 = .ok (.iload_n 3, 1) := by decide +kernel
theorem dX5_day_49 : decode cX5_day 49 = .ok (.iconst 2, 1) := by decide +kernel
theorem dX5_day_50 : decode cX5_day 50 = .ok (.iadd, 1) := by decide +kernel
theorem dX5_day_51 : decode cX5_day 51 = .ok (.iaload, 1) := by decide +kernel
theorem dX5_day_52 : decode cX5_day 52 = .ok (.aload_n 0, 1) := by decide +kernel
theorem dX5_day_53 : decode cX5_day 53 = .ok (.getfield 29, 3) := by decide +kernel
theorem dX5_day_56 : decode cX5_day 56 = .ok (.iload_n 3, 1) := by decide +kernel
theorem dX5_day_57 : decode cX5_day 57 = .ok (.iconst 3, 1) := by decide +kernel
theorem dX5_day_58 : decode cX5_day 58 = .ok (.iadd, 1) := by decide +kernel
theorem dX5_day_59 : decode cX5_day 59 = .ok (.iaload, 1) := by decide +kernel
theorem dX5_day_60 : decode cX5_day 60 = .ok (.aload_n 0, 1) := by decide +kernel
theorem dX5_day_61 : decode cX5_day 61 = .ok (.getfield 29, 3) := by decide +kernel
theorem dX5_day_64 : decode cX5_day 64 = .ok (.iload_n 3, 1) := by decide +kernel
theorem dX5_day_65 : decode cX5_day 65 = .ok (.iconst 4, 1) := by decide +kernel
theorem dX5_day_66 : decode cX5_day 66 = .ok (.iadd, 1) := by decide +kernel
theorem dX5_day_67 : decode cX5_day 67 = .ok (.iaload, 1) := by decide +kernel
theorem dX5_day_68 : decode cX5_day 68 = .ok (.invokevirtual 81, 3) := by decide +kernel
theorem dX5_day_71 : decode cX5_day 71 = .ok (.bipush (-50), 2) := by decide +kernel
theorem dX5_day_73 : decode cX5_day 73 = .ok (.if_icmp .ne 6, 3) := by decide +kernel
theorem dX5_day_76 : decode cX5_day 76 = .ok (.goto 58, 3) := by decide +kernel
theorem dX5_day_79 : decode cX5_day 79 = .ok (.aload_n 0, 1) := by decide +kernel
theorem dX5_day_80 : decode cX5_day 80 = .ok (.getfield 32, 3) := by decide +kernel
theorem dX5_day_83 : decode cX5_day 83 = .ok (.iload_n 2, 1) := by decide +kernel
theorem dX5_day_84 : decode cX5_day 84 = .ok (.dup2, 1) := by decide +kernel
theorem dX5_day_85 : decode cX5_day 85 = .ok (.iaload, 1) := by decide +kernel
theorem dX5_day_86 : decode cX5_day 86 = .ok (.iconst 1, 1) := by decide +kernel
theorem dX5_day_87 : decode cX5_day 87 = .ok (.isub, 1) := by decide +kernel
theorem dX5_day_88 : decode cX5_day 88 = .ok (.iastore, 1) := by decide +kernel
theorem dX5_day_89 : decode cX5_day 89 = .ok (.iconst 0, 1) := by decide +kernel
theorem dX5_day_90 : decode cX5_day 90 = .ok (.istore 4, 2) := by decide +kernel
theorem dX5_day_92 : decode cX5_day 92 = .ok (.iload 4, 2) := by decide +kernel
theorem dX5_day_94 : decode cX5_day 94 = .ok (.iconst 5, 1) := by decide +kernel
theorem dX5_day_95 : decode cX5_day 95 = .ok (.aload_n 0, 1) := by decide +kernel
theorem dX5_day_96 : decode cX5_day 96 = .ok (.getfield 32, 3) := by decide +kernel
theorem dX5_day_99 : decode cX5_day 99 = .ok (.iload_n 2, 1) := by decide +kernel
theorem dX5_day_100 : decode cX5_day 100 = .ok (.iaload, 1) := by decide +kernel
theorem dX5_day_101 : decode cX5_day 101 = .ok (.imul, 1) := by decide +kernel
theorem dX5_day_102 : decode cX5_day 102 = .ok (.if_icmp .ge 29, 3) := by decide +kernel
theorem dX5_day_105 : decode cX5_day 105 = .ok (.aload_n 0, 1) := by decide +kernel
theorem dX5_day_106 : decode cX5_day 106 = .ok (.getfield 29, 3) := by decide +kernel
theorem dX5_day_109 : decode cX5_day 109 = .ok (.iload_n 3, 1) := by decide +kernel
theorem dX5_day_110 : decode cX5_day 110 = .ok (.iload 4, 2) := by decide +kernel
theorem dX5_day_112 : decode cX5_day 112 = .ok (.iadd, 1) := by decide +kernel
theorem dX5_day_113 : decode cX5_day 113 = .ok (.aload_n 0, 1) := by decide +kernel
theorem dX5_day_114 : decode cX5_day 114 = .ok (.getfield 29, 3) := by decide +kernel
theorem dX5_day_117 : decode cX5_day 117 = .ok (.iload_n 3, 1) := by decide +kernel
theorem dX5_day_118 : decode cX5_day 118 = .ok (.iload 4, 2) := by decide +kernel
theorem dX5_day_120 : decode cX5_day 120 = .ok (.iadd, 1) := by decide +kernel
theorem dX5_day_121 : decode cX5_day 121 = .ok (.iconst 5, 1) := by decide +kernel
theorem dX5_day_122 : decode cX5_day 122 = .ok (.iadd, 1) := by decide +kernel
theorem dX5_day_123 : decode cX5_day 123 = .ok (.iaload, 1) := by decide +kernel
theorem dX5_day_124 : decode cX5_day 124 = .ok (.iastore, 1) := by decide +kernel
theorem dX5_day_125 : decode cX5_day 125 = .ok (.iinc 4 1, 3) := by decide +kernel
theorem dX5_day_128 : decode cX5_day 128 = .ok (.goto (-36), 3) := by decide +kernel
theorem dX5_day_131 : decode cX5_day 131 = .ok (.iinc 1 1, 3) := by decide +kernel
theorem dX5_day_134 : decode cX5_day 134 = .ok (.iinc 2 1, 3) := by decide +kernel
theorem dX5_day_137 : decode cX5_day 137 = .ok (.goto (-128), 3) := by decide +kernel
theorem dX5_day_140 : decode cX5_day 140 = .ok (.iload_n 1, 1) := by decide +kernel
theorem dX5_day_141 : decode cX5_day 141 = .ok (.ireturn, 1) := by decide +kernel
set_option maxRecDepth 20000 in
theorem ggX5_fill_X5_isScribe : GoodIn wsX5_fill wsX5_isScribe := goodIn_r _ [6] (by decide +kernel) (by decide +kernel)
set_option maxRecDepth 20000 in
theorem gX5_fill_X5_isScribe : GoodIn wsX5_fill (va_wsS RX5 74 yX5_isScribe wsX5_isScribe) := goodIn_app (goodIn_of _ (by decide +kernel)) ggX5_fill_X5_isScribe
theorem dX5_fill_0 : decode cX5_fill 0 = .ok (.aload_n 0, 1) := by decide +kernel
theorem dX5_fill_1 : decode cX5_fill 1 = .ok (.iconst 0, 1) := by decide +kernel
theorem dX5_fill_2 : decode cX5_fill 2 = .ok (.putfield 41, 3) := by decide +kernel
theorem dX5_fill_5 : decode cX5_fill 5 = .ok (.iload_n 1, 1) := by decide +kernel
theorem dX5_fill_6 : decode cX5_fill 6 = .ok (.invokestatic 74, 3) := by decide +kernel
theorem dX5_fill_9 : decode cX5_fill 9 = .ok (.ifCond .eq 14, 3) := by decide +kernel
theorem dX5_fill_12 : decode cX5_fill 12 = .ok (.iload_n 2, 1) := by decide +kernel
theorem dX5_fill_13 : decode cX5_fill 13 = .ok (.ifCond .lt 10, 3) := by decide +kernel
theorem dX5_fill_16 : decode cX5_fill 16 = .ok (.iload_n 2, 1) := by decide +kernel
theorem dX5_fill_17 : decode cX5_fill 17 = .ok (.sipush 1000, 3) := by decide +kernel
theorem dX5_fill_20 : decode cX5_fill 20 = .ok (.if_icmp .le 6, 3) := by decide +kernel
theorem dX5_fill_23 : decode cX5_fill 23 = .ok (.bipush (-99), 2) := by decide +kernel
theorem dX5_fill_25 : decode cX5_fill 25 = .ok (.ireturn, 1) := by decide +kernel
theorem dX5_fill_26 : decode cX5_fill 26 = .ok (.aload_n 0, 1) := by decide +kernel
theorem dX5_fill_27 : decode cX5_fill 27 = .ok (.getfield 23, 3) := by decide +kernel
theorem dX5_fill_30 : decode cX5_fill 30 = .ok (.iload_n 1, 1) := by decide +kernel
theorem dX5_fill_31 : decode cX5_fill 31 = .ok (.aload_n 0, 1) := by decide +kernel
theorem dX5_fill_32 : decode cX5_fill 32 = .ok (.getfield 23, 3) := by decide +kernel
theorem dX5_fill_35 : decode cX5_fill 35 = .ok (.iload_n 1, 1) := by decide +kernel
theorem dX5_fill_36 : decode cX5_fill 36 = .ok (.iaload, 1) := by decide +kernel
theorem dX5_fill_37 : decode cX5_fill 37 = .ok (.iload_n 2, 1) := by decide +kernel
theorem dX5_fill_38 : decode cX5_fill 38 = .ok (.iadd, 1) := by decide +kernel
theorem dX5_fill_39 : decode cX5_fill 39 = .ok (.sipush 1000, 3) := by decide +kernel
theorem dX5_fill_42 : decode cX5_fill 42 = .ok (.if_icmp .le 9, 3) := by decide +kernel
theorem dX5_fill_45 : decode cX5_fill 45 = .ok (.sipush 1000, 3) := by decide +kernel
theorem dX5_fill_48 : decode cX5_fill 48 = .ok (.goto 11, 3) := by decide +kernel
theorem dX5_fill_51 : decode cX5_fill 51 = .ok (.aload_n 0, 1) := by decide +kernel
theorem dX5_fill_52 : decode cX5_fill 52 = .ok (.getfield 23, 3) := by decide +kernel
theorem dX5_fill_55 : decode cX5_fill 55 = .ok (.iload_n 1, 1) := by decide +kernel
theorem dX5_fill_56 : decode cX5_fill 56 = .ok (.iaload, 1) := by decide +kernel
theorem dX5_fill_57 : decode cX5_fill 57 = .ok (.iload_n 2, 1) := by decide +kernel
theorem dX5_fill_58 : decode cX5_fill 58 = .ok (.iadd, 1) := by decide +kernel
theorem dX5_fill_59 : decode cX5_fill 59 = .ok (.iastore, 1) := by decide +kernel
theorem dX5_fill_60 : decode cX5_fill 60 = .ok (.aload_n 0, 1) := by decide +kernel
theorem dX5_fill_61 : decode cX5_fill 61 = .ok (.getfield 23, 3) := by decide +kernel
theorem dX5_fill_64 : decode cX5_fill 64 = .ok (.iload_n 1, 1) := by decide +kernel
theorem dX5_fill_65 : decode cX5_fill 65 = .ok (.iaload, 1) := by decide +kernel
theorem dX5_fill_66 : decode cX5_fill 66 = .ok (.ireturn, 1) := by decide +kernel
set_option maxRecDepth 20000 in
theorem ggX5_scribe_X5_isScribe : GoodIn wsX5_scribe wsX5_isScribe := goodIn_r _ [8] (by decide +kernel) (by decide +kernel)
set_option maxRecDepth 20000 in
theorem gX5_scribe_X5_isScribe : GoodIn wsX5_scribe (va_wsS RX5 74 yX5_isScribe wsX5_isScribe) := goodIn_app (goodIn_of _ (by decide +kernel)) ggX5_scribe_X5_isScribe
theorem dX5_scribe_0 : decode cX5_scribe 0 = .ok (.aload_n 0, 1) := by decide +kernel
theorem dX5_scribe_1 : decode cX5_scribe 1 = .ok (.iconst 0, 1) := by decide +kernel
theorem dX5_scribe_2 : decode cX5_scribe 2 = .ok (.putfield 41, 3) := by decide +kernel
theorem dX5_scribe_5 : decode cX5_scribe 5 = .ok (.iload_n 1, 1) := by decide +kernel
theorem dX5_scribe_6 : decode cX5_scribe 6 = .ok (.invokestatic 74, 3) := by decide +kernel
theorem dX5_scribe_9 : decode cX5_scribe 9 = .ok (.ifCond .eq 12, 3) := by decide +kernel
theorem dX5_scribe_12 : decode cX5_scribe 12 = .ok (.iload_n 2, 1) := by decide +kernel
theorem dX5_scribe_13 : decode cX5_scribe 13 = .ok (.ifCond .lt 8, 3) := by decide +kernel
theorem dX5_scribe_16 : decode cX5_scribe 16 = .ok (.iload_n 2, 1) := by decide +kernel
theorem dX5_scribe_17 : decode cX5_scribe 17 = .ok (.iconst 2, 1) := by decide +kernel
theorem dX5_scribe_18 : decode cX5_scribe 18 = .ok (.if_icmp .le 6, 3) := by decide +kernel
theorem dX5_scribe_21 : decode cX5_scribe 21 = .ok (.bipush (-99), 2) := by decide +kernel
theorem dX5_scribe_23 : decode cX5_scribe 23 = .ok (.ireturn, 1) := by decide +kernel
theorem dX5_scribe_24 : decode cX5_scribe 24 = .ok (.iload_n 2, 1) := by decide +kernel
theorem dX5_scribe_25 : decode cX5_scribe 25 = .ok (.ifCond .ne 12, 3) := by decide +kernel
theorem dX5_scribe_28 : decode cX5_scribe 28 = .ok (.aload_n 0, 1) := by decide +kernel
theorem dX5_scribe_29 : decode cX5_scribe 29 = .ok (.getfield 23, 3) := by decide +kernel
theorem dX5_scribe_32 : decode cX5_scribe 32 = .ok (.iload_n 1, 1) := by decide +kernel
theorem dX5_scribe_33 : decode cX5_scribe 33 = .ok (.iaload, 1) := by decide +kernel
theorem dX5_scribe_34 : decode cX5_scribe 34 = .ok (.goto 23, 3) := by decide +kernel
theorem dX5_scribe_37 : decode cX5_scribe 37 = .ok (.iload_n 2, 1) := by decide +kernel
theorem dX5_scribe_38 : decode cX5_scribe 38 = .ok (.iconst 1, 1) := by decide +kernel
theorem dX5_scribe_39 : decode cX5_scribe 39 = .ok (.if_icmp .ne 12, 3) := by decide +kernel
theorem dX5_scribe_42 : decode cX5_scribe 42 = .ok (.aload_n 0, 1) := by decide +kernel
theorem dX5_scribe_43 : decode cX5_scribe 43 = .ok (.getfield 32, 3) := by decide +kernel
theorem dX5_scribe_46 : decode cX5_scribe 46 = .ok (.iload_n 1, 1) := by decide +kernel
theorem dX5_scribe_47 : decode cX5_scribe 47 = .ok (.iaload, 1) := by decide +kernel
theorem dX5_scribe_48 : decode cX5_scribe 48 = .ok (.goto 9, 3) := by decide +kernel
theorem dX5_scribe_51 : decode cX5_scribe 51 = .ok (.aload_n 0, 1) := by decide +kernel
theorem dX5_scribe_52 : decode cX5_scribe 52 = .ok (.getfield 26, 3) := by decide +kernel
theorem dX5_scribe_55 : decode cX5_scribe 55 = .ok (.iload_n 1, 1) := by decide +kernel
theorem dX5_scribe_56 : decode cX5_scribe 56 = .ok (.iaload, 1) := by decide +kernel
theorem dX5_scribe_57 : decode cX5_scribe 57 = .ok (.ireturn, 1) := by decide +kernel
set_option maxRecDepth 20000 in
theorem ggX5_sign_X5_isDesk : GoodIn wsX5_sign wsX5_isDesk := goodIn_r _ [8] (by decide +kernel) (by decide +kernel)
set_option maxRecDepth 20000 in
theorem gX5_sign_X5_isDesk : GoodIn wsX5_sign (va_wsS RX5 45 yX5_isDesk wsX5_isDesk) := goodIn_app (goodIn_of _ (by decide +kernel)) ggX5_sign_X5_isDesk
theorem dX5_sign_0 : decode cX5_sign 0 = .ok (.aload_n 0, 1) := by decide +kernel
theorem dX5_sign_1 : decode cX5_sign 1 = .ok (.iconst 0, 1) := by decide +kernel
theorem dX5_sign_2 : decode cX5_sign 2 = .ok (.putfield 41, 3) := by decide +kernel
theorem dX5_sign_5 : decode cX5_sign 5 = .ok (.aload_n 0, 1) := by decide +kernel
theorem dX5_sign_6 : decode cX5_sign 6 = .ok (.iload_n 1, 1) := by decide +kernel
theorem dX5_sign_7 : decode cX5_sign 7 = .ok (.invokestatic 45, 3) := by decide +kernel
theorem dX5_sign_10 : decode cX5_sign 10 = .ok (.ifCond .eq 12, 3) := by decide +kernel
theorem dX5_sign_13 : decode cX5_sign 13 = .ok (.aload_n 0, 1) := by decide +kernel
theorem dX5_sign_14 : decode cX5_sign 14 = .ok (.getfield 7, 3) := by decide +kernel
theorem dX5_sign_17 : decode cX5_sign 17 = .ok (.iload_n 1, 1) := by decide +kernel
theorem dX5_sign_18 : decode cX5_sign 18 = .ok (.iaload, 1) := by decide +kernel
theorem dX5_sign_19 : decode cX5_sign 19 = .ok (.ifCond .ge 7, 3) := by decide +kernel
theorem dX5_sign_22 : decode cX5_sign 22 = .ok (.iconst 1, 1) := by decide +kernel
theorem dX5_sign_23 : decode cX5_sign 23 = .ok (.goto 27, 3) := by decide +kernel
theorem dX5_sign_26 : decode cX5_sign 26 = .ok (.iload_n 2, 1) := by decide +kernel
theorem dX5_sign_27 : decode cX5_sign 27 = .ok (.ifCond .lt 18, 3) := by decide +kernel
theorem dX5_sign_30 : decode cX5_sign 30 = .ok (.iload_n 2, 1) := by decide +kernel
theorem dX5_sign_31 : decode cX5_sign 31 = .ok (.aload_n 0, 1) := by decide +kernel
theorem dX5_sign_32 : decode cX5_sign 32 = .ok (.getfield 16, 3) := by decide +kernel
theorem dX5_sign_35 : decode cX5_sign 35 = .ok (.aload_n 0, 1) := by decide +kernel
theorem dX5_sign_36 : decode cX5_sign 36 = .ok (.getfield 7, 3) := by decide +kernel
theorem dX5_sign_39 : decode cX5_sign 39 = .ok (.iload_n 1, 1) := by decide +kernel
theorem dX5_sign_40 : decode cX5_sign 40 = .ok (.iaload, 1) := by decide +kernel
theorem dX5_sign_41 : decode cX5_sign 41 = .ok (.iaload, 1) := by decide +kernel
theorem dX5_sign_42 : decode cX5_sign 42 = .ok (.if_icmp .lt 7, 3) := by decide +kernel
theorem dX5_sign_45 : decode cX5_sign 45 = .ok (.iconst 2, 1) := by decide +kernel
theorem dX5_sign_46 : decode cX5_sign 46 = .ok (.goto 4, 3) := by decide +kernel
theorem dX5_sign_49 : decode cX5_sign 49 = .ok (.iconst 0, 1) := by decide +kernel
theorem dX5_sign_50 : decode cX5_sign 50 = .ok (.putfield 41, 3) := by decide +kernel
theorem dX5_sign_53 : decode cX5_sign 53 = .ok (.aload_n 0, 1) := by decide +kernel
theorem dX5_sign_54 : decode cX5_sign 54 = .ok (.getfield 41, 3) := by decide +kernel
theorem dX5_sign_57 : decode cX5_sign 57 = .ok (.ifCond .le 7, 3) := by decide +kernel
theorem dX5_sign_60 : decode cX5_sign 60 = .ok (.lconst 0, 1) := by decide +kernel
theorem dX5_sign_61 : decode cX5_sign 61 = .ok (.goto 19, 3) := by decide +kernel
theorem dX5_sign_64 : decode cX5_sign 64 = .ok (.aload_n 0, 1) := by decide +kernel
theorem dX5_sign_65 : decode cX5_sign 65 = .ok (.getfield 19, 3) := by decide +kernel
theorem dX5_sign_68 : decode cX5_sign 68 = .ok (.bipush 40, 2) := by decide +kernel
theorem dX5_sign_70 : decode cX5_sign 70 = .ok (.aload_n 0, 1) := by decide +kernel
theorem dX5_sign_71 : decode cX5_sign 71 = .ok (.getfield 7, 3) := by decide +kernel
theorem dX5_sign_74 : decode cX5_sign 74 = .ok (.iload_n 1, 1) := by decide +kernel
theorem dX5_sign_75 : decode cX5_sign 75 = .ok (.iaload, 1) := by decide +kernel
theorem dX5_sign_76 : decode cX5_sign 76 = .ok (.imul, 1) := by decide +kernel
theorem dX5_sign_77 : decode cX5_sign 77 = .ok (.iload_n 2, 1) := by decide +kernel
theorem dX5_sign_78 : decode cX5_sign 78 = .ok (.iadd, 1) := by decide +kernel
theorem dX5_sign_79 : decode cX5_sign 79 = .ok (.laload, 1) := by decide +kernel
theorem dX5_sign_80 : decode cX5_sign 80 = .ok (.lreturn, 1) := by decide +kernel
set_option maxRecDepth 20000 in
theorem ggX5_book_X5_isDesk : GoodIn wsX5_book wsX5_isDesk := goodIn_r _ [8] (by decide +kernel) (by decide +kernel)
set_option maxRecDepth 20000 in
theorem gX5_book_X5_isDesk : GoodIn wsX5_book (va_wsS RX5 45 yX5_isDesk wsX5_isDesk) := goodIn_app (goodIn_of _ (by decide +kernel)) ggX5_book_X5_isDesk
theorem dX5_book_0 : decode cX5_book 0 = .ok (.aload_n 0, 1) := by decide +kernel
theorem dX5_book_1 : decode cX5_book 1 = .ok (.iconst 0, 1) := by decide +kernel
theorem dX5_book_2 : decode cX5_book 2 = .ok (.putfield 41, 3) := by decide +kernel
theorem dX5_book_5 : decode cX5_book 5 = .ok (.iload_n 1, 1) := by decide +kernel
theorem dX5_book_6 : decode cX5_book 6 = .ok (.invokestatic 45, 3) := by decide +kernel
theorem dX5_book_9 : decode cX5_book 9 = .ok (.ifCond .eq 12, 3) := by decide +kernel
theorem dX5_book_12 : decode cX5_book 12 = .ok (.iload_n 2, 1) := by decide +kernel
theorem dX5_book_13 : decode cX5_book 13 = .ok (.ifCond .lt 8, 3) := by decide +kernel
theorem dX5_book_16 : decode cX5_book 16 = .ok (.iload_n 2, 1) := by decide +kernel
theorem dX5_book_17 : decode cX5_book 17 = .ok (.iconst 1, 1) := by decide +kernel
theorem dX5_book_18 : decode cX5_book 18 = .ok (.if_icmp .le 6, 3) := by decide +kernel
theorem dX5_book_21 : decode cX5_book 21 = .ok (.bipush (-99), 2) := by decide +kernel
theorem dX5_book_23 : decode cX5_book 23 = .ok (.ireturn, 1) := by decide +kernel
theorem dX5_book_24 : decode cX5_book 24 = .ok (.aload_n 0, 1) := by decide +kernel
theorem dX5_book_25 : decode cX5_book 25 = .ok (.getfield 7, 3) := by decide +kernel
theorem dX5_book_28 : decode cX5_book 28 = .ok (.iload_n 1, 1) := by decide +kernel
theorem dX5_book_29 : decode cX5_book 29 = .ok (.iaload, 1) := by decide +kernel
theorem dX5_book_30 : decode cX5_book 30 = .ok (.ifCond .ge 12, 3) := by decide +kernel
theorem dX5_book_33 : decode cX5_book 33 = .ok (.aload_n 0, 1) := by decide +kernel
theorem dX5_book_34 : decode cX5_book 34 = .ok (.getfield 7, 3) := by decide +kernel
theorem dX5_book_37 : decode cX5_book 37 = .ok (.iload_n 1, 1) := by decide +kernel
theorem dX5_book_38 : decode cX5_book 38 = .ok (.iaload, 1) := by decide +kernel
theorem dX5_book_39 : decode cX5_book 39 = .ok (.goto 32, 3) := by decide +kernel
theorem dX5_book_42 : decode cX5_book 42 = .ok (.iload_n 2, 1) := by decide +kernel
theorem dX5_book_43 : decode cX5_book 43 = .ok (.ifCond .ne 17, 3) := by decide +kernel
theorem dX5_book_46 : decode cX5_book 46 = .ok (.aload_n 0, 1) := by decide +kernel
theorem dX5_book_47 : decode cX5_book 47 = .ok (.getfield 13, 3) := by decide +kernel
theorem dX5_book_50 : decode cX5_book 50 = .ok (.aload_n 0, 1) := by decide +kernel
theorem dX5_book_51 : decode cX5_book 51 = .ok (.getfield 7, 3) := by decide +kernel
theorem dX5_book_54 : decode cX5_book 54 = .ok (.iload_n 1, 1) := by decide +kernel
theorem dX5_book_55 : decode cX5_book 55 = .ok (.iaload, 1) := by decide +kernel
theorem dX5_book_56 : decode cX5_book 56 = .ok (.iaload, 1) := by decide +kernel
theorem dX5_book_57 : decode cX5_book 57 = .ok (.goto 14, 3) := by decide +kernel
theorem dX5_book_60 : decode cX5_book 60 = .ok (.aload_n 0, 1) := by decide +kernel
theorem dX5_book_61 : decode cX5_book 61 = .ok (.getfield 16, 3) := by decide +kernel
theorem dX5_book_64 : decode cX5_book 64 = .ok (.aload_n 0, 1) := by decide +kernel
theorem dX5_book_65 : decode cX5_book 65 = .ok (.getfield 7, 3) := by decide +kernel
theorem dX5_book_68 : decode cX5_book 68 = .ok (.iload_n 1, 1) := by decide +kernel
theorem dX5_book_69 : decode cX5_book 69 = .ok (.iaload, 1) := by decide +kernel
theorem dX5_book_70 : decode cX5_book 70 = .ok (.iaload, 1) := by decide +kernel
theorem dX5_book_71 : decode cX5_book 71 = .ok (.ireturn, 1) := by decide +kernel
set_option maxRecDepth 20000 in
theorem ggX5_differ_X5_isDesk : GoodIn wsX5_differ wsX5_isDesk := goodIn_r _ [8] (by decide +kernel) (by decide +kernel)
set_option maxRecDepth 20000 in
theorem gX5_differ_X5_isDesk : GoodIn wsX5_differ (va_wsS RX5 45 yX5_isDesk wsX5_isDesk) := goodIn_app (goodIn_of _ (by decide +kernel)) ggX5_differ_X5_isDesk
set_option maxRecDepth 20000 in
theorem ggX5_differ_X5_unlike : GoodIn wsX5_differ wsX5_unlike := goodIn_r _ [12, 2, 13, 14, 15, 16, 17, 18, 19, 20, 21, 22, 23, 24] (by decide +kernel) (by decide +kernel)
set_option maxRecDepth 20000 in
theorem gX5_differ_X5_unlike : GoodIn wsX5_differ (wsV RX5 70 RX5 yX5_unlike wsX5_unlike) := goodIn_app (goodIn_of _ (by decide +kernel)) ggX5_differ_X5_unlike
theorem dX5_differ_0 : decode cX5_differ 0 = .ok (.aload_n 0, 1) := by decide +kernel
theorem dX5_differ_1 : decode cX5_differ 1 = .ok (.iconst 0, 1) := by decide +kernel
theorem dX5_differ_2 : decode cX5_differ 2 = .ok (.putfield 41, 3) := by decide +kernel
theorem dX5_differ_5 : decode cX5_differ 5 = .ok (.iload_n 1, 1) := by decide +kernel
theorem dX5_differ_6 : decode cX5_differ 6 = .ok (.invokestatic 45, 3) := by decide +kernel
theorem dX5_differ_9 : decode cX5_differ 9 = .ok (.ifCond .eq 10, 3) := by decide +kernel
theorem dX5_differ_12 : decode cX5_differ 12 = .ok (.iload_n 2, 1) := by decide +kernel
theorem dX5_differ_13 : decode cX5_differ 13 = .ok (.invokestatic 45, 3) := by decide +kernel
theorem dX5_differ_16 : decode cX5_differ 16 = .ok (.ifCond .ne 6, 3) := by decide +kernel
theorem dX5_differ_19 : decode cX5_differ 19 = .ok (.bipush (-99), 2) := by decide +kernel
theorem dX5_differ_21 : decode cX5_differ 21 = .ok (.ireturn, 1) := by decide +kernel
theorem dX5_differ_22 : decode cX5_differ 22 = .ok (.aload_n 0, 1) := by decide +kernel
theorem dX5_differ_23 : decode cX5_differ 23 = .ok (.iload_n 1, 1) := by decide +kernel
theorem dX5_differ_24 : decode cX5_differ 24 = .ok (.iload_n 2, 1) := by decide +kernel
theorem dX5_differ_25 : decode cX5_differ 25 = .ok (.invokevirtual 70, 3) := by decide +kernel
theorem dX5_differ_28 : decode cX5_differ 28 = .ok (.istore_n 3, 1) := by decide +kernel
theorem dX5_differ_29 : decode cX5_differ 29 = .ok (.iload_n 3, 1) := by decide +kernel
theorem dX5_differ_30 : decode cX5_differ 30 = .ok (.ifCond .eq 5, 3) := by decide +kernel
theorem dX5_differ_33 : decode cX5_differ 33 = .ok (.iload_n 3, 1) := by decide +kernel
theorem dX5_differ_34 : decode cX5_differ 34 = .ok (.ireturn, 1) := by decide +kernel
theorem dX5_differ_35 : decode cX5_differ 35 = .ok (.aload_n 0, 1) := by decide +kernel
theorem dX5_differ_36 : decode cX5_differ 36 = .ok (.getfield 7, 3) := by decide +kernel
theorem dX5_differ_39 : decode cX5_differ 39 = .ok (.iload_n 1, 1) := by decide +kernel
theorem dX5_differ_40 : decode cX5_differ 40 = .ok (.iaload, 1) := by decide +kernel
theorem dX5_differ_41 : decode cX5_differ 41 = .ok (.istore 4, 2) := by decide +kernel
theorem dX5_differ_43 : decode cX5_differ 43 = .ok (.aload_n 0, 1) := by decide +kernel
theorem dX5_differ_44 : decode cX5_differ 44 = .ok (.getfield 7, 3) := by decide +kernel
theorem dX5_differ_47 : decode cX5_differ 47 = .ok (.iload_n 2, 1) := by decide +kernel
theorem dX5_differ_48 : decode cX5_differ 48 = .ok (.iaload, 1) := by decide +kernel
theorem dX5_differ_49 : decode cX5_differ 49 = .ok (.istore 5, 2) := by decide +kernel
theorem dX5_differ_51 : decode cX5_differ 51 = .ok (.aload_n 0, 1) := by decide +kernel
theorem dX5_differ_52 : decode cX5_differ 52 = .ok (.getfield 16, 3) := by decide +kernel
theorem dX5_differ_55 : decode cX5_differ 55 = .ok (.iload 4, 2) := by decide +kernel
theorem dX5_differ_57 : decode cX5_differ 57 = .ok (.iaload, 1) := by decide +kernel
theorem dX5_differ_58 : decode cX5_differ 58 = .ok (.aload_n 0, 1) := by decide +kernel
theorem dX5_differ_59 : decode cX5_differ 59 = .ok (.getfield 16, 3) := by decide +kernel
theorem dX5_differ_62 : decode cX5_differ 62 = .ok (.iload 5, 2) := by decide +kernel
theorem dX5_differ_64 : decode cX5_differ 64 = .ok (.iaload, 1) := by decide +kernel
theorem dX5_differ_65 : decode cX5_differ 65 = .ok (.if_icmp .ge 13, 3) := by decide +kernel
theorem dX5_differ_68 : decode cX5_differ 68 = .ok (.aload_n 0, 1) := by decide +kernel
theorem dX5_differ_69 : decode cX5_differ 69 = .ok (.getfield 16, 3) := by decide +kernel
theorem dX5_differ_72 : decode cX5_differ 72 = .ok (.iload 4, 2) := by decide +kernel
theorem dX5_differ_74 : decode cX5_differ 74 = .ok (.iaload, 1) := by decide +kernel
theorem dX5_differ_75 : decode cX5_differ 75 = .ok (.goto 10, 3) := by decide +kernel
theorem dX5_differ_78 : decode cX5_differ 78 = .ok (.aload_n 0, 1) := by decide +kernel
theorem dX5_differ_79 : decode cX5_differ 79 = .ok (.getfield 16, 3) := by decide +kernel
theorem dX5_differ_82 : decode cX5_differ 82 = .ok (.iload 5, 2) := by decide +kernel
theorem dX5_differ_84 : decode cX5_differ 84 = .ok (.iaload, 1) := by decide +kernel
theorem dX5_differ_85 : decode cX5_differ 85 = .ok (.istore 6, 2) := by decide +kernel
theorem dX5_differ_87 : decode cX5_differ 87 = .ok (.iconst 0, 1) := by decide +kernel
theorem dX5_differ_88 : decode cX5_differ 88 = .ok (.istore 7, 2) := by decide +kernel
theorem dX5_differ_90 : decode cX5_differ 90 = .ok (.iload 7, 2) := by decide +kernel
theorem dX5_differ_92 : decode cX5_differ 92 = .ok (.iload 6, 2) := by decide +kernel
theorem dX5_differ_94 : decode cX5_differ 94 = .ok (.if_icmp .ge 42, 3) := by decide +kernel
theorem dX5_differ_97 : decode cX5_differ 97 = .ok (.aload_n 0, 1) := by decide +kernel
theorem dX5_differ_98 : decode cX5_differ 98 = .ok (.getfield 19, 3) := by decide +kernel
theorem dX5_differ_101 : decode cX5_differ 101 = .ok (.bipush 40, 2) := by decide +kernel
theorem dX5_differ_103 : decode cX5_differ 103 = .ok (.iload 4, 2) := by decide +kernel
theorem dX5_differ_105 : decode cX5_differ 105 = .ok (.imul, 1) := by decide +kernel
theorem dX5_differ_106 : decode cX5_differ 106 = .ok (.iload 7, 2) := by decide +kernel
theorem dX5_differ_108 : decode cX5_differ 108 = .ok (.iadd, 1) := by decide +kernel
theorem dX5_differ_109 : decode cX5_differ 109 = .ok (.laload, 1) := by decide +kernel
theorem dX5_differ_110 : decode cX5_differ 110 = .ok (.aload_n 0, 1) := by decide +kernel
theorem dX5_differ_111 : decode cX5_differ 111 = .ok (.getfield 19, 3) := by decide +kernel
theorem dX5_differ_114 : decode cX5_differ 114 = .ok (.bipush 40, 2) := by decide +kernel
theorem dX5_differ_116 : decode cX5_differ 116 = .ok (.iload 5, 2) := by decide +kernel
theorem dX5_differ_118 : decode cX5_differ 118 = .ok (.imul, 1) := by decide +kernel
theorem dX5_differ_119 : decode cX5_differ 119 = .ok (.iload 7, 2) := by decide +kernel
theorem dX5_differ_121 : decode cX5_differ 121 = .ok (.iadd, 1) := by decide +kernel
theorem dX5_differ_122 : decode cX5_differ 122 = .ok (.laload, 1) := by decide +kernel
theorem dX5_differ_123 : decode cX5_differ 123 = .ok (.lcmp, 1) := by decide +kernel
theorem dX5_differ_124 : decode cX5_differ 124 = .ok (.ifCond .eq 6, 3) := by decide +kernel
theorem dX5_differ_127 : decode cX5_differ 127 = .ok (.iload 7, 2) := by decide +kernel
theorem dX5_differ_129 : decode cX5_differ 129 = .ok (.ireturn, 1) := by decide +kernel
theorem dX5_differ_130 : decode cX5_differ 130 = .ok (.iinc 7 1, 3) := by decide +kernel
theorem dX5_differ_133 : decode cX5_differ 133 = .ok (.goto (-43), 3) := by decide +kernel
theorem dX5_differ_136 : decode cX5_differ 136 = .ok (.aload_n 0, 1) := by decide +kernel
theorem dX5_differ_137 : decode cX5_differ 137 = .ok (.getfield 16, 3) := by decide +kernel
theorem dX5_differ_140 : decode cX5_differ 140 = .ok (.iload 4, 2) := by decide +kernel
theorem dX5_differ_142 : decode cX5_differ 142 = .ok (.iaload, 1) := by decide +kernel
theorem dX5_differ_143 : decode cX5_differ 143 = .ok (.aload_n 0, 1) := by decide +kernel
theorem dX5_differ_144 : decode cX5_differ 144 = .ok (.getfield 16, 3) := by decide +kernel
theorem dX5_differ_147 : decode cX5_differ 147 = .ok (.iload 5, 2) := by decide +kernel
theorem dX5_differ_149 : decode cX5_differ 149 = .ok (.iaload, 1) := by decide +kernel
theorem dX5_differ_150 : decode cX5_differ 150 = .ok (.if_icmp .ne 8, 3) := by decide +kernel
theorem dX5_differ_153 : decode cX5_differ 153 = .ok (.bipush (-60), 2) := by decide +kernel
theorem dX5_differ_155 : decode cX5_differ 155 = .ok (.goto 5, 3) := by decide +kernel
theorem dX5_differ_158 : decode cX5_differ 158 = .ok (.iload 6, 2) := by decide +kernel
theorem dX5_differ_160 : decode cX5_differ 160 = .ok (.ireturn, 1) := by decide +kernel
theorem dX5_chronicle_0 : decode cX5_chronicle 0 = .ok (.aload_n 0, 1) := by decide +kernel
theorem dX5_chronicle_1 : decode cX5_chronicle 1 = .ok (.iconst 0, 1) := by decide +kernel
theorem dX5_chronicle_2 : decode cX5_chronicle 2 = .ok (.putfield 41, 3) := by decide +kernel
theorem dX5_chronicle_5 : decode cX5_chronicle 5 = .ok (.iload_n 1, 1) := by decide +kernel
theorem dX5_chronicle_6 : decode cX5_chronicle 6 = .ok (.ifCond .lt 28, 3) := by decide +kernel
theorem dX5_chronicle_9 : decode cX5_chronicle 9 = .ok (.iload_n 1, 1) := by decide +kernel
theorem dX5_chronicle_10 : decode cX5_chronicle 10 = .ok (.bipush 16, 2) := by decide +kernel
theorem dX5_chronicle_12 : decode cX5_chronicle 12 = .ok (.if_icmp .ge 22, 3) := by decide +kernel
theorem dX5_chronicle_15 : decode cX5_chronicle 15 = .ok (.iload_n 1, 1) := by decide +kernel
theorem dX5_chronicle_16 : decode cX5_chronicle 16 = .ok (.aload_n 0, 1) := by decide +kernel
theorem dX5_chronicle_17 : decode cX5_chronicle 17 = .ok (.getfield 38, 3) := by decide +kernel
theorem dX5_chronicle_20 : decode cX5_chronicle 20 = .ok (.iconst 0, 1) := by decide +kernel
theorem dX5_chronicle_21 : decode cX5_chronicle 21 = .ok (.iaload, 1) := by decide +kernel
theorem dX5_chronicle_22 : decode cX5_chronicle 22 = .ok (.if_icmp .ge 12, 3) := by decide +kernel
theorem dX5_chronicle_25 : decode cX5_chronicle 25 = .ok (.iload_n 2, 1) := by decide +kernel
theorem dX5_chronicle_26 : decode cX5_chronicle 26 = .ok (.ifCond .lt 8, 3) := by decide +kernel
theorem dX5_chronicle_29 : decode cX5_chronicle 29 = .ok (.iload_n 2, 1) := by decide +kernel
theorem dX5_chronicle_30 : decode cX5_chronicle 30 = .ok (.iconst 3, 1) := by decide +kernel
theorem dX5_chronicle_31 : decode cX5_chronicle 31 = .ok (.if_icmp .le 6, 3) := by decide +kernel
theorem dX5_chronicle_34 : decode cX5_chronicle 34 = .ok (.bipush (-99), 2) := by decide +kernel
theorem dX5_chronicle_36 : decode cX5_chronicle 36 = .ok (.ireturn, 1) := by decide +kernel
theorem dX5_chronicle_37 : decode cX5_chronicle 37 = .ok (.aload_n 0, 1) := by decide +kernel
theorem dX5_chronicle_38 : decode cX5_chronicle 38 = .ok (.getfield 35, 3) := by decide +kernel
theorem dX5_chronicle_41 : decode cX5_chronicle 41 = .ok (.iconst 4, 1) := by decide +kernel
theorem dX5_chronicle_42 : decode cX5_chronicle 42 = .ok (.aload_n 0, 1) := by decide +kernel
theorem dX5_chronicle_43 : decode cX5_chronicle 43 = .ok (.getfield 38, 3) := by decide +kernel
theorem dX5_chronicle_46 : decode cX5_chronicle 46 = .ok (.iconst 0, 1) := by decide +kernel
theorem dX5_chronicle_47 : decode cX5_chronicle 47 = .ok (.iaload, 1) := by decide +kernel
theorem dX5_chronicle_48 : decode cX5_chronicle 48 = .ok (.iconst 1, 1) := by decide +kernel
theorem dX5_chronicle_49 : decode cX5_chronicle 49 = .ok (.isub, 1) := by decide +kernel
theorem dX5_chronicle_50 : decode cX5_chronicle 50 = .ok (.iload_n 1, 1) := by decide +kernel
theorem dX5_chronicle_51 : decode cX5_chronicle 51 = .ok (.isub, 1) := by decide +kernel
theorem dX5_chronicle_52 : decode cX5_chronicle 52 = .ok (.bipush 16, 2) := by decide +kernel
theorem dX5_chronicle_54 : decode cX5_chronicle 54 = .ok (.irem, 1) := by decide +kernel
theorem dX5_chronicle_55 : decode cX5_chronicle 55 = .ok (.imul, 1) := by decide +kernel
theorem dX5_chronicle_56 : decode cX5_chronicle 56 = .ok (.iload_n 2, 1) := by decide +kernel
theorem dX5_chronicle_57 : decode cX5_chronicle 57 = .ok (.iadd, 1) := by decide +kernel
theorem dX5_chronicle_58 : decode cX5_chronicle 58 = .ok (.iaload, 1) := by decide +kernel
theorem dX5_chronicle_59 : decode cX5_chronicle 59 = .ok (.ireturn, 1) := by decide +kernel
theorem dX5_count_0 : decode cX5_count 0 = .ok (.aload_n 0, 1) := by decide +kernel
theorem dX5_count_1 : decode cX5_count 1 = .ok (.iconst 0, 1) := by decide +kernel
theorem dX5_count_2 : decode cX5_count 2 = .ok (.putfield 41, 3) := by decide +kernel
theorem dX5_count_5 : decode cX5_count 5 = .ok (.iload_n 1, 1) := by decide +kernel
theorem dX5_count_6 : decode cX5_count 6 = .ok (.ifCond .lt 9, 3) := by decide +kernel
theorem dX5_count_9 : decode cX5_count 9 = .ok (.iload_n 1, 1) := by decide +kernel
theorem dX5_count_10 : decode cX5_count 10 = .ok (.bipush 7, 2) := by decide +kernel
theorem dX5_count_12 : decode cX5_count 12 = .ok (.if_icmp .le 8, 3) := by decide +kernel
theorem dX5_count_15 : decode cX5_count 15 = .ok (.bipush (-99), 2) := by decide +kernel
theorem dX5_count_17 : decode cX5_count 17 = .ok (.goto 9, 3) := by decide +kernel
theorem dX5_count_20 : decode cX5_count 20 = .ok (.aload_n 0, 1) := by decide +kernel
theorem dX5_count_21 : decode cX5_count 21 = .ok (.getfield 38, 3) := by decide +kernel
theorem dX5_count_24 : decode cX5_count 24 = .ok (.iload_n 1, 1) := by decide +kernel
theorem dX5_count_25 : decode cX5_count 25 = .ok (.iaload, 1) := by decide +kernel
theorem dX5_count_26 : decode cX5_count 26 = .ok (.ireturn, 1) := by decide +kernel
theorem dJ9_floorMod_7cf53_0 : decode cJ9_floorMod_7cf53 0 = .ok (.iload_n 0, 1) := by decide +kernel
theorem dJ9_floorMod_7cf53_1 : decode cJ9_floorMod_7cf53 1 = .ok (.iload_n 1, 1) := by decide +kernel
theorem dJ9_floorMod_7cf53_2 : decode cJ9_floorMod_7cf53 2 = .ok (.irem, 1) := by decide +kernel
theorem dJ9_floorMod_7cf53_3 : decode cJ9_floorMod_7cf53 3 = .ok (.istore_n 2, 1) := by decide +kernel
theorem dJ9_floorMod_7cf53_4 : decode cJ9_floorMod_7cf53 4 = .ok (.iload_n 0, 1) := by decide +kernel
theorem dJ9_floorMod_7cf53_5 : decode cJ9_floorMod_7cf53 5 = .ok (.iload_n 1, 1) := by decide +kernel
theorem dJ9_floorMod_7cf53_6 : decode cJ9_floorMod_7cf53 6 = .ok (.ixor, 1) := by decide +kernel
theorem dJ9_floorMod_7cf53_7 : decode cJ9_floorMod_7cf53 7 = .ok (.ifCond .ge 11, 3) := by decide +kernel
theorem dJ9_floorMod_7cf53_10 : decode cJ9_floorMod_7cf53 10 = .ok (.iload_n 2, 1) := by decide +kernel
theorem dJ9_floorMod_7cf53_11 : decode cJ9_floorMod_7cf53 11 = .ok (.ifCond .eq 7, 3) := by decide +kernel
theorem dJ9_floorMod_7cf53_14 : decode cJ9_floorMod_7cf53 14 = .ok (.iload_n 2, 1) := by decide +kernel
theorem dJ9_floorMod_7cf53_15 : decode cJ9_floorMod_7cf53 15 = .ok (.iload_n 1, 1) := by decide +kernel
theorem dJ9_floorMod_7cf53_16 : decode cJ9_floorMod_7cf53 16 = .ok (.iadd, 1) := by decide +kernel
theorem dJ9_floorMod_7cf53_17 : decode cJ9_floorMod_7cf53 17 = .ok (.ireturn, 1) := by decide +kernel
theorem dJ9_floorMod_7cf53_18 : decode cJ9_floorMod_7cf53 18 = .ok (.iload_n 2, 1) := by decide +kernel
theorem dJ9_floorMod_7cf53_19 : decode cJ9_floorMod_7cf53 19 = .ok (.ireturn, 1) := by decide +kernel
theorem dJ9_min_7cf53_0 : decode cJ9_min_7cf53 0 = .ok (.iload_n 0, 1) := by decide +kernel
theorem dJ9_min_7cf53_1 : decode cJ9_min_7cf53 1 = .ok (.iload_n 1, 1) := by decide +kernel
theorem dJ9_min_7cf53_2 : decode cJ9_min_7cf53 2 = .ok (.if_icmp .gt 7, 3) := by decide +kernel
theorem dJ9_min_7cf53_5 : decode cJ9_min_7cf53 5 = .ok (.iload_n 0, 1) := by decide +kernel
theorem dJ9_min_7cf53_6 : decode cJ9_min_7cf53 6 = .ok (.goto 4, 3) := by decide +kernel
theorem dJ9_min_7cf53_9 : decode cJ9_min_7cf53 9 = .ok (.iload_n 1, 1) := by decide +kernel
theorem dJ9_min_7cf53_10 : decode cJ9_min_7cf53 10 = .ok (.ireturn, 1) := by decide +kernel
set_option maxRecDepth 20000 in
theorem ggL_sign_X4_sign : GoodIn wsL_sign wsX4_sign := goodIn_ca (goodIn_ca (goodIn_r _ [7, 8, 9, 10, 11, 12, 13, 14, 6, 15, 16, 17, 18, 19, 20, 21, 22, 23, 24, 25, 26, 27, 28, 29, 30, 31, 32, 33, 34, 35, 36, 37, 38, 39, 40, 41, 42, 43, 44, 45] (by decide +kernel) (by decide +kernel)) (goodIn_sub (fun _ h => List.mem_cons_of_mem _ (List.mem_append_left _ (List.mem_append_right _ h))) (by decide +kernel))) (goodIn_sub (fun _ h => List.mem_cons_of_mem _ (List.mem_append_right _ h)) (by decide +kernel))
set_option maxRecDepth 20000 in
theorem gL_sign_X4_sign : GoodIn wsL_sign (wsV RL 7 RX4 yX4_sign wsX4_sign) := goodIn_app (goodIn_of _ (by decide +kernel)) ggL_sign_X4_sign
theorem dL_sign_0 : decode cL_sign 0 = .ok (.aload_n 3, 1) := by decide +kernel
theorem dL_sign_1 : decode cL_sign 1 = .ok (.iconst 0, 1) := by decide +kernel
theorem dL_sign_2 : decode cL_sign 2 = .ok (.aload_n 0, 1) := by decide +kernel
theorem dL_sign_3 : decode cL_sign 3 = .ok (.iload_n 1, 1) := by decide +kernel
theorem dL_sign_4 : decode cL_sign 4 = .ok (.iload_n 2, 1) := by decide +kernel
theorem dL_sign_5 : decode cL_sign 5 = .ok (.invokevirtual 7, 3) := by decide +kernel
theorem dL_sign_8 : decode cL_sign 8 = .ok (.lastore, 1) := by decide +kernel
theorem dL_sign_9 : decode cL_sign 9 = .ok (.goto 11, 3) := by decide +kernel
theorem dL_sign_12 : decode cL_sign 12 = .ok (.astore 4, 2) := by decide +kernel
theorem dL_sign_14 : decode cL_sign 14 = .ok (.iconst 1, 1) := by decide +kernel
theorem dL_sign_15 : decode cL_sign 15 = .ok (.ireturn, 1) := by decide +kernel
theorem dL_sign_16 : decode cL_sign 16 = .ok (.astore 4, 2) := by decide +kernel
theorem dL_sign_18 : decode cL_sign 18 = .ok (.iconst 2, 1) := by decide +kernel
theorem dL_sign_19 : decode cL_sign 19 = .ok (.ireturn, 1) := by decide +kernel
theorem dL_sign_20 : decode cL_sign 20 = .ok (.iconst 0, 1) := by decide +kernel
theorem dL_sign_21 : decode cL_sign 21 = .ok (.ireturn, 1) := by decide +kernel
set_option maxRecDepth 20000 in
theorem ggL_law_X4_init : GoodIn wsL_law wsX4_init := goodIn_r _ [10, 11, 12, 13, 14, 15, 16, 17, 18, 19, 20, 21, 22, 23, 24, 25, 26, 27, 28, 29, 30, 31, 32, 33, 34, 6, 35, 36, 37, 38, 39, 40, 41, 42, 43, 44, 45, 46, 47, 48, 49, 50, 51, 411, 412, 413, 394, 395, 396, 397, 398, 399, 414, 415, 416, 417, 418, 419, 420, 421, 422, 423] (by decide +kernel) (by decide +kernel)
set_option maxRecDepth 20000 in
theorem gL_law_X4_init : GoodIn wsL_law (wsX4_init) := ggL_law_X4_init
set_option maxRecDepth 20000 in
theorem ggL_law_X5_init : GoodIn wsL_law wsX5_init := goodIn_r _ [54, 55, 12, 13, 28, 56, 57, 58, 6, 59, 60, 61, 62, 63, 64, 65, 400, 401, 402, 403, 404, 405, 406, 407, 408, 409, 410] (by decide +kernel) (by decide +kernel)
set_option maxRecDepth 20000 in
theorem gL_law_X5_init : GoodIn wsL_law (wsX5_init) := ggL_law_X5_init
set_option maxRecDepth 20000 in
theorem ggL_law_X4_bind : GoodIn wsL_law wsX4_bind := goodIn_r _ [69, 29, 14, 15, 16, 70, 71, 2, 72, 30, 31, 32, 33, 12, 13, 34, 6, 35, 28, 36, 73, 74, 75, 76, 19, 394, 395, 396, 397, 398, 399, 411, 412, 413] (by decide +kernel) (by decide +kernel)
set_option maxRecDepth 20000 in
theorem gL_law_X4_bind : GoodIn wsL_law (wsV RL 21 RX4 yX4_bind wsX4_bind) := goodIn_app (goodIn_of _ (by decide +kernel)) ggL_law_X4_bind
set_option maxRecDepth 20000 in
theorem ggL_law_X5_bind : GoodIn wsL_law wsX5_bind := goodIn_r _ [80, 81, 56, 57, 58, 59, 65, 82, 83, 5, 84, 85, 86, 87, 88, 400, 401, 402, 403, 404, 405, 406, 407, 408, 409, 410] (by decide +kernel) (by decide +kernel)
set_option maxRecDepth 20000 in
theorem gL_law_X5_bind : GoodIn wsL_law (wsV RL 25 RX5 yX5_bind wsX5_bind) := goodIn_app (goodIn_of _ (by decide +kernel)) ggL_law_X5_bind
set_option maxRecDepth 20000 in
theorem ggL_law_X4_stone : GoodIn wsL_law wsX4_stone := goodIn_r _ [92, 18, 73, 74, 75, 2, 76, 19, 70, 71, 72, 394, 395, 396, 397, 398, 399] (by decide +kernel) (by decide +kernel)
set_option maxRecDepth 20000 in
theorem gL_law_X4_stone : GoodIn wsL_law (wsV RL 26 RX4 yX4_stone wsX4_stone) := goodIn_app (goodIn_of _ (by decide +kernel)) ggL_law_X4_stone
set_option maxRecDepth 20000 in
theorem ggL_law_X5_stone : GoodIn wsL_law wsX5_stone := goodIn_r _ [96, 81, 56, 82, 83, 5, 84, 400, 401, 402, 403, 404, 405, 406, 407, 408, 409, 410] (by decide +kernel) (by decide +kernel)
set_option maxRecDepth 20000 in
theorem gL_law_X5_stone : GoodIn wsL_law (wsV RL 30 RX5 yX5_stone wsX5_stone) := goodIn_app (goodIn_of _ (by decide +kernel)) ggL_law_X5_stone
set_option maxRecDepth 20000 in
theorem ggL_law_X4_share : GoodIn wsL_law wsX4_share := goodIn_r _ [100, 19, 70, 71, 2, 72, 73, 74, 75, 76, 394, 395, 396, 397, 398, 399] (by decide +kernel) (by decide +kernel)
set_option maxRecDepth 20000 in
theorem gL_law_X4_share : GoodIn wsL_law (wsV RL 31 RX4 yX4_share wsX4_share) := goodIn_app (goodIn_of _ (by decide +kernel)) ggL_law_X4_share
set_option maxRecDepth 20000 in
theorem ggL_law_X5_share : GoodIn wsL_law wsX5_share := goodIn_r _ [104, 81, 56, 82, 83, 5, 84, 400, 401, 402, 403, 404, 405, 406, 407, 408, 409, 410] (by decide +kernel) (by decide +kernel)
set_option maxRecDepth 20000 in
theorem gL_law_X5_share : GoodIn wsL_law (wsV RL 35 RX5 yX5_share wsX5_share) := goodIn_app (goodIn_of _ (by decide +kernel)) ggL_law_X5_share
set_option maxRecDepth 20000 in
theorem ggL_law_X4_clear : GoodIn wsL_law wsX4_clear := goodIn_r _ [108, 17, 73, 74, 75, 2, 76, 19, 70, 71, 72, 394, 395, 396, 397, 398, 399] (by decide +kernel) (by decide +kernel)
set_option maxRecDepth 20000 in
theorem gL_law_X4_clear : GoodIn wsL_law (wsV RL 36 RX4 yX4_clear wsX4_clear) := goodIn_app (goodIn_of _ (by decide +kernel)) ggL_law_X4_clear
set_option maxRecDepth 20000 in
theorem ggL_law_X5_clear : GoodIn wsL_law wsX5_clear := goodIn_r _ [112, 81, 56, 82, 83, 5, 84, 400, 401, 402, 403, 404, 405, 406, 407, 408, 409, 410] (by decide +kernel) (by decide +kernel)
set_option maxRecDepth 20000 in
theorem gL_law_X5_clear : GoodIn wsL_law (wsV RL 39 RX5 yX5_clear wsX5_clear) := goodIn_app (goodIn_of _ (by decide +kernel)) ggL_law_X5_clear
set_option maxRecDepth 20000 in
theorem ggL_law_X4_write : GoodIn wsL_law wsX4_write := goodIn_r _ [116, 19, 117, 118, 70, 71, 2, 72, 119, 120, 121, 16, 122, 34, 123, 124, 125, 126, 127, 128, 129, 130, 35, 131, 132, 133, 134, 36, 135, 136, 137, 138, 139, 140, 141, 142, 394, 395, 396, 397, 398, 399, 411, 412, 413] (by decide +kernel) (by decide +kernel)
set_option maxRecDepth 20000 in
theorem gL_law_X4_write : GoodIn wsL_law (wsV RL 42 RX4 yX4_write wsX4_write) := goodIn_app (goodIn_of _ (by decide +kernel)) ggL_law_X4_write
set_option maxRecDepth 20000 in
theorem ggL_law_X5_write : GoodIn wsL_law wsX5_write := goodIn_r _ [146, 81, 56, 58, 57, 147, 59, 82, 83, 5, 84, 148, 149, 150, 151, 152, 153, 154, 155, 156, 157, 158, 159, 160, 400, 401, 402, 403, 404, 405, 406, 407, 408, 409, 410] (by decide +kernel) (by decide +kernel)
set_option maxRecDepth 20000 in
theorem gL_law_X5_write : GoodIn wsL_law (wsV RL 46 RX5 yX5_write wsX5_write) := goodIn_app (goodIn_of _ (by decide +kernel)) ggL_law_X5_write
set_option maxRecDepth 20000 in
theorem ggL_law_X4_copy : GoodIn wsL_law wsX4_copy := goodIn_r _ [164, 165, 166, 167, 168, 169, 170, 171, 12, 13, 172, 173, 174, 175, 176, 177, 178, 179, 180, 2, 181, 21, 182, 183, 184, 19, 185, 186, 29, 27, 187, 188, 189, 190, 191, 192, 70, 71, 72, 193, 194, 195, 196, 197, 198, 199, 200, 117, 201, 202, 203, 16, 204, 34, 205, 124, 125, 126, 206, 120, 121, 122, 207, 208, 209, 210, 35, 211, 212, 213, 214, 36, 135, 136, 137, 138, 215, 216, 217, 218, 219, 220, 221, 222, 223, 224, 225, 226, 227, 228, 23, 229, 41, 230, 231, 232, 233, 234, 235, 236, 26, 237, 48, 238, 239, 49, 240, 50, 241, 51, 242, 243, 244, 245, 246, 424, 425, 426, 427, 428, 429, 394, 395, 396, 397, 398, 399, 414, 415, 416, 417, 411, 412, 413, 418, 419, 420, 421, 422, 423] (by decide +kernel) (by decide +kernel)
set_option maxRecDepth 20000 in
theorem gL_law_X4_copy : GoodIn wsL_law (wsV RL 47 RX4 yX4_copy wsX4_copy) := goodIn_app (goodIn_of _ (by decide +kernel)) ggL_law_X4_copy
set_option maxRecDepth 20000 in
theorem ggL_law_X5_copy : GoodIn wsL_law wsX5_copy := goodIn_r _ [250, 81, 60, 61, 65, 64, 251, 252, 5, 253, 82, 83, 84, 254, 255, 256, 257, 56, 58, 59, 258, 259, 260, 261, 57, 148, 149, 150, 151, 156, 157, 158, 159, 160, 400, 401, 402, 403, 404, 405, 406, 407, 408, 409, 410] (by decide +kernel) (by decide +kernel)
set_option maxRecDepth 20000 in
theorem gL_law_X5_copy : GoodIn wsL_law (wsV RL 51 RX5 yX5_copy wsX5_copy) := goodIn_app (goodIn_of _ (by decide +kernel)) ggL_law_X5_copy
set_option maxRecDepth 20000 in
theorem ggL_law_X4_order : GoodIn wsL_law wsX4_order := goodIn_r _ [265, 165, 166, 167, 21, 168, 169, 170, 171, 12, 13, 172, 173, 174, 175, 176, 177, 187, 188, 2, 189, 182, 185, 186, 190, 191, 192, 70, 71, 72, 266, 267, 268, 23, 269, 270, 43, 424, 425, 426, 427, 428, 429, 394, 395, 396, 397, 398, 399, 414, 415, 416, 417] (by decide +kernel) (by decide +kernel)
set_option maxRecDepth 20000 in
theorem gL_law_X4_order : GoodIn wsL_law (wsV RL 52 RX4 yX4_order wsX4_order) := goodIn_app (goodIn_of _ (by decide +kernel)) ggL_law_X4_order
set_option maxRecDepth 20000 in
theorem ggL_law_X5_order : GoodIn wsL_law wsX5_order := goodIn_r _ [274, 81, 63, 62, 251, 252, 5, 253, 82, 83, 84, 400, 401, 402, 403, 404, 405, 406, 407, 408, 409, 410] (by decide +kernel) (by decide +kernel)
set_option maxRecDepth 20000 in
theorem gL_law_X5_order : GoodIn wsL_law (wsV RL 55 RX5 yX5_order wsX5_order) := goodIn_app (goodIn_of _ (by decide +kernel)) ggL_law_X5_order
set_option maxRecDepth 20000 in
theorem ggL_law_X4_day : GoodIn wsL_law wsX4_day := goodIn_r _ [278, 21, 279, 280, 281, 23, 282, 270, 43, 178, 179, 180, 2, 181, 182, 183, 184, 19, 185, 186, 29, 27, 187, 188, 189, 190, 191, 192, 70, 71, 72, 193, 194, 195, 196, 197, 198, 199, 200, 117, 201, 202, 203, 16, 204, 34, 205, 124, 125, 126, 206, 120, 121, 122, 207, 208, 209, 210, 35, 211, 212, 213, 214, 36, 135, 136, 137, 138, 215, 216, 217, 218, 219, 220, 221, 222, 223, 224, 225, 226, 227, 228, 229, 41, 230, 231, 232, 233, 234, 235, 236, 26, 237, 48, 238, 239, 49, 240, 50, 241, 51, 242, 243, 244, 245, 246, 283, 284, 285, 286, 394, 395, 396, 397, 398, 399, 414, 415, 416, 417, 424, 425, 426, 427, 428, 429, 411, 412, 413, 418, 419, 420, 421, 422, 423] (by decide +kernel) (by decide +kernel)
set_option maxRecDepth 20000 in
theorem gL_law_X4_day : GoodIn wsL_law (wsV RL 56 RX4 yX4_day wsX4_day) := goodIn_app (goodIn_of _ (by decide +kernel)) ggL_law_X4_day
set_option maxRecDepth 20000 in
theorem ggL_law_X5_day : GoodIn wsL_law wsX5_day := goodIn_r _ [290, 81, 63, 62, 291, 248, 249, 5, 250, 60, 61, 65, 64, 251, 252, 253, 82, 83, 84, 254, 255, 256, 257, 56, 58, 59, 258, 259, 260, 261, 57, 148, 149, 150, 151, 156, 157, 158, 159, 160, 400, 401, 402, 403, 404, 405, 406, 407, 408, 409, 410] (by decide +kernel) (by decide +kernel)
set_option maxRecDepth 20000 in
theorem gL_law_X5_day : GoodIn wsL_law (wsV RL 60 RX5 yX5_day wsX5_day) := goodIn_app (goodIn_of _ (by decide +kernel)) ggL_law_X5_day
set_option maxRecDepth 20000 in
theorem ggL_law_X4_fill : GoodIn wsL_law wsX4_fill := goodIn_r _ [295, 21, 183, 296, 244, 245, 246, 190, 191, 2, 192, 394, 395, 396, 397, 398, 399, 414, 415, 416, 417] (by decide +kernel) (by decide +kernel)
set_option maxRecDepth 20000 in
theorem gL_law_X4_fill : GoodIn wsL_law (wsV RL 61 RX4 yX4_fill wsX4_fill) := goodIn_app (goodIn_of _ (by decide +kernel)) ggL_law_X4_fill
set_option maxRecDepth 20000 in
theorem ggL_law_X5_fill : GoodIn wsL_law wsX5_fill := goodIn_r _ [300, 81, 60, 251, 252, 5, 253, 400, 401, 402, 403, 404, 405, 406, 407, 408, 409, 410] (by decide +kernel) (by decide +kernel)
set_option maxRecDepth 20000 in
theorem gL_law_X5_fill : GoodIn wsL_law (wsV RL 64 RX5 yX5_fill wsX5_fill) := goodIn_app (goodIn_of _ (by decide +kernel)) ggL_law_X5_fill
set_option maxRecDepth 20000 in
theorem ggL_law_X4_scribe : GoodIn wsL_law wsX4_scribe := goodIn_r _ [304, 21, 183, 305, 306, 190, 191, 2, 192, 394, 395, 396, 397, 398, 399, 414, 415, 416, 417] (by decide +kernel) (by decide +kernel)
set_option maxRecDepth 20000 in
theorem gL_law_X4_scribe : GoodIn wsL_law (wsV RL 65 RX4 yX4_scribe wsX4_scribe) := goodIn_app (goodIn_of _ (by decide +kernel)) ggL_law_X4_scribe
set_option maxRecDepth 20000 in
theorem ggL_law_X5_scribe : GoodIn wsL_law wsX5_scribe := goodIn_r _ [310, 81, 60, 63, 61, 251, 252, 5, 253, 400, 401, 402, 403, 404, 405, 406, 407, 408, 409, 410] (by decide +kernel) (by decide +kernel)
set_option maxRecDepth 20000 in
theorem gL_law_X5_scribe : GoodIn wsL_law (wsV RL 68 RX5 yX5_scribe wsX5_scribe) := goodIn_app (goodIn_of _ (by decide +kernel)) ggL_law_X5_scribe
set_option maxRecDepth 20000 in
theorem ggL_law_L_sign : GoodIn wsL_law wsL_sign := goodIn_ca (goodIn_ca (goodIn_r _ [314, 315, 316, 317, 318, 319, 2, 320, 321, 322, 323, 324, 19, 70, 71, 72, 123, 124, 125, 16, 126, 34, 127, 128, 129, 130, 35, 325, 326, 327, 328, 329, 36, 206, 120, 121, 122, 394, 395, 396, 397, 398, 399, 411, 412, 413] (by decide +kernel) (by decide +kernel)) (goodIn_sub (fun _ h => List.mem_append_left _ (List.mem_append_right _ h)) (by decide +kernel))) (goodIn_sub (fun _ h => List.mem_append_right _ h) (by decide +kernel))
set_option maxRecDepth 20000 in
theorem gL_law_L_sign : GoodIn wsL_law (va_wsS RL 69 yL_sign wsL_sign) := goodIn_app (goodIn_of _ (by decide +kernel)) ggL_law_L_sign
set_option maxRecDepth 20000 in
theorem ggL_law_X5_sign : GoodIn wsL_law wsX5_sign := goodIn_r _ [333, 81, 56, 58, 59, 82, 83, 5, 84, 400, 401, 402, 403, 404, 405, 406, 407, 408, 409, 410] (by decide +kernel) (by decide +kernel)
set_option maxRecDepth 20000 in
theorem gL_law_X5_sign : GoodIn wsL_law (wsV RL 74 RX5 yX5_sign wsX5_sign) := goodIn_app (goodIn_of _ (by decide +kernel)) ggL_law_X5_sign
set_option maxRecDepth 20000 in
theorem ggL_law_X5_thrown : GoodIn wsL_law wsX5_thrown := goodIn_r _ [337, 81, 400, 401, 402, 403, 404, 405, 406, 407, 408, 409, 410] (by decide +kernel) (by decide +kernel)
set_option maxRecDepth 20000 in
theorem gL_law_X5_thrown : GoodIn wsL_law (wsV RL 75 RX5 yX5_thrown wsX5_thrown) := goodIn_app (goodIn_of _ (by decide +kernel)) ggL_law_X5_thrown
set_option maxRecDepth 20000 in
theorem ggL_law_X4_book : GoodIn wsL_law wsX4_book := goodIn_r _ [341, 19, 117, 70, 71, 2, 72, 123, 124, 125, 16, 126, 34, 342, 343, 344, 345, 35, 394, 395, 396, 397, 398, 399, 411, 412, 413] (by decide +kernel) (by decide +kernel)
set_option maxRecDepth 20000 in
theorem gL_law_X4_book : GoodIn wsL_law (wsV RL 78 RX4 yX4_book wsX4_book) := goodIn_app (goodIn_of _ (by decide +kernel)) ggL_law_X4_book
set_option maxRecDepth 20000 in
theorem ggL_law_X5_book : GoodIn wsL_law wsX5_book := goodIn_r _ [349, 81, 56, 57, 58, 82, 83, 5, 84, 400, 401, 402, 403, 404, 405, 406, 407, 408, 409, 410] (by decide +kernel) (by decide +kernel)
set_option maxRecDepth 20000 in
theorem gL_law_X5_book : GoodIn wsL_law (wsV RL 81 RX5 yX5_book wsX5_book) := goodIn_app (goodIn_of _ (by decide +kernel)) ggL_law_X5_book
set_option maxRecDepth 20000 in
theorem ggL_law_X4_differ : GoodIn wsL_law wsX4_differ := goodIn_r _ [353, 19, 70, 71, 2, 72, 198, 199, 200, 117, 201, 202, 203, 16, 204, 34, 205, 124, 125, 126, 206, 120, 121, 122, 354, 355, 356, 296, 244, 245, 246, 118, 357, 342, 343, 344, 345, 35, 394, 395, 396, 397, 398, 399, 411, 412, 413] (by decide +kernel) (by decide +kernel)
set_option maxRecDepth 20000 in
theorem gL_law_X4_differ : GoodIn wsL_law (wsV RL 82 RX4 yX4_differ wsX4_differ) := goodIn_app (goodIn_of _ (by decide +kernel)) ggL_law_X4_differ
set_option maxRecDepth 20000 in
theorem ggL_law_X5_differ : GoodIn wsL_law wsX5_differ := goodIn_r _ [361, 81, 56, 58, 59, 82, 83, 5, 84, 258, 259, 260, 261, 57, 400, 401, 402, 403, 404, 405, 406, 407, 408, 409, 410] (by decide +kernel) (by decide +kernel)
set_option maxRecDepth 20000 in
theorem gL_law_X5_differ : GoodIn wsL_law (wsV RL 85 RX5 yX5_differ wsX5_differ) := goodIn_app (goodIn_of _ (by decide +kernel)) ggL_law_X5_differ
set_option maxRecDepth 20000 in
theorem ggL_law_X4_chronicle : GoodIn wsL_law wsX4_chronicle := goodIn_r _ [365, 27, 366, 367, 368, 369, 370, 371, 372, 26, 373, 242, 374, 375, 376, 377, 238, 378, 379, 380, 381, 394, 395, 396, 397, 398, 399, 418, 419, 420, 421, 422, 423] (by decide +kernel) (by decide +kernel)
set_option maxRecDepth 20000 in
theorem gL_law_X4_chronicle : GoodIn wsL_law (wsV RL 86 RX4 yX4_chronicle wsX4_chronicle) := goodIn_app (goodIn_of _ (by decide +kernel)) ggL_law_X4_chronicle
set_option maxRecDepth 20000 in
theorem ggL_law_X5_chronicle : GoodIn wsL_law wsX5_chronicle := goodIn_r _ [385, 81, 65, 64, 400, 401, 402, 403, 404, 405, 406, 407, 408, 409, 410] (by decide +kernel) (by decide +kernel)
set_option maxRecDepth 20000 in
theorem gL_law_X5_chronicle : GoodIn wsL_law (wsV RL 89 RX5 yX5_chronicle wsX5_chronicle) := goodIn_app (goodIn_of _ (by decide +kernel)) ggL_law_X5_chronicle
set_option maxRecDepth 20000 in
theorem ggL_law_X4_count : GoodIn wsL_law wsX4_count := goodIn_r _ [389, 29, 394, 395, 396, 397, 398, 399] (by decide +kernel) (by decide +kernel)
set_option maxRecDepth 20000 in
theorem gL_law_X4_count : GoodIn wsL_law (wsV RL 90 RX4 yX4_count wsX4_count) := goodIn_app (goodIn_of _ (by decide +kernel)) ggL_law_X4_count
set_option maxRecDepth 20000 in
theorem ggL_law_X5_count : GoodIn wsL_law wsX5_count := goodIn_r _ [393, 81, 65, 400, 401, 402, 403, 404, 405, 406, 407, 408, 409, 410] (by decide +kernel) (by decide +kernel)
set_option maxRecDepth 20000 in
theorem gL_law_X5_count : GoodIn wsL_law (wsV RL 93 RX5 yX5_count wsX5_count) := goodIn_app (goodIn_of _ (by decide +kernel)) ggL_law_X5_count
