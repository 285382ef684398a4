theorem dX5_init_39 : decode cX5_init 39 = .ok (.newarray .int, 2) := by decide +kernel
theorem dX5_init_41 : decode cX5_init 41 = .ok (.putfield 13, 3) := by decide +kernel
theorem dX5_init_44 : decode cX5_init 44 = .ok (.aload_n 0, 1) := by decide +kernel
theorem dX5_init_45 : decode cX5_init 45 = .ok (.bipush 6, 2) := by decide +kernel
theorem dX5_init_47 : decode cX5_init 47 = .ok (.newarray .int, 2) := by decide +kernel
theorem dX5_init_49 : decode cX5_init 49 = .ok (.putfield 16, 3) := by decide +kernel
theorem dX5_init_52 : decode cX5_init 52 = .ok (.aload_n 0, 1) := by decide +kernel
theorem dX5_init_53 : decode cX5_init 53 = .ok (.sipush 240, 3) := by decide +kernel
theorem dX5_init_56 : decode cX5_init 56 = .ok (.newarray .long, 2) := by decide +kernel
theorem dX5_init_58 : decode cX5_init 58 = .ok (.putfield 19, 3) := by decide +kernel
theorem dX5_init_61 : decode cX5_init 61 = .ok (.aload_n 0, 1) := by decide +kernel
theorem dX5_init_62 : decode cX5_init 62 = .ok (.iconst 3, 1) := by decide +kernel
theorem dX5_init_63 : decode cX5_init 63 = .ok (.newarray .int, 2) := by decide +kernel
theorem dX5_init_65 : decode cX5_init 65 = .ok (.dup, 1) := by decide +kernel
theorem dX5_init_66 : decode cX5_init 66 = .ok (.iconst 0, 1) := by decide +kernel
theorem dX5_init_67 : decode cX5_init 67 = .ok (.bipush 100, 2) := by decide +kernel
theorem dX5_init_69 : decode cX5_init 69 = .ok (.iastore, 1) := by decide +kernel
theorem dX5_init_70 : decode cX5_init 70 = .ok (.dup, 1) := by decide +kernel
theorem dX5_init_71 : decode cX5_init 71 = .ok (.iconst 1, 1) := by decide +kernel
theorem dX5_init_72 : decode cX5_init 72 = .ok (.bipush 100, 2) := by decide +kernel
theorem dX5_init_74 : decode cX5_init 74 = .ok (.iastore, 1) := by decide +kernel
theorem dX5_init_75 : decode cX5_init 75 = .ok (.dup, 1) := by decide +kernel
theorem dX5_init_76 : decode cX5_init 76 = .ok (.iconst 2, 1) := by decide +kernel
theorem dX5_init_77 : decode cX5_init 77 = .ok (.bipush 100, 2) := by decide +kernel
theorem dX5_init_79 : decode cX5_init 79 = .ok (.iastore, 1) := by decide +kernel
theorem dX5_init_80 : decode cX5_init 80 = .ok (.putfield 23, 3) := by decide +kernel
theorem dX5_init_83 : decode cX5_init 83 = .ok (.aload_n 0, 1) := by decide +kernel
theorem dX5_init_84 : decode cX5_init 84 = .ok (.iconst 3, 1) := by decide +kernel
theorem dX5_init_85 : decode cX5_init 85 = .ok (.newarray .int, 2) := by decide +kernel
theorem dX5_init_87 : decode cX5_init 87 = .ok (.putfield 26, 3) := by decide +kernel
theorem dX5_init_90 : decode cX5_init 90 = .ok (.aload_n 0, 1) := by decide +kernel
theorem dX5_init_91 : decode cX5_init 91 = .ok (.bipush 120, 2) := by decide +kernel
theorem dX5_init_93 : decode cX5_init 93 = .ok (.newarray .int, 2) := by decide +kernel
theorem dX5_init_95 : decode cX5_init 95 = .ok (.putfield 29, 3) := by decide +kernel
theorem dX5_init_98 : decode cX5_init 98 = .ok (.aload_n 0, 1) := by decide +kernel
theorem dX5_init_99 : decode cX5_init 99 = .ok (.iconst 3, 1) := by decide +kernel
theorem dX5_init_100 : decode cX5_init 100 = .ok (.newarray .int, 2) := by decide +kernel
theorem dX5_init_102 : decode cX5_init 102 = .ok (.putfield 32, 3) := by decide +kernel
theorem dX5_init_105 : decode cX5_init 105 = .ok (.aload_n 0, 1) := by decide +kernel
theorem dX5_init_106 : decode cX5_init 106 = .ok (.bipush 64, 2) := by decide +kernel
theorem dX5_init_108 : decode cX5_init 108 = .ok (.newarray .int, 2) := by decide +kernel
theorem dX5_init_110 : decode cX5_init 110 = .ok (.putfield 35, 3) := by decide +kernel
theorem dX5_init_113 : decode cX5_init 113 = .ok (.aload_n 0, 1) := by decide +kernel
theorem dX5_init_114 : decode cX5_init 114 = .ok (.bipush 8, 2) := by decide +kernel
theorem dX5_init_116 : decode cX5_init 116 = .ok (.newarray .int, 2) := by decide +kernel
theorem dX5_init_118 : decode cX5_init 118 = .ok (.putfield 38, 3) := by decide +kernel
theorem dX5_init_121 : decode cX5_init 121 = .ok (.return_, 1) := by decide +kernel
theorem dX5_thrown_0 : decode cX5_thrown 0 = .ok (.aload_n 0, 1) := by decide +kernel
theorem dX5_thrown_1 : decode cX5_thrown 1 = .ok (.getfield 41, 3) := by decide +kernel
theorem dX5_thrown_4 : decode cX5_thrown 4 = .ok (.ireturn, 1) := by decide +kernel
theorem dX5_isDesk_0 : decode cX5_isDesk 0 = .ok (.iload_n 0, 1) := by decide +kernel
theorem dX5_isDesk_1 : decode cX5_isDesk 1 = .ok (.ifCond .lt 13, 3) := by decide +kernel
theorem dX5_isDesk_4 : decode cX5_isDesk 4 = .ok (.iload_n 0, 1) := by decide +kernel
theorem dX5_isDesk_5 : decode cX5_isDesk 5 = .ok (.bipush 6, 2) := by decide +kernel
theorem dX5_isDesk_7 : decode cX5_isDesk 7 = .ok (.if_icmp .ge 7, 3) := by decide +kernel
theorem dX5_isDesk_10 : decode cX5_isDesk 10 = .ok (.iconst 1, 1) := by decide +kernel
theorem dX5_isDesk_11 : decode cX5_isDesk 11 = .ok (.goto 4, 3) := by decide +kernel
theorem dX5_isDesk_14 : decode cX5_isDesk 14 = .ok (.iconst 0, 1) := by decide +kernel
theorem dX5_isDesk_15 : decode cX5_isDesk 15 = .ok (.ireturn, 1) := by decide +kernel
theorem dX5_isScribe_0 : decode cX5_isScribe 0 = .ok (.iload_n 0, 1) := by decide +kernel
theorem dX5_isScribe_1 : decode cX5_isScribe 1 = .ok (.ifCond .lt 12, 3) := by decide +kernel
theorem dX5_isScribe_4 : decode cX5_isScribe 4 = .ok (.iload_n 0, 1) := by decide +kernel
theorem dX5_isScribe_5 : decode cX5_isScribe 5 = .ok (.iconst 3, 1) := by decide +kernel
theorem dX5_isScribe_6 : decode cX5_isScribe 6 = .ok (.if_icmp .ge 7, 3) := by decide +kernel
theorem dX5_isScribe_9 : decode cX5_isScribe 9 = .ok (.iconst 1, 1) := by decide +kernel
theorem dX5_isScribe_10 : decode cX5_isScribe 10 = .ok (.goto 4, 3) := by decide +kernel
theorem dX5_isScribe_13 : decode cX5_isScribe 13 = .ok (.iconst 0, 1) := by decide +kernel
theorem dX5_isScribe_14 : decode cX5_isScribe 14 = .ok (.ireturn, 1) := by decide +kernel
theorem dX5_isUsed_0 : decode cX5_isUsed 0 = .ok (.iconst 0, 1) := by decide +kernel
theorem dX5_isUsed_1 : decode cX5_isUsed 1 = .ok (.istore_n 3, 1) := by decide +kernel
theorem dX5_isUsed_2 : decode cX5_isUsed 2 = .ok (.iload_n 3, 1) := by decide +kernel
theorem dX5_isUsed_3 : decode cX5_isUsed 3 = .ok (.bipush 6, 2) := by decide +kernel
theorem dX5_isUsed_5 : decode cX5_isUsed 5 = .ok (.if_icmp .ge 26, 3) := by decide +kernel
theorem dX5_isUsed_8 : decode cX5_isUsed 8 = .ok (.iload_n 3, 1) := by decide +kernel
theorem dX5_isUsed_9 : decode cX5_isUsed 9 = .ok (.iload_n 2, 1) := by decide +kernel
theorem dX5_isUsed_10 : decode cX5_isUsed 10 = .ok (.if_icmp .eq 15, 3) := by decide +kernel
theorem dX5_isUsed_13 : decode cX5_isUsed 13 = .ok (.aload_n 0, 1) := by decide +kernel
theorem dX5_isUsed_14 : decode cX5_isUsed 14 = .ok (.getfield 7, 3) := by decide +kernel
theorem dX5_isUsed_17 : decode cX5_isUsed 17 = .ok (.iload_n 3, 1) := by decide +kernel
theorem dX5_isUsed_18 : decode cX5_isUsed 18 = .ok (.iaload, 1) := by decide +kernel
theorem dX5_isUsed_19 : decode cX5_isUsed 19 = .ok (.iload_n 1, 1) := by decide +kernel
theorem dX5_isUsed_20 : decode cX5_isUsed 20 = .ok (.if_icmp .ne 5, 3) := by decide +kernel
theorem dX5_isUsed_23 : decode cX5_isUsed 23 = .ok (.iconst 1, 1) := by decide +kernel
theorem dX5_isUsed_24 : decode cX5_isUsed 24 = .ok (.ireturn, 1) := by decide +kernel
theorem dX5_isUsed_25 : decode cX5_isUsed 25 = .ok (.iinc 3 1, 3) := by decide +kernel
theorem dX5_isUsed_28 : decode cX5_isUsed 28 = .ok (.goto (-26), 3) := by decide +kernel
theorem dX5_isUsed_31 : decode cX5_isUsed 31 = .ok (.iconst 0, 1) := by decide +kernel
theorem dX5_isUsed_32 : decode cX5_isUsed 32 = .ok (.ireturn, 1) := by decide +kernel
set_option maxRecDepth 20000 in
theorem ggX5_bind_X5_isDesk : GoodIn wsX5_bind wsX5_isDesk := goodIn_r _ [10] (by decide +kernel) (by decide +kernel)
set_option maxRecDepth 20000 in
theorem gX5_bind_X5_isDesk : GoodIn wsX5_bind (va_wsS RX5 45 yX5_isDesk wsX5_isDesk) := goodIn_app (goodIn_of _ (by decide +kernel)) ggX5_bind_X5_isDesk
set_option maxRecDepth 20000 in
theorem ggX5_bind_X5_isUsed : GoodIn wsX5_bind wsX5_isUsed := goodIn_r _ [14, 2, 15, 16, 17, 18, 19, 20, 21, 22, 23, 24, 25] (by decide +kernel) (by decide +kernel)
set_option maxRecDepth 20000 in
theorem gX5_bind_X5_isUsed : GoodIn wsX5_bind (wsV RX5 49 RX5 yX5_isUsed wsX5_isUsed) := goodIn_app (goodIn_of _ (by decide +kernel)) ggX5_bind_X5_isUsed
theorem dX5_bind_0 : decode cX5_bind 0 = .ok (.aload_n 0, 1) := by decide +kernel
theorem dX5_bind_1 : decode cX5_bind 1 = .ok (.iconst 0, 1) := by decide +kernel
theorem dX5_bind_2 : decode cX5_bind 2 = .ok (.putfield 41, 3) := by decide +kernel
theorem dX5_bind_5 : decode cX5_bind 5 = .ok (.iload_n 1, 1) := by decide +kernel
theorem dX5_bind_6 : decode cX5_bind 6 = .ok (.invokestatic 45, 3) := by decide +kernel
theorem dX5_bind_9 : decode cX5_bind 9 = .ok (.ifCond .eq 23, 3) := by decide +kernel
theorem dX5_bind_12 : decode cX5_bind 12 = .ok (.iload_n 2, 1) := by decide +kernel
theorem dX5_bind_13 : decode cX5_bind 13 = .ok (.ifCond .lt 19, 3) := by decide +kernel
theorem dX5_bind_16 : decode cX5_bind 16 = .ok (.iload_n 2, 1) := by decide +kernel
theorem dX5_bind_17 : decode cX5_bind 17 = .ok (.bipush 8, 2) := by decide +kernel
theorem dX5_bind_19 : decode cX5_bind 19 = .ok (.if_icmp .gt 13, 3) := by decide +kernel
theorem dX5_bind_22 : decode cX5_bind 22 = .ok (.iload_n 3, 1) := by decide +kernel
theorem dX5_bind_23 : decode cX5_bind 23 = .ok (.ifCond .lt 9, 3) := by decide +kernel
theorem dX5_bind_26 : decode cX5_bind 26 = .ok (.iload_n 3, 1) := by decide +kernel
theorem dX5_bind_27 : decode cX5_bind 27 = .ok (.bipush 40, 2) := by decide +kernel
theorem dX5_bind_29 : decode cX5_bind 29 = .ok (.if_icmp .le 6, 3) := by decide +kernel
theorem dX5_bind_32 : decode cX5_bind 32 = .ok (.bipush (-99), 2) := by decide +kernel
theorem dX5_bind_34 : decode cX5_bind 34 = .ok (.ireturn, 1) := by decide +kernel
theorem dX5_bind_35 : decode cX5_bind 35 = .ok (.iconst 0, 1) := by decide +kernel
theorem dX5_bind_36 : decode cX5_bind 36 = .ok (.istore 4, 2) := by decide +kernel
theorem dX5_bind_38 : decode cX5_bind 38 = .ok (.aload_n 0, 1) := by decide +kernel
theorem dX5_bind_39 : decode cX5_bind 39 = .ok (.iload 4, 2) := by decide +kernel
theorem dX5_bind_41 : decode cX5_bind 41 = .ok (.iload_n 1, 1) := by decide +kernel
theorem dX5_bind_42 : decode cX5_bind 42 = .ok (.invokevirtual 49, 3) := by decide +kernel
theorem dX5_bind_45 : decode cX5_bind 45 = .ok (.ifCond .eq 9, 3) := by decide +kernel
theorem dX5_bind_48 : decode cX5_bind 48 = .ok (.iinc 4 1, 3) := by decide +kernel
theorem dX5_bind_51 : decode cX5_bind 51 = .ok (.goto (-13), 3) := by decide +kernel
theorem dX5_bind_54 : decode cX5_bind 54 = .ok (.aload_n 0, 1) := by decide +kernel
theorem dX5_bind_55 : decode cX5_bind 55 = .ok (.getfield 7, 3) := by decide +kernel
theorem dX5_bind_58 : decode cX5_bind 58 = .ok (.iload_n 1, 1) := by decide +kernel
theorem dX5_bind_59 : decode cX5_bind 59 = .ok (.iload 4, 2) := by decide +kernel
theorem dX5_bind_61 : decode cX5_bind 61 = .ok (.iastore, 1) := by decide +kernel
theorem dX5_bind_62 : decode cX5_bind 62 = .ok (.aload_n 0, 1) := by decide +kernel
theorem dX5_bind_63 : decode cX5_bind 63 = .ok (.getfield 13, 3) := by decide +kernel
theorem dX5_bind_66 : decode cX5_bind 66 = .ok (.iload 4, 2) := by decide +kernel
theorem dX5_bind_68 : decode cX5_bind 68 = .ok (.iload_n 2, 1) := by decide +kernel
theorem dX5_bind_69 : decode cX5_bind 69 = .ok (.iastore, 1) := by decide +kernel
theorem dX5_bind_70 : decode cX5_bind 70 = .ok (.aload_n 0, 1) := by decide +kernel
theorem dX5_bind_71 : decode cX5_bind 71 = .ok (.getfield 16, 3) := by decide +kernel
theorem dX5_bind_74 : decode cX5_bind 74 = .ok (.iload 4, 2) := by decide +kernel
theorem dX5_bind_76 : decode cX5_bind 76 = .ok (.iload_n 3, 1) := by decide +kernel
theorem dX5_bind_77 : decode cX5_bind 77 = .ok (.iastore, 1) := by decide +kernel
theorem dX5_bind_78 : decode cX5_bind 78 = .ok (.iconst 0, 1) := by decide +kernel
theorem dX5_bind_79 : decode cX5_bind 79 = .ok (.istore 5, 2) := by decide +kernel
theorem dX5_bind_81 : decode cX5_bind 81 = .ok (.iload 5, 2) := by decide +kernel
theorem dX5_bind_83 : decode cX5_bind 83 = .ok (.bipush 40, 2) := by decide +kernel
theorem dX5_bind_85 : decode cX5_bind 85 = .ok (.if_icmp .ge 23, 3) := by decide +kernel
theorem dX5_bind_88 : decode cX5_bind 88 = .ok (.aload_n 0, 1) := by decide +kernel
theorem dX5_bind_89 : decode cX5_bind 89 = .ok (.getfield 19, 3) := by decide +kernel
theorem dX5_bind_92 : decode cX5_bind 92 = .ok (.bipush 40, 2) := by decide +kernel
theorem dX5_bind_94 : decode cX5_bind 94 = .ok (.iload 4, 2) := by decide +kernel
theorem dX5_bind_96 : decode cX5_bind 96 = .ok (.imul, 1) := by decide +kernel
theorem dX5_bind_97 : decode cX5_bind 97 = .ok (.iload 5, 2) := by decide +kernel
theorem dX5_bind_99 : decode cX5_bind 99 = .ok (.iadd, 1) := by decide +kernel
theorem dX5_bind_100 : decode cX5_bind 100 = .ok (.lconst 0, 1) := by decide +kernel
theorem dX5_bind_101 : decode cX5_bind 101 = .ok (.lastore, 1) := by decide +kernel
theorem dX5_bind_102 : decode cX5_bind 102 = .ok (.iinc 5 1, 3) := by decide +kernel
theorem dX5_bind_105 : decode cX5_bind 105 = .ok (.goto (-24), 3) := by decide +kernel
theorem dX5_bind_108 : decode cX5_bind 108 = .ok (.aload_n 0, 1) := by decide +kernel
theorem dX5_bind_109 : decode cX5_bind 109 = .ok (.getfield 38, 3) := by decide +kernel
theorem dX5_bind_112 : decode cX5_bind 112 = .ok (.bipush 7, 2) := by decide +kernel
theorem dX5_bind_114 : decode cX5_bind 114 = .ok (.dup2, 1) := by decide +kernel
theorem dX5_bind_115 : decode cX5_bind 115 = .ok (.iaload, 1) := by decide +kernel
theorem dX5_bind_116 : decode cX5_bind 116 = .ok (.iconst 1, 1) := by decide +kernel
theorem dX5_bind_117 : decode cX5_bind 117 = .ok (.iadd, 1) := by decide +kernel
theorem dX5_bind_118 : decode cX5_bind 118 = .ok (.iastore, 1) := by decide +kernel
theorem dX5_bind_119 : decode cX5_bind 119 = .ok (.iconst 0, 1) := by decide +kernel
theorem dX5_bind_120 : decode cX5_bind 120 = .ok (.ireturn, 1) := by decide +kernel
set_option maxRecDepth 20000 in
theorem ggX5_stone_X5_isDesk : GoodIn wsX5_stone wsX5_isDesk := goodIn_r _ [6] (by decide +kernel) (by decide +kernel)
set_option maxRecDepth 20000 in
theorem gX5_stone_X5_isDesk : GoodIn wsX5_stone (va_wsS RX5 45 yX5_isDesk wsX5_isDesk) := goodIn_app (goodIn_of _ (by decide +kernel)) ggX5_stone_X5_isDesk
theorem dX5_stone_0 : decode cX5_stone 0 = .ok (.aload_n 0, 1) := by decide +kernel
theorem dX5_stone_1 : decode cX5_stone 1 = .ok (.iconst 0, 1) := by decide +kernel
theorem dX5_stone_2 : decode cX5_stone 2 = .ok (.putfield 41, 3) := by decide +kernel
theorem dX5_stone_5 : decode cX5_stone 5 = .ok (.iload_n 1, 1) := by decide +kernel
theorem dX5_stone_6 : decode cX5_stone 6 = .ok (.invokestatic 45, 3) := by decide +kernel
theorem dX5_stone_9 : decode cX5_stone 9 = .ok (.ifCond .ne 6, 3) := by decide +kernel
theorem dX5_stone_12 : decode cX5_stone 12 = .ok (.bipush (-99), 2) := by decide +kernel
theorem dX5_stone_14 : decode cX5_stone 14 = .ok (.ireturn, 1) := by decide +kernel
theorem dX5_stone_15 : decode cX5_stone 15 = .ok (.aload_n 0, 1) := by decide +kernel
theorem dX5_stone_16 : decode cX5_stone 16 = .ok (.getfield 7, 3) := by decide +kernel
theorem dX5_stone_19 : decode cX5_stone 19 = .ok (.iload_n 1, 1) := by decide +kernel
theorem dX5_stone_20 : decode cX5_stone 20 = .ok (.bipush (-2), 2) := by decide +kernel
theorem dX5_stone_22 : decode cX5_stone 22 = .ok (.iastore, 1) := by decide +kernel
theorem dX5_stone_23 : decode cX5_stone 23 = .ok (.iconst 0, 1) := by decide +kernel
theorem dX5_stone_24 : decode cX5_stone 24 = .ok (.ireturn, 1) := by decide +kernel
set_option maxRecDepth 20000 in
theorem ggX5_share_X5_isDesk : GoodIn wsX5_share wsX5_isDesk := goodIn_r _ [6] (by decide +kernel) (by decide +kernel)
set_option maxRecDepth 20000 in
theorem gX5_share_X5_isDesk : GoodIn wsX5_share (va_wsS RX5 45 yX5_isDesk wsX5_isDesk) := goodIn_app (goodIn_of _ (by decide +kernel)) ggX5_share_X5_isDesk
theorem dX5_share_0 : decode cX5_share 0 = .ok (.aload_n 0, 1) := by decide +kernel
theorem dX5_share_1 : decode cX5_share 1 = .ok (.iconst 0, 1) := by decide +kernel
theorem dX5_share_2 : decode cX5_share 2 = .ok (.putfield 41, 3) := by decide +kernel
theorem dX5_share_5 : decode cX5_share 5 = .ok (.iload_n 1, 1) := by decide +kernel
theorem dX5_share_6 : decode cX5_share 6 = .ok (.invokestatic 45, 3) := by decide +kernel
theorem dX5_share_9 : decode cX5_share 9 = .ok (.ifCond .eq 10, 3) := by decide +kernel
theorem dX5_share_12 : decode cX5_share 12 = .ok (.iload_n 2, 1) := by decide +kernel
theorem dX5_share_13 : decode cX5_share 13 = .ok (.invokestatic 45, 3) := by decide +kernel
theorem dX5_share_16 : decode cX5_share 16 = .ok (.ifCond .ne 6, 3) := by decide +kernel
theorem dX5_share_19 : decode cX5_share 19 = .ok (.bipush (-99), 2) := by decide +kernel
theorem dX5_share_21 : decode cX5_share 21 = .ok (.ireturn, 1) := by decide +kernel
theorem dX5_share_22 : decode cX5_share 22 = .ok (.aload_n 0, 1) := by decide +kernel
theorem dX5_share_23 : decode cX5_share 23 = .ok (.getfield 7, 3) := by decide +kernel
theorem dX5_share_26 : decode cX5_share 26 = .ok (.iload_n 2, 1) := by decide +kernel
theorem dX5_share_27 : decode cX5_share 27 = .ok (.aload_n 0, 1) := by decide +kernel
theorem dX5_share_28 : decode cX5_share 28 = .ok (.getfield 7, 3) := by decide +kernel
theorem dX5_share_31 : decode cX5_share 31 = .ok (.iload_n 1, 1) := by decide +kernel
theorem dX5_share_32 : decode cX5_share 32 = .ok (.iaload, 1) := by decide +kernel
theorem dX5_share_33 : decode cX5_share 33 = .ok (.iastore, 1) := by decide +kernel
theorem dX5_share_34 : decode cX5_share 34 = .ok (.iconst 0, 1) := by decide +kernel
theorem dX5_share_35 : decode cX5_share 35 = .ok (.ireturn, 1) := by decide +kernel
set_option maxRecDepth 20000 in
theorem ggX5_clear_X5_isDesk : GoodIn wsX5_clear wsX5_isDesk := goodIn_r _ [6] (by decide +kernel) (by decide +kernel)
set_option maxRecDepth 20000 in
theorem gX5_clear_X5_isDesk : GoodIn wsX5_clear (va_wsS RX5 45 yX5_isDesk wsX5_isDesk) := goodIn_app (goodIn_of _ (by decide +kernel)) ggX5_clear_X5_isDesk
theorem dX5_clear_0 : decode cX5_clear 0 = .ok (.aload_n 0, 1) := by decide +kernel
theorem dX5_clear_1 : decode cX5_clear 1 = .ok (.iconst 0, 1) := by decide +kernel
theorem dX5_clear_2 : decode cX5_clear 2 = .ok (.putfield 41, 3) := by decide +kernel
theorem dX5_clear_5 : decode cX5_clear 5 = .ok (.iload_n 1, 1) := by decide +kernel
theorem dX5_clear_6 : decode cX5_clear 6 = .ok (.invokestatic 45, 3) := by decide +kernel
theorem dX5_clear_9 : decode cX5_clear 9 = .ok (.ifCond .ne 6, 3) := by decide +kernel
theorem dX5_clear_12 : decode cX5_clear 12 = .ok (.bipush (-99), 2) := by decide +kernel
theorem dX5_clear_14 : decode cX5_clear 14 = .ok (.ireturn, 1) := by decide +kernel
theorem dX5_clear_15 : decode cX5_clear 15 = .ok (.aload_n 0, 1) := by decide +kernel
theorem dX5_clear_16 : decode cX5_clear 16 = .ok (.getfield 7, 3) := by decide +kernel
theorem dX5_clear_19 : decode cX5_clear 19 = .ok (.iload_n 1, 1) := by decide +kernel
theorem dX5_clear_20 : decode cX5_clear 20 = .ok (.iconst (-1), 1) := by decide +kernel
theorem dX5_clear_21 : decode cX5_clear 21 = .ok (.iastore, 1) := by decide +kernel
theorem dX5_clear_22 : decode cX5_clear 22 = .ok (.iconst 0, 1) := by decide +kernel
theorem dX5_clear_23 : decode cX5_clear 23 = .ok (.ireturn, 1) := by decide +kernel
theorem dX5_isPictures_0 : decode cX5_isPictures 0 = .ok (.aload_n 0, 1) := by decide +kernel
theorem dX5_isPictures_1 : decode cX5_isPictures 1 = .ok (.getfield 13, 3) := by decide +kernel
theorem dX5_isPictures_4 : decode cX5_isPictures 4 = .ok (.iload_n 1, 1) := by decide +kernel
theorem dX5_isPictures_5 : decode cX5_isPictures 5 = .ok (.iaload, 1) := by decide +kernel
theorem dX5_isPictures_6 : decode cX5_isPictures 6 = .ok (.iconst 5, 1) := by decide +kernel
theorem dX5_isPictures_7 : decode cX5_isPictures 7 = .ok (.if_icmp .le 7, 3) := by decide +kernel
theorem dX5_isPictures_10 : decode cX5_isPictures 10 = .ok (.iconst 1, 1) := by decide +kernel
theorem dX5_isPictures_11 : decode cX5_isPictures 11 = .ok (.goto 4, 3) := by decide +kernel
theorem dX5_isPictures_14 : decode cX5_isPictures 14 = .ok (.iconst 0, 1) := by decide +kernel
theorem dX5_isPictures_15 : decode cX5_isPictures 15 = .ok (.ireturn, 1) := by decide +kernel
theorem dX5_may_0 : decode cX5_may 0 = .ok (.lload_n 2, 1) := by decide +kernel
theorem dX5_may_1 : decode cX5_may 1 = .ok (.ldc2_w 53, 3) := by decide +kernel
theorem dX5_may_4 : decode cX5_may 4 = .ok (.land, 1) := by decide +kernel
theorem dX5_may_5 : decode cX5_may 5 = .ok (.l2i, 1) := by decide +kernel
theorem dX5_may_6 : decode cX5_may 6 = .ok (.istore 4, 2) := by decide +kernel
theorem dX5_may_8 : decode cX5_may 8 = .ok (.aload_n 0, 1) := by decide +kernel
theorem dX5_may_9 : decode cX5_may 9 = .ok (.getfield 13, 3) := by decide +kernel
theorem dX5_may_12 : decode cX5_may 12 = .ok (.iload_n 1, 1) := by decide +kernel
theorem dX5_may_13 : decode cX5_may 13 = .ok (.iaload, 1) := by decide +kernel
theorem dX5_may_14 : decode cX5_may 14 = .ok (.bipush 7, 2) := by decide +kernel
theorem dX5_may_16 : decode cX5_may 16 = .ok (.if_icmp .lt 22, 3) := by decide +kernel
theorem dX5_may_19 : decode cX5_may 19 = .ok (.iload 4, 2) := by decide +kernel
theorem dX5_may_21 : decode cX5_may 21 = .ok (.ifCond .eq 17, 3) := by decide +kernel
theorem dX5_may_24 : decode cX5_may 24 = .ok (.iload 4, 2) := by decide +kernel
theorem dX5_may_26 : decode cX5_may 26 = .ok (.aload_n 0, 1) := by decide +kernel
theorem dX5_may_27 : decode cX5_may 27 = .ok (.getfield 13, 3) := by decide +kernel
theorem dX5_may_30 : decode cX5_may 30 = .ok (.iload_n 1, 1) := by decide +kernel
theorem dX5_may_31 : decode cX5_may 31 = .ok (.iaload, 1) := by decide +kernel
theorem dX5_may_32 : decode cX5_may 32 = .ok (.bipush 6, 2) := by decide +kernel
theorem dX5_may_34 : decode cX5_may 34 = .ok (.isub, 1) := by decide +kernel
theorem dX5_may_35 : decode cX5_may 35 = .ok (.if_icmp .ne 7, 3) := by decide +kernel
theorem dX5_may_38 : decode cX5_may 38 = .ok (.iconst 1, 1) := by decide +kernel
theorem dX5_may_39 : decode cX5_may 39 = .ok (.goto 4, 3) := by decide +kernel
theorem dX5_may_42 : decode cX5_may 42 = .ok (.iconst 0, 1) := by decide +kernel
theorem dX5_may_43 : decode cX5_may 43 = .ok (.ireturn, 1) := by decide +kernel
theorem dX5_cut_0 : decode cX5_cut 0 = .ok (.iload_n 0, 1) := by decide +kernel
theorem dX5_cut_1 : decode cX5_cut 1 = .ok (.tableswitch 67 0 4 #[35, 43, 49, 57, 65], 35) := by decide +kernel
theorem dX5_cut_36 : decode cX5_cut 36 = .ok (.lload_n 1, 1) := by decide +kernel
theorem dX5_cut_37 : decode cX5_cut 37 = .ok (.bipush 56, 2) := by decide +kernel
theorem dX5_cut_39 : decode cX5_cut 39 = .ok (.lshl, 1) := by decide +kernel
theorem dX5_cut_40 : decode cX5_cut 40 = .ok (.bipush 56, 2) := by decide +kernel
theorem dX5_cut_42 : decode cX5_cut 42 = .ok (.lshr, 1) := by decide +kernel
theorem dX5_cut_43 : decode cX5_cut 43 = .ok (.lreturn, 1) := by decide +kernel
theorem dX5_cut_44 : decode cX5_cut 44 = .ok (.lload_n 1, 1) := by decide +kernel
theorem dX5_cut_45 : decode cX5_cut 45 = .ok (.ldc2_w 55, 3) := by decide +kernel
theorem dX5_cut_48 : decode cX5_cut 48 = .ok (.land, 1) := by decide +kernel
theorem dX5_cut_49 : decode cX5_cut 49 = .ok (.lreturn, 1) := by decide +kernel
theorem dX5_cut_50 : decode cX5_cut 50 = .ok (.lload_n 1, 1) := by decide +kernel
theorem dX5_cut_51 : decode cX5_cut 51 = .ok (.bipush 48, 2) := by decide +kernel
theorem dX5_cut_53 : decode cX5_cut 53 = .ok (.lshl, 1) := by decide +kernel
theorem dX5_cut_54 : decode cX5_cut 54 = .ok (.bipush 48, 2) := by decide +kernel
theorem dX5_cut_56 : decode cX5_cut 56 = .ok (.lshr, 1) := by decide +kernel
theorem dX5_cut_57 : decode cX5_cut 57 = .ok (.lreturn, 1) := by decide +kernel
theorem dX5_cut_58 : decode cX5_cut 58 = .ok (.lload_n 1, 1) := by decide +kernel
theorem dX5_cut_59 : decode cX5_cut 59 = .ok (.bipush 32, 2) := by decide +kernel
theorem dX5_cut_61 : decode cX5_cut 61 = .ok (.lshl, 1) := by decide +kernel
theorem dX5_cut_62 : decode cX5_cut 62 = .ok (.bipush 32, 2) := by decide +kernel
theorem dX5_cut_64 : decode cX5_cut 64 = .ok (.lshr, 1) := by decide +kernel
theorem dX5_cut_65 : decode cX5_cut 65 = .ok (.lreturn, 1) := by decide +kernel
theorem dX5_cut_66 : decode cX5_cut 66 = .ok (.lload_n 1, 1) := by decide +kernel
theorem dX5_cut_67 : decode cX5_cut 67 = .ok (.lreturn, 1) := by decide +kernel
theorem dX5_cut_68 : decode cX5_cut 68 = .ok (.lload_n 1, 1) := by decide +kernel
theorem dX5_cut_69 : decode cX5_cut 69 = .ok (.lconst 1, 1) := by decide +kernel
theorem dX5_cut_70 : decode cX5_cut 70 = .ok (.land, 1) := by decide +kernel
theorem dX5_cut_71 : decode cX5_cut 71 = .ok (.lreturn, 1) := by decide +kernel
set_option maxRecDepth 20000 in
theorem ggX5_write_X5_isDesk : GoodIn wsX5_write wsX5_isDesk := goodIn_r _ [10] (by decide +kernel) (by decide +kernel)
set_option maxRecDepth 20000 in
theorem gX5_write_X5_isDesk : GoodIn wsX5_write (va_wsS RX5 45 yX5_isDesk wsX5_isDesk) := goodIn_app (goodIn_of _ (by decide +kernel)) ggX5_write_X5_isDesk
set_option maxRecDepth 20000 in
theorem ggX5_write_X5_isPictures : GoodIn wsX5_write wsX5_isPictures := goodIn_r _ [14, 4, 24, 25, 26, 27, 28, 29, 30, 31, 32, 33, 34] (by decide +kernel) (by decide +kernel)
set_option maxRecDepth 20000 in
theorem gX5_write_X5_isPictures : GoodIn wsX5_write (wsV RX5 57 RX5 yX5_isPictures wsX5_isPictures) := goodIn_app (goodIn_of _ (by decide +kernel)) ggX5_write_X5_isPictures
set_option maxRecDepth 20000 in
theorem ggX5_write_X5_cut : GoodIn wsX5_write wsX5_cut := goodIn_r _ [17, 18] (by decide +kernel) (by decide +kernel)
set_option maxRecDepth 20000 in
theorem gX5_write_X5_cut : GoodIn wsX5_write (va_wsS RX5 60 yX5_cut wsX5_cut) := goodIn_app (goodIn_of _ (by decide +kernel)) ggX5_write_X5_cut
set_option maxRecDepth 20000 in
theorem ggX5_write_X5_may : GoodIn wsX5_write wsX5_may := goodIn_r _ [22, 23, 4, 24, 25, 26, 27, 28, 29, 30, 31, 32, 33, 34] (by decide +kernel) (by decide +kernel)
set_option maxRecDepth 20000 in
theorem gX5_write_X5_may : GoodIn wsX5_write (wsV RX5 66 RX5 yX5_may wsX5_may) := goodIn_app (goodIn_of _ (by decide +kernel)) ggX5_write_X5_may
theorem dX5_write_0 : decode cX5_write 0 = .ok (.aload_n 0, 1) := by decide +kernel
theorem dX5_write_1 : decode cX5_write 1 = .ok (.iconst 0, 1) := by decide +kernel
theorem dX5_write_2 : decode cX5_write 2 = .ok (.putfield 41, 3) := by decide +kernel
theorem dX5_write_5 : decode cX5_write 5 = .ok (.iload_n 1, 1) := by decide +kernel
theorem dX5_write_6 : decode cX5_write 6 = .ok (.invokestatic 45, 3) := by decide +kernel
theorem dX5_write_9 : decode cX5_write 9 = .ok (.ifCond .ne 6, 3) := by decide +kernel
theorem dX5_write_12 : decode cX5_write 12 = .ok (.bipush (-99), 2) := by decide +kernel
theorem dX5_write_14 : decode cX5_write 14 = .ok (.ireturn, 1) := by decide +kernel
theorem dX5_write_15 : decode cX5_write 15 = .ok (.aload_n 0, 1) := by decide +kernel
theorem dX5_write_16 : decode cX5_write 16 = .ok (.getfield 7, 3) := by decide +kernel
theorem dX5_write_19 : decode cX5_write 19 = .ok (.iload_n 1, 1) := by decide +kernel
theorem dX5_write_20 : decode cX5_write 20 = .ok (.iaload, 1) := by decide +kernel
theorem dX5_write_21 : decode cX5_write 21 = .ok (.istore 6, 2) := by decide +kernel
theorem dX5_write_23 : decode cX5_write 23 = .ok (.iload 6, 2) := by decide +kernel
theorem dX5_write_25 : decode cX5_write 25 = .ok (.ifCond .lt 24, 3) := by decide +kernel
theorem dX5_write_28 : decode cX5_write 28 = .ok (.aload_n 0, 1) := by decide +kernel
theorem dX5_write_29 : decode cX5_write 29 = .ok (.iload 6, 2) := by decide +kernel
theorem dX5_write_31 : decode cX5_write 31 = .ok (.invokevirtual 57, 3) := by decide +kernel
theorem dX5_write_34 : decode cX5_write 34 = .ok (.ifCond .eq 15, 3) := by decide +kernel
theorem dX5_write_37 : decode cX5_write 37 = .ok (.iload_n 3, 1) := by decide +kernel
theorem dX5_write_38 : decode cX5_write 38 = .ok (.ifCond .lt 8, 3) := by decide +kernel
theorem dX5_write_41 : decode cX5_write 41 = .ok (.iload_n 3, 1) := by decide +kernel
theorem dX5_write_42 : decode cX5_write 42 = .ok (.iconst 2, 1) := by decide +kernel
theorem dX5_write_43 : decode cX5_write 43 = .ok (.if_icmp .le 6, 3) := by decide +kernel
theorem dX5_write_46 : decode cX5_write 46 = .ok (.bipush (-99), 2) := by decide +kernel
theorem dX5_write_48 : decode cX5_write 48 = .ok (.ireturn, 1) := by decide +kernel
theorem dX5_write_49 : decode cX5_write 49 = .ok (.iload 6, 2) := by decide +kernel
theorem dX5_write_51 : decode cX5_write 51 = .ok (.ifCond .ge 6, 3) := by decide +kernel
theorem dX5_write_54 : decode cX5_write 54 = .ok (.iload 6, 2) := by decide +kernel
theorem dX5_write_56 : decode cX5_write 56 = .ok (.ireturn, 1) := by decide +kernel
theorem dX5_write_57 : decode cX5_write 57 = .ok (.iload_n 2, 1) := by decide +kernel
theorem dX5_write_58 : decode cX5_write 58 = .ok (.ifCond .lt 14, 3) := by decide +kernel
theorem dX5_write_61 : decode cX5_write 61 = .ok (.iload_n 2, 1) := by decide +kernel
theorem dX5_write_62 : decode cX5_write 62 = .ok (.aload_n 0, 1) := by decide +kernel
theorem dX5_write_63 : decode cX5_write 63 = .ok (.getfield 16, 3) := by decide +kernel
theorem dX5_write_66 : decode cX5_write 66 = .ok (.iload 6, 2) := by decide +kernel
theorem dX5_write_68 : decode cX5_write 68 = .ok (.iaload, 1) := by decide +kernel
theorem dX5_write_69 : decode cX5_write 69 = .ok (.if_icmp .lt 6, 3) := by decide +kernel
theorem dX5_write_72 : decode cX5_write 72 = .ok (.bipush (-3), 2) := by decide +kernel
theorem dX5_write_74 : decode cX5_write 74 = .ok (.ireturn, 1) := by decide +kernel
theorem dX5_write_75 : decode cX5_write 75 = .ok (.aload_n 0, 1) := by decide +kernel
theorem dX5_write_76 : decode cX5_write 76 = .ok (.iload 6, 2) := by decide +kernel
theorem dX5_write_78 : decode cX5_write 78 = .ok (.invokevirtual 57, 3) := by decide +kernel
theorem dX5_write_81 : decode cX5_write 81 = .ok (.ifCond .ne 18, 3) := by decide +kernel
theorem dX5_write_84 : decode cX5_write 84 = .ok (.aload_n 0, 1) := by decide +kernel
theorem dX5_write_85 : decode cX5_write 85 = .ok (.getfield 13, 3) := by decide +kernel
theorem dX5_write_88 : decode cX5_write 88 = .ok (.iload 6, 2) := by decide +kernel
theorem dX5_write_90 : decode cX5_write 90 = .ok (.iaload, 1) := by decide +kernel
theorem dX5_write_91 : decode cX5_write 91 = .ok (.lload 4, 2) := by decide +kernel
theorem dX5_write_93 : decode cX5_write 93 = .ok (.invokestatic 60, 3) := by decide +kernel
theorem dX5_write_96 : decode cX5_write 96 = .ok (.goto 26, 3) := by decide +kernel
theorem dX5_write_99 : decode cX5_write 99 = .ok (.iload_n 3, 1) := by decide +kernel
theorem dX5_write_100 : decode cX5_write 100 = .ok (.ifCond .ne 7, 3) := by decide +kernel
theorem dX5_write_103 : decode cX5_write 103 = .ok (.lconst 0, 1) := by decide +kernel
theorem dX5_write_104 : decode cX5_write 104 = .ok (.goto 18, 3) := by decide +kernel
theorem dX5_write_107 : decode cX5_write 107 = .ok (.ldc2_w 64, 3) := by decide +kernel
theorem dX5_write_110 : decode cX5_write 110 = .ok (.lload 4, 2) := by decide +kernel
theorem dX5_write_112 : decode cX5_write 112 = .ok (.bipush 32, 2) := by decide +kernel
theorem dX5_write_114 : decode cX5_write 114 = .ok (.lshl, 1) := by decide +kernel
theorem dX5_write_115 : decode cX5_write 115 = .ok (.bipush 32, 2) := by decide +kernel
theorem dX5_write_117 : decode cX5_write 117 = .ok (.lshr, 1) := by decide +kernel
theorem dX5_write_118 : decode cX5_write 118 = .ok (.lmul, 1) := by decide +kernel
theorem dX5_write_119 : decode cX5_write 119 = .ok (.iload_n 3, 1) := by decide +kernel
theorem dX5_write_120 : decode cX5_write 120 = .ok (.i2l, 1) := by decide +kernel
theorem dX5_write_121 : decode cX5_write 121 = .ok (.ladd, 1) := by decide +kernel
theorem dX5_write_122 : decode cX5_write 122 = .ok (.lstore 7, 2) := by decide +kernel
theorem dX5_write_124 : decode cX5_write 124 = .ok (.aload_n 0, 1) := by decide +kernel
theorem dX5_write_125 : decode cX5_write 125 = .ok (.iload 6, 2) := by decide +kernel
theorem dX5_write_127 : decode cX5_write 127 = .ok (.invokevirtual 57, 3) := by decide +kernel
theorem dX5_write_130 : decode cX5_write 130 = .ok (.ifCond .eq 17, 3) := by decide +kernel
theorem dX5_write_133 : decode cX5_write 133 = .ok (.aload_n 0, 1) := by decide +kernel
theorem dX5_write_134 : decode cX5_write 134 = .ok (.iload 6, 2) := by decide +kernel
theorem dX5_write_136 : decode cX5_write 136 = .ok (.lload 7, 2) := by decide +kernel
theorem dX5_write_138 : decode cX5_write 138 = .ok (.invokevirtual 66, 3) := by decide +kernel
theorem dX5_write_141 : decode cX5_write 141 = .ok (.ifCond .ne 6, 3) := by decide +kernel
theorem dX5_write_144 : decode cX5_write 144 = .ok (.bipush (-10), 2) := by decide +kernel
theorem dX5_write_146 : decode cX5_write 146 = .ok (.ireturn, 1) := by decide +kernel
theorem dX5_write_147 : decode cX5_write 147 = .ok (.aload_n 0, 1) := by decide +kernel
theorem dX5_write_148 : decode cX5_write 148 = .ok (.getfield 19, 3) := by decide +kernel
theorem dX5_write_151 : decode cX5_write 151 = .ok (.bipush 40, 2) := by decide +kernel
theorem dX5_write_153 : decode cX5_write 153 = .ok (.iload 6, 2) := by decide +kernel
theorem dX5_write_155 : decode cX5_write 155 = .ok (.imul, 1) := by decide +kernel
theorem dX5_write_156 : decode cX5_write 156 = .ok (.iload_n 2, 1) := by decide +kernel
theorem dX5_write_157 : decode cX5_write 157 = .ok (.iadd, 1) := by decide +kernel
theorem dX5_write_158 : decode cX5_write 158 = .ok (.lload 7, 2) := by decide +kernel
theorem dX5_write_160 : decode cX5_write 160 = .ok (.lastore, 1) := by decide +kernel
theorem dX5_write_161 : decode cX5_write 161 = .ok (.iconst 0, 1) := by decide +kernel
theorem dX5_write_162 : decode cX5_write 162 = .ok (.ireturn, 1) := by decide +kernel
theorem dX5_unlike_0 : decode cX5_unlike 0 = .ok (.aload_n 0, 1) := by decide +kernel
theorem dX5_unlike_1 : decode cX5_unlike 1 = .ok (.getfield 7, 3) := by decide +kernel
theorem dX5_unlike_4 : decode cX5_unlike 4 = .ok (.iload_n 1, 1) := by decide +kernel
theorem dX5_unlike_5 : decode cX5_unlike 5 = .ok (.iaload, 1) := by decide +kernel
theorem dX5_unlike_6 : decode cX5_unlike 6 = .ok (.iconst (-1), 1) := by decide +kernel
theorem dX5_unlike_7 : decode cX5_unlike 7 = .ok (.if_icmp .eq 13, 3) := by decide +kernel
theorem dX5_unlike_10 : decode cX5_unlike 10 = .ok (.aload_n 0, 1) := by decide +kernel
theorem dX5_unlike_11 : decode cX5_unlike 11 = .ok (.getfield 7, 3) := by decide +kernel
theorem dX5_unlike_14 : decode cX5_unlike 14 = .ok (.iload_n 2, 1) := by decide +kernel
theorem dX5_unlike_15 : decode cX5_unlike 15 = .ok (.iaload, 1) := by decide +kernel
theorem dX5_unlike_16 : decode cX5_unlike 16 = .ok (.iconst (-1), 1) := by decide +kernel
theorem dX5_unlike_17 : decode cX5_unlike 17 = .ok (.if_icmp .ne 5, 3) := by decide +kernel
theorem dX5_unlike_20 : decode cX5_unlike 20 = .ok (.iconst (-1), 1) := by decide +kernel
theorem dX5_unlike_21 : decode cX5_unlike 21 = .ok (.ireturn, 1) := by decide +kernel
theorem dX5_unlike_22 : decode cX5_unlike 22 = .ok (.aload_n 0, 1) := by decide +kernel
theorem dX5_unlike_23 : decode cX5_unlike 23 = .ok (.getfield 7, 3) := by decide +kernel
theorem dX5_unlike_26 : decode cX5_unlike 26 = .ok (.iload_n 1, 1) := by decide +kernel
theorem dX5_unlike_27 : decode cX5_unlike 27 = .ok (.iaload, 1) := by decide +kernel
theorem dX5_unlike_28 : decode cX5_unlike 28 = .ok (.bipush (-2), 2) := by decide +kernel
theorem dX5_unlike_30 : decode cX5_unlike 30 = .ok (.if_icmp .eq 14, 3) := by decide +kernel
theorem dX5_unlike_33 : decode cX5_unlike 33 = .ok (.aload_n 0, 1) := by decide +kernel
theorem dX5_unlike_34 : decode cX5_unlike 34 = .ok (.getfield 7, 3) := by decide +kernel
theorem dX5_unlike_37 : decode cX5_unlike 37 = .ok (.iload_n 2, 1) := by decide +kernel
theorem dX5_unlike_38 : decode cX5_unlike 38 = .ok (.iaload, 1) := by decide +kernel
theorem dX5_unlike_39 : decode cX5_unlike 39 = .ok (.bipush (-2), 2) := by decide +kernel
theorem dX5_unlike_41 : decode cX5_unlike 41 = .ok (.if_icmp .ne 6, 3) := by decide +kernel
theorem dX5_unlike_44 : decode cX5_unlike 44 = .ok (.bipush (-2), 2) := by decide +kernel
theorem dX5_unlike_46 : decode cX5_unlike 46 = .ok (.ireturn, 1) := by decide +kernel
theorem dX5_unlike_47 : decode cX5_unlike 47 = .ok (.aload_n 0, 1) := by decide +kernel
theorem dX5_unlike_48 : decode cX5_unlike 48 = .ok (.getfield 13, 3) := by decide +kernel
theorem dX5_unlike_51 : decode cX5_unlike 51 = .ok (.aload_n 0, 1) := by decide +kernel
theorem dX5_unlike_52 : decode cX5_unlike 52 = .ok (.getfield 7, 3) := by decide +kernel
theorem dX5_unlike_55 : decode cX5_unlike 55 = .ok (.iload_n 1, 1) := by decide +kernel
theorem dX5_unlike_56 : decode cX5_unlike 56 = .ok (.iaload, 1) := by decide +kernel
theorem dX5_unlike_57 : decode cX5_unlike 57 = .ok (.iaload, 1) := by decide +kernel
theorem dX5_unlike_58 : decode cX5_unlike 58 = .ok (.istore_n 3, 1) := by decide +kernel
theorem dX5_unlike_59 : decode cX5_unlike 59 = .ok (.aload_n 0, 1) := by decide +kernel
theorem dX5_unlike_60 : decode cX5_unlike 60 = .ok (.getfield 13, 3) := by decide +kernel
theorem dX5_unlike_63 : decode cX5_unlike 63 = .ok (.aload_n 0, 1) := by decide +kernel
theorem dX5_unlike_64 : decode cX5_unlike 64 = .ok (.getfield 7, 3) := by decide +kernel
theorem dX5_unlike_67 : decode cX5_unlike 67 = .ok (.iload_n 2, 1) := by decide +kernel
theorem dX5_unlike_68 : decode cX5_unlike 68 = .ok (.iaload, 1) := by decide +kernel
