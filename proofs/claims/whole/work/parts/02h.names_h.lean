theorem dX7_shut_51 : decode cX7_shut 51 = .ok (.iconst 1, 1) := by decide +kernel
theorem dX7_shut_52 : decode cX7_shut 52 = .ok (.aload_n 0, 1) := by decide +kernel
theorem dX7_shut_53 : decode cX7_shut 53 = .ok (.getfield 65, 3) := by decide +kernel
theorem dX7_shut_56 : decode cX7_shut 56 = .ok (.iconst 1, 1) := by decide +kernel
theorem dX7_shut_57 : decode cX7_shut 57 = .ok (.isub, 1) := by decide +kernel
theorem dX7_shut_58 : decode cX7_shut 58 = .ok (.ishl, 1) := by decide +kernel
theorem dX7_shut_59 : decode cX7_shut 59 = .ok (.if_icmp .ge 83, 3) := by decide +kernel
theorem dX7_shut_62 : decode cX7_shut 62 = .ok (.aload_n 0, 1) := by decide +kernel
theorem dX7_shut_63 : decode cX7_shut 63 = .ok (.iload 10, 2) := by decide +kernel
theorem dX7_shut_65 : decode cX7_shut 65 = .ok (.putfield 101, 3) := by decide +kernel
theorem dX7_shut_68 : decode cX7_shut 68 = .ok (.aload_n 0, 1) := by decide +kernel
theorem dX7_shut_69 : decode cX7_shut 69 = .ok (.invokevirtual 179, 3) := by decide +kernel
theorem dX7_shut_72 : decode cX7_shut 72 = .ok (.aload_n 0, 1) := by decide +kernel
theorem dX7_shut_73 : decode cX7_shut 73 = .ok (.bipush 60, 2) := by decide +kernel
theorem dX7_shut_75 : decode cX7_shut 75 = .ok (.iload_n 1, 1) := by decide +kernel
theorem dX7_shut_76 : decode cX7_shut 76 = .ok (.imul, 1) := by decide +kernel
theorem dX7_shut_77 : decode cX7_shut 77 = .ok (.iload_n 3, 1) := by decide +kernel
theorem dX7_shut_78 : decode cX7_shut 78 = .ok (.iadd, 1) := by decide +kernel
theorem dX7_shut_79 : decode cX7_shut 79 = .ok (.iload 4, 2) := by decide +kernel
theorem dX7_shut_81 : decode cX7_shut 81 = .ok (.invokevirtual 182, 3) := by decide +kernel
theorem dX7_shut_84 : decode cX7_shut 84 = .ok (.aload_n 0, 1) := by decide +kernel
theorem dX7_shut_85 : decode cX7_shut 85 = .ok (.invokevirtual 188, 3) := by decide +kernel
theorem dX7_shut_88 : decode cX7_shut 88 = .ok (.iload 9, 2) := by decide +kernel
theorem dX7_shut_90 : decode cX7_shut 90 = .ok (.bipush (-9), 2) := by decide +kernel
theorem dX7_shut_92 : decode cX7_shut 92 = .ok (.if_icmp .eq 34, 3) := by decide +kernel
theorem dX7_shut_95 : decode cX7_shut 95 = .ok (.aload_n 0, 1) := by decide +kernel
theorem dX7_shut_96 : decode cX7_shut 96 = .ok (.getfield 166, 3) := by decide +kernel
theorem dX7_shut_99 : decode cX7_shut 99 = .ok (.iload 9, 2) := by decide +kernel
theorem dX7_shut_101 : decode cX7_shut 101 = .ok (.if_icmp .lt 25, 3) := by decide +kernel
theorem dX7_shut_104 : decode cX7_shut 104 = .ok (.aload_n 0, 1) := by decide +kernel
theorem dX7_shut_105 : decode cX7_shut 105 = .ok (.getfield 166, 3) := by decide +kernel
theorem dX7_shut_108 : decode cX7_shut 108 = .ok (.iload 9, 2) := by decide +kernel
theorem dX7_shut_110 : decode cX7_shut 110 = .ok (.if_icmp .ne 26, 3) := by decide +kernel
theorem dX7_shut_113 : decode cX7_shut 113 = .ok (.iload 10, 2) := by decide +kernel
theorem dX7_shut_115 : decode cX7_shut 115 = .ok (.invokestatic 160, 3) := by decide +kernel
theorem dX7_shut_118 : decode cX7_shut 118 = .ok (.iload 8, 2) := by decide +kernel
theorem dX7_shut_120 : decode cX7_shut 120 = .ok (.invokestatic 160, 3) := by decide +kernel
theorem dX7_shut_123 : decode cX7_shut 123 = .ok (.if_icmp .ge 13, 3) := by decide +kernel
theorem dX7_shut_126 : decode cX7_shut 126 = .ok (.iload 10, 2) := by decide +kernel
theorem dX7_shut_128 : decode cX7_shut 128 = .ok (.istore 8, 2) := by decide +kernel
theorem dX7_shut_130 : decode cX7_shut 130 = .ok (.aload_n 0, 1) := by decide +kernel
theorem dX7_shut_131 : decode cX7_shut 131 = .ok (.getfield 166, 3) := by decide +kernel
theorem dX7_shut_134 : decode cX7_shut 134 = .ok (.istore 9, 2) := by decide +kernel
theorem dX7_shut_136 : decode cX7_shut 136 = .ok (.iinc 10 1, 3) := by decide +kernel
theorem dX7_shut_139 : decode cX7_shut 139 = .ok (.goto (-90), 3) := by decide +kernel
theorem dX7_shut_142 : decode cX7_shut 142 = .ok (.aload_n 0, 1) := by decide +kernel
theorem dX7_shut_143 : decode cX7_shut 143 = .ok (.iload 7, 2) := by decide +kernel
theorem dX7_shut_145 : decode cX7_shut 145 = .ok (.putfield 101, 3) := by decide +kernel
theorem dX7_shut_148 : decode cX7_shut 148 = .ok (.iload 5, 2) := by decide +kernel
theorem dX7_shut_150 : decode cX7_shut 150 = .ok (.ifCond .ne 8, 3) := by decide +kernel
theorem dX7_shut_153 : decode cX7_shut 153 = .ok (.iload 8, 2) := by decide +kernel
theorem dX7_shut_155 : decode cX7_shut 155 = .ok (.goto 5, 3) := by decide +kernel
theorem dX7_shut_158 : decode cX7_shut 158 = .ok (.iload 9, 2) := by decide +kernel
theorem dX7_shut_160 : decode cX7_shut 160 = .ok (.ireturn, 1) := by decide +kernel
set_option maxRecDepth 20000 in
theorem ggX7_rests_X7_keep : GoodIn wsX7_rests wsX7_keep := goodIn_r _ [6, 7, 8, 1, 9, 10, 23, 24, 25, 26, 27, 28, 29, 30, 31, 32, 33, 34, 35, 36, 37, 38, 39, 40, 41, 42, 43, 44, 45, 46, 47, 48, 49, 50, 51] (by decide +kernel) (by decide +kernel)
set_option maxRecDepth 20000 in
theorem gX7_rests_X7_keep : GoodIn wsX7_rests (wsV RX7 179 RX7 yX7_keep wsX7_keep) := goodIn_app (goodIn_of _ (by decide +kernel)) ggX7_rests_X7_keep
set_option maxRecDepth 20000 in
theorem ggX7_rests_X7_pass : GoodIn wsX7_rests wsX7_pass := goodIn_r _ [14, 1, 10, 15, 16, 17, 5, 18, 23, 24, 25, 26, 27, 28, 29, 30, 31, 32, 33, 34, 35, 36, 37, 38, 39, 40, 41, 42, 43, 44, 45, 46, 47, 48, 49, 50, 51] (by decide +kernel) (by decide +kernel)
set_option maxRecDepth 20000 in
theorem gX7_rests_X7_pass : GoodIn wsX7_rests (wsV RX7 150 RX7 yX7_pass wsX7_pass) := goodIn_app (goodIn_of _ (by decide +kernel)) ggX7_rests_X7_pass
set_option maxRecDepth 20000 in
theorem ggX7_rests_X7_putBack : GoodIn wsX7_rests wsX7_putBack := goodIn_r _ [22, 8, 7, 1, 10, 9, 23, 24, 25, 26, 27, 28, 29, 30, 31, 32, 33, 34, 35, 36, 37, 38, 39, 40, 41, 42, 43, 44, 45, 46, 47, 48, 49, 50, 51] (by decide +kernel) (by decide +kernel)
set_option maxRecDepth 20000 in
theorem gX7_rests_X7_putBack : GoodIn wsX7_rests (wsV RX7 188 RX7 yX7_putBack wsX7_putBack) := goodIn_app (goodIn_of _ (by decide +kernel)) ggX7_rests_X7_putBack
theorem dX7_rests_0 : decode cX7_rests 0 = .ok (.aload_n 0, 1) := by decide +kernel
theorem dX7_rests_1 : decode cX7_rests 1 = .ok (.getfield 65, 3) := by decide +kernel
theorem dX7_rests_4 : decode cX7_rests 4 = .ok (.ifCond .ne 6, 3) := by decide +kernel
theorem dX7_rests_7 : decode cX7_rests 7 = .ok (.bipush (-3), 2) := by decide +kernel
theorem dX7_rests_9 : decode cX7_rests 9 = .ok (.ireturn, 1) := by decide +kernel
theorem dX7_rests_10 : decode cX7_rests 10 = .ok (.aload_n 0, 1) := by decide +kernel
theorem dX7_rests_11 : decode cX7_rests 11 = .ok (.invokevirtual 179, 3) := by decide +kernel
theorem dX7_rests_14 : decode cX7_rests 14 = .ok (.iconst 0, 1) := by decide +kernel
theorem dX7_rests_15 : decode cX7_rests 15 = .ok (.istore_n 1, 1) := by decide +kernel
theorem dX7_rests_16 : decode cX7_rests 16 = .ok (.iload_n 1, 1) := by decide +kernel
theorem dX7_rests_17 : decode cX7_rests 17 = .ok (.bipush 60, 2) := by decide +kernel
theorem dX7_rests_19 : decode cX7_rests 19 = .ok (.if_icmp .gt 16, 3) := by decide +kernel
theorem dX7_rests_22 : decode cX7_rests 22 = .ok (.aload_n 0, 1) := by decide +kernel
theorem dX7_rests_23 : decode cX7_rests 23 = .ok (.invokevirtual 150, 3) := by decide +kernel
theorem dX7_rests_26 : decode cX7_rests 26 = .ok (.ifCond .le 9, 3) := by decide +kernel
theorem dX7_rests_29 : decode cX7_rests 29 = .ok (.iinc 1 1, 3) := by decide +kernel
theorem dX7_rests_32 : decode cX7_rests 32 = .ok (.goto (-16), 3) := by decide +kernel
theorem dX7_rests_35 : decode cX7_rests 35 = .ok (.aload_n 0, 1) := by decide +kernel
theorem dX7_rests_36 : decode cX7_rests 36 = .ok (.invokevirtual 188, 3) := by decide +kernel
theorem dX7_rests_39 : decode cX7_rests 39 = .ok (.iload_n 1, 1) := by decide +kernel
theorem dX7_rests_40 : decode cX7_rests 40 = .ok (.bipush 60, 2) := by decide +kernel
theorem dX7_rests_42 : decode cX7_rests 42 = .ok (.if_icmp .gt 7, 3) := by decide +kernel
theorem dX7_rests_45 : decode cX7_rests 45 = .ok (.iload_n 1, 1) := by decide +kernel
theorem dX7_rests_46 : decode cX7_rests 46 = .ok (.goto 5, 3) := by decide +kernel
theorem dX7_rests_49 : decode cX7_rests 49 = .ok (.bipush (-9), 2) := by decide +kernel
theorem dX7_rests_51 : decode cX7_rests 51 = .ok (.ireturn, 1) := by decide +kernel
set_option maxRecDepth 20000 in
theorem ggX7_clears_X7_isGallery : GoodIn wsX7_clears wsX7_isGallery := goodIn_r _ [6, 7, 30, 31, 32, 33, 34, 35, 36, 37, 38, 39, 40, 41, 42, 43, 44, 45, 46, 47, 48, 49, 50, 51, 52, 53, 54, 55, 56, 57, 58] (by decide +kernel) (by decide +kernel)
set_option maxRecDepth 20000 in
theorem gX7_clears_X7_isGallery : GoodIn wsX7_clears (wsV RX7 131 RX7 yX7_isGallery wsX7_isGallery) := goodIn_app (goodIn_of _ (by decide +kernel)) ggX7_clears_X7_isGallery
set_option maxRecDepth 20000 in
theorem ggX7_clears_X7_within : GoodIn wsX7_clears wsX7_within := goodIn_r _ [10] (by decide +kernel) (by decide +kernel)
set_option maxRecDepth 20000 in
theorem gX7_clears_X7_within : GoodIn wsX7_clears (va_wsS RX7 61 yX7_within wsX7_within) := goodIn_app (goodIn_of _ (by decide +kernel)) ggX7_clears_X7_within
set_option maxRecDepth 20000 in
theorem ggX7_clears_X7_keep : GoodIn wsX7_clears wsX7_keep := goodIn_r _ [14, 15, 16, 7, 17, 1, 30, 31, 32, 33, 34, 35, 36, 37, 38, 39, 40, 41, 42, 43, 44, 45, 46, 47, 48, 49, 50, 51, 52, 53, 54, 55, 56, 57, 58] (by decide +kernel) (by decide +kernel)
set_option maxRecDepth 20000 in
theorem gX7_clears_X7_keep : GoodIn wsX7_clears (wsV RX7 179 RX7 yX7_keep wsX7_keep) := goodIn_app (goodIn_of _ (by decide +kernel)) ggX7_clears_X7_keep
set_option maxRecDepth 20000 in
theorem ggX7_clears_X7_pass : GoodIn wsX7_clears wsX7_pass := goodIn_r _ [21, 7, 1, 22, 23, 24, 5, 25, 30, 31, 32, 33, 34, 35, 36, 37, 38, 39, 40, 41, 42, 43, 44, 45, 46, 47, 48, 49, 50, 51, 52, 53, 54, 55, 56, 57, 58] (by decide +kernel) (by decide +kernel)
set_option maxRecDepth 20000 in
theorem gX7_clears_X7_pass : GoodIn wsX7_clears (wsV RX7 150 RX7 yX7_pass wsX7_pass) := goodIn_app (goodIn_of _ (by decide +kernel)) ggX7_clears_X7_pass
set_option maxRecDepth 20000 in
theorem ggX7_clears_X7_putBack : GoodIn wsX7_clears wsX7_putBack := goodIn_r _ [29, 16, 15, 7, 1, 17, 30, 31, 32, 33, 34, 35, 36, 37, 38, 39, 40, 41, 42, 43, 44, 45, 46, 47, 48, 49, 50, 51, 52, 53, 54, 55, 56, 57, 58] (by decide +kernel) (by decide +kernel)
set_option maxRecDepth 20000 in
theorem gX7_clears_X7_putBack : GoodIn wsX7_clears (wsV RX7 188 RX7 yX7_putBack wsX7_putBack) := goodIn_app (goodIn_of _ (by decide +kernel)) ggX7_clears_X7_putBack
theorem dX7_clears_0 : decode cX7_clears 0 = .ok (.aload_n 0, 1) := by decide +kernel
theorem dX7_clears_1 : decode cX7_clears 1 = .ok (.iload_n 1, 1) := by decide +kernel
theorem dX7_clears_2 : decode cX7_clears 2 = .ok (.invokevirtual 131, 3) := by decide +kernel
theorem dX7_clears_5 : decode cX7_clears 5 = .ok (.ifCond .ne 5, 3) := by decide +kernel
theorem dX7_clears_8 : decode cX7_clears 8 = .ok (.iconst (-1), 1) := by decide +kernel
theorem dX7_clears_9 : decode cX7_clears 9 = .ok (.ireturn, 1) := by decide +kernel
theorem dX7_clears_10 : decode cX7_clears 10 = .ok (.iload_n 2, 1) := by decide +kernel
theorem dX7_clears_11 : decode cX7_clears 11 = .ok (.iconst 0, 1) := by decide +kernel
theorem dX7_clears_12 : decode cX7_clears 12 = .ok (.bipush 40, 2) := by decide +kernel
theorem dX7_clears_14 : decode cX7_clears 14 = .ok (.invokestatic 61, 3) := by decide +kernel
theorem dX7_clears_17 : decode cX7_clears 17 = .ok (.ifCond .ne 6, 3) := by decide +kernel
theorem dX7_clears_20 : decode cX7_clears 20 = .ok (.bipush (-2), 2) := by decide +kernel
theorem dX7_clears_22 : decode cX7_clears 22 = .ok (.ireturn, 1) := by decide +kernel
theorem dX7_clears_23 : decode cX7_clears 23 = .ok (.aload_n 0, 1) := by decide +kernel
theorem dX7_clears_24 : decode cX7_clears 24 = .ok (.invokevirtual 179, 3) := by decide +kernel
theorem dX7_clears_27 : decode cX7_clears 27 = .ok (.iconst 0, 1) := by decide +kernel
theorem dX7_clears_28 : decode cX7_clears 28 = .ok (.istore_n 3, 1) := by decide +kernel
theorem dX7_clears_29 : decode cX7_clears 29 = .ok (.iload_n 3, 1) := by decide +kernel
theorem dX7_clears_30 : decode cX7_clears 30 = .ok (.bipush 60, 2) := by decide +kernel
theorem dX7_clears_32 : decode cX7_clears 32 = .ok (.if_icmp .gt 24, 3) := by decide +kernel
theorem dX7_clears_35 : decode cX7_clears 35 = .ok (.aload_n 0, 1) := by decide +kernel
theorem dX7_clears_36 : decode cX7_clears 36 = .ok (.getfield 25, 3) := by decide +kernel
theorem dX7_clears_39 : decode cX7_clears 39 = .ok (.iload_n 1, 1) := by decide +kernel
theorem dX7_clears_40 : decode cX7_clears 40 = .ok (.iaload, 1) := by decide +kernel
theorem dX7_clears_41 : decode cX7_clears 41 = .ok (.iload_n 2, 1) := by decide +kernel
theorem dX7_clears_42 : decode cX7_clears 42 = .ok (.if_icmp .le 14, 3) := by decide +kernel
theorem dX7_clears_45 : decode cX7_clears 45 = .ok (.aload_n 0, 1) := by decide +kernel
theorem dX7_clears_46 : decode cX7_clears 46 = .ok (.invokevirtual 150, 3) := by decide +kernel
theorem dX7_clears_49 : decode cX7_clears 49 = .ok (.pop, 1) := by decide +kernel
theorem dX7_clears_50 : decode cX7_clears 50 = .ok (.iinc 3 1, 3) := by decide +kernel
theorem dX7_clears_53 : decode cX7_clears 53 = .ok (.goto (-24), 3) := by decide +kernel
theorem dX7_clears_56 : decode cX7_clears 56 = .ok (.aload_n 0, 1) := by decide +kernel
theorem dX7_clears_57 : decode cX7_clears 57 = .ok (.invokevirtual 188, 3) := by decide +kernel
theorem dX7_clears_60 : decode cX7_clears 60 = .ok (.iload_n 3, 1) := by decide +kernel
theorem dX7_clears_61 : decode cX7_clears 61 = .ok (.bipush 60, 2) := by decide +kernel
theorem dX7_clears_63 : decode cX7_clears 63 = .ok (.if_icmp .gt 7, 3) := by decide +kernel
theorem dX7_clears_66 : decode cX7_clears 66 = .ok (.iload_n 3, 1) := by decide +kernel
theorem dX7_clears_67 : decode cX7_clears 67 = .ok (.goto 5, 3) := by decide +kernel
theorem dX7_clears_70 : decode cX7_clears 70 = .ok (.bipush (-9), 2) := by decide +kernel
theorem dX7_clears_72 : decode cX7_clears 72 = .ok (.ireturn, 1) := by decide +kernel
set_option maxRecDepth 20000 in
theorem ggX7_findPerches_X7_ordersOf : GoodIn wsX7_findPerches wsX7_ordersOf := goodIn_r _ [8] (by decide +kernel) (by decide +kernel)
set_option maxRecDepth 20000 in
theorem gX7_findPerches_X7_ordersOf : GoodIn wsX7_findPerches (va_wsS RX7 191 yX7_ordersOf wsX7_ordersOf) := goodIn_app (goodIn_of _ (by decide +kernel)) ggX7_findPerches_X7_ordersOf
set_option maxRecDepth 20000 in
theorem ggX7_findPerches_X7_orderOf : GoodIn wsX7_findPerches wsX7_orderOf := goodIn_r _ [12, 3, 13, 14, 7, 15, 25, 26, 27, 28, 29, 30, 31, 32, 33, 34, 35, 36, 37, 38, 39, 40, 41, 42, 43, 44, 45, 46, 47, 48, 49, 50, 51, 52, 53] (by decide +kernel) (by decide +kernel)
set_option maxRecDepth 20000 in
theorem gX7_findPerches_X7_orderOf : GoodIn wsX7_findPerches (wsV RX7 194 RX7 yX7_orderOf wsX7_orderOf) := goodIn_app (goodIn_of _ (by decide +kernel)) ggX7_findPerches_X7_orderOf
set_option maxRecDepth 20000 in
theorem ggX7_findPerches_X7_bearsOf : GoodIn wsX7_findPerches wsX7_bearsOf := goodIn_r _ [19, 20, 21, 22, 23, 7, 24, 25, 26, 27, 28, 29, 30, 31, 32, 33, 34, 35, 36, 37, 38, 39, 40, 41, 42, 43, 44, 45, 46, 47, 48, 49, 50, 51, 52, 53] (by decide +kernel) (by decide +kernel)
set_option maxRecDepth 20000 in
theorem gX7_findPerches_X7_bearsOf : GoodIn wsX7_findPerches (wsV RX7 134 RX7 yX7_bearsOf wsX7_bearsOf) := goodIn_app (goodIn_of _ (by decide +kernel)) ggX7_findPerches_X7_bearsOf
theorem dX7_findPerches_0 : decode cX7_findPerches 0 = .ok (.bipush (-9), 2) := by decide +kernel
theorem dX7_findPerches_2 : decode cX7_findPerches 2 = .ok (.istore_n 1, 1) := by decide +kernel
theorem dX7_findPerches_3 : decode cX7_findPerches 3 = .ok (.iconst 0, 1) := by decide +kernel
theorem dX7_findPerches_4 : decode cX7_findPerches 4 = .ok (.istore_n 2, 1) := by decide +kernel
theorem dX7_findPerches_5 : decode cX7_findPerches 5 = .ok (.iload_n 2, 1) := by decide +kernel
theorem dX7_findPerches_6 : decode cX7_findPerches 6 = .ok (.aload_n 0, 1) := by decide +kernel
theorem dX7_findPerches_7 : decode cX7_findPerches 7 = .ok (.getfield 65, 3) := by decide +kernel
theorem dX7_findPerches_10 : decode cX7_findPerches 10 = .ok (.invokestatic 191, 3) := by decide +kernel
theorem dX7_findPerches_13 : decode cX7_findPerches 13 = .ok (.if_icmp .ge 106, 3) := by decide +kernel
theorem dX7_findPerches_16 : decode cX7_findPerches 16 = .ok (.aload_n 0, 1) := by decide +kernel
theorem dX7_findPerches_17 : decode cX7_findPerches 17 = .ok (.iload_n 2, 1) := by decide +kernel
theorem dX7_findPerches_18 : decode cX7_findPerches 18 = .ok (.aload_n 0, 1) := by decide +kernel
theorem dX7_findPerches_19 : decode cX7_findPerches 19 = .ok (.getfield 65, 3) := by decide +kernel
theorem dX7_findPerches_22 : decode cX7_findPerches 22 = .ok (.invokevirtual 194, 3) := by decide +kernel
theorem dX7_findPerches_25 : decode cX7_findPerches 25 = .ok (.iconst 0, 1) := by decide +kernel
theorem dX7_findPerches_26 : decode cX7_findPerches 26 = .ok (.istore_n 3, 1) := by decide +kernel
theorem dX7_findPerches_27 : decode cX7_findPerches 27 = .ok (.iconst 0, 1) := by decide +kernel
theorem dX7_findPerches_28 : decode cX7_findPerches 28 = .ok (.istore 4, 2) := by decide +kernel
theorem dX7_findPerches_30 : decode cX7_findPerches 30 = .ok (.iload 4, 2) := by decide +kernel
theorem dX7_findPerches_32 : decode cX7_findPerches 32 = .ok (.aload_n 0, 1) := by decide +kernel
theorem dX7_findPerches_33 : decode cX7_findPerches 33 = .ok (.getfield 65, 3) := by decide +kernel
theorem dX7_findPerches_36 : decode cX7_findPerches 36 = .ok (.if_icmp .ge 38, 3) := by decide +kernel
theorem dX7_findPerches_39 : decode cX7_findPerches 39 = .ok (.iload_n 3, 1) := by decide +kernel
theorem dX7_findPerches_40 : decode cX7_findPerches 40 = .ok (.aload_n 0, 1) := by decide +kernel
theorem dX7_findPerches_41 : decode cX7_findPerches 41 = .ok (.getfield 25, 3) := by decide +kernel
theorem dX7_findPerches_44 : decode cX7_findPerches 44 = .ok (.iload 4, 2) := by decide +kernel
theorem dX7_findPerches_46 : decode cX7_findPerches 46 = .ok (.iaload, 1) := by decide +kernel
theorem dX7_findPerches_47 : decode cX7_findPerches 47 = .ok (.aload_n 0, 1) := by decide +kernel
theorem dX7_findPerches_48 : decode cX7_findPerches 48 = .ok (.aload_n 0, 1) := by decide +kernel
theorem dX7_findPerches_49 : decode cX7_findPerches 49 = .ok (.getfield 40, 3) := by decide +kernel
theorem dX7_findPerches_52 : decode cX7_findPerches 52 = .ok (.iload 4, 2) := by decide +kernel
theorem dX7_findPerches_54 : decode cX7_findPerches 54 = .ok (.iaload, 1) := by decide +kernel
theorem dX7_findPerches_55 : decode cX7_findPerches 55 = .ok (.invokevirtual 134, 3) := by decide +kernel
theorem dX7_findPerches_58 : decode cX7_findPerches 58 = .ok (.if_icmp .gt 7, 3) := by decide +kernel
theorem dX7_findPerches_61 : decode cX7_findPerches 61 = .ok (.iconst 1, 1) := by decide +kernel
theorem dX7_findPerches_62 : decode cX7_findPerches 62 = .ok (.goto 4, 3) := by decide +kernel
theorem dX7_findPerches_65 : decode cX7_findPerches 65 = .ok (.iconst 0, 1) := by decide +kernel
theorem dX7_findPerches_66 : decode cX7_findPerches 66 = .ok (.iadd, 1) := by decide +kernel
theorem dX7_findPerches_67 : decode cX7_findPerches 67 = .ok (.istore_n 3, 1) := by decide +kernel
theorem dX7_findPerches_68 : decode cX7_findPerches 68 = .ok (.iinc 4 1, 3) := by decide +kernel
theorem dX7_findPerches_71 : decode cX7_findPerches 71 = .ok (.goto (-41), 3) := by decide +kernel
theorem dX7_findPerches_74 : decode cX7_findPerches 74 = .ok (.iload_n 3, 1) := by decide +kernel
theorem dX7_findPerches_75 : decode cX7_findPerches 75 = .ok (.iload_n 1, 1) := by decide +kernel
theorem dX7_findPerches_76 : decode cX7_findPerches 76 = .ok (.if_icmp .le 37, 3) := by decide +kernel
theorem dX7_findPerches_79 : decode cX7_findPerches 79 = .ok (.iload_n 3, 1) := by decide +kernel
theorem dX7_findPerches_80 : decode cX7_findPerches 80 = .ok (.istore_n 1, 1) := by decide +kernel
theorem dX7_findPerches_81 : decode cX7_findPerches 81 = .ok (.iconst 0, 1) := by decide +kernel
theorem dX7_findPerches_82 : decode cX7_findPerches 82 = .ok (.istore 4, 2) := by decide +kernel
theorem dX7_findPerches_84 : decode cX7_findPerches 84 = .ok (.iload 4, 2) := by decide +kernel
theorem dX7_findPerches_86 : decode cX7_findPerches 86 = .ok (.aload_n 0, 1) := by decide +kernel
theorem dX7_findPerches_87 : decode cX7_findPerches 87 = .ok (.getfield 65, 3) := by decide +kernel
theorem dX7_findPerches_90 : decode cX7_findPerches 90 = .ok (.if_icmp .ge 23, 3) := by decide +kernel
theorem dX7_findPerches_93 : decode cX7_findPerches 93 = .ok (.aload_n 0, 1) := by decide +kernel
theorem dX7_findPerches_94 : decode cX7_findPerches 94 = .ok (.getfield 43, 3) := by decide +kernel
theorem dX7_findPerches_97 : decode cX7_findPerches 97 = .ok (.iload 4, 2) := by decide +kernel
theorem dX7_findPerches_99 : decode cX7_findPerches 99 = .ok (.aload_n 0, 1) := by decide +kernel
theorem dX7_findPerches_100 : decode cX7_findPerches 100 = .ok (.getfield 40, 3) := by decide +kernel
theorem dX7_findPerches_103 : decode cX7_findPerches 103 = .ok (.iload 4, 2) := by decide +kernel
theorem dX7_findPerches_105 : decode cX7_findPerches 105 = .ok (.iaload, 1) := by decide +kernel
theorem dX7_findPerches_106 : decode cX7_findPerches 106 = .ok (.iastore, 1) := by decide +kernel
theorem dX7_findPerches_107 : decode cX7_findPerches 107 = .ok (.iinc 4 1, 3) := by decide +kernel
theorem dX7_findPerches_110 : decode cX7_findPerches 110 = .ok (.goto (-26), 3) := by decide +kernel
theorem dX7_findPerches_113 : decode cX7_findPerches 113 = .ok (.iinc 2 1, 3) := by decide +kernel
theorem dX7_findPerches_116 : decode cX7_findPerches 116 = .ok (.goto (-111), 3) := by decide +kernel
theorem dX7_findPerches_119 : decode cX7_findPerches 119 = .ok (.iload_n 1, 1) := by decide +kernel
theorem dX7_findPerches_120 : decode cX7_findPerches 120 = .ok (.ireturn, 1) := by decide +kernel
set_option maxRecDepth 20000 in
theorem ggX7_perches_X7_within : GoodIn wsX7_perches wsX7_within := goodIn_r _ [6] (by decide +kernel) (by decide +kernel)
set_option maxRecDepth 20000 in
theorem gX7_perches_X7_within : GoodIn wsX7_perches (va_wsS RX7 61 yX7_within wsX7_within) := goodIn_app (goodIn_of _ (by decide +kernel)) ggX7_perches_X7_within
set_option maxRecDepth 20000 in
theorem ggX7_perches_X7_findPerches : GoodIn wsX7_perches wsX7_findPerches := goodIn_r _ [10, 1, 11, 12, 2, 13, 14, 5, 15, 16, 17, 18, 19, 20, 21, 22, 23, 24, 25, 26, 27, 28, 29, 30, 31, 36, 37, 38, 39, 40, 41, 42, 43, 44, 45, 46, 47, 48, 49, 50, 51, 52, 53, 54, 55, 56, 57, 58, 59, 60, 61, 62, 63, 64] (by decide +kernel) (by decide +kernel)
set_option maxRecDepth 20000 in
theorem gX7_perches_X7_findPerches : GoodIn wsX7_perches (wsV RX7 200 RX7 yX7_findPerches wsX7_findPerches) := goodIn_app (goodIn_of _ (by decide +kernel)) ggX7_perches_X7_findPerches
set_option maxRecDepth 20000 in
theorem ggX7_perches_X7_isGallery : GoodIn wsX7_perches wsX7_isGallery := goodIn_r _ [35, 1, 36, 37, 38, 39, 40, 41, 42, 43, 44, 45, 46, 47, 48, 49, 50, 51, 52, 53, 54, 55, 56, 57, 58, 59, 60, 61, 62, 63, 64] (by decide +kernel) (by decide +kernel)
set_option maxRecDepth 20000 in
theorem gX7_perches_X7_isGallery : GoodIn wsX7_perches (wsV RX7 131 RX7 yX7_isGallery wsX7_isGallery) := goodIn_app (goodIn_of _ (by decide +kernel)) ggX7_perches_X7_isGallery
theorem dX7_perches_0 : decode cX7_perches 0 = .ok (.iload_n 1, 1) := by decide +kernel
theorem dX7_perches_1 : decode cX7_perches 1 = .ok (.iconst (-1), 1) := by decide +kernel
theorem dX7_perches_2 : decode cX7_perches 2 = .ok (.iconst 5, 1) := by decide +kernel
theorem dX7_perches_3 : decode cX7_perches 3 = .ok (.invokestatic 61, 3) := by decide +kernel
theorem dX7_perches_6 : decode cX7_perches 6 = .ok (.ifCond .ne 6, 3) := by decide +kernel
theorem dX7_perches_9 : decode cX7_perches 9 = .ok (.bipush (-2), 2) := by decide +kernel
theorem dX7_perches_11 : decode cX7_perches 11 = .ok (.ireturn, 1) := by decide +kernel
theorem dX7_perches_12 : decode cX7_perches 12 = .ok (.aload_n 0, 1) := by decide +kernel
theorem dX7_perches_13 : decode cX7_perches 13 = .ok (.getfield 65, 3) := by decide +kernel
theorem dX7_perches_16 : decode cX7_perches 16 = .ok (.ifCond .ne 6, 3) := by decide +kernel
theorem dX7_perches_19 : decode cX7_perches 19 = .ok (.bipush (-3), 2) := by decide +kernel
theorem dX7_perches_21 : decode cX7_perches 21 = .ok (.ireturn, 1) := by decide +kernel
theorem dX7_perches_22 : decode cX7_perches 22 = .ok (.aload_n 0, 1) := by decide +kernel
theorem dX7_perches_23 : decode cX7_perches 23 = .ok (.invokevirtual 200, 3) := by decide +kernel
theorem dX7_perches_26 : decode cX7_perches 26 = .ok (.istore_n 2, 1) := by decide +kernel
theorem dX7_perches_27 : decode cX7_perches 27 = .ok (.iload_n 1, 1) := by decide +kernel
theorem dX7_perches_28 : decode cX7_perches 28 = .ok (.iconst (-1), 1) := by decide +kernel
theorem dX7_perches_29 : decode cX7_perches 29 = .ok (.if_icmp .ne 7, 3) := by decide +kernel
theorem dX7_perches_32 : decode cX7_perches 32 = .ok (.iload_n 2, 1) := by decide +kernel
theorem dX7_perches_33 : decode cX7_perches 33 = .ok (.goto 22, 3) := by decide +kernel
theorem dX7_perches_36 : decode cX7_perches 36 = .ok (.aload_n 0, 1) := by decide +kernel
theorem dX7_perches_37 : decode cX7_perches 37 = .ok (.iload_n 1, 1) := by decide +kernel
theorem dX7_perches_38 : decode cX7_perches 38 = .ok (.invokevirtual 131, 3) := by decide +kernel
theorem dX7_perches_41 : decode cX7_perches 41 = .ok (.ifCond .eq 12, 3) := by decide +kernel
theorem dX7_perches_44 : decode cX7_perches 44 = .ok (.aload_n 0, 1) := by decide +kernel
theorem dX7_perches_45 : decode cX7_perches 45 = .ok (.getfield 43, 3) := by decide +kernel
theorem dX7_perches_48 : decode cX7_perches 48 = .ok (.iload_n 1, 1) := by decide +kernel
theorem dX7_perches_49 : decode cX7_perches 49 = .ok (.iaload, 1) := by decide +kernel
theorem dX7_perches_50 : decode cX7_perches 50 = .ok (.goto 5, 3) := by decide +kernel
theorem dX7_perches_53 : decode cX7_perches 53 = .ok (.bipush (-9), 2) := by decide +kernel
theorem dX7_perches_55 : decode cX7_perches 55 = .ok (.ireturn, 1) := by decide +kernel
set_option maxRecDepth 20000 in
theorem ggX7_isFound_X7_keep : GoodIn wsX7_isFound wsX7_keep := goodIn_r _ [8, 9, 10, 1, 11, 2, 46, 47, 48, 49, 50, 51, 52, 53, 54, 55, 56, 57, 58, 59, 60, 61, 62, 63, 64, 65, 66, 67, 68, 69, 70, 71, 72, 73, 74] (by decide +kernel) (by decide +kernel)
set_option maxRecDepth 20000 in
theorem gX7_isFound_X7_keep : GoodIn wsX7_isFound (wsV RX7 179 RX7 yX7_keep wsX7_keep) := goodIn_app (goodIn_of _ (by decide +kernel)) ggX7_isFound_X7_keep
set_option maxRecDepth 20000 in
theorem ggX7_isFound_X7_breathe : GoodIn wsX7_isFound wsX7_breathe := goodIn_r _ [15, 16, 17, 18, 7, 19, 2, 20, 21, 22, 23, 24, 1, 25, 26, 27, 28, 29, 30, 31, 32, 9, 33, 34, 35, 36, 37, 38, 39, 40, 41, 46, 47, 48, 49, 50, 51, 52, 53, 54, 55, 56, 57, 58, 59, 60, 61, 62, 63, 64, 65, 66, 67, 68, 69, 70, 71, 72, 73, 74] (by decide +kernel) (by decide +kernel)
set_option maxRecDepth 20000 in
theorem gX7_isFound_X7_breathe : GoodIn wsX7_isFound (wsV RX7 157 RX7 yX7_breathe wsX7_breathe) := goodIn_app (goodIn_of _ (by decide +kernel)) ggX7_isFound_X7_breathe
set_option maxRecDepth 20000 in
theorem ggX7_isFound_X7_putBack : GoodIn wsX7_isFound wsX7_putBack := goodIn_r _ [45, 10, 9, 1, 2, 11, 46, 47, 48, 49, 50, 51, 52, 53, 54, 55, 56, 57, 58, 59, 60, 61, 62, 63, 64, 65, 66, 67, 68, 69, 70, 71, 72, 73, 74] (by decide +kernel) (by decide +kernel)
set_option maxRecDepth 20000 in
theorem gX7_isFound_X7_putBack : GoodIn wsX7_isFound (wsV RX7 188 RX7 yX7_putBack wsX7_putBack) := goodIn_app (goodIn_of _ (by decide +kernel)) ggX7_isFound_X7_putBack
theorem dX7_isFound_0 : decode cX7_isFound 0 = .ok (.aload_n 0, 1) := by decide +kernel
theorem dX7_isFound_1 : decode cX7_isFound 1 = .ok (.invokevirtual 179, 3) := by decide +kernel
theorem dX7_isFound_4 : decode cX7_isFound 4 = .ok (.aload_n 0, 1) := by decide +kernel
theorem dX7_isFound_5 : decode cX7_isFound 5 = .ok (.iload_n 2, 1) := by decide +kernel
theorem dX7_isFound_6 : decode cX7_isFound 6 = .ok (.iload_n 3, 1) := by decide +kernel
theorem dX7_isFound_7 : decode cX7_isFound 7 = .ok (.invokevirtual 157, 3) := by decide +kernel
theorem dX7_isFound_10 : decode cX7_isFound 10 = .ok (.pop, 1) := by decide +kernel
theorem dX7_isFound_11 : decode cX7_isFound 11 = .ok (.iconst 1, 1) := by decide +kernel
theorem dX7_isFound_12 : decode cX7_isFound 12 = .ok (.istore 4, 2) := by decide +kernel
theorem dX7_isFound_14 : decode cX7_isFound 14 = .ok (.iconst 0, 1) := by decide +kernel
theorem dX7_isFound_15 : decode cX7_isFound 15 = .ok (.istore 5, 2) := by decide +kernel
theorem dX7_isFound_17 : decode cX7_isFound 17 = .ok (.iload 5, 2) := by decide +kernel
theorem dX7_isFound_19 : decode cX7_isFound 19 = .ok (.aload_n 0, 1) := by decide +kernel
theorem dX7_isFound_20 : decode cX7_isFound 20 = .ok (.getfield 65, 3) := by decide +kernel
theorem dX7_isFound_23 : decode cX7_isFound 23 = .ok (.if_icmp .ge 40, 3) := by decide +kernel
theorem dX7_isFound_26 : decode cX7_isFound 26 = .ok (.iload 4, 2) := by decide +kernel
theorem dX7_isFound_28 : decode cX7_isFound 28 = .ok (.ifCond .eq 26, 3) := by decide +kernel
theorem dX7_isFound_31 : decode cX7_isFound 31 = .ok (.aload_n 0, 1) := by decide +kernel
theorem dX7_isFound_32 : decode cX7_isFound 32 = .ok (.getfield 25, 3) := by decide +kernel
theorem dX7_isFound_35 : decode cX7_isFound 35 = .ok (.iload 5, 2) := by decide +kernel
theorem dX7_isFound_37 : decode cX7_isFound 37 = .ok (.iaload, 1) := by decide +kernel
theorem dX7_isFound_38 : decode cX7_isFound 38 = .ok (.aload_n 0, 1) := by decide +kernel
theorem dX7_isFound_39 : decode cX7_isFound 39 = .ok (.getfield 16, 3) := by decide +kernel
theorem dX7_isFound_42 : decode cX7_isFound 42 = .ok (.iload_n 1, 1) := by decide +kernel
theorem dX7_isFound_43 : decode cX7_isFound 43 = .ok (.iload 5, 2) := by decide +kernel
theorem dX7_isFound_45 : decode cX7_isFound 45 = .ok (.iadd, 1) := by decide +kernel
theorem dX7_isFound_46 : decode cX7_isFound 46 = .ok (.iaload, 1) := by decide +kernel
theorem dX7_isFound_47 : decode cX7_isFound 47 = .ok (.if_icmp .ne 7, 3) := by decide +kernel
theorem dX7_isFound_50 : decode cX7_isFound 50 = .ok (.iconst 1, 1) := by decide +kernel
theorem dX7_isFound_51 : decode cX7_isFound 51 = .ok (.goto 4, 3) := by decide +kernel
theorem dX7_isFound_54 : decode cX7_isFound 54 = .ok (.iconst 0, 1) := by decide +kernel
theorem dX7_isFound_55 : decode cX7_isFound 55 = .ok (.istore 4, 2) := by decide +kernel
theorem dX7_isFound_57 : decode cX7_isFound 57 = .ok (.iinc 5 1, 3) := by decide +kernel
theorem dX7_isFound_60 : decode cX7_isFound 60 = .ok (.goto (-43), 3) := by decide +kernel
theorem dX7_isFound_63 : decode cX7_isFound 63 = .ok (.aload_n 0, 1) := by decide +kernel
theorem dX7_isFound_64 : decode cX7_isFound 64 = .ok (.invokevirtual 188, 3) := by decide +kernel
theorem dX7_isFound_67 : decode cX7_isFound 67 = .ok (.iload 4, 2) := by decide +kernel
theorem dX7_isFound_69 : decode cX7_isFound 69 = .ok (.ireturn, 1) := by decide +kernel
set_option maxRecDepth 20000 in
theorem ggX7_found_X7_isSheet : GoodIn wsX7_found wsX7_isSheet := goodIn_r _ [7, 8, 9, 6, 10] (by decide +kernel) (by decide +kernel)
set_option maxRecDepth 20000 in
theorem gX7_found_X7_isSheet : GoodIn wsX7_found (va_wsS RX7 74 yX7_isSheet wsX7_isSheet) := goodIn_app (goodIn_of _ (by decide +kernel)) ggX7_found_X7_isSheet
set_option maxRecDepth 20000 in
theorem ggX7_found_X7_isSort : GoodIn wsX7_found wsX7_isSort := goodIn_r _ [13, 8, 9, 6, 10] (by decide +kernel) (by decide +kernel)
set_option maxRecDepth 20000 in
theorem gX7_found_X7_isSort : GoodIn wsX7_found (va_wsS RX7 78 yX7_isSort wsX7_isSort) := goodIn_app (goodIn_of _ (by decide +kernel)) ggX7_found_X7_isSort
set_option maxRecDepth 20000 in
theorem ggX7_found_X7_within : GoodIn wsX7_found wsX7_within := goodIn_r _ [10] (by decide +kernel) (by decide +kernel)
set_option maxRecDepth 20000 in
theorem gX7_found_X7_within : GoodIn wsX7_found (va_wsS RX7 61 yX7_within wsX7_within) := goodIn_app (goodIn_of _ (by decide +kernel)) ggX7_found_X7_within
set_option maxRecDepth 20000 in
theorem ggX7_found_X7_against : GoodIn wsX7_found wsX7_against := goodIn_r _ [17, 18, 19, 71, 72, 73, 74, 75, 76, 77, 78, 79, 80, 81, 82, 83, 84, 85, 86, 87, 88, 89, 90, 91, 92, 93, 94, 95, 96, 97, 98, 99] (by decide +kernel) (by decide +kernel)
set_option maxRecDepth 20000 in
theorem gX7_found_X7_against : GoodIn wsX7_found (wsV RX7 81 RX7 yX7_against wsX7_against) := goodIn_app (goodIn_of _ (by decide +kernel)) ggX7_found_X7_against
set_option maxRecDepth 20000 in
theorem ggX7_found_X7_fails : GoodIn wsX7_found wsX7_fails := goodIn_r _ [23, 1, 71, 72, 73, 74, 75, 76, 77, 78, 79, 80, 81, 82, 83, 84, 85, 86, 87, 88, 89, 90, 91, 92, 93, 94, 95, 96, 97, 98, 99] (by decide +kernel) (by decide +kernel)
set_option maxRecDepth 20000 in
theorem gX7_found_X7_fails : GoodIn wsX7_found (wsV RX7 85 RX7 yX7_fails wsX7_fails) := goodIn_app (goodIn_of _ (by decide +kernel)) ggX7_found_X7_fails
set_option maxRecDepth 20000 in
theorem ggX7_found_X7_isFound : GoodIn wsX7_found wsX7_isFound := goodIn_r _ [27, 2, 28, 29, 30, 31, 32, 6, 33, 34, 35, 36, 37, 38, 39, 40, 41, 42, 43, 44, 45, 46, 47, 48, 49, 50, 51, 52, 53, 54, 55, 56, 57, 58, 59, 60, 61, 62, 63, 64, 65, 66, 67, 68, 69, 70, 71, 72, 73, 74, 75, 76, 77, 78, 79, 80, 81, 82, 83, 84, 85, 86, 87, 88, 89, 90, 91, 92, 93, 94, 95, 96, 97, 98, 99] (by decide +kernel) (by decide +kernel)
set_option maxRecDepth 20000 in
theorem gX7_found_X7_isFound : GoodIn wsX7_found (wsV RX7 203 RX7 yX7_isFound wsX7_isFound) := goodIn_app (goodIn_of _ (by decide +kernel)) ggX7_found_X7_isFound
theorem dX7_found_0 : decode cX7_found 0 = .ok (.aload_n 0, 1) := by decide +kernel
theorem dX7_found_1 : decode cX7_found 1 = .ok (.iconst 0, 1) := by decide +kernel
theorem dX7_found_2 : decode cX7_found 2 = .ok (.putfield 55, 3) := by decide +kernel
theorem dX7_found_5 : decode cX7_found 5 = .ok (.iload_n 1, 1) := by decide +kernel
theorem dX7_found_6 : decode cX7_found 6 = .ok (.invokestatic 74, 3) := by decide +kernel
theorem dX7_found_9 : decode cX7_found 9 = .ok (.ifCond .ne 5, 3) := by decide +kernel
theorem dX7_found_12 : decode cX7_found 12 = .ok (.iconst (-1), 1) := by decide +kernel
theorem dX7_found_13 : decode cX7_found 13 = .ok (.ireturn, 1) := by decide +kernel
theorem dX7_found_14 : decode cX7_found 14 = .ok (.iload_n 2, 1) := by decide +kernel
theorem dX7_found_15 : decode cX7_found 15 = .ok (.invokestatic 78, 3) := by decide +kernel
theorem dX7_found_18 : decode cX7_found 18 = .ok (.ifCond .eq 14, 3) := by decide +kernel
theorem dX7_found_21 : decode cX7_found 21 = .ok (.iload 4, 2) := by decide +kernel
theorem dX7_found_23 : decode cX7_found 23 = .ok (.iconst (-1), 1) := by decide +kernel
theorem dX7_found_24 : decode cX7_found 24 = .ok (.bipush 23, 2) := by decide +kernel
theorem dX7_found_26 : decode cX7_found 26 = .ok (.invokestatic 61, 3) := by decide +kernel
theorem dX7_found_29 : decode cX7_found 29 = .ok (.ifCond .ne 6, 3) := by decide +kernel
theorem dX7_found_32 : decode cX7_found 32 = .ok (.bipush (-2), 2) := by decide +kernel
theorem dX7_found_34 : decode cX7_found 34 = .ok (.ireturn, 1) := by decide +kernel
theorem dX7_found_35 : decode cX7_found 35 = .ok (.aload_n 0, 1) := by decide +kernel
theorem dX7_found_36 : decode cX7_found 36 = .ok (.getfield 65, 3) := by decide +kernel
theorem dX7_found_39 : decode cX7_found 39 = .ok (.ifCond .ne 6, 3) := by decide +kernel
theorem dX7_found_42 : decode cX7_found 42 = .ok (.bipush (-3), 2) := by decide +kernel
theorem dX7_found_44 : decode cX7_found 44 = .ok (.ireturn, 1) := by decide +kernel
theorem dX7_found_45 : decode cX7_found 45 = .ok (.aload_n 0, 1) := by decide +kernel
theorem dX7_found_46 : decode cX7_found 46 = .ok (.iload_n 1, 1) := by decide +kernel
theorem dX7_found_47 : decode cX7_found 47 = .ok (.iload_n 2, 1) := by decide +kernel
theorem dX7_found_48 : decode cX7_found 48 = .ok (.iload_n 3, 1) := by decide +kernel
theorem dX7_found_49 : decode cX7_found 49 = .ok (.aload_n 0, 1) := by decide +kernel
theorem dX7_found_50 : decode cX7_found 50 = .ok (.getfield 65, 3) := by decide +kernel
theorem dX7_found_53 : decode cX7_found 53 = .ok (.invokevirtual 81, 3) := by decide +kernel
theorem dX7_found_56 : decode cX7_found 56 = .ok (.istore 5, 2) := by decide +kernel
theorem dX7_found_58 : decode cX7_found 58 = .ok (.iload 5, 2) := by decide +kernel
theorem dX7_found_60 : decode cX7_found 60 = .ok (.ifCond .eq 10, 3) := by decide +kernel
theorem dX7_found_63 : decode cX7_found 63 = .ok (.aload_n 0, 1) := by decide +kernel
theorem dX7_found_64 : decode cX7_found 64 = .ok (.iload 5, 2) := by decide +kernel
theorem dX7_found_66 : decode cX7_found 66 = .ok (.invokevirtual 85, 3) := by decide +kernel
theorem dX7_found_69 : decode cX7_found 69 = .ok (.ireturn, 1) := by decide +kernel
theorem dX7_found_70 : decode cX7_found 70 = .ok (.iconst 0, 1) := by decide +kernel
theorem dX7_found_71 : decode cX7_found 71 = .ok (.istore 6, 2) := by decide +kernel
theorem dX7_found_73 : decode cX7_found 73 = .ok (.iconst 0, 1) := by decide +kernel
theorem dX7_found_74 : decode cX7_found 74 = .ok (.istore 7, 2) := by decide +kernel
theorem dX7_found_76 : decode cX7_found 76 = .ok (.iload 7, 2) := by decide +kernel
theorem dX7_found_78 : decode cX7_found 78 = .ok (.aload_n 0, 1) := by decide +kernel
theorem dX7_found_79 : decode cX7_found 79 = .ok (.getfield 65, 3) := by decide +kernel
theorem dX7_found_82 : decode cX7_found 82 = .ok (.aload_n 0, 1) := by decide +kernel
theorem dX7_found_83 : decode cX7_found 83 = .ok (.getfield 68, 3) := by decide +kernel
theorem dX7_found_86 : decode cX7_found 86 = .ok (.imul, 1) := by decide +kernel
theorem dX7_found_87 : decode cX7_found 87 = .ok (.if_icmp .ge 65, 3) := by decide +kernel
theorem dX7_found_90 : decode cX7_found 90 = .ok (.aload_n 0, 1) := by decide +kernel
theorem dX7_found_91 : decode cX7_found 91 = .ok (.bipush 60, 2) := by decide +kernel
theorem dX7_found_93 : decode cX7_found 93 = .ok (.iload_n 1, 1) := by decide +kernel
theorem dX7_found_94 : decode cX7_found 94 = .ok (.imul, 1) := by decide +kernel
theorem dX7_found_95 : decode cX7_found 95 = .ok (.iload_n 3, 1) := by decide +kernel
theorem dX7_found_96 : decode cX7_found 96 = .ok (.iadd, 1) := by decide +kernel
theorem dX7_found_97 : decode cX7_found 97 = .ok (.iload 7, 2) := by decide +kernel
theorem dX7_found_99 : decode cX7_found 99 = .ok (.aload_n 0, 1) := by decide +kernel
theorem dX7_found_100 : decode cX7_found 100 = .ok (.getfield 68, 3) := by decide +kernel
theorem dX7_found_103 : decode cX7_found 103 = .ok (.idiv, 1) := by decide +kernel
theorem dX7_found_104 : decode cX7_found 104 = .ok (.iload 7, 2) := by decide +kernel
theorem dX7_found_106 : decode cX7_found 106 = .ok (.aload_n 0, 1) := by decide +kernel
theorem dX7_found_107 : decode cX7_found 107 = .ok (.getfield 68, 3) := by decide +kernel
theorem dX7_found_110 : decode cX7_found 110 = .ok (.irem, 1) := by decide +kernel
theorem dX7_found_111 : decode cX7_found 111 = .ok (.invokevirtual 203, 3) := by decide +kernel
theorem dX7_found_114 : decode cX7_found 114 = .ok (.ifCond .eq 32, 3) := by decide +kernel
theorem dX7_found_117 : decode cX7_found 117 = .ok (.iload 6, 2) := by decide +kernel
theorem dX7_found_119 : decode cX7_found 119 = .ok (.iload 4, 2) := by decide +kernel
theorem dX7_found_121 : decode cX7_found 121 = .ok (.if_icmp .ne 22, 3) := by decide +kernel
theorem dX7_found_124 : decode cX7_found 124 = .ok (.bipush 10, 2) := by decide +kernel
theorem dX7_found_126 : decode cX7_found 126 = .ok (.iload 7, 2) := by decide +kernel
theorem dX7_found_128 : decode cX7_found 128 = .ok (.aload_n 0, 1) := by decide +kernel
theorem dX7_found_129 : decode cX7_found 129 = .ok (.getfield 68, 3) := by decide +kernel
theorem dX7_found_132 : decode cX7_found 132 = .ok (.idiv, 1) := by decide +kernel
theorem dX7_found_133 : decode cX7_found 133 = .ok (.imul, 1) := by decide +kernel
theorem dX7_found_134 : decode cX7_found 134 = .ok (.iload 7, 2) := by decide +kernel
theorem dX7_found_136 : decode cX7_found 136 = .ok (.aload_n 0, 1) := by decide +kernel
theorem dX7_found_137 : decode cX7_found 137 = .ok (.getfield 68, 3) := by decide +kernel
theorem dX7_found_140 : decode cX7_found 140 = .ok (.irem, 1) := by decide +kernel
theorem dX7_found_141 : decode cX7_found 141 = .ok (.iadd, 1) := by decide +kernel
theorem dX7_found_142 : decode cX7_found 142 = .ok (.ireturn, 1) := by decide +kernel
theorem dX7_found_143 : decode cX7_found 143 = .ok (.iinc 6 1, 3) := by decide +kernel
theorem dX7_found_146 : decode cX7_found 146 = .ok (.iinc 7 1, 3) := by decide +kernel
theorem dX7_found_149 : decode cX7_found 149 = .ok (.goto (-73), 3) := by decide +kernel
theorem dX7_found_152 : decode cX7_found 152 = .ok (.iload 4, 2) := by decide +kernel
theorem dX7_found_154 : decode cX7_found 154 = .ok (.iconst (-1), 1) := by decide +kernel
theorem dX7_found_155 : decode cX7_found 155 = .ok (.if_icmp .ne 8, 3) := by decide +kernel
theorem dX7_found_158 : decode cX7_found 158 = .ok (.iload 6, 2) := by decide +kernel
theorem dX7_found_160 : decode cX7_found 160 = .ok (.goto 5, 3) := by decide +kernel
theorem dX7_found_163 : decode cX7_found 163 = .ok (.bipush (-9), 2) := by decide +kernel
theorem dX7_found_165 : decode cX7_found 165 = .ok (.ireturn, 1) := by decide +kernel
set_option maxRecDepth 20000 in
theorem ggX7_reading_X7_isGallery : GoodIn wsX7_reading wsX7_isGallery := goodIn_r _ [9, 10, 14, 15, 16, 17, 18, 19, 20, 21, 22, 23, 24, 25, 26, 27, 28, 29, 30, 31, 32, 33, 34, 35, 36, 37, 38, 39, 40, 41, 42] (by decide +kernel) (by decide +kernel)
set_option maxRecDepth 20000 in
theorem gX7_reading_X7_isGallery : GoodIn wsX7_reading (wsV RX7 131 RX7 yX7_isGallery wsX7_isGallery) := goodIn_app (goodIn_of _ (by decide +kernel)) ggX7_reading_X7_isGallery
set_option maxRecDepth 20000 in
theorem ggX7_reading_X7_within : GoodIn wsX7_reading wsX7_within := goodIn_r _ [13] (by decide +kernel) (by decide +kernel)
set_option maxRecDepth 20000 in
theorem gX7_reading_X7_within : GoodIn wsX7_reading (va_wsS RX7 61 yX7_within wsX7_within) := goodIn_app (goodIn_of _ (by decide +kernel)) ggX7_reading_X7_within
theorem dX7_reading_0 : decode cX7_reading 0 = .ok (.aload_n 0, 1) := by decide +kernel
theorem dX7_reading_1 : decode cX7_reading 1 = .ok (.iload_n 1, 1) := by decide +kernel
theorem dX7_reading_2 : decode cX7_reading 2 = .ok (.invokevirtual 131, 3) := by decide +kernel
theorem dX7_reading_5 : decode cX7_reading 5 = .ok (.ifCond .ne 5, 3) := by decide +kernel
theorem dX7_reading_8 : decode cX7_reading 8 = .ok (.iconst (-1), 1) := by decide +kernel
theorem dX7_reading_9 : decode cX7_reading 9 = .ok (.ireturn, 1) := by decide +kernel
theorem dX7_reading_10 : decode cX7_reading 10 = .ok (.iload_n 2, 1) := by decide +kernel
theorem dX7_reading_11 : decode cX7_reading 11 = .ok (.iconst 0, 1) := by decide +kernel
theorem dX7_reading_12 : decode cX7_reading 12 = .ok (.bipush 40, 2) := by decide +kernel
theorem dX7_reading_14 : decode cX7_reading 14 = .ok (.invokestatic 61, 3) := by decide +kernel
theorem dX7_reading_17 : decode cX7_reading 17 = .ok (.ifCond .eq 12, 3) := by decide +kernel
theorem dX7_reading_20 : decode cX7_reading 20 = .ok (.iload_n 3, 1) := by decide +kernel
theorem dX7_reading_21 : decode cX7_reading 21 = .ok (.iconst 0, 1) := by decide +kernel
theorem dX7_reading_22 : decode cX7_reading 22 = .ok (.iconst 1, 1) := by decide +kernel
theorem dX7_reading_23 : decode cX7_reading 23 = .ok (.invokestatic 61, 3) := by decide +kernel
theorem dX7_reading_26 : decode cX7_reading 26 = .ok (.ifCond .ne 6, 3) := by decide +kernel
theorem dX7_reading_29 : decode cX7_reading 29 = .ok (.bipush (-2), 2) := by decide +kernel
theorem dX7_reading_31 : decode cX7_reading 31 = .ok (.ireturn, 1) := by decide +kernel
theorem dX7_reading_32 : decode cX7_reading 32 = .ok (.aload_n 0, 1) := by decide +kernel
theorem dX7_reading_33 : decode cX7_reading 33 = .ok (.getfield 110, 3) := by decide +kernel
theorem dX7_reading_36 : decode cX7_reading 36 = .ok (.bipush 8, 2) := by decide +kernel
theorem dX7_reading_38 : decode cX7_reading 38 = .ok (.if_icmp .ne 6, 3) := by decide +kernel
theorem dX7_reading_41 : decode cX7_reading 41 = .ok (.bipush (-4), 2) := by decide +kernel
theorem dX7_reading_43 : decode cX7_reading 43 = .ok (.ireturn, 1) := by decide +kernel
theorem dX7_reading_44 : decode cX7_reading 44 = .ok (.aload_n 0, 1) := by decide +kernel
theorem dX7_reading_45 : decode cX7_reading 45 = .ok (.getfield 46, 3) := by decide +kernel
theorem dX7_reading_48 : decode cX7_reading 48 = .ok (.aload_n 0, 1) := by decide +kernel
theorem dX7_reading_49 : decode cX7_reading 49 = .ok (.getfield 110, 3) := by decide +kernel
theorem dX7_reading_52 : decode cX7_reading 52 = .ok (.iload_n 1, 1) := by decide +kernel
theorem dX7_reading_53 : decode cX7_reading 53 = .ok (.iastore, 1) := by decide +kernel
theorem dX7_reading_54 : decode cX7_reading 54 = .ok (.aload_n 0, 1) := by decide +kernel
theorem dX7_reading_55 : decode cX7_reading 55 = .ok (.getfield 49, 3) := by decide +kernel
theorem dX7_reading_58 : decode cX7_reading 58 = .ok (.aload_n 0, 1) := by decide +kernel
theorem dX7_reading_59 : decode cX7_reading 59 = .ok (.getfield 110, 3) := by decide +kernel
theorem dX7_reading_62 : decode cX7_reading 62 = .ok (.iload_n 2, 1) := by decide +kernel
theorem dX7_reading_63 : decode cX7_reading 63 = .ok (.iastore, 1) := by decide +kernel
theorem dX7_reading_64 : decode cX7_reading 64 = .ok (.aload_n 0, 1) := by decide +kernel
theorem dX7_reading_65 : decode cX7_reading 65 = .ok (.getfield 52, 3) := by decide +kernel
theorem dX7_reading_68 : decode cX7_reading 68 = .ok (.aload_n 0, 1) := by decide +kernel
theorem dX7_reading_69 : decode cX7_reading 69 = .ok (.getfield 110, 3) := by decide +kernel
theorem dX7_reading_72 : decode cX7_reading 72 = .ok (.iload_n 3, 1) := by decide +kernel
theorem dX7_reading_73 : decode cX7_reading 73 = .ok (.iastore, 1) := by decide +kernel
theorem dX7_reading_74 : decode cX7_reading 74 = .ok (.aload_n 0, 1) := by decide +kernel
theorem dX7_reading_75 : decode cX7_reading 75 = .ok (.dup, 1) := by decide +kernel
theorem dX7_reading_76 : decode cX7_reading 76 = .ok (.getfield 110, 3) := by decide +kernel
theorem dX7_reading_79 : decode cX7_reading 79 = .ok (.iconst 1, 1) := by decide +kernel
theorem dX7_reading_80 : decode cX7_reading 80 = .ok (.iadd, 1) := by decide +kernel
theorem dX7_reading_81 : decode cX7_reading 81 = .ok (.putfield 110, 3) := by decide +kernel
theorem dX7_reading_84 : decode cX7_reading 84 = .ok (.aload_n 0, 1) := by decide +kernel
theorem dX7_reading_85 : decode cX7_reading 85 = .ok (.getfield 110, 3) := by decide +kernel
theorem dX7_reading_88 : decode cX7_reading 88 = .ok (.iconst 1, 1) := by decide +kernel
theorem dX7_reading_89 : decode cX7_reading 89 = .ok (.isub, 1) := by decide +kernel
theorem dX7_reading_90 : decode cX7_reading 90 = .ok (.ireturn, 1) := by decide +kernel
set_option maxRecDepth 20000 in
theorem ggX7_back_X7_within : GoodIn wsX7_back wsX7_within := goodIn_r _ [5] (by decide +kernel) (by decide +kernel)
set_option maxRecDepth 20000 in
theorem gX7_back_X7_within : GoodIn wsX7_back (va_wsS RX7 61 yX7_within wsX7_within) := goodIn_app (goodIn_of _ (by decide +kernel)) ggX7_back_X7_within
theorem dX7_back_0 : decode cX7_back 0 = .ok (.iload_n 1, 1) := by decide +kernel
theorem dX7_back_1 : decode cX7_back 1 = .ok (.iconst 0, 1) := by decide +kernel
theorem dX7_back_2 : decode cX7_back 2 = .ok (.aload_n 0, 1) := by decide +kernel
theorem dX7_back_3 : decode cX7_back 3 = .ok (.getfield 110, 3) := by decide +kernel
theorem dX7_back_6 : decode cX7_back 6 = .ok (.invokestatic 61, 3) := by decide +kernel
theorem dX7_back_9 : decode cX7_back 9 = .ok (.ifCond .ne 6, 3) := by decide +kernel
theorem dX7_back_12 : decode cX7_back 12 = .ok (.bipush (-2), 2) := by decide +kernel
theorem dX7_back_14 : decode cX7_back 14 = .ok (.ireturn, 1) := by decide +kernel
theorem dX7_back_15 : decode cX7_back 15 = .ok (.aload_n 0, 1) := by decide +kernel
theorem dX7_back_16 : decode cX7_back 16 = .ok (.dup, 1) := by decide +kernel
theorem dX7_back_17 : decode cX7_back 17 = .ok (.getfield 110, 3) := by decide +kernel
theorem dX7_back_20 : decode cX7_back 20 = .ok (.iload_n 1, 1) := by decide +kernel
theorem dX7_back_21 : decode cX7_back 21 = .ok (.isub, 1) := by decide +kernel
theorem dX7_back_22 : decode cX7_back 22 = .ok (.putfield 110, 3) := by decide +kernel
theorem dX7_back_25 : decode cX7_back 25 = .ok (.aload_n 0, 1) := by decide +kernel
theorem dX7_back_26 : decode cX7_back 26 = .ok (.getfield 110, 3) := by decide +kernel
theorem dX7_back_29 : decode cX7_back 29 = .ok (.ireturn, 1) := by decide +kernel
set_option maxRecDepth 20000 in
theorem ggX7_areSo_X7_bearsOf : GoodIn wsX7_areSo wsX7_bearsOf := goodIn_r _ [9, 10, 11, 12, 13, 8, 14, 15, 16, 17, 18, 19, 20, 21, 22, 23, 24, 25, 26, 27, 28, 29, 30, 31, 32, 33, 34, 35, 36, 37, 38, 39, 40, 41, 42, 43] (by decide +kernel) (by decide +kernel)
set_option maxRecDepth 20000 in
theorem gX7_areSo_X7_bearsOf : GoodIn wsX7_areSo (wsV RX7 134 RX7 yX7_bearsOf wsX7_bearsOf) := goodIn_app (goodIn_of _ (by decide +kernel)) ggX7_areSo_X7_bearsOf
theorem dX7_areSo_0 : decode cX7_areSo 0 = .ok (.iconst 0, 1) := by decide +kernel
theorem dX7_areSo_1 : decode cX7_areSo 1 = .ok (.istore_n 1, 1) := by decide +kernel
theorem dX7_areSo_2 : decode cX7_areSo 2 = .ok (.iload_n 1, 1) := by decide +kernel
theorem dX7_areSo_3 : decode cX7_areSo 3 = .ok (.aload_n 0, 1) := by decide +kernel
theorem dX7_areSo_4 : decode cX7_areSo 4 = .ok (.getfield 110, 3) := by decide +kernel
theorem dX7_areSo_7 : decode cX7_areSo 7 = .ok (.if_icmp .ge 46, 3) := by decide +kernel
theorem dX7_areSo_10 : decode cX7_areSo 10 = .ok (.aload_n 0, 1) := by decide +kernel
theorem dX7_areSo_11 : decode cX7_areSo 11 = .ok (.getfield 49, 3) := by decide +kernel
theorem dX7_areSo_14 : decode cX7_areSo 14 = .ok (.iload_n 1, 1) := by decide +kernel
theorem dX7_areSo_15 : decode cX7_areSo 15 = .ok (.iaload, 1) := by decide +kernel
theorem dX7_areSo_16 : decode cX7_areSo 16 = .ok (.aload_n 0, 1) := by decide +kernel
theorem dX7_areSo_17 : decode cX7_areSo 17 = .ok (.aload_n 0, 1) := by decide +kernel
theorem dX7_areSo_18 : decode cX7_areSo 18 = .ok (.getfield 46, 3) := by decide +kernel
theorem dX7_areSo_21 : decode cX7_areSo 21 = .ok (.iload_n 1, 1) := by decide +kernel
theorem dX7_areSo_22 : decode cX7_areSo 22 = .ok (.iaload, 1) := by decide +kernel
theorem dX7_areSo_23 : decode cX7_areSo 23 = .ok (.invokevirtual 134, 3) := by decide +kernel
theorem dX7_areSo_26 : decode cX7_areSo 26 = .ok (.if_icmp .le 7, 3) := by decide +kernel
theorem dX7_areSo_29 : decode cX7_areSo 29 = .ok (.iconst 1, 1) := by decide +kernel
theorem dX7_areSo_30 : decode cX7_areSo 30 = .ok (.goto 4, 3) := by decide +kernel
theorem dX7_areSo_33 : decode cX7_areSo 33 = .ok (.iconst 0, 1) := by decide +kernel
theorem dX7_areSo_34 : decode cX7_areSo 34 = .ok (.istore_n 2, 1) := by decide +kernel
theorem dX7_areSo_35 : decode cX7_areSo 35 = .ok (.iload_n 2, 1) := by decide +kernel
theorem dX7_areSo_36 : decode cX7_areSo 36 = .ok (.aload_n 0, 1) := by decide +kernel
theorem dX7_areSo_37 : decode cX7_areSo 37 = .ok (.getfield 52, 3) := by decide +kernel
theorem dX7_areSo_40 : decode cX7_areSo 40 = .ok (.iload_n 1, 1) := by decide +kernel
theorem dX7_areSo_41 : decode cX7_areSo 41 = .ok (.iaload, 1) := by decide +kernel
theorem dX7_areSo_42 : decode cX7_areSo 42 = .ok (.if_icmp .eq 5, 3) := by decide +kernel
theorem dX7_areSo_45 : decode cX7_areSo 45 = .ok (.iconst 0, 1) := by decide +kernel
theorem dX7_areSo_46 : decode cX7_areSo 46 = .ok (.ireturn, 1) := by decide +kernel
theorem dX7_areSo_47 : decode cX7_areSo 47 = .ok (.iinc 1 1, 3) := by decide +kernel
theorem dX7_areSo_50 : decode cX7_areSo 50 = .ok (.goto (-48), 3) := by decide +kernel
theorem dX7_areSo_53 : decode cX7_areSo 53 = .ok (.iconst 1, 1) := by decide +kernel
theorem dX7_areSo_54 : decode cX7_areSo 54 = .ok (.ireturn, 1) := by decide +kernel
set_option maxRecDepth 20000 in
theorem ggX7_strengths_X7_isGallery : GoodIn wsX7_strengths wsX7_isGallery := goodIn_r _ [6, 7, 24, 25, 26, 27, 28, 29, 30, 31, 32, 33, 34, 35, 36, 37, 38, 39, 40, 41, 42, 43, 44, 45, 46, 47, 48, 49, 50, 51, 52] (by decide +kernel) (by decide +kernel)
set_option maxRecDepth 20000 in
theorem gX7_strengths_X7_isGallery : GoodIn wsX7_strengths (wsV RX7 131 RX7 yX7_isGallery wsX7_isGallery) := goodIn_app (goodIn_of _ (by decide +kernel)) ggX7_strengths_X7_isGallery
set_option maxRecDepth 20000 in
theorem ggX7_strengths_X7_areSo : GoodIn wsX7_strengths wsX7_areSo := goodIn_r _ [11, 12, 13, 14, 15, 16, 17, 18, 5, 19, 20, 1, 21, 22, 23, 24, 25, 26, 27, 28, 29, 30, 31, 32, 33, 34, 35, 36, 37, 38, 39, 40, 41, 42, 43, 44, 45, 46, 47, 48, 49, 50, 51, 52] (by decide +kernel) (by decide +kernel)
set_option maxRecDepth 20000 in
theorem gX7_strengths_X7_areSo : GoodIn wsX7_strengths (wsV RX7 206 RX7 yX7_areSo wsX7_areSo) := goodIn_app (goodIn_of _ (by decide +kernel)) ggX7_strengths_X7_areSo
theorem dX7_strengths_0 : decode cX7_strengths 0 = .ok (.aload_n 0, 1) := by decide +kernel
theorem dX7_strengths_1 : decode cX7_strengths 1 = .ok (.iload_n 1, 1) := by decide +kernel
theorem dX7_strengths_2 : decode cX7_strengths 2 = .ok (.invokevirtual 131, 3) := by decide +kernel
theorem dX7_strengths_5 : decode cX7_strengths 5 = .ok (.ifCond .ne 5, 3) := by decide +kernel
theorem dX7_strengths_8 : decode cX7_strengths 8 = .ok (.iconst (-1), 1) := by decide +kernel
theorem dX7_strengths_9 : decode cX7_strengths 9 = .ok (.ireturn, 1) := by decide +kernel
theorem dX7_strengths_10 : decode cX7_strengths 10 = .ok (.aload_n 0, 1) := by decide +kernel
theorem dX7_strengths_11 : decode cX7_strengths 11 = .ok (.getfield 28, 3) := by decide +kernel
theorem dX7_strengths_14 : decode cX7_strengths 14 = .ok (.iload_n 1, 1) := by decide +kernel
theorem dX7_strengths_15 : decode cX7_strengths 15 = .ok (.iaload, 1) := by decide +kernel
theorem dX7_strengths_16 : decode cX7_strengths 16 = .ok (.istore_n 2, 1) := by decide +kernel
theorem dX7_strengths_17 : decode cX7_strengths 17 = .ok (.iconst 0, 1) := by decide +kernel
theorem dX7_strengths_18 : decode cX7_strengths 18 = .ok (.istore_n 3, 1) := by decide +kernel
theorem dX7_strengths_19 : decode cX7_strengths 19 = .ok (.iconst 1, 1) := by decide +kernel
theorem dX7_strengths_20 : decode cX7_strengths 20 = .ok (.istore 4, 2) := by decide +kernel
theorem dX7_strengths_22 : decode cX7_strengths 22 = .ok (.iload 4, 2) := by decide +kernel
theorem dX7_strengths_24 : decode cX7_strengths 24 = .ok (.bipush 9, 2) := by decide +kernel
theorem dX7_strengths_26 : decode cX7_strengths 26 = .ok (.if_icmp .gt 35, 3) := by decide +kernel
theorem dX7_strengths_29 : decode cX7_strengths 29 = .ok (.aload_n 0, 1) := by decide +kernel
theorem dX7_strengths_30 : decode cX7_strengths 30 = .ok (.getfield 28, 3) := by decide +kernel
theorem dX7_strengths_33 : decode cX7_strengths 33 = .ok (.iload_n 1, 1) := by decide +kernel
theorem dX7_strengths_34 : decode cX7_strengths 34 = .ok (.iload 4, 2) := by decide +kernel
theorem dX7_strengths_36 : decode cX7_strengths 36 = .ok (.iastore, 1) := by decide +kernel
theorem dX7_strengths_37 : decode cX7_strengths 37 = .ok (.iload_n 3, 1) := by decide +kernel
theorem dX7_strengths_38 : decode cX7_strengths 38 = .ok (.aload_n 0, 1) := by decide +kernel
theorem dX7_strengths_39 : decode cX7_strengths 39 = .ok (.invokevirtual 206, 3) := by decide +kernel
theorem dX7_strengths_42 : decode cX7_strengths 42 = .ok (.ifCond .eq 10, 3) := by decide +kernel
theorem dX7_strengths_45 : decode cX7_strengths 45 = .ok (.iconst 1, 1) := by decide +kernel
theorem dX7_strengths_46 : decode cX7_strengths 46 = .ok (.iload 4, 2) := by decide +kernel
theorem dX7_strengths_48 : decode cX7_strengths 48 = .ok (.ishl, 1) := by decide +kernel
theorem dX7_strengths_49 : decode cX7_strengths 49 = .ok (.goto 4, 3) := by decide +kernel
theorem dX7_strengths_52 : decode cX7_strengths 52 = .ok (.iconst 0, 1) := by decide +kernel
theorem dX7_strengths_53 : decode cX7_strengths 53 = .ok (.ior, 1) := by decide +kernel
theorem dX7_strengths_54 : decode cX7_strengths 54 = .ok (.istore_n 3, 1) := by decide +kernel
theorem dX7_strengths_55 : decode cX7_strengths 55 = .ok (.iinc 4 1, 3) := by decide +kernel
theorem dX7_strengths_58 : decode cX7_strengths 58 = .ok (.goto (-36), 3) := by decide +kernel
theorem dX7_strengths_61 : decode cX7_strengths 61 = .ok (.aload_n 0, 1) := by decide +kernel
theorem dX7_strengths_62 : decode cX7_strengths 62 = .ok (.getfield 28, 3) := by decide +kernel
theorem dX7_strengths_65 : decode cX7_strengths 65 = .ok (.iload_n 1, 1) := by decide +kernel
theorem dX7_strengths_66 : decode cX7_strengths 66 = .ok (.iload_n 2, 1) := by decide +kernel
theorem dX7_strengths_67 : decode cX7_strengths 67 = .ok (.iastore, 1) := by decide +kernel
theorem dX7_strengths_68 : decode cX7_strengths 68 = .ok (.iload_n 3, 1) := by decide +kernel
theorem dX7_strengths_69 : decode cX7_strengths 69 = .ok (.ireturn, 1) := by decide +kernel
set_option maxRecDepth 20000 in
theorem ggX7_kinds_X7_isGallery : GoodIn wsX7_kinds wsX7_isGallery := goodIn_r _ [6, 7, 24, 25, 26, 27, 28, 29, 30, 31, 32, 33, 34, 35, 36, 37, 38, 39, 40, 41, 42, 43, 44, 45, 46, 47, 48, 49, 50, 51, 52] (by decide +kernel) (by decide +kernel)
set_option maxRecDepth 20000 in
theorem gX7_kinds_X7_isGallery : GoodIn wsX7_kinds (wsV RX7 131 RX7 yX7_isGallery wsX7_isGallery) := goodIn_app (goodIn_of _ (by decide +kernel)) ggX7_kinds_X7_isGallery
set_option maxRecDepth 20000 in
theorem ggX7_kinds_X7_areSo : GoodIn wsX7_kinds wsX7_areSo := goodIn_r _ [11, 12, 13, 14, 15, 16, 17, 18, 5, 19, 1, 20, 21, 22, 23, 24, 25, 26, 27, 28, 29, 30, 31, 32, 33, 34, 35, 36, 37, 38, 39, 40, 41, 42, 43, 44, 45, 46, 47, 48, 49, 50, 51, 52] (by decide +kernel) (by decide +kernel)
set_option maxRecDepth 20000 in
theorem gX7_kinds_X7_areSo : GoodIn wsX7_kinds (wsV RX7 206 RX7 yX7_areSo wsX7_areSo) := goodIn_app (goodIn_of _ (by decide +kernel)) ggX7_kinds_X7_areSo
theorem dX7_kinds_0 : decode cX7_kinds 0 = .ok (.aload_n 0, 1) := by decide +kernel
theorem dX7_kinds_1 : decode cX7_kinds 1 = .ok (.iload_n 1, 1) := by decide +kernel
theorem dX7_kinds_2 : decode cX7_kinds 2 = .ok (.invokevirtual 131, 3) := by decide +kernel
theorem dX7_kinds_5 : decode cX7_kinds 5 = .ok (.ifCond .ne 5, 3) := by decide +kernel
theorem dX7_kinds_8 : decode cX7_kinds 8 = .ok (.iconst (-1), 1) := by decide +kernel
theorem dX7_kinds_9 : decode cX7_kinds 9 = .ok (.ireturn, 1) := by decide +kernel
theorem dX7_kinds_10 : decode cX7_kinds 10 = .ok (.aload_n 0, 1) := by decide +kernel
theorem dX7_kinds_11 : decode cX7_kinds 11 = .ok (.getfield 22, 3) := by decide +kernel
theorem dX7_kinds_14 : decode cX7_kinds 14 = .ok (.iload_n 1, 1) := by decide +kernel
theorem dX7_kinds_15 : decode cX7_kinds 15 = .ok (.iaload, 1) := by decide +kernel
theorem dX7_kinds_16 : decode cX7_kinds 16 = .ok (.istore_n 2, 1) := by decide +kernel
theorem dX7_kinds_17 : decode cX7_kinds 17 = .ok (.iconst 0, 1) := by decide +kernel
theorem dX7_kinds_18 : decode cX7_kinds 18 = .ok (.istore_n 3, 1) := by decide +kernel
theorem dX7_kinds_19 : decode cX7_kinds 19 = .ok (.iconst 0, 1) := by decide +kernel
theorem dX7_kinds_20 : decode cX7_kinds 20 = .ok (.istore 4, 2) := by decide +kernel
theorem dX7_kinds_22 : decode cX7_kinds 22 = .ok (.iload 4, 2) := by decide +kernel
theorem dX7_kinds_24 : decode cX7_kinds 24 = .ok (.iconst 3, 1) := by decide +kernel
theorem dX7_kinds_25 : decode cX7_kinds 25 = .ok (.if_icmp .ge 35, 3) := by decide +kernel
theorem dX7_kinds_28 : decode cX7_kinds 28 = .ok (.aload_n 0, 1) := by decide +kernel
theorem dX7_kinds_29 : decode cX7_kinds 29 = .ok (.getfield 22, 3) := by decide +kernel
theorem dX7_kinds_32 : decode cX7_kinds 32 = .ok (.iload_n 1, 1) := by decide +kernel
theorem dX7_kinds_33 : decode cX7_kinds 33 = .ok (.iload 4, 2) := by decide +kernel
theorem dX7_kinds_35 : decode cX7_kinds 35 = .ok (.iastore, 1) := by decide +kernel
theorem dX7_kinds_36 : decode cX7_kinds 36 = .ok (.iload_n 3, 1) := by decide +kernel
theorem dX7_kinds_37 : decode cX7_kinds 37 = .ok (.aload_n 0, 1) := by decide +kernel
theorem dX7_kinds_38 : decode cX7_kinds 38 = .ok (.invokevirtual 206, 3) := by decide +kernel
theorem dX7_kinds_41 : decode cX7_kinds 41 = .ok (.ifCond .eq 10, 3) := by decide +kernel
theorem dX7_kinds_44 : decode cX7_kinds 44 = .ok (.iconst 1, 1) := by decide +kernel
theorem dX7_kinds_45 : decode cX7_kinds 45 = .ok (.iload 4, 2) := by decide +kernel
theorem dX7_kinds_47 : decode cX7_kinds 47 = .ok (.ishl, 1) := by decide +kernel
theorem dX7_kinds_48 : decode cX7_kinds 48 = .ok (.goto 4, 3) := by decide +kernel
theorem dX7_kinds_51 : decode cX7_kinds 51 = .ok (.iconst 0, 1) := by decide +kernel
theorem dX7_kinds_52 : decode cX7_kinds 52 = .ok (.ior, 1) := by decide +kernel
theorem dX7_kinds_53 : decode cX7_kinds 53 = .ok (.istore_n 3, 1) := by decide +kernel
theorem dX7_kinds_54 : decode cX7_kinds 54 = .ok (.iinc 4 1, 3) := by decide +kernel
theorem dX7_kinds_57 : decode cX7_kinds 57 = .ok (.goto (-35), 3) := by decide +kernel
theorem dX7_kinds_60 : decode cX7_kinds 60 = .ok (.aload_n 0, 1) := by decide +kernel
theorem dX7_kinds_61 : decode cX7_kinds 61 = .ok (.getfield 22, 3) := by decide +kernel
theorem dX7_kinds_64 : decode cX7_kinds 64 = .ok (.iload_n 1, 1) := by decide +kernel
theorem dX7_kinds_65 : decode cX7_kinds 65 = .ok (.iload_n 2, 1) := by decide +kernel
theorem dX7_kinds_66 : decode cX7_kinds 66 = .ok (.iastore, 1) := by decide +kernel
theorem dX7_kinds_67 : decode cX7_kinds 67 = .ok (.iload_n 3, 1) := by decide +kernel
theorem dX7_kinds_68 : decode cX7_kinds 68 = .ok (.ireturn, 1) := by decide +kernel
theorem dX7_inLeastTerms_0 : decode cX7_inLeastTerms 0 = .ok (.lload_n 0, 1) := by decide +kernel
theorem dX7_inLeastTerms_1 : decode cX7_inLeastTerms 1 = .ok (.lstore 5, 2) := by decide +kernel
theorem dX7_inLeastTerms_3 : decode cX7_inLeastTerms 3 = .ok (.lload_n 2, 1) := by decide +kernel
theorem dX7_inLeastTerms_4 : decode cX7_inLeastTerms 4 = .ok (.lstore 7, 2) := by decide +kernel
theorem dX7_inLeastTerms_6 : decode cX7_inLeastTerms 6 = .ok (.lload 7, 2) := by decide +kernel
theorem dX7_inLeastTerms_8 : decode cX7_inLeastTerms 8 = .ok (.lconst 0, 1) := by decide +kernel
theorem dX7_inLeastTerms_9 : decode cX7_inLeastTerms 9 = .ok (.lcmp, 1) := by decide +kernel
theorem dX7_inLeastTerms_10 : decode cX7_inLeastTerms 10 = .ok (.ifCond .eq 21, 3) := by decide +kernel
theorem dX7_inLeastTerms_13 : decode cX7_inLeastTerms 13 = .ok (.lload 5, 2) := by decide +kernel
theorem dX7_inLeastTerms_15 : decode cX7_inLeastTerms 15 = .ok (.lload 7, 2) := by decide +kernel
theorem dX7_inLeastTerms_17 : decode cX7_inLeastTerms 17 = .ok (.lrem, 1) := by decide +kernel
theorem dX7_inLeastTerms_18 : decode cX7_inLeastTerms 18 = .ok (.lstore 9, 2) := by decide +kernel
theorem dX7_inLeastTerms_20 : decode cX7_inLeastTerms 20 = .ok (.lload 7, 2) := by decide +kernel
theorem dX7_inLeastTerms_22 : decode cX7_inLeastTerms 22 = .ok (.lstore 5, 2) := by decide +kernel
theorem dX7_inLeastTerms_24 : decode cX7_inLeastTerms 24 = .ok (.lload 9, 2) := by decide +kernel
theorem dX7_inLeastTerms_26 : decode cX7_inLeastTerms 26 = .ok (.lstore 7, 2) := by decide +kernel
theorem dX7_inLeastTerms_28 : decode cX7_inLeastTerms 28 = .ok (.goto (-22), 3) := by decide +kernel
theorem dX7_inLeastTerms_31 : decode cX7_inLeastTerms 31 = .ok (.iload 4, 2) := by decide +kernel
theorem dX7_inLeastTerms_33 : decode cX7_inLeastTerms 33 = .ok (.ifCond .ne 10, 3) := by decide +kernel
theorem dX7_inLeastTerms_36 : decode cX7_inLeastTerms 36 = .ok (.lload_n 0, 1) := by decide +kernel
theorem dX7_inLeastTerms_37 : decode cX7_inLeastTerms 37 = .ok (.lload 5, 2) := by decide +kernel
theorem dX7_inLeastTerms_39 : decode cX7_inLeastTerms 39 = .ok (.ldiv, 1) := by decide +kernel
theorem dX7_inLeastTerms_40 : decode cX7_inLeastTerms 40 = .ok (.goto 7, 3) := by decide +kernel
theorem dX7_inLeastTerms_43 : decode cX7_inLeastTerms 43 = .ok (.lload_n 2, 1) := by decide +kernel
theorem dX7_inLeastTerms_44 : decode cX7_inLeastTerms 44 = .ok (.lload 5, 2) := by decide +kernel
theorem dX7_inLeastTerms_46 : decode cX7_inLeastTerms 46 = .ok (.ldiv, 1) := by decide +kernel
theorem dX7_inLeastTerms_47 : decode cX7_inLeastTerms 47 = .ok (.lreturn, 1) := by decide +kernel
set_option maxRecDepth 20000 in
theorem ggX7_odds_X7_isGallery : GoodIn wsX7_odds wsX7_isGallery := goodIn_r _ [9, 2, 57, 58, 59, 60, 61, 62, 63, 64, 65, 66, 67, 68, 69, 70, 71, 72, 73, 74, 75, 76, 77, 78, 79, 80, 81, 82, 83, 84, 85] (by decide +kernel) (by decide +kernel)
set_option maxRecDepth 20000 in
theorem gX7_odds_X7_isGallery : GoodIn wsX7_odds (wsV RX7 131 RX7 yX7_isGallery wsX7_isGallery) := goodIn_app (goodIn_of _ (by decide +kernel)) ggX7_odds_X7_isGallery
set_option maxRecDepth 20000 in
theorem ggX7_odds_X7_within : GoodIn wsX7_odds wsX7_within := goodIn_r _ [12] (by decide +kernel) (by decide +kernel)
set_option maxRecDepth 20000 in
theorem gX7_odds_X7_within : GoodIn wsX7_odds (va_wsS RX7 61 yX7_within wsX7_within) := goodIn_app (goodIn_of _ (by decide +kernel)) ggX7_odds_X7_within
set_option maxRecDepth 20000 in
theorem ggX7_odds_X7_keep : GoodIn wsX7_odds wsX7_keep := goodIn_r _ [16, 4, 17, 2, 18, 19, 57, 58, 59, 60, 61, 62, 63, 64, 65, 66, 67, 68, 69, 70, 71, 72, 73, 74, 75, 76, 77, 78, 79, 80, 81, 82, 83, 84, 85] (by decide +kernel) (by decide +kernel)
set_option maxRecDepth 20000 in
theorem gX7_odds_X7_keep : GoodIn wsX7_odds (wsV RX7 179 RX7 yX7_keep wsX7_keep) := goodIn_app (goodIn_of _ (by decide +kernel)) ggX7_odds_X7_keep
set_option maxRecDepth 20000 in
theorem ggX7_odds_X7_breathe : GoodIn wsX7_odds wsX7_breathe := goodIn_r _ [23, 24, 25, 26, 8, 27, 19, 28, 29, 30, 31, 32, 2, 33, 34, 35, 36, 37, 38, 39, 40, 4, 41, 42, 43, 44, 45, 46, 47, 48, 49, 57, 58, 59, 60, 61, 62, 63, 64, 65, 66, 67, 68, 69, 70, 71, 72, 73, 74, 75, 76, 77, 78, 79, 80, 81, 82, 83, 84, 85] (by decide +kernel) (by decide +kernel)
set_option maxRecDepth 20000 in
theorem gX7_odds_X7_breathe : GoodIn wsX7_odds (wsV RX7 157 RX7 yX7_breathe wsX7_breathe) := goodIn_app (goodIn_of _ (by decide +kernel)) ggX7_odds_X7_breathe
set_option maxRecDepth 20000 in
theorem ggX7_odds_X7_putBack : GoodIn wsX7_odds wsX7_putBack := goodIn_r _ [53, 17, 4, 2, 19, 18, 57, 58, 59, 60, 61, 62, 63, 64, 65, 66, 67, 68, 69, 70, 71, 72, 73, 74, 75, 76, 77, 78, 79, 80, 81, 82, 83, 84, 85] (by decide +kernel) (by decide +kernel)
set_option maxRecDepth 20000 in
theorem gX7_odds_X7_putBack : GoodIn wsX7_odds (wsV RX7 188 RX7 yX7_putBack wsX7_putBack) := goodIn_app (goodIn_of _ (by decide +kernel)) ggX7_odds_X7_putBack
set_option maxRecDepth 20000 in
theorem ggX7_odds_X7_inLeastTerms : GoodIn wsX7_odds wsX7_inLeastTerms := goodIn_r _ [56] (by decide +kernel) (by decide +kernel)
set_option maxRecDepth 20000 in
theorem gX7_odds_X7_inLeastTerms : GoodIn wsX7_odds (va_wsS RX7 210 yX7_inLeastTerms wsX7_inLeastTerms) := goodIn_app (goodIn_of _ (by decide +kernel)) ggX7_odds_X7_inLeastTerms
theorem dX7_odds_0 : decode cX7_odds 0 = .ok (.aload_n 0, 1) := by decide +kernel
theorem dX7_odds_1 : decode cX7_odds 1 = .ok (.iload_n 1, 1) := by decide +kernel
theorem dX7_odds_2 : decode cX7_odds 2 = .ok (.invokevirtual 131, 3) := by decide +kernel
theorem dX7_odds_5 : decode cX7_odds 5 = .ok (.ifCond .eq 12, 3) := by decide +kernel
theorem dX7_odds_8 : decode cX7_odds 8 = .ok (.iload_n 2, 1) := by decide +kernel
theorem dX7_odds_9 : decode cX7_odds 9 = .ok (.iconst 0, 1) := by decide +kernel
theorem dX7_odds_10 : decode cX7_odds 10 = .ok (.iconst 1, 1) := by decide +kernel
theorem dX7_odds_11 : decode cX7_odds 11 = .ok (.invokestatic 61, 3) := by decide +kernel
theorem dX7_odds_14 : decode cX7_odds 14 = .ok (.ifCond .ne 7, 3) := by decide +kernel
theorem dX7_odds_17 : decode cX7_odds 17 = .ok (.ldc2_w 59, 3) := by decide +kernel
theorem dX7_odds_20 : decode cX7_odds 20 = .ok (.lreturn, 1) := by decide +kernel
theorem dX7_odds_21 : decode cX7_odds 21 = .ok (.iconst 0, 1) := by decide +kernel
theorem dX7_odds_22 : decode cX7_odds 22 = .ok (.istore_n 3, 1) := by decide +kernel
theorem dX7_odds_23 : decode cX7_odds 23 = .ok (.iconst 0, 1) := by decide +kernel
theorem dX7_odds_24 : decode cX7_odds 24 = .ok (.istore 4, 2) := by decide +kernel
theorem dX7_odds_26 : decode cX7_odds 26 = .ok (.iload 4, 2) := by decide +kernel
theorem dX7_odds_28 : decode cX7_odds 28 = .ok (.aload_n 0, 1) := by decide +kernel
theorem dX7_odds_29 : decode cX7_odds 29 = .ok (.getfield 65, 3) := by decide +kernel
theorem dX7_odds_32 : decode cX7_odds 32 = .ok (.aload_n 0, 1) := by decide +kernel
theorem dX7_odds_33 : decode cX7_odds 33 = .ok (.getfield 68, 3) := by decide +kernel
theorem dX7_odds_36 : decode cX7_odds 36 = .ok (.imul, 1) := by decide +kernel
theorem dX7_odds_37 : decode cX7_odds 37 = .ok (.if_icmp .ge 47, 3) := by decide +kernel
theorem dX7_odds_40 : decode cX7_odds 40 = .ok (.aload_n 0, 1) := by decide +kernel
theorem dX7_odds_41 : decode cX7_odds 41 = .ok (.invokevirtual 179, 3) := by decide +kernel
theorem dX7_odds_44 : decode cX7_odds 44 = .ok (.aload_n 0, 1) := by decide +kernel
theorem dX7_odds_45 : decode cX7_odds 45 = .ok (.iload 4, 2) := by decide +kernel
theorem dX7_odds_47 : decode cX7_odds 47 = .ok (.aload_n 0, 1) := by decide +kernel
theorem dX7_odds_48 : decode cX7_odds 48 = .ok (.getfield 68, 3) := by decide +kernel
theorem dX7_odds_51 : decode cX7_odds 51 = .ok (.idiv, 1) := by decide +kernel
theorem dX7_odds_52 : decode cX7_odds 52 = .ok (.iload 4, 2) := by decide +kernel
theorem dX7_odds_54 : decode cX7_odds 54 = .ok (.aload_n 0, 1) := by decide +kernel
theorem dX7_odds_55 : decode cX7_odds 55 = .ok (.getfield 68, 3) := by decide +kernel
theorem dX7_odds_58 : decode cX7_odds 58 = .ok (.irem, 1) := by decide +kernel
theorem dX7_odds_59 : decode cX7_odds 59 = .ok (.invokevirtual 157, 3) := by decide +kernel
theorem dX7_odds_62 : decode cX7_odds 62 = .ok (.pop, 1) := by decide +kernel
theorem dX7_odds_63 : decode cX7_odds 63 = .ok (.iload_n 3, 1) := by decide +kernel
theorem dX7_odds_64 : decode cX7_odds 64 = .ok (.aload_n 0, 1) := by decide +kernel
theorem dX7_odds_65 : decode cX7_odds 65 = .ok (.getfield 107, 3) := by decide +kernel
theorem dX7_odds_68 : decode cX7_odds 68 = .ok (.iload_n 1, 1) := by decide +kernel
theorem dX7_odds_69 : decode cX7_odds 69 = .ok (.ishr, 1) := by decide +kernel
theorem dX7_odds_70 : decode cX7_odds 70 = .ok (.iconst 1, 1) := by decide +kernel
theorem dX7_odds_71 : decode cX7_odds 71 = .ok (.iand, 1) := by decide +kernel
theorem dX7_odds_72 : decode cX7_odds 72 = .ok (.iadd, 1) := by decide +kernel
theorem dX7_odds_73 : decode cX7_odds 73 = .ok (.istore_n 3, 1) := by decide +kernel
theorem dX7_odds_74 : decode cX7_odds 74 = .ok (.aload_n 0, 1) := by decide +kernel
theorem dX7_odds_75 : decode cX7_odds 75 = .ok (.invokevirtual 188, 3) := by decide +kernel
theorem dX7_odds_78 : decode cX7_odds 78 = .ok (.iinc 4 1, 3) := by decide +kernel
theorem dX7_odds_81 : decode cX7_odds 81 = .ok (.goto (-55), 3) := by decide +kernel
theorem dX7_odds_84 : decode cX7_odds 84 = .ok (.iload_n 3, 1) := by decide +kernel
theorem dX7_odds_85 : decode cX7_odds 85 = .ok (.i2l, 1) := by decide +kernel
theorem dX7_odds_86 : decode cX7_odds 86 = .ok (.aload_n 0, 1) := by decide +kernel
theorem dX7_odds_87 : decode cX7_odds 87 = .ok (.getfield 65, 3) := by decide +kernel
theorem dX7_odds_90 : decode cX7_odds 90 = .ok (.aload_n 0, 1) := by decide +kernel
theorem dX7_odds_91 : decode cX7_odds 91 = .ok (.getfield 68, 3) := by decide +kernel
theorem dX7_odds_94 : decode cX7_odds 94 = .ok (.imul, 1) := by decide +kernel
theorem dX7_odds_95 : decode cX7_odds 95 = .ok (.i2l, 1) := by decide +kernel
theorem dX7_odds_96 : decode cX7_odds 96 = .ok (.iload_n 2, 1) := by decide +kernel
theorem dX7_odds_97 : decode cX7_odds 97 = .ok (.invokestatic 210, 3) := by decide +kernel
theorem dX7_odds_100 : decode cX7_odds 100 = .ok (.lreturn, 1) := by decide +kernel
set_option maxRecDepth 20000 in
theorem ggX7_sheet_X7_isSheet : GoodIn wsX7_sheet wsX7_isSheet := goodIn_r _ [8, 9, 10, 7, 11] (by decide +kernel) (by decide +kernel)
set_option maxRecDepth 20000 in
theorem gX7_sheet_X7_isSheet : GoodIn wsX7_sheet (va_wsS RX7 74 yX7_isSheet wsX7_isSheet) := goodIn_app (goodIn_of _ (by decide +kernel)) ggX7_sheet_X7_isSheet
set_option maxRecDepth 20000 in
theorem ggX7_sheet_X7_isSort : GoodIn wsX7_sheet wsX7_isSort := goodIn_r _ [14, 9, 10, 7, 11] (by decide +kernel) (by decide +kernel)
set_option maxRecDepth 20000 in
theorem gX7_sheet_X7_isSort : GoodIn wsX7_sheet (va_wsS RX7 78 yX7_isSort wsX7_isSort) := goodIn_app (goodIn_of _ (by decide +kernel)) ggX7_sheet_X7_isSort
set_option maxRecDepth 20000 in
theorem ggX7_sheet_X7_fails : GoodIn wsX7_sheet wsX7_fails := goodIn_r _ [18, 1, 19, 20, 21, 22, 23, 24, 25, 26, 27, 28, 29, 30, 31, 32, 33, 34, 35, 36, 37, 38, 39, 40, 41, 42, 43, 44, 45, 46, 47] (by decide +kernel) (by decide +kernel)
set_option maxRecDepth 20000 in
theorem gX7_sheet_X7_fails : GoodIn wsX7_sheet (wsV RX7 85 RX7 yX7_fails wsX7_fails) := goodIn_app (goodIn_of _ (by decide +kernel)) ggX7_sheet_X7_fails
theorem dX7_sheet_0 : decode cX7_sheet 0 = .ok (.aload_n 0, 1) := by decide +kernel
theorem dX7_sheet_1 : decode cX7_sheet 1 = .ok (.iconst 0, 1) := by decide +kernel
theorem dX7_sheet_2 : decode cX7_sheet 2 = .ok (.putfield 55, 3) := by decide +kernel
theorem dX7_sheet_5 : decode cX7_sheet 5 = .ok (.iload_n 1, 1) := by decide +kernel
theorem dX7_sheet_6 : decode cX7_sheet 6 = .ok (.invokestatic 74, 3) := by decide +kernel
theorem dX7_sheet_9 : decode cX7_sheet 9 = .ok (.ifCond .ne 5, 3) := by decide +kernel
theorem dX7_sheet_12 : decode cX7_sheet 12 = .ok (.iconst (-1), 1) := by decide +kernel
theorem dX7_sheet_13 : decode cX7_sheet 13 = .ok (.ireturn, 1) := by decide +kernel
theorem dX7_sheet_14 : decode cX7_sheet 14 = .ok (.iload_n 2, 1) := by decide +kernel
theorem dX7_sheet_15 : decode cX7_sheet 15 = .ok (.invokestatic 78, 3) := by decide +kernel
theorem dX7_sheet_18 : decode cX7_sheet 18 = .ok (.ifCond .eq 9, 3) := by decide +kernel
theorem dX7_sheet_21 : decode cX7_sheet 21 = .ok (.iload_n 3, 1) := by decide +kernel
theorem dX7_sheet_22 : decode cX7_sheet 22 = .ok (.bipush 60, 2) := by decide +kernel
theorem dX7_sheet_24 : decode cX7_sheet 24 = .ok (.if_icmp .le 6, 3) := by decide +kernel
theorem dX7_sheet_27 : decode cX7_sheet 27 = .ok (.bipush (-2), 2) := by decide +kernel
theorem dX7_sheet_29 : decode cX7_sheet 29 = .ok (.ireturn, 1) := by decide +kernel
theorem dX7_sheet_30 : decode cX7_sheet 30 = .ok (.iload_n 3, 1) := by decide +kernel
theorem dX7_sheet_31 : decode cX7_sheet 31 = .ok (.ifCond .ge 9, 3) := by decide +kernel
theorem dX7_sheet_34 : decode cX7_sheet 34 = .ok (.aload_n 0, 1) := by decide +kernel
theorem dX7_sheet_35 : decode cX7_sheet 35 = .ok (.iconst 4, 1) := by decide +kernel
theorem dX7_sheet_36 : decode cX7_sheet 36 = .ok (.invokevirtual 85, 3) := by decide +kernel
theorem dX7_sheet_39 : decode cX7_sheet 39 = .ok (.ireturn, 1) := by decide +kernel
theorem dX7_sheet_40 : decode cX7_sheet 40 = .ok (.aload_n 0, 1) := by decide +kernel
theorem dX7_sheet_41 : decode cX7_sheet 41 = .ok (.getfield 9, 3) := by decide +kernel
theorem dX7_sheet_44 : decode cX7_sheet 44 = .ok (.iload_n 1, 1) := by decide +kernel
theorem dX7_sheet_45 : decode cX7_sheet 45 = .ok (.iload_n 2, 1) := by decide +kernel
theorem dX7_sheet_46 : decode cX7_sheet 46 = .ok (.iastore, 1) := by decide +kernel
theorem dX7_sheet_47 : decode cX7_sheet 47 = .ok (.aload_n 0, 1) := by decide +kernel
theorem dX7_sheet_48 : decode cX7_sheet 48 = .ok (.getfield 13, 3) := by decide +kernel
theorem dX7_sheet_51 : decode cX7_sheet 51 = .ok (.iload_n 1, 1) := by decide +kernel
theorem dX7_sheet_52 : decode cX7_sheet 52 = .ok (.iload_n 3, 1) := by decide +kernel
theorem dX7_sheet_53 : decode cX7_sheet 53 = .ok (.iastore, 1) := by decide +kernel
theorem dX7_sheet_54 : decode cX7_sheet 54 = .ok (.iconst 0, 1) := by decide +kernel
theorem dX7_sheet_55 : decode cX7_sheet 55 = .ok (.istore 4, 2) := by decide +kernel
theorem dX7_sheet_57 : decode cX7_sheet 57 = .ok (.iload 4, 2) := by decide +kernel
theorem dX7_sheet_59 : decode cX7_sheet 59 = .ok (.bipush 60, 2) := by decide +kernel
theorem dX7_sheet_61 : decode cX7_sheet 61 = .ok (.if_icmp .ge 22, 3) := by decide +kernel
theorem dX7_sheet_64 : decode cX7_sheet 64 = .ok (.aload_n 0, 1) := by decide +kernel
theorem dX7_sheet_65 : decode cX7_sheet 65 = .ok (.getfield 16, 3) := by decide +kernel
theorem dX7_sheet_68 : decode cX7_sheet 68 = .ok (.bipush 60, 2) := by decide +kernel
theorem dX7_sheet_70 : decode cX7_sheet 70 = .ok (.iload_n 1, 1) := by decide +kernel
theorem dX7_sheet_71 : decode cX7_sheet 71 = .ok (.imul, 1) := by decide +kernel
theorem dX7_sheet_72 : decode cX7_sheet 72 = .ok (.iload 4, 2) := by decide +kernel
theorem dX7_sheet_74 : decode cX7_sheet 74 = .ok (.iadd, 1) := by decide +kernel
theorem dX7_sheet_75 : decode cX7_sheet 75 = .ok (.iconst 0, 1) := by decide +kernel
theorem dX7_sheet_76 : decode cX7_sheet 76 = .ok (.iastore, 1) := by decide +kernel
theorem dX7_sheet_77 : decode cX7_sheet 77 = .ok (.iinc 4 1, 3) := by decide +kernel
theorem dX7_sheet_80 : decode cX7_sheet 80 = .ok (.goto (-23), 3) := by decide +kernel
theorem dX7_sheet_83 : decode cX7_sheet 83 = .ok (.iconst 1, 1) := by decide +kernel
theorem dX7_sheet_84 : decode cX7_sheet 84 = .ok (.ireturn, 1) := by decide +kernel
set_option maxRecDepth 20000 in
theorem ggX7_lose_X7_isSheet : GoodIn wsX7_lose wsX7_isSheet := goodIn_r _ [5, 6, 7, 4, 8] (by decide +kernel) (by decide +kernel)
set_option maxRecDepth 20000 in
theorem gX7_lose_X7_isSheet : GoodIn wsX7_lose (va_wsS RX7 74 yX7_isSheet wsX7_isSheet) := goodIn_app (goodIn_of _ (by decide +kernel)) ggX7_lose_X7_isSheet
theorem dX7_lose_0 : decode cX7_lose 0 = .ok (.iload_n 1, 1) := by decide +kernel
theorem dX7_lose_1 : decode cX7_lose 1 = .ok (.invokestatic 74, 3) := by decide +kernel
theorem dX7_lose_4 : decode cX7_lose 4 = .ok (.ifCond .ne 5, 3) := by decide +kernel
theorem dX7_lose_7 : decode cX7_lose 7 = .ok (.iconst (-1), 1) := by decide +kernel
theorem dX7_lose_8 : decode cX7_lose 8 = .ok (.ireturn, 1) := by decide +kernel
theorem dX7_lose_9 : decode cX7_lose 9 = .ok (.aload_n 0, 1) := by decide +kernel
theorem dX7_lose_10 : decode cX7_lose 10 = .ok (.getfield 9, 3) := by decide +kernel
theorem dX7_lose_13 : decode cX7_lose 13 = .ok (.iload_n 1, 1) := by decide +kernel
theorem dX7_lose_14 : decode cX7_lose 14 = .ok (.iaload, 1) := by decide +kernel
theorem dX7_lose_15 : decode cX7_lose 15 = .ok (.bipush (-9), 2) := by decide +kernel
theorem dX7_lose_17 : decode cX7_lose 17 = .ok (.if_icmp .ne 7, 3) := by decide +kernel
theorem dX7_lose_20 : decode cX7_lose 20 = .ok (.iconst 0, 1) := by decide +kernel
theorem dX7_lose_21 : decode cX7_lose 21 = .ok (.goto 4, 3) := by decide +kernel
theorem dX7_lose_24 : decode cX7_lose 24 = .ok (.iconst 1, 1) := by decide +kernel
theorem dX7_lose_25 : decode cX7_lose 25 = .ok (.istore_n 2, 1) := by decide +kernel
theorem dX7_lose_26 : decode cX7_lose 26 = .ok (.aload_n 0, 1) := by decide +kernel
theorem dX7_lose_27 : decode cX7_lose 27 = .ok (.getfield 9, 3) := by decide +kernel
theorem dX7_lose_30 : decode cX7_lose 30 = .ok (.iload_n 1, 1) := by decide +kernel
theorem dX7_lose_31 : decode cX7_lose 31 = .ok (.bipush (-9), 2) := by decide +kernel
theorem dX7_lose_33 : decode cX7_lose 33 = .ok (.iastore, 1) := by decide +kernel
theorem dX7_lose_34 : decode cX7_lose 34 = .ok (.iload_n 2, 1) := by decide +kernel
theorem dX7_lose_35 : decode cX7_lose 35 = .ok (.ireturn, 1) := by decide +kernel
set_option maxRecDepth 20000 in
theorem ggX7_put_X7_isSheet : GoodIn wsX7_put wsX7_isSheet := goodIn_r _ [8, 9, 10, 7, 11] (by decide +kernel) (by decide +kernel)
set_option maxRecDepth 20000 in
theorem gX7_put_X7_isSheet : GoodIn wsX7_put (va_wsS RX7 74 yX7_isSheet wsX7_isSheet) := goodIn_app (goodIn_of _ (by decide +kernel)) ggX7_put_X7_isSheet
set_option maxRecDepth 20000 in
theorem ggX7_put_X7_fails : GoodIn wsX7_put wsX7_fails := goodIn_r _ [15, 1, 16, 17, 18, 19, 20, 21, 22, 23, 24, 25, 26, 27, 28, 29, 30, 31, 32, 33, 34, 35, 36, 37, 38, 39, 40, 41, 42, 43, 44] (by decide +kernel) (by decide +kernel)
set_option maxRecDepth 20000 in
theorem gX7_put_X7_fails : GoodIn wsX7_put (wsV RX7 85 RX7 yX7_fails wsX7_fails) := goodIn_app (goodIn_of _ (by decide +kernel)) ggX7_put_X7_fails
set_option maxRecDepth 20000 in
theorem ggX7_put_X7_within : GoodIn wsX7_put wsX7_within := goodIn_r _ [11] (by decide +kernel) (by decide +kernel)
set_option maxRecDepth 20000 in
theorem gX7_put_X7_within : GoodIn wsX7_put (va_wsS RX7 61 yX7_within wsX7_within) := goodIn_app (goodIn_of _ (by decide +kernel)) ggX7_put_X7_within
theorem dX7_put_0 : decode cX7_put 0 = .ok (.aload_n 0, 1) := by decide +kernel
theorem dX7_put_1 : decode cX7_put 1 = .ok (.iconst 0, 1) := by decide +kernel
theorem dX7_put_2 : decode cX7_put 2 = .ok (.putfield 55, 3) := by decide +kernel
theorem dX7_put_5 : decode cX7_put 5 = .ok (.iload_n 1, 1) := by decide +kernel
theorem dX7_put_6 : decode cX7_put 6 = .ok (.invokestatic 74, 3) := by decide +kernel
theorem dX7_put_9 : decode cX7_put 9 = .ok (.ifCond .ne 5, 3) := by decide +kernel
theorem dX7_put_12 : decode cX7_put 12 = .ok (.iconst (-1), 1) := by decide +kernel
theorem dX7_put_13 : decode cX7_put 13 = .ok (.ireturn, 1) := by decide +kernel
theorem dX7_put_14 : decode cX7_put 14 = .ok (.aload_n 0, 1) := by decide +kernel
theorem dX7_put_15 : decode cX7_put 15 = .ok (.getfield 9, 3) := by decide +kernel
theorem dX7_put_18 : decode cX7_put 18 = .ok (.iload_n 1, 1) := by decide +kernel
theorem dX7_put_19 : decode cX7_put 19 = .ok (.iaload, 1) := by decide +kernel
theorem dX7_put_20 : decode cX7_put 20 = .ok (.bipush (-9), 2) := by decide +kernel
theorem dX7_put_22 : decode cX7_put 22 = .ok (.if_icmp .ne 9, 3) := by decide +kernel
theorem dX7_put_25 : decode cX7_put 25 = .ok (.aload_n 0, 1) := by decide +kernel
theorem dX7_put_26 : decode cX7_put 26 = .ok (.iconst 1, 1) := by decide +kernel
theorem dX7_put_27 : decode cX7_put 27 = .ok (.invokevirtual 85, 3) := by decide +kernel
theorem dX7_put_30 : decode cX7_put 30 = .ok (.ireturn, 1) := by decide +kernel
theorem dX7_put_31 : decode cX7_put 31 = .ok (.iload_n 2, 1) := by decide +kernel
theorem dX7_put_32 : decode cX7_put 32 = .ok (.iconst 0, 1) := by decide +kernel
theorem dX7_put_33 : decode cX7_put 33 = .ok (.aload_n 0, 1) := by decide +kernel
theorem dX7_put_34 : decode cX7_put 34 = .ok (.getfield 13, 3) := by decide +kernel
theorem dX7_put_37 : decode cX7_put 37 = .ok (.iload_n 1, 1) := by decide +kernel
theorem dX7_put_38 : decode cX7_put 38 = .ok (.iaload, 1) := by decide +kernel
theorem dX7_put_39 : decode cX7_put 39 = .ok (.iconst 1, 1) := by decide +kernel
theorem dX7_put_40 : decode cX7_put 40 = .ok (.isub, 1) := by decide +kernel
theorem dX7_put_41 : decode cX7_put 41 = .ok (.invokestatic 61, 3) := by decide +kernel
theorem dX7_put_44 : decode cX7_put 44 = .ok (.ifCond .ne 9, 3) := by decide +kernel
theorem dX7_put_47 : decode cX7_put 47 = .ok (.aload_n 0, 1) := by decide +kernel
theorem dX7_put_48 : decode cX7_put 48 = .ok (.iconst 3, 1) := by decide +kernel
theorem dX7_put_49 : decode cX7_put 49 = .ok (.invokevirtual 85, 3) := by decide +kernel
theorem dX7_put_52 : decode cX7_put 52 = .ok (.ireturn, 1) := by decide +kernel
theorem dX7_put_53 : decode cX7_put 53 = .ok (.aload_n 0, 1) := by decide +kernel
