theorem dX6_perches_83 : decode cX6_perches 83 = .ok (.getfield 193, 3) := by decide +kernel
theorem dX6_perches_86 : decode cX6_perches 86 = .ok (.iload_n 1, 1) := by decide +kernel
theorem dX6_perches_87 : decode cX6_perches 87 = .ok (.iaload, 1) := by decide +kernel
theorem dX6_perches_88 : decode cX6_perches 88 = .ok (.ireturn, 1) := by decide +kernel
set_option maxRecDepth 20000 in
theorem ggX6_found_X6_isSheet : GoodIn wsX6_found wsX6_isSheet := goodIn_r _ [10] (by decide +kernel) (by decide +kernel)
set_option maxRecDepth 20000 in
theorem gX6_found_X6_isSheet : GoodIn wsX6_found (va_wsS RX6 71 yX6_isSheet wsX6_isSheet) := goodIn_app (goodIn_of _ (by decide +kernel)) ggX6_found_X6_isSheet
set_option maxRecDepth 20000 in
theorem ggX6_found_X6_isLane : GoodIn wsX6_found wsX6_isLane := goodIn_r _ [13] (by decide +kernel) (by decide +kernel)
set_option maxRecDepth 20000 in
theorem gX6_found_X6_isLane : GoodIn wsX6_found (va_wsS RX6 75 yX6_isLane wsX6_isLane) := goodIn_app (goodIn_of _ (by decide +kernel)) ggX6_found_X6_isLane
set_option maxRecDepth 20000 in
theorem ggX6_found_X6_hasMine : GoodIn wsX6_found wsX6_hasMine := goodIn_r _ [17, 3, 4, 100, 101, 102, 103, 104, 105, 106, 107, 108, 109, 110, 111, 112, 113, 114, 115, 116] (by decide +kernel) (by decide +kernel)
set_option maxRecDepth 20000 in
theorem gX6_found_X6_hasMine : GoodIn wsX6_found (wsV RX6 137 RX6 yX6_hasMine wsX6_hasMine) := goodIn_app (goodIn_of _ (by decide +kernel)) ggX6_found_X6_hasMine
set_option maxRecDepth 20000 in
theorem ggX6_found_X5_faultOfCells : GoodIn wsX6_found wsX5_faultOfCells := goodIn_r _ [22, 23, 24, 25, 26, 27, 21, 28, 29, 117, 118, 119, 120] (by decide +kernel) (by decide +kernel)
set_option maxRecDepth 20000 in
theorem gX6_found_X5_faultOfCells : GoodIn wsX6_found (wsV RX6 78 RX5 yX5_faultOfCells wsX5_faultOfCells) := goodIn_app (goodIn_of _ (by decide +kernel)) ggX6_found_X5_faultOfCells
set_option maxRecDepth 20000 in
theorem ggX6_found_X6_faulted : GoodIn wsX6_found wsX6_faulted := goodIn_r _ [33, 1, 100, 101, 102, 103, 104, 105, 106, 107, 108, 109, 110] (by decide +kernel) (by decide +kernel)
set_option maxRecDepth 20000 in
theorem gX6_found_X6_faulted : GoodIn wsX6_found (wsV RX6 82 RX6 yX6_faulted wsX6_faulted) := goodIn_app (goodIn_of _ (by decide +kernel)) ggX6_found_X6_faulted
set_option maxRecDepth 20000 in
theorem ggX6_found_X6_airBehind : GoodIn wsX6_found wsX6_airBehind := goodIn_r _ [37, 38, 39, 3, 40, 41, 42, 43, 44, 45, 46, 47, 48, 49, 50, 51, 52, 53, 54, 55, 56, 57, 58, 59, 60, 61, 62, 63, 64, 65, 66, 67, 68, 69, 70, 71, 72, 73, 74, 75, 76, 77, 78, 79, 80, 81, 82, 83, 84, 85, 86, 87, 88, 89, 90, 91, 92, 93, 9, 94, 100, 101, 102, 103, 104, 105, 106, 107, 108, 109, 110, 111, 112, 113, 114, 115, 116, 121, 122] (by decide +kernel) (by decide +kernel)
set_option maxRecDepth 20000 in
theorem gX6_found_X6_airBehind : GoodIn wsX6_found (wsV RX6 198 RX6 yX6_airBehind wsX6_airBehind) := goodIn_app (goodIn_of _ (by decide +kernel)) ggX6_found_X6_airBehind
set_option maxRecDepth 20000 in
theorem ggX6_found_X6_isAsTold : GoodIn wsX6_found wsX6_isAsTold := goodIn_r _ [98, 3, 4, 99, 100, 101, 102, 103, 104, 105, 106, 107, 108, 109, 110, 111, 112, 113, 114, 115, 116, 121, 122] (by decide +kernel) (by decide +kernel)
set_option maxRecDepth 20000 in
theorem gX6_found_X6_isAsTold : GoodIn wsX6_found (wsV RX6 202 RX6 yX6_isAsTold wsX6_isAsTold) := goodIn_app (goodIn_of _ (by decide +kernel)) ggX6_found_X6_isAsTold
theorem dX6_found_0 : decode cX6_found 0 = .ok (.aload_n 0, 1) := by decide +kernel
theorem dX6_found_1 : decode cX6_found 1 = .ok (.iconst 0, 1) := by decide +kernel
theorem dX6_found_2 : decode cX6_found 2 = .ok (.putfield 67, 3) := by decide +kernel
theorem dX6_found_5 : decode cX6_found 5 = .ok (.iload_n 1, 1) := by decide +kernel
theorem dX6_found_6 : decode cX6_found 6 = .ok (.invokestatic 71, 3) := by decide +kernel
theorem dX6_found_9 : decode cX6_found 9 = .ok (.ifCond .ne 5, 3) := by decide +kernel
theorem dX6_found_12 : decode cX6_found 12 = .ok (.iconst (-1), 1) := by decide +kernel
theorem dX6_found_13 : decode cX6_found 13 = .ok (.ireturn, 1) := by decide +kernel
theorem dX6_found_14 : decode cX6_found 14 = .ok (.iload_n 2, 1) := by decide +kernel
theorem dX6_found_15 : decode cX6_found 15 = .ok (.invokestatic 75, 3) := by decide +kernel
theorem dX6_found_18 : decode cX6_found 18 = .ok (.ifCond .eq 16, 3) := by decide +kernel
theorem dX6_found_21 : decode cX6_found 21 = .ok (.iload 4, 2) := by decide +kernel
theorem dX6_found_23 : decode cX6_found 23 = .ok (.iconst (-1), 1) := by decide +kernel
theorem dX6_found_24 : decode cX6_found 24 = .ok (.if_icmp .lt 10, 3) := by decide +kernel
theorem dX6_found_27 : decode cX6_found 27 = .ok (.iload 4, 2) := by decide +kernel
theorem dX6_found_29 : decode cX6_found 29 = .ok (.bipush 24, 2) := by decide +kernel
theorem dX6_found_31 : decode cX6_found 31 = .ok (.if_icmp .lt 6, 3) := by decide +kernel
theorem dX6_found_34 : decode cX6_found 34 = .ok (.bipush (-2), 2) := by decide +kernel
theorem dX6_found_36 : decode cX6_found 36 = .ok (.ireturn, 1) := by decide +kernel
theorem dX6_found_37 : decode cX6_found 37 = .ok (.aload_n 0, 1) := by decide +kernel
theorem dX6_found_38 : decode cX6_found 38 = .ok (.invokevirtual 137, 3) := by decide +kernel
theorem dX6_found_41 : decode cX6_found 41 = .ok (.ifCond .ne 6, 3) := by decide +kernel
theorem dX6_found_44 : decode cX6_found 44 = .ok (.bipush (-3), 2) := by decide +kernel
theorem dX6_found_46 : decode cX6_found 46 = .ok (.ireturn, 1) := by decide +kernel
theorem dX6_found_47 : decode cX6_found 47 = .ok (.aload_n 0, 1) := by decide +kernel
theorem dX6_found_48 : decode cX6_found 48 = .ok (.getfield 13, 3) := by decide +kernel
theorem dX6_found_51 : decode cX6_found 51 = .ok (.iload_n 1, 1) := by decide +kernel
theorem dX6_found_52 : decode cX6_found 52 = .ok (.aaload, 1) := by decide +kernel
theorem dX6_found_53 : decode cX6_found 53 = .ok (.astore 5, 2) := by decide +kernel
theorem dX6_found_55 : decode cX6_found 55 = .ok (.aload 5, 2) := by decide +kernel
theorem dX6_found_57 : decode cX6_found 57 = .ok (.iload_n 2, 1) := by decide +kernel
theorem dX6_found_58 : decode cX6_found 58 = .ok (.iload_n 3, 1) := by decide +kernel
theorem dX6_found_59 : decode cX6_found 59 = .ok (.aload_n 0, 1) := by decide +kernel
theorem dX6_found_60 : decode cX6_found 60 = .ok (.getfield 20, 3) := by decide +kernel
theorem dX6_found_63 : decode cX6_found 63 = .ok (.getfield 97, 3) := by decide +kernel
theorem dX6_found_66 : decode cX6_found 66 = .ok (.invokevirtual 78, 3) := by decide +kernel
theorem dX6_found_69 : decode cX6_found 69 = .ok (.istore 6, 2) := by decide +kernel
theorem dX6_found_71 : decode cX6_found 71 = .ok (.iload 6, 2) := by decide +kernel
theorem dX6_found_73 : decode cX6_found 73 = .ok (.ifCond .eq 10, 3) := by decide +kernel
theorem dX6_found_76 : decode cX6_found 76 = .ok (.aload_n 0, 1) := by decide +kernel
theorem dX6_found_77 : decode cX6_found 77 = .ok (.iload 6, 2) := by decide +kernel
theorem dX6_found_79 : decode cX6_found 79 = .ok (.invokevirtual 82, 3) := by decide +kernel
theorem dX6_found_82 : decode cX6_found 82 = .ok (.ireturn, 1) := by decide +kernel
theorem dX6_found_83 : decode cX6_found 83 = .ok (.iconst 0, 1) := by decide +kernel
theorem dX6_found_84 : decode cX6_found 84 = .ok (.istore 7, 2) := by decide +kernel
theorem dX6_found_86 : decode cX6_found 86 = .ok (.iconst 0, 1) := by decide +kernel
theorem dX6_found_87 : decode cX6_found 87 = .ok (.istore 8, 2) := by decide +kernel
theorem dX6_found_89 : decode cX6_found 89 = .ok (.iload 8, 2) := by decide +kernel
theorem dX6_found_91 : decode cX6_found 91 = .ok (.aload_n 0, 1) := by decide +kernel
theorem dX6_found_92 : decode cX6_found 92 = .ok (.getfield 20, 3) := by decide +kernel
theorem dX6_found_95 : decode cX6_found 95 = .ok (.getfield 97, 3) := by decide +kernel
theorem dX6_found_98 : decode cX6_found 98 = .ok (.if_icmp .ge 70, 3) := by decide +kernel
theorem dX6_found_101 : decode cX6_found 101 = .ok (.iconst 0, 1) := by decide +kernel
theorem dX6_found_102 : decode cX6_found 102 = .ok (.istore 9, 2) := by decide +kernel
theorem dX6_found_104 : decode cX6_found 104 = .ok (.iload 9, 2) := by decide +kernel
theorem dX6_found_106 : decode cX6_found 106 = .ok (.aload_n 0, 1) := by decide +kernel
theorem dX6_found_107 : decode cX6_found 107 = .ok (.getfield 20, 3) := by decide +kernel
theorem dX6_found_110 : decode cX6_found 110 = .ok (.getfield 196, 3) := by decide +kernel
theorem dX6_found_113 : decode cX6_found 113 = .ok (.if_icmp .ge 49, 3) := by decide +kernel
theorem dX6_found_116 : decode cX6_found 116 = .ok (.aload_n 0, 1) := by decide +kernel
theorem dX6_found_117 : decode cX6_found 117 = .ok (.aload 5, 2) := by decide +kernel
theorem dX6_found_119 : decode cX6_found 119 = .ok (.getfield 86, 3) := by decide +kernel
theorem dX6_found_122 : decode cX6_found 122 = .ok (.iload_n 3, 1) := by decide +kernel
theorem dX6_found_123 : decode cX6_found 123 = .ok (.aload_n 0, 1) := by decide +kernel
theorem dX6_found_124 : decode cX6_found 124 = .ok (.iload 8, 2) := by decide +kernel
theorem dX6_found_126 : decode cX6_found 126 = .ok (.iload 9, 2) := by decide +kernel
theorem dX6_found_128 : decode cX6_found 128 = .ok (.invokevirtual 198, 3) := by decide +kernel
theorem dX6_found_131 : decode cX6_found 131 = .ok (.invokevirtual 202, 3) := by decide +kernel
theorem dX6_found_134 : decode cX6_found 134 = .ok (.ifCond .eq 22, 3) := by decide +kernel
theorem dX6_found_137 : decode cX6_found 137 = .ok (.iload 7, 2) := by decide +kernel
theorem dX6_found_139 : decode cX6_found 139 = .ok (.iload 4, 2) := by decide +kernel
theorem dX6_found_141 : decode cX6_found 141 = .ok (.if_icmp .ne 12, 3) := by decide +kernel
theorem dX6_found_144 : decode cX6_found 144 = .ok (.bipush 10, 2) := by decide +kernel
theorem dX6_found_146 : decode cX6_found 146 = .ok (.iload 8, 2) := by decide +kernel
theorem dX6_found_148 : decode cX6_found 148 = .ok (.imul, 1) := by decide +kernel
theorem dX6_found_149 : decode cX6_found 149 = .ok (.iload 9, 2) := by decide +kernel
theorem dX6_found_151 : decode cX6_found 151 = .ok (.iadd, 1) := by decide +kernel
theorem dX6_found_152 : decode cX6_found 152 = .ok (.ireturn, 1) := by decide +kernel
theorem dX6_found_153 : decode cX6_found 153 = .ok (.iinc 7 1, 3) := by decide +kernel
theorem dX6_found_156 : decode cX6_found 156 = .ok (.iinc 9 1, 3) := by decide +kernel
theorem dX6_found_159 : decode cX6_found 159 = .ok (.goto (-55), 3) := by decide +kernel
theorem dX6_found_162 : decode cX6_found 162 = .ok (.iinc 8 1, 3) := by decide +kernel
theorem dX6_found_165 : decode cX6_found 165 = .ok (.goto (-76), 3) := by decide +kernel
theorem dX6_found_168 : decode cX6_found 168 = .ok (.iload 4, 2) := by decide +kernel
theorem dX6_found_170 : decode cX6_found 170 = .ok (.iconst (-1), 1) := by decide +kernel
theorem dX6_found_171 : decode cX6_found 171 = .ok (.if_icmp .ne 8, 3) := by decide +kernel
theorem dX6_found_174 : decode cX6_found 174 = .ok (.iload 7, 2) := by decide +kernel
theorem dX6_found_176 : decode cX6_found 176 = .ok (.goto 5, 3) := by decide +kernel
theorem dX6_found_179 : decode cX6_found 179 = .ok (.bipush (-9), 2) := by decide +kernel
theorem dX6_found_181 : decode cX6_found 181 = .ok (.ireturn, 1) := by decide +kernel
set_option maxRecDepth 20000 in
theorem ggX6_reading_X6_isGallery : GoodIn wsX6_reading wsX6_isGallery := goodIn_r _ [7, 8, 9, 22, 23, 24, 25, 26, 27, 28, 29, 30, 31, 32, 37, 38, 39, 40, 41, 42] (by decide +kernel) (by decide +kernel)
set_option maxRecDepth 20000 in
theorem gX6_reading_X6_isGallery : GoodIn wsX6_reading (wsV RX6 100 RX6 yX6_isGallery wsX6_isGallery) := goodIn_app (goodIn_of _ (by decide +kernel)) ggX6_reading_X6_isGallery
set_option maxRecDepth 20000 in
theorem ggX6_reading_X6_isFoul : GoodIn wsX6_reading wsX6_isFoul := goodIn_r _ [12] (by decide +kernel) (by decide +kernel)
set_option maxRecDepth 20000 in
theorem gX6_reading_X6_isFoul : GoodIn wsX6_reading (va_wsS RX6 130 yX6_isFoul wsX6_isFoul) := goodIn_app (goodIn_of _ (by decide +kernel)) ggX6_reading_X6_isFoul
set_option maxRecDepth 20000 in
theorem ggX6_reading_X3_write : GoodIn wsX6_reading wsX3_write := goodIn_r _ [17, 18, 19, 20, 21, 33, 34, 35, 36] (by decide +kernel) (by decide +kernel)
set_option maxRecDepth 20000 in
theorem gX6_reading_X3_write : GoodIn wsX6_reading (wsV RX6 207 RX3 yX3_write wsX3_write) := goodIn_app (goodIn_of _ (by decide +kernel)) ggX6_reading_X3_write
theorem dX6_reading_0 : decode cX6_reading 0 = .ok (.aload_n 0, 1) := by decide +kernel
theorem dX6_reading_1 : decode cX6_reading 1 = .ok (.iload_n 1, 1) := by decide +kernel
theorem dX6_reading_2 : decode cX6_reading 2 = .ok (.invokevirtual 100, 3) := by decide +kernel
theorem dX6_reading_5 : decode cX6_reading 5 = .ok (.ifCond .ne 5, 3) := by decide +kernel
theorem dX6_reading_8 : decode cX6_reading 8 = .ok (.iconst (-1), 1) := by decide +kernel
theorem dX6_reading_9 : decode cX6_reading 9 = .ok (.ireturn, 1) := by decide +kernel
theorem dX6_reading_10 : decode cX6_reading 10 = .ok (.iload_n 2, 1) := by decide +kernel
theorem dX6_reading_11 : decode cX6_reading 11 = .ok (.invokestatic 130, 3) := by decide +kernel
theorem dX6_reading_14 : decode cX6_reading 14 = .ok (.ifCond .eq 12, 3) := by decide +kernel
theorem dX6_reading_17 : decode cX6_reading 17 = .ok (.iload_n 3, 1) := by decide +kernel
theorem dX6_reading_18 : decode cX6_reading 18 = .ok (.ifCond .eq 11, 3) := by decide +kernel
theorem dX6_reading_21 : decode cX6_reading 21 = .ok (.iload_n 3, 1) := by decide +kernel
theorem dX6_reading_22 : decode cX6_reading 22 = .ok (.iconst 1, 1) := by decide +kernel
theorem dX6_reading_23 : decode cX6_reading 23 = .ok (.if_icmp .eq 6, 3) := by decide +kernel
theorem dX6_reading_26 : decode cX6_reading 26 = .ok (.bipush (-2), 2) := by decide +kernel
theorem dX6_reading_28 : decode cX6_reading 28 = .ok (.ireturn, 1) := by decide +kernel
theorem dX6_reading_29 : decode cX6_reading 29 = .ok (.aload_n 0, 1) := by decide +kernel
theorem dX6_reading_30 : decode cX6_reading 30 = .ok (.getfield 34, 3) := by decide +kernel
theorem dX6_reading_33 : decode cX6_reading 33 = .ok (.getfield 206, 3) := by decide +kernel
theorem dX6_reading_36 : decode cX6_reading 36 = .ok (.bipush 8, 2) := by decide +kernel
theorem dX6_reading_38 : decode cX6_reading 38 = .ok (.if_icmp .lt 6, 3) := by decide +kernel
theorem dX6_reading_41 : decode cX6_reading 41 = .ok (.bipush (-4), 2) := by decide +kernel
theorem dX6_reading_43 : decode cX6_reading 43 = .ok (.ireturn, 1) := by decide +kernel
theorem dX6_reading_44 : decode cX6_reading 44 = .ok (.aload_n 0, 1) := by decide +kernel
theorem dX6_reading_45 : decode cX6_reading 45 = .ok (.getfield 34, 3) := by decide +kernel
theorem dX6_reading_48 : decode cX6_reading 48 = .ok (.iload_n 1, 1) := by decide +kernel
theorem dX6_reading_49 : decode cX6_reading 49 = .ok (.iload_n 2, 1) := by decide +kernel
theorem dX6_reading_50 : decode cX6_reading 50 = .ok (.iload_n 3, 1) := by decide +kernel
theorem dX6_reading_51 : decode cX6_reading 51 = .ok (.invokevirtual 207, 3) := by decide +kernel
theorem dX6_reading_54 : decode cX6_reading 54 = .ok (.ireturn, 1) := by decide +kernel
theorem dX6_back_0 : decode cX6_back 0 = .ok (.iload_n 1, 1) := by decide +kernel
theorem dX6_back_1 : decode cX6_back 1 = .ok (.ifCond .lt 14, 3) := by decide +kernel
theorem dX6_back_4 : decode cX6_back 4 = .ok (.iload_n 1, 1) := by decide +kernel
theorem dX6_back_5 : decode cX6_back 5 = .ok (.aload_n 0, 1) := by decide +kernel
theorem dX6_back_6 : decode cX6_back 6 = .ok (.getfield 34, 3) := by decide +kernel
theorem dX6_back_9 : decode cX6_back 9 = .ok (.getfield 206, 3) := by decide +kernel
theorem dX6_back_12 : decode cX6_back 12 = .ok (.if_icmp .le 6, 3) := by decide +kernel
theorem dX6_back_15 : decode cX6_back 15 = .ok (.bipush (-2), 2) := by decide +kernel
theorem dX6_back_17 : decode cX6_back 17 = .ok (.ireturn, 1) := by decide +kernel
theorem dX6_back_18 : decode cX6_back 18 = .ok (.aload_n 0, 1) := by decide +kernel
theorem dX6_back_19 : decode cX6_back 19 = .ok (.getfield 34, 3) := by decide +kernel
theorem dX6_back_22 : decode cX6_back 22 = .ok (.dup, 1) := by decide +kernel
theorem dX6_back_23 : decode cX6_back 23 = .ok (.getfield 206, 3) := by decide +kernel
theorem dX6_back_26 : decode cX6_back 26 = .ok (.iload_n 1, 1) := by decide +kernel
theorem dX6_back_27 : decode cX6_back 27 = .ok (.isub, 1) := by decide +kernel
theorem dX6_back_28 : decode cX6_back 28 = .ok (.putfield 206, 3) := by decide +kernel
theorem dX6_back_31 : decode cX6_back 31 = .ok (.aload_n 0, 1) := by decide +kernel
theorem dX6_back_32 : decode cX6_back 32 = .ok (.getfield 34, 3) := by decide +kernel
theorem dX6_back_35 : decode cX6_back 35 = .ok (.getfield 206, 3) := by decide +kernel
theorem dX6_back_38 : decode cX6_back 38 = .ok (.ireturn, 1) := by decide +kernel
set_option maxRecDepth 20000 in
theorem ggX6_strengths_X6_isGallery : GoodIn wsX6_strengths wsX6_isGallery := goodIn_r _ [8, 2, 9, 29, 30, 31, 32, 33, 34, 35, 36, 37, 38, 39, 40, 41, 42, 43, 44, 45] (by decide +kernel) (by decide +kernel)
set_option maxRecDepth 20000 in
theorem gX6_strengths_X6_isGallery : GoodIn wsX6_strengths (wsV RX6 100 RX6 yX6_isGallery wsX6_isGallery) := goodIn_app (goodIn_of _ (by decide +kernel)) ggX6_strengths_X6_isGallery
set_option maxRecDepth 20000 in
theorem ggX6_strengths_X6_bearing : GoodIn wsX6_strengths wsX6_bearing := goodIn_r _ [12] (by decide +kernel) (by decide +kernel)
set_option maxRecDepth 20000 in
theorem gX6_strengths_X6_bearing : GoodIn wsX6_strengths (va_wsS RX6 210 yX6_bearing wsX6_bearing) := goodIn_app (goodIn_of _ (by decide +kernel)) ggX6_strengths_X6_bearing
set_option maxRecDepth 20000 in
theorem ggX6_strengths_X3_areSo : GoodIn wsX6_strengths wsX3_areSo := goodIn_r _ [17, 18, 19, 20, 21, 22, 23, 24, 25, 26, 27, 28, 11, 7, 12, 46, 47, 48, 49, 40, 41, 42, 43, 44, 45] (by decide +kernel) (by decide +kernel)
set_option maxRecDepth 20000 in
theorem gX6_strengths_X3_areSo : GoodIn wsX6_strengths (wsV RX6 214 RX3 yX3_areSo wsX3_areSo) := goodIn_app (goodIn_of _ (by decide +kernel)) ggX6_strengths_X3_areSo
theorem dX6_strengths_0 : decode cX6_strengths 0 = .ok (.aload_n 0, 1) := by decide +kernel
theorem dX6_strengths_1 : decode cX6_strengths 1 = .ok (.iload_n 1, 1) := by decide +kernel
theorem dX6_strengths_2 : decode cX6_strengths 2 = .ok (.invokevirtual 100, 3) := by decide +kernel
theorem dX6_strengths_5 : decode cX6_strengths 5 = .ok (.ifCond .ne 5, 3) := by decide +kernel
theorem dX6_strengths_8 : decode cX6_strengths 8 = .ok (.iconst (-1), 1) := by decide +kernel
theorem dX6_strengths_9 : decode cX6_strengths 9 = .ok (.ireturn, 1) := by decide +kernel
theorem dX6_strengths_10 : decode cX6_strengths 10 = .ok (.iconst 0, 1) := by decide +kernel
theorem dX6_strengths_11 : decode cX6_strengths 11 = .ok (.istore_n 2, 1) := by decide +kernel
theorem dX6_strengths_12 : decode cX6_strengths 12 = .ok (.iconst 1, 1) := by decide +kernel
theorem dX6_strengths_13 : decode cX6_strengths 13 = .ok (.istore_n 3, 1) := by decide +kernel
theorem dX6_strengths_14 : decode cX6_strengths 14 = .ok (.iload_n 3, 1) := by decide +kernel
theorem dX6_strengths_15 : decode cX6_strengths 15 = .ok (.bipush 9, 2) := by decide +kernel
theorem dX6_strengths_17 : decode cX6_strengths 17 = .ok (.if_icmp .gt 43, 3) := by decide +kernel
theorem dX6_strengths_20 : decode cX6_strengths 20 = .ok (.aload_n 0, 1) := by decide +kernel
theorem dX6_strengths_21 : decode cX6_strengths 21 = .ok (.getfield 34, 3) := by decide +kernel
theorem dX6_strengths_24 : decode cX6_strengths 24 = .ok (.aload_n 0, 1) := by decide +kernel
theorem dX6_strengths_25 : decode cX6_strengths 25 = .ok (.getfield 20, 3) := by decide +kernel
theorem dX6_strengths_28 : decode cX6_strengths 28 = .ok (.iload_n 1, 1) := by decide +kernel
theorem dX6_strengths_29 : decode cX6_strengths 29 = .ok (.aload_n 0, 1) := by decide +kernel
theorem dX6_strengths_30 : decode cX6_strengths 30 = .ok (.getfield 20, 3) := by decide +kernel
theorem dX6_strengths_33 : decode cX6_strengths 33 = .ok (.getfield 103, 3) := by decide +kernel
theorem dX6_strengths_36 : decode cX6_strengths 36 = .ok (.iload_n 1, 1) := by decide +kernel
theorem dX6_strengths_37 : decode cX6_strengths 37 = .ok (.iaload, 1) := by decide +kernel
theorem dX6_strengths_38 : decode cX6_strengths 38 = .ok (.iload_n 3, 1) := by decide +kernel
theorem dX6_strengths_39 : decode cX6_strengths 39 = .ok (.invokestatic 210, 3) := by decide +kernel
theorem dX6_strengths_42 : decode cX6_strengths 42 = .ok (.invokevirtual 214, 3) := by decide +kernel
theorem dX6_strengths_45 : decode cX6_strengths 45 = .ok (.ifCond .eq 9, 3) := by decide +kernel
theorem dX6_strengths_48 : decode cX6_strengths 48 = .ok (.iload_n 2, 1) := by decide +kernel
theorem dX6_strengths_49 : decode cX6_strengths 49 = .ok (.iconst 1, 1) := by decide +kernel
theorem dX6_strengths_50 : decode cX6_strengths 50 = .ok (.iload_n 3, 1) := by decide +kernel
theorem dX6_strengths_51 : decode cX6_strengths 51 = .ok (.ishl, 1) := by decide +kernel
theorem dX6_strengths_52 : decode cX6_strengths 52 = .ok (.ior, 1) := by decide +kernel
theorem dX6_strengths_53 : decode cX6_strengths 53 = .ok (.istore_n 2, 1) := by decide +kernel
theorem dX6_strengths_54 : decode cX6_strengths 54 = .ok (.iinc 3 1, 3) := by decide +kernel
theorem dX6_strengths_57 : decode cX6_strengths 57 = .ok (.goto (-43), 3) := by decide +kernel
theorem dX6_strengths_60 : decode cX6_strengths 60 = .ok (.iload_n 2, 1) := by decide +kernel
theorem dX6_strengths_61 : decode cX6_strengths 61 = .ok (.ireturn, 1) := by decide +kernel
set_option maxRecDepth 20000 in
theorem ggX6_kinds_X6_isGallery : GoodIn wsX6_kinds wsX6_isGallery := goodIn_r _ [8, 2, 9, 29, 30, 31, 32, 33, 34, 35, 36, 37, 38, 39, 40, 41, 42, 43, 44, 45] (by decide +kernel) (by decide +kernel)
set_option maxRecDepth 20000 in
theorem gX6_kinds_X6_isGallery : GoodIn wsX6_kinds (wsV RX6 100 RX6 yX6_isGallery wsX6_isGallery) := goodIn_app (goodIn_of _ (by decide +kernel)) ggX6_kinds_X6_isGallery
set_option maxRecDepth 20000 in
theorem ggX6_kinds_X6_bearing : GoodIn wsX6_kinds wsX6_bearing := goodIn_r _ [12] (by decide +kernel) (by decide +kernel)
set_option maxRecDepth 20000 in
theorem gX6_kinds_X6_bearing : GoodIn wsX6_kinds (va_wsS RX6 210 yX6_bearing wsX6_bearing) := goodIn_app (goodIn_of _ (by decide +kernel)) ggX6_kinds_X6_bearing
set_option maxRecDepth 20000 in
theorem ggX6_kinds_X3_areSo : GoodIn wsX6_kinds wsX3_areSo := goodIn_r _ [17, 18, 19, 20, 21, 22, 23, 24, 25, 26, 27, 28, 11, 7, 12, 46, 47, 48, 49, 40, 41, 42, 43, 44, 45] (by decide +kernel) (by decide +kernel)
set_option maxRecDepth 20000 in
theorem gX6_kinds_X3_areSo : GoodIn wsX6_kinds (wsV RX6 214 RX3 yX3_areSo wsX3_areSo) := goodIn_app (goodIn_of _ (by decide +kernel)) ggX6_kinds_X3_areSo
theorem dX6_kinds_0 : decode cX6_kinds 0 = .ok (.aload_n 0, 1) := by decide +kernel
theorem dX6_kinds_1 : decode cX6_kinds 1 = .ok (.iload_n 1, 1) := by decide +kernel
theorem dX6_kinds_2 : decode cX6_kinds 2 = .ok (.invokevirtual 100, 3) := by decide +kernel
theorem dX6_kinds_5 : decode cX6_kinds 5 = .ok (.ifCond .ne 5, 3) := by decide +kernel
theorem dX6_kinds_8 : decode cX6_kinds 8 = .ok (.iconst (-1), 1) := by decide +kernel
theorem dX6_kinds_9 : decode cX6_kinds 9 = .ok (.ireturn, 1) := by decide +kernel
theorem dX6_kinds_10 : decode cX6_kinds 10 = .ok (.iconst 0, 1) := by decide +kernel
theorem dX6_kinds_11 : decode cX6_kinds 11 = .ok (.istore_n 2, 1) := by decide +kernel
theorem dX6_kinds_12 : decode cX6_kinds 12 = .ok (.iconst 0, 1) := by decide +kernel
theorem dX6_kinds_13 : decode cX6_kinds 13 = .ok (.istore_n 3, 1) := by decide +kernel
theorem dX6_kinds_14 : decode cX6_kinds 14 = .ok (.iload_n 3, 1) := by decide +kernel
theorem dX6_kinds_15 : decode cX6_kinds 15 = .ok (.iconst 3, 1) := by decide +kernel
theorem dX6_kinds_16 : decode cX6_kinds 16 = .ok (.if_icmp .ge 43, 3) := by decide +kernel
theorem dX6_kinds_19 : decode cX6_kinds 19 = .ok (.aload_n 0, 1) := by decide +kernel
theorem dX6_kinds_20 : decode cX6_kinds 20 = .ok (.getfield 34, 3) := by decide +kernel
theorem dX6_kinds_23 : decode cX6_kinds 23 = .ok (.aload_n 0, 1) := by decide +kernel
theorem dX6_kinds_24 : decode cX6_kinds 24 = .ok (.getfield 20, 3) := by decide +kernel
theorem dX6_kinds_27 : decode cX6_kinds 27 = .ok (.iload_n 1, 1) := by decide +kernel
theorem dX6_kinds_28 : decode cX6_kinds 28 = .ok (.iload_n 3, 1) := by decide +kernel
theorem dX6_kinds_29 : decode cX6_kinds 29 = .ok (.aload_n 0, 1) := by decide +kernel
theorem dX6_kinds_30 : decode cX6_kinds 30 = .ok (.getfield 20, 3) := by decide +kernel
theorem dX6_kinds_33 : decode cX6_kinds 33 = .ok (.getfield 109, 3) := by decide +kernel
theorem dX6_kinds_36 : decode cX6_kinds 36 = .ok (.iload_n 1, 1) := by decide +kernel
theorem dX6_kinds_37 : decode cX6_kinds 37 = .ok (.iaload, 1) := by decide +kernel
theorem dX6_kinds_38 : decode cX6_kinds 38 = .ok (.invokestatic 210, 3) := by decide +kernel
theorem dX6_kinds_41 : decode cX6_kinds 41 = .ok (.invokevirtual 214, 3) := by decide +kernel
theorem dX6_kinds_44 : decode cX6_kinds 44 = .ok (.ifCond .eq 9, 3) := by decide +kernel
theorem dX6_kinds_47 : decode cX6_kinds 47 = .ok (.iload_n 2, 1) := by decide +kernel
theorem dX6_kinds_48 : decode cX6_kinds 48 = .ok (.iconst 1, 1) := by decide +kernel
theorem dX6_kinds_49 : decode cX6_kinds 49 = .ok (.iload_n 3, 1) := by decide +kernel
theorem dX6_kinds_50 : decode cX6_kinds 50 = .ok (.ishl, 1) := by decide +kernel
theorem dX6_kinds_51 : decode cX6_kinds 51 = .ok (.ior, 1) := by decide +kernel
theorem dX6_kinds_52 : decode cX6_kinds 52 = .ok (.istore_n 2, 1) := by decide +kernel
theorem dX6_kinds_53 : decode cX6_kinds 53 = .ok (.iinc 3 1, 3) := by decide +kernel
theorem dX6_kinds_56 : decode cX6_kinds 56 = .ok (.goto (-42), 3) := by decide +kernel
theorem dX6_kinds_59 : decode cX6_kinds 59 = .ok (.iload_n 2, 1) := by decide +kernel
theorem dX6_kinds_60 : decode cX6_kinds 60 = .ok (.ireturn, 1) := by decide +kernel
set_option maxRecDepth 20000 in
theorem ggX6_odds_X6_isGallery : GoodIn wsX6_odds wsX6_isGallery := goodIn_r _ [9, 2, 3, 75, 76, 77, 78, 79, 80, 81, 82, 83, 84, 85, 86, 87, 88, 89, 90, 91] (by decide +kernel) (by decide +kernel)
set_option maxRecDepth 20000 in
theorem gX6_odds_X6_isGallery : GoodIn wsX6_odds (wsV RX6 100 RX6 yX6_isGallery wsX6_isGallery) := goodIn_app (goodIn_of _ (by decide +kernel)) ggX6_odds_X6_isGallery
set_option maxRecDepth 20000 in
theorem ggX6_odds_X6_airBehind : GoodIn wsX6_odds wsX6_airBehind := goodIn_r _ [13, 14, 15, 2, 16, 17, 18, 19, 20, 21, 22, 23, 24, 25, 26, 27, 28, 29, 30, 31, 32, 33, 34, 35, 36, 37, 38, 39, 40, 41, 42, 43, 44, 45, 46, 47, 48, 49, 50, 51, 52, 53, 54, 55, 56, 57, 58, 59, 60, 61, 62, 63, 64, 65, 66, 67, 68, 69, 8, 70, 75, 76, 77, 78, 79, 80, 81, 82, 83, 84, 85, 86, 87, 88, 89, 90, 91, 92, 93] (by decide +kernel) (by decide +kernel)
set_option maxRecDepth 20000 in
theorem gX6_odds_X6_airBehind : GoodIn wsX6_odds (wsV RX6 198 RX6 yX6_airBehind wsX6_airBehind) := goodIn_app (goodIn_of _ (by decide +kernel)) ggX6_odds_X6_airBehind
set_option maxRecDepth 20000 in
theorem ggX6_odds_X0_isDown : GoodIn wsX6_odds wsX0_isDown := goodIn_r _ [62, 27, 92, 93] (by decide +kernel) (by decide +kernel)
set_option maxRecDepth 20000 in
theorem gX6_odds_X0_isDown : GoodIn wsX6_odds (wsV RX6 145 RX0 yX0_isDown wsX0_isDown) := goodIn_app (goodIn_of _ (by decide +kernel)) ggX6_odds_X0_isDown
set_option maxRecDepth 20000 in
theorem ggX6_odds_X6_commonDivisor : GoodIn wsX6_odds wsX6_commonDivisor := goodIn_r _ [74] (by decide +kernel) (by decide +kernel)
set_option maxRecDepth 20000 in
theorem gX6_odds_X6_commonDivisor : GoodIn wsX6_odds (va_wsS RX6 220 yX6_commonDivisor wsX6_commonDivisor) := goodIn_app (goodIn_of _ (by decide +kernel)) ggX6_odds_X6_commonDivisor
theorem dX6_odds_0 : decode cX6_odds 0 = .ok (.aload_n 0, 1) := by decide +kernel
theorem dX6_odds_1 : decode cX6_odds 1 = .ok (.iload_n 1, 1) := by decide +kernel
theorem dX6_odds_2 : decode cX6_odds 2 = .ok (.invokevirtual 100, 3) := by decide +kernel
theorem dX6_odds_5 : decode cX6_odds 5 = .ok (.ifCond .eq 12, 3) := by decide +kernel
theorem dX6_odds_8 : decode cX6_odds 8 = .ok (.iload_n 2, 1) := by decide +kernel
theorem dX6_odds_9 : decode cX6_odds 9 = .ok (.ifCond .lt 8, 3) := by decide +kernel
theorem dX6_odds_12 : decode cX6_odds 12 = .ok (.iload_n 2, 1) := by decide +kernel
theorem dX6_odds_13 : decode cX6_odds 13 = .ok (.iconst 1, 1) := by decide +kernel
theorem dX6_odds_14 : decode cX6_odds 14 = .ok (.if_icmp .le 7, 3) := by decide +kernel
theorem dX6_odds_17 : decode cX6_odds 17 = .ok (.ldc2_w 218, 3) := by decide +kernel
theorem dX6_odds_20 : decode cX6_odds 20 = .ok (.lreturn, 1) := by decide +kernel
theorem dX6_odds_21 : decode cX6_odds 21 = .ok (.iconst 0, 1) := by decide +kernel
theorem dX6_odds_22 : decode cX6_odds 22 = .ok (.istore_n 3, 1) := by decide +kernel
theorem dX6_odds_23 : decode cX6_odds 23 = .ok (.iconst 0, 1) := by decide +kernel
theorem dX6_odds_24 : decode cX6_odds 24 = .ok (.istore 4, 2) := by decide +kernel
theorem dX6_odds_26 : decode cX6_odds 26 = .ok (.iload 4, 2) := by decide +kernel
theorem dX6_odds_28 : decode cX6_odds 28 = .ok (.aload_n 0, 1) := by decide +kernel
theorem dX6_odds_29 : decode cX6_odds 29 = .ok (.getfield 20, 3) := by decide +kernel
theorem dX6_odds_32 : decode cX6_odds 32 = .ok (.getfield 97, 3) := by decide +kernel
theorem dX6_odds_35 : decode cX6_odds 35 = .ok (.if_icmp .ge 48, 3) := by decide +kernel
theorem dX6_odds_38 : decode cX6_odds 38 = .ok (.iconst 0, 1) := by decide +kernel
theorem dX6_odds_39 : decode cX6_odds 39 = .ok (.istore 5, 2) := by decide +kernel
theorem dX6_odds_41 : decode cX6_odds 41 = .ok (.iload 5, 2) := by decide +kernel
theorem dX6_odds_43 : decode cX6_odds 43 = .ok (.aload_n 0, 1) := by decide +kernel
theorem dX6_odds_44 : decode cX6_odds 44 = .ok (.getfield 20, 3) := by decide +kernel
theorem dX6_odds_47 : decode cX6_odds 47 = .ok (.getfield 196, 3) := by decide +kernel
theorem dX6_odds_50 : decode cX6_odds 50 = .ok (.if_icmp .ge 27, 3) := by decide +kernel
theorem dX6_odds_53 : decode cX6_odds 53 = .ok (.aload_n 0, 1) := by decide +kernel
theorem dX6_odds_54 : decode cX6_odds 54 = .ok (.iload 4, 2) := by decide +kernel
theorem dX6_odds_56 : decode cX6_odds 56 = .ok (.iload 5, 2) := by decide +kernel
theorem dX6_odds_58 : decode cX6_odds 58 = .ok (.invokevirtual 198, 3) := by decide +kernel
theorem dX6_odds_61 : decode cX6_odds 61 = .ok (.iload_n 1, 1) := by decide +kernel
theorem dX6_odds_62 : decode cX6_odds 62 = .ok (.invokevirtual 145, 3) := by decide +kernel
theorem dX6_odds_65 : decode cX6_odds 65 = .ok (.ifCond .eq 6, 3) := by decide +kernel
theorem dX6_odds_68 : decode cX6_odds 68 = .ok (.iinc 3 1, 3) := by decide +kernel
theorem dX6_odds_71 : decode cX6_odds 71 = .ok (.iinc 5 1, 3) := by decide +kernel
theorem dX6_odds_74 : decode cX6_odds 74 = .ok (.goto (-33), 3) := by decide +kernel
theorem dX6_odds_77 : decode cX6_odds 77 = .ok (.iinc 4 1, 3) := by decide +kernel
theorem dX6_odds_80 : decode cX6_odds 80 = .ok (.goto (-54), 3) := by decide +kernel
theorem dX6_odds_83 : decode cX6_odds 83 = .ok (.aload_n 0, 1) := by decide +kernel
theorem dX6_odds_84 : decode cX6_odds 84 = .ok (.getfield 20, 3) := by decide +kernel
theorem dX6_odds_87 : decode cX6_odds 87 = .ok (.getfield 97, 3) := by decide +kernel
theorem dX6_odds_90 : decode cX6_odds 90 = .ok (.aload_n 0, 1) := by decide +kernel
theorem dX6_odds_91 : decode cX6_odds 91 = .ok (.getfield 20, 3) := by decide +kernel
theorem dX6_odds_94 : decode cX6_odds 94 = .ok (.getfield 196, 3) := by decide +kernel
theorem dX6_odds_97 : decode cX6_odds 97 = .ok (.imul, 1) := by decide +kernel
theorem dX6_odds_98 : decode cX6_odds 98 = .ok (.istore 4, 2) := by decide +kernel
theorem dX6_odds_100 : decode cX6_odds 100 = .ok (.iload_n 3, 1) := by decide +kernel
theorem dX6_odds_101 : decode cX6_odds 101 = .ok (.iload 4, 2) := by decide +kernel
theorem dX6_odds_103 : decode cX6_odds 103 = .ok (.invokestatic 220, 3) := by decide +kernel
theorem dX6_odds_106 : decode cX6_odds 106 = .ok (.istore 5, 2) := by decide +kernel
theorem dX6_odds_108 : decode cX6_odds 108 = .ok (.iload_n 2, 1) := by decide +kernel
theorem dX6_odds_109 : decode cX6_odds 109 = .ok (.ifCond .ne 11, 3) := by decide +kernel
theorem dX6_odds_112 : decode cX6_odds 112 = .ok (.iload_n 3, 1) := by decide +kernel
theorem dX6_odds_113 : decode cX6_odds 113 = .ok (.iload 5, 2) := by decide +kernel
theorem dX6_odds_115 : decode cX6_odds 115 = .ok (.idiv, 1) := by decide +kernel
theorem dX6_odds_116 : decode cX6_odds 116 = .ok (.i2l, 1) := by decide +kernel
theorem dX6_odds_117 : decode cX6_odds 117 = .ok (.goto 9, 3) := by decide +kernel
theorem dX6_odds_120 : decode cX6_odds 120 = .ok (.iload 4, 2) := by decide +kernel
theorem dX6_odds_122 : decode cX6_odds 122 = .ok (.iload 5, 2) := by decide +kernel
theorem dX6_odds_124 : decode cX6_odds 124 = .ok (.idiv, 1) := by decide +kernel
theorem dX6_odds_125 : decode cX6_odds 125 = .ok (.i2l, 1) := by decide +kernel
theorem dX6_odds_126 : decode cX6_odds 126 = .ok (.lreturn, 1) := by decide +kernel
set_option maxRecDepth 20000 in
theorem ggX6_sheet_X6_isSheet : GoodIn wsX6_sheet wsX6_isSheet := goodIn_r _ [6] (by decide +kernel) (by decide +kernel)
set_option maxRecDepth 20000 in
theorem gX6_sheet_X6_isSheet : GoodIn wsX6_sheet (va_wsS RX6 71 yX6_isSheet wsX6_isSheet) := goodIn_app (goodIn_of _ (by decide +kernel)) ggX6_sheet_X6_isSheet
set_option maxRecDepth 20000 in
theorem ggX6_sheet_X6_isLane : GoodIn wsX6_sheet wsX6_isLane := goodIn_r _ [9] (by decide +kernel) (by decide +kernel)
set_option maxRecDepth 20000 in
theorem gX6_sheet_X6_isLane : GoodIn wsX6_sheet (va_wsS RX6 75 yX6_isLane wsX6_isLane) := goodIn_app (goodIn_of _ (by decide +kernel)) ggX6_sheet_X6_isLane
set_option maxRecDepth 20000 in
theorem ggX6_sheet_X6_faulted : GoodIn wsX6_sheet wsX6_faulted := goodIn_r _ [13, 1, 23, 24, 25, 26, 27, 28, 29, 30, 31, 32, 33] (by decide +kernel) (by decide +kernel)
set_option maxRecDepth 20000 in
theorem gX6_sheet_X6_faulted : GoodIn wsX6_sheet (wsV RX6 82 RX6 yX6_faulted wsX6_faulted) := goodIn_app (goodIn_of _ (by decide +kernel)) ggX6_sheet_X6_faulted
set_option maxRecDepth 20000 in
theorem ggX6_sheet_X5_begin : GoodIn wsX6_sheet wsX5_begin := goodIn_r _ [18, 19, 20, 21, 22, 34, 35, 36, 37] (by decide +kernel) (by decide +kernel)
set_option maxRecDepth 20000 in
theorem gX6_sheet_X5_begin : GoodIn wsX6_sheet (wsV RX6 223 RX5 yX5_begin wsX5_begin) := goodIn_app (goodIn_of _ (by decide +kernel)) ggX6_sheet_X5_begin
theorem dX6_sheet_0 : decode cX6_sheet 0 = .ok (.aload_n 0, 1) := by decide +kernel
theorem dX6_sheet_1 : decode cX6_sheet 1 = .ok (.iconst 0, 1) := by decide +kernel
theorem dX6_sheet_2 : decode cX6_sheet 2 = .ok (.putfield 67, 3) := by decide +kernel
theorem dX6_sheet_5 : decode cX6_sheet 5 = .ok (.iload_n 1, 1) := by decide +kernel
theorem dX6_sheet_6 : decode cX6_sheet 6 = .ok (.invokestatic 71, 3) := by decide +kernel
theorem dX6_sheet_9 : decode cX6_sheet 9 = .ok (.ifCond .ne 5, 3) := by decide +kernel
theorem dX6_sheet_12 : decode cX6_sheet 12 = .ok (.iconst (-1), 1) := by decide +kernel
theorem dX6_sheet_13 : decode cX6_sheet 13 = .ok (.ireturn, 1) := by decide +kernel
theorem dX6_sheet_14 : decode cX6_sheet 14 = .ok (.iload_n 2, 1) := by decide +kernel
theorem dX6_sheet_15 : decode cX6_sheet 15 = .ok (.invokestatic 75, 3) := by decide +kernel
theorem dX6_sheet_18 : decode cX6_sheet 18 = .ok (.ifCond .eq 9, 3) := by decide +kernel
theorem dX6_sheet_21 : decode cX6_sheet 21 = .ok (.iload_n 3, 1) := by decide +kernel
theorem dX6_sheet_22 : decode cX6_sheet 22 = .ok (.bipush 60, 2) := by decide +kernel
theorem dX6_sheet_24 : decode cX6_sheet 24 = .ok (.if_icmp .le 6, 3) := by decide +kernel
theorem dX6_sheet_27 : decode cX6_sheet 27 = .ok (.bipush (-2), 2) := by decide +kernel
theorem dX6_sheet_29 : decode cX6_sheet 29 = .ok (.ireturn, 1) := by decide +kernel
theorem dX6_sheet_30 : decode cX6_sheet 30 = .ok (.iload_n 3, 1) := by decide +kernel
theorem dX6_sheet_31 : decode cX6_sheet 31 = .ok (.ifCond .ge 9, 3) := by decide +kernel
theorem dX6_sheet_34 : decode cX6_sheet 34 = .ok (.aload_n 0, 1) := by decide +kernel
theorem dX6_sheet_35 : decode cX6_sheet 35 = .ok (.iconst 4, 1) := by decide +kernel
theorem dX6_sheet_36 : decode cX6_sheet 36 = .ok (.invokevirtual 82, 3) := by decide +kernel
theorem dX6_sheet_39 : decode cX6_sheet 39 = .ok (.ireturn, 1) := by decide +kernel
theorem dX6_sheet_40 : decode cX6_sheet 40 = .ok (.aload_n 0, 1) := by decide +kernel
theorem dX6_sheet_41 : decode cX6_sheet 41 = .ok (.getfield 13, 3) := by decide +kernel
theorem dX6_sheet_44 : decode cX6_sheet 44 = .ok (.iload_n 1, 1) := by decide +kernel
theorem dX6_sheet_45 : decode cX6_sheet 45 = .ok (.aaload, 1) := by decide +kernel
theorem dX6_sheet_46 : decode cX6_sheet 46 = .ok (.iload_n 2, 1) := by decide +kernel
theorem dX6_sheet_47 : decode cX6_sheet 47 = .ok (.iload_n 3, 1) := by decide +kernel
theorem dX6_sheet_48 : decode cX6_sheet 48 = .ok (.invokevirtual 223, 3) := by decide +kernel
theorem dX6_sheet_51 : decode cX6_sheet 51 = .ok (.iconst 1, 1) := by decide +kernel
theorem dX6_sheet_52 : decode cX6_sheet 52 = .ok (.ireturn, 1) := by decide +kernel
set_option maxRecDepth 20000 in
theorem ggX6_lose_X6_isSheet : GoodIn wsX6_lose wsX6_isSheet := goodIn_r _ [6] (by decide +kernel) (by decide +kernel)
set_option maxRecDepth 20000 in
theorem gX6_lose_X6_isSheet : GoodIn wsX6_lose (va_wsS RX6 71 yX6_isSheet wsX6_isSheet) := goodIn_app (goodIn_of _ (by decide +kernel)) ggX6_lose_X6_isSheet
theorem dX6_lose_0 : decode cX6_lose 0 = .ok (.iload_n 1, 1) := by decide +kernel
theorem dX6_lose_1 : decode cX6_lose 1 = .ok (.invokestatic 71, 3) := by decide +kernel
theorem dX6_lose_4 : decode cX6_lose 4 = .ok (.ifCond .ne 5, 3) := by decide +kernel
theorem dX6_lose_7 : decode cX6_lose 7 = .ok (.iconst (-1), 1) := by decide +kernel
theorem dX6_lose_8 : decode cX6_lose 8 = .ok (.ireturn, 1) := by decide +kernel
theorem dX6_lose_9 : decode cX6_lose 9 = .ok (.aload_n 0, 1) := by decide +kernel
theorem dX6_lose_10 : decode cX6_lose 10 = .ok (.getfield 13, 3) := by decide +kernel
theorem dX6_lose_13 : decode cX6_lose 13 = .ok (.iload_n 1, 1) := by decide +kernel
theorem dX6_lose_14 : decode cX6_lose 14 = .ok (.aaload, 1) := by decide +kernel
theorem dX6_lose_15 : decode cX6_lose 15 = .ok (.getfield 227, 3) := by decide +kernel
theorem dX6_lose_18 : decode cX6_lose 18 = .ok (.istore_n 2, 1) := by decide +kernel
theorem dX6_lose_19 : decode cX6_lose 19 = .ok (.aload_n 0, 1) := by decide +kernel
theorem dX6_lose_20 : decode cX6_lose 20 = .ok (.getfield 13, 3) := by decide +kernel
theorem dX6_lose_23 : decode cX6_lose 23 = .ok (.iload_n 1, 1) := by decide +kernel
theorem dX6_lose_24 : decode cX6_lose 24 = .ok (.aaload, 1) := by decide +kernel
theorem dX6_lose_25 : decode cX6_lose 25 = .ok (.iconst 0, 1) := by decide +kernel
theorem dX6_lose_26 : decode cX6_lose 26 = .ok (.putfield 227, 3) := by decide +kernel
theorem dX6_lose_29 : decode cX6_lose 29 = .ok (.iload_n 2, 1) := by decide +kernel
theorem dX6_lose_30 : decode cX6_lose 30 = .ok (.ifCond .eq 7, 3) := by decide +kernel
theorem dX6_lose_33 : decode cX6_lose 33 = .ok (.iconst 1, 1) := by decide +kernel
theorem dX6_lose_34 : decode cX6_lose 34 = .ok (.goto 4, 3) := by decide +kernel
theorem dX6_lose_37 : decode cX6_lose 37 = .ok (.iconst 0, 1) := by decide +kernel
theorem dX6_lose_38 : decode cX6_lose 38 = .ok (.ireturn, 1) := by decide +kernel
set_option maxRecDepth 20000 in
theorem ggX6_put_X6_isSheet : GoodIn wsX6_put wsX6_isSheet := goodIn_r _ [8] (by decide +kernel) (by decide +kernel)
set_option maxRecDepth 20000 in
theorem gX6_put_X6_isSheet : GoodIn wsX6_put (va_wsS RX6 71 yX6_isSheet wsX6_isSheet) := goodIn_app (goodIn_of _ (by decide +kernel)) ggX6_put_X6_isSheet
set_option maxRecDepth 20000 in
theorem ggX6_put_X5_faultOfCells : GoodIn wsX6_put wsX5_faultOfCells := goodIn_r _ [13, 14, 15, 16, 17, 18, 12, 19, 20, 39, 40, 41, 42] (by decide +kernel) (by decide +kernel)
set_option maxRecDepth 20000 in
theorem gX6_put_X5_faultOfCells : GoodIn wsX6_put (wsV RX6 78 RX5 yX5_faultOfCells wsX5_faultOfCells) := goodIn_app (goodIn_of _ (by decide +kernel)) ggX6_put_X5_faultOfCells
set_option maxRecDepth 20000 in
theorem ggX6_put_X6_faulted : GoodIn wsX6_put wsX6_faulted := goodIn_r _ [24, 1, 28, 29, 30, 31, 32, 33, 34, 35, 36, 37, 38] (by decide +kernel) (by decide +kernel)
set_option maxRecDepth 20000 in
theorem gX6_put_X6_faulted : GoodIn wsX6_put (wsV RX6 82 RX6 yX6_faulted wsX6_faulted) := goodIn_app (goodIn_of _ (by decide +kernel)) ggX6_put_X6_faulted
set_option maxRecDepth 20000 in
theorem ggX6_put_X6_cutToLane : GoodIn wsX6_put wsX6_cutToLane := goodIn_r _ [27] (by decide +kernel) (by decide +kernel)
set_option maxRecDepth 20000 in
theorem gX6_put_X6_cutToLane : GoodIn wsX6_put (va_wsS RX6 234 yX6_cutToLane wsX6_cutToLane) := goodIn_app (goodIn_of _ (by decide +kernel)) ggX6_put_X6_cutToLane
theorem dX6_put_0 : decode cX6_put 0 = .ok (.aload_n 0, 1) := by decide +kernel
theorem dX6_put_1 : decode cX6_put 1 = .ok (.iconst 0, 1) := by decide +kernel
theorem dX6_put_2 : decode cX6_put 2 = .ok (.putfield 67, 3) := by decide +kernel
theorem dX6_put_5 : decode cX6_put 5 = .ok (.iload_n 1, 1) := by decide +kernel
theorem dX6_put_6 : decode cX6_put 6 = .ok (.invokestatic 71, 3) := by decide +kernel
theorem dX6_put_9 : decode cX6_put 9 = .ok (.ifCond .ne 5, 3) := by decide +kernel
theorem dX6_put_12 : decode cX6_put 12 = .ok (.iconst (-1), 1) := by decide +kernel
theorem dX6_put_13 : decode cX6_put 13 = .ok (.ireturn, 1) := by decide +kernel
theorem dX6_put_14 : decode cX6_put 14 = .ok (.aload_n 0, 1) := by decide +kernel
theorem dX6_put_15 : decode cX6_put 15 = .ok (.getfield 13, 3) := by decide +kernel
theorem dX6_put_18 : decode cX6_put 18 = .ok (.iload_n 1, 1) := by decide +kernel
theorem dX6_put_19 : decode cX6_put 19 = .ok (.aaload, 1) := by decide +kernel
theorem dX6_put_20 : decode cX6_put 20 = .ok (.astore 4, 2) := by decide +kernel
theorem dX6_put_22 : decode cX6_put 22 = .ok (.aload 4, 2) := by decide +kernel
theorem dX6_put_24 : decode cX6_put 24 = .ok (.aload 4, 2) := by decide +kernel
theorem dX6_put_26 : decode cX6_put 26 = .ok (.getfield 231, 3) := by decide +kernel
theorem dX6_put_29 : decode cX6_put 29 = .ok (.iload_n 2, 1) := by decide +kernel
theorem dX6_put_30 : decode cX6_put 30 = .ok (.iconst 1, 1) := by decide +kernel
theorem dX6_put_31 : decode cX6_put 31 = .ok (.invokevirtual 78, 3) := by decide +kernel
theorem dX6_put_34 : decode cX6_put 34 = .ok (.istore 5, 2) := by decide +kernel
theorem dX6_put_36 : decode cX6_put 36 = .ok (.iload 5, 2) := by decide +kernel
theorem dX6_put_38 : decode cX6_put 38 = .ok (.ifCond .eq 10, 3) := by decide +kernel
theorem dX6_put_41 : decode cX6_put 41 = .ok (.aload_n 0, 1) := by decide +kernel
theorem dX6_put_42 : decode cX6_put 42 = .ok (.iload 5, 2) := by decide +kernel
theorem dX6_put_44 : decode cX6_put 44 = .ok (.invokevirtual 82, 3) := by decide +kernel
theorem dX6_put_47 : decode cX6_put 47 = .ok (.ireturn, 1) := by decide +kernel
theorem dX6_put_48 : decode cX6_put 48 = .ok (.aload 4, 2) := by decide +kernel
theorem dX6_put_50 : decode cX6_put 50 = .ok (.getfield 86, 3) := by decide +kernel
theorem dX6_put_53 : decode cX6_put 53 = .ok (.iload_n 2, 1) := by decide +kernel
theorem dX6_put_54 : decode cX6_put 54 = .ok (.iload_n 3, 1) := by decide +kernel
theorem dX6_put_55 : decode cX6_put 55 = .ok (.aload 4, 2) := by decide +kernel
theorem dX6_put_57 : decode cX6_put 57 = .ok (.getfield 231, 3) := by decide +kernel
theorem dX6_put_60 : decode cX6_put 60 = .ok (.invokestatic 234, 3) := by decide +kernel
theorem dX6_put_63 : decode cX6_put 63 = .ok (.iastore, 1) := by decide +kernel
theorem dX6_put_64 : decode cX6_put 64 = .ok (.iconst 1, 1) := by decide +kernel
theorem dX6_put_65 : decode cX6_put 65 = .ok (.ireturn, 1) := by decide +kernel
set_option maxRecDepth 20000 in
theorem ggX6_cell_X6_isSheet : GoodIn wsX6_cell wsX6_isSheet := goodIn_r _ [8] (by decide +kernel) (by decide +kernel)
set_option maxRecDepth 20000 in
theorem gX6_cell_X6_isSheet : GoodIn wsX6_cell (va_wsS RX6 71 yX6_isSheet wsX6_isSheet) := goodIn_app (goodIn_of _ (by decide +kernel)) ggX6_cell_X6_isSheet
set_option maxRecDepth 20000 in
theorem ggX6_cell_X6_isLane : GoodIn wsX6_cell wsX6_isLane := goodIn_r _ [11] (by decide +kernel) (by decide +kernel)
set_option maxRecDepth 20000 in
theorem gX6_cell_X6_isLane : GoodIn wsX6_cell (va_wsS RX6 75 yX6_isLane wsX6_isLane) := goodIn_app (goodIn_of _ (by decide +kernel)) ggX6_cell_X6_isLane
set_option maxRecDepth 20000 in
theorem ggX6_cell_X5_faultOfCells : GoodIn wsX6_cell wsX5_faultOfCells := goodIn_r _ [16, 17, 18, 19, 20, 21, 15, 22, 23, 39, 40, 41, 42] (by decide +kernel) (by decide +kernel)
set_option maxRecDepth 20000 in
theorem gX6_cell_X5_faultOfCells : GoodIn wsX6_cell (wsV RX6 78 RX5 yX5_faultOfCells wsX5_faultOfCells) := goodIn_app (goodIn_of _ (by decide +kernel)) ggX6_cell_X5_faultOfCells
set_option maxRecDepth 20000 in
theorem ggX6_cell_X6_faulted : GoodIn wsX6_cell wsX6_faulted := goodIn_r _ [27, 1, 28, 29, 30, 31, 32, 33, 34, 35, 36, 37, 38] (by decide +kernel) (by decide +kernel)
set_option maxRecDepth 20000 in
theorem gX6_cell_X6_faulted : GoodIn wsX6_cell (wsV RX6 82 RX6 yX6_faulted wsX6_faulted) := goodIn_app (goodIn_of _ (by decide +kernel)) ggX6_cell_X6_faulted
theorem dX6_cell_0 : decode cX6_cell 0 = .ok (.aload_n 0, 1) := by decide +kernel
theorem dX6_cell_1 : decode cX6_cell 1 = .ok (.iconst 0, 1) := by decide +kernel
theorem dX6_cell_2 : decode cX6_cell 2 = .ok (.putfield 67, 3) := by decide +kernel
theorem dX6_cell_5 : decode cX6_cell 5 = .ok (.iload_n 1, 1) := by decide +kernel
theorem dX6_cell_6 : decode cX6_cell 6 = .ok (.invokestatic 71, 3) := by decide +kernel
theorem dX6_cell_9 : decode cX6_cell 9 = .ok (.ifCond .eq 10, 3) := by decide +kernel
theorem dX6_cell_12 : decode cX6_cell 12 = .ok (.iload_n 3, 1) := by decide +kernel
theorem dX6_cell_13 : decode cX6_cell 13 = .ok (.invokestatic 75, 3) := by decide +kernel
theorem dX6_cell_16 : decode cX6_cell 16 = .ok (.ifCond .ne 7, 3) := by decide +kernel
theorem dX6_cell_19 : decode cX6_cell 19 = .ok (.ldc2_w 218, 3) := by decide +kernel
theorem dX6_cell_22 : decode cX6_cell 22 = .ok (.lreturn, 1) := by decide +kernel
theorem dX6_cell_23 : decode cX6_cell 23 = .ok (.aload_n 0, 1) := by decide +kernel
theorem dX6_cell_24 : decode cX6_cell 24 = .ok (.getfield 13, 3) := by decide +kernel
theorem dX6_cell_27 : decode cX6_cell 27 = .ok (.iload_n 1, 1) := by decide +kernel
theorem dX6_cell_28 : decode cX6_cell 28 = .ok (.aaload, 1) := by decide +kernel
theorem dX6_cell_29 : decode cX6_cell 29 = .ok (.iload_n 3, 1) := by decide +kernel
theorem dX6_cell_30 : decode cX6_cell 30 = .ok (.iload_n 2, 1) := by decide +kernel
theorem dX6_cell_31 : decode cX6_cell 31 = .ok (.iconst 1, 1) := by decide +kernel
theorem dX6_cell_32 : decode cX6_cell 32 = .ok (.invokevirtual 78, 3) := by decide +kernel
theorem dX6_cell_35 : decode cX6_cell 35 = .ok (.istore 4, 2) := by decide +kernel
theorem dX6_cell_37 : decode cX6_cell 37 = .ok (.iload 4, 2) := by decide +kernel
theorem dX6_cell_39 : decode cX6_cell 39 = .ok (.ifCond .eq 14, 3) := by decide +kernel
theorem dX6_cell_42 : decode cX6_cell 42 = .ok (.aload_n 0, 1) := by decide +kernel
theorem dX6_cell_43 : decode cX6_cell 43 = .ok (.iload 4, 2) := by decide +kernel
theorem dX6_cell_45 : decode cX6_cell 45 = .ok (.invokevirtual 82, 3) := by decide +kernel
theorem dX6_cell_48 : decode cX6_cell 48 = .ok (.pop, 1) := by decide +kernel
theorem dX6_cell_49 : decode cX6_cell 49 = .ok (.ldc2_w 218, 3) := by decide +kernel
theorem dX6_cell_52 : decode cX6_cell 52 = .ok (.lreturn, 1) := by decide +kernel
theorem dX6_cell_53 : decode cX6_cell 53 = .ok (.aload_n 0, 1) := by decide +kernel
theorem dX6_cell_54 : decode cX6_cell 54 = .ok (.getfield 13, 3) := by decide +kernel
theorem dX6_cell_57 : decode cX6_cell 57 = .ok (.iload_n 1, 1) := by decide +kernel
theorem dX6_cell_58 : decode cX6_cell 58 = .ok (.aaload, 1) := by decide +kernel
theorem dX6_cell_59 : decode cX6_cell 59 = .ok (.getfield 86, 3) := by decide +kernel
theorem dX6_cell_62 : decode cX6_cell 62 = .ok (.iload_n 2, 1) := by decide +kernel
theorem dX6_cell_63 : decode cX6_cell 63 = .ok (.iaload, 1) := by decide +kernel
theorem dX6_cell_64 : decode cX6_cell 64 = .ok (.i2l, 1) := by decide +kernel
theorem dX6_cell_65 : decode cX6_cell 65 = .ok (.lreturn, 1) := by decide +kernel
set_option maxRecDepth 20000 in
theorem ggX6_copy_X6_isSheet : GoodIn wsX6_copy wsX6_isSheet := goodIn_r _ [13] (by decide +kernel) (by decide +kernel)
set_option maxRecDepth 20000 in
theorem gX6_copy_X6_isSheet : GoodIn wsX6_copy (va_wsS RX6 71 yX6_isSheet wsX6_isSheet) := goodIn_app (goodIn_of _ (by decide +kernel)) ggX6_copy_X6_isSheet
set_option maxRecDepth 20000 in
theorem ggX6_copy_X6_faulted : GoodIn wsX6_copy wsX6_faulted := goodIn_r _ [17, 1, 24, 25, 26, 27, 28, 29, 30, 31, 32, 33, 34] (by decide +kernel) (by decide +kernel)
set_option maxRecDepth 20000 in
theorem gX6_copy_X6_faulted : GoodIn wsX6_copy (wsV RX6 82 RX6 yX6_faulted wsX6_faulted) := goodIn_app (goodIn_of _ (by decide +kernel)) ggX6_copy_X6_faulted
set_option maxRecDepth 20000 in
theorem ggX6_copy_X5_hasCells : GoodIn wsX6_copy wsX5_hasCells := goodIn_r _ [22, 23, 35, 36, 37, 38] (by decide +kernel) (by decide +kernel)
set_option maxRecDepth 20000 in
theorem gX6_copy_X5_hasCells : GoodIn wsX6_copy (wsV RX6 237 RX5 yX5_hasCells wsX5_hasCells) := goodIn_app (goodIn_of _ (by decide +kernel)) ggX6_copy_X5_hasCells
theorem dX6_copy_0 : decode cX6_copy 0 = .ok (.aload_n 0, 1) := by decide +kernel
theorem dX6_copy_1 : decode cX6_copy 1 = .ok (.iconst 0, 1) := by decide +kernel
theorem dX6_copy_2 : decode cX6_copy 2 = .ok (.putfield 67, 3) := by decide +kernel
theorem dX6_copy_5 : decode cX6_copy 5 = .ok (.iload_n 1, 1) := by decide +kernel
theorem dX6_copy_6 : decode cX6_copy 6 = .ok (.invokestatic 71, 3) := by decide +kernel
theorem dX6_copy_9 : decode cX6_copy 9 = .ok (.ifCond .eq 10, 3) := by decide +kernel
theorem dX6_copy_12 : decode cX6_copy 12 = .ok (.iload_n 3, 1) := by decide +kernel
theorem dX6_copy_13 : decode cX6_copy 13 = .ok (.invokestatic 71, 3) := by decide +kernel
theorem dX6_copy_16 : decode cX6_copy 16 = .ok (.ifCond .ne 5, 3) := by decide +kernel
theorem dX6_copy_19 : decode cX6_copy 19 = .ok (.iconst (-1), 1) := by decide +kernel
theorem dX6_copy_20 : decode cX6_copy 20 = .ok (.ireturn, 1) := by decide +kernel
theorem dX6_copy_21 : decode cX6_copy 21 = .ok (.aload_n 0, 1) := by decide +kernel
theorem dX6_copy_22 : decode cX6_copy 22 = .ok (.getfield 13, 3) := by decide +kernel
theorem dX6_copy_25 : decode cX6_copy 25 = .ok (.iload_n 1, 1) := by decide +kernel
theorem dX6_copy_26 : decode cX6_copy 26 = .ok (.aaload, 1) := by decide +kernel
theorem dX6_copy_27 : decode cX6_copy 27 = .ok (.astore 6, 2) := by decide +kernel
theorem dX6_copy_29 : decode cX6_copy 29 = .ok (.aload_n 0, 1) := by decide +kernel
theorem dX6_copy_30 : decode cX6_copy 30 = .ok (.getfield 13, 3) := by decide +kernel
theorem dX6_copy_33 : decode cX6_copy 33 = .ok (.iload_n 3, 1) := by decide +kernel
theorem dX6_copy_34 : decode cX6_copy 34 = .ok (.aaload, 1) := by decide +kernel
theorem dX6_copy_35 : decode cX6_copy 35 = .ok (.astore 7, 2) := by decide +kernel
theorem dX6_copy_37 : decode cX6_copy 37 = .ok (.aload 6, 2) := by decide +kernel
theorem dX6_copy_39 : decode cX6_copy 39 = .ok (.getfield 227, 3) := by decide +kernel
theorem dX6_copy_42 : decode cX6_copy 42 = .ok (.ifCond .eq 11, 3) := by decide +kernel
theorem dX6_copy_45 : decode cX6_copy 45 = .ok (.aload 7, 2) := by decide +kernel
theorem dX6_copy_47 : decode cX6_copy 47 = .ok (.getfield 227, 3) := by decide +kernel
theorem dX6_copy_50 : decode cX6_copy 50 = .ok (.ifCond .ne 9, 3) := by decide +kernel
theorem dX6_copy_53 : decode cX6_copy 53 = .ok (.aload_n 0, 1) := by decide +kernel
theorem dX6_copy_54 : decode cX6_copy 54 = .ok (.iconst 1, 1) := by decide +kernel
theorem dX6_copy_55 : decode cX6_copy 55 = .ok (.invokevirtual 82, 3) := by decide +kernel
theorem dX6_copy_58 : decode cX6_copy 58 = .ok (.ireturn, 1) := by decide +kernel
theorem dX6_copy_59 : decode cX6_copy 59 = .ok (.aload 6, 2) := by decide +kernel
theorem dX6_copy_61 : decode cX6_copy 61 = .ok (.getfield 231, 3) := by decide +kernel
theorem dX6_copy_64 : decode cX6_copy 64 = .ok (.aload 7, 2) := by decide +kernel
theorem dX6_copy_66 : decode cX6_copy 66 = .ok (.getfield 231, 3) := by decide +kernel
theorem dX6_copy_69 : decode cX6_copy 69 = .ok (.if_icmp .eq 9, 3) := by decide +kernel
theorem dX6_copy_72 : decode cX6_copy 72 = .ok (.aload_n 0, 1) := by decide +kernel
theorem dX6_copy_73 : decode cX6_copy 73 = .ok (.iconst 2, 1) := by decide +kernel
theorem dX6_copy_74 : decode cX6_copy 74 = .ok (.invokevirtual 82, 3) := by decide +kernel
theorem dX6_copy_77 : decode cX6_copy 77 = .ok (.ireturn, 1) := by decide +kernel
theorem dX6_copy_78 : decode cX6_copy 78 = .ok (.iload 5, 2) := by decide +kernel
theorem dX6_copy_80 : decode cX6_copy 80 = .ok (.ifCond .lt 26, 3) := by decide +kernel
theorem dX6_copy_83 : decode cX6_copy 83 = .ok (.aload 6, 2) := by decide +kernel
theorem dX6_copy_85 : decode cX6_copy 85 = .ok (.iload_n 2, 1) := by decide +kernel
theorem dX6_copy_86 : decode cX6_copy 86 = .ok (.iload 5, 2) := by decide +kernel
theorem dX6_copy_88 : decode cX6_copy 88 = .ok (.invokevirtual 237, 3) := by decide +kernel
theorem dX6_copy_91 : decode cX6_copy 91 = .ok (.ifCond .eq 15, 3) := by decide +kernel
theorem dX6_copy_94 : decode cX6_copy 94 = .ok (.aload 7, 2) := by decide +kernel
theorem dX6_copy_96 : decode cX6_copy 96 = .ok (.iload 4, 2) := by decide +kernel
theorem dX6_copy_98 : decode cX6_copy 98 = .ok (.iload 5, 2) := by decide +kernel
theorem dX6_copy_100 : decode cX6_copy 100 = .ok (.invokevirtual 237, 3) := by decide +kernel
theorem dX6_copy_103 : decode cX6_copy 103 = .ok (.ifCond .ne 9, 3) := by decide +kernel
theorem dX6_copy_106 : decode cX6_copy 106 = .ok (.aload_n 0, 1) := by decide +kernel
theorem dX6_copy_107 : decode cX6_copy 107 = .ok (.iconst 3, 1) := by decide +kernel
theorem dX6_copy_108 : decode cX6_copy 108 = .ok (.invokevirtual 82, 3) := by decide +kernel
theorem dX6_copy_111 : decode cX6_copy 111 = .ok (.ireturn, 1) := by decide +kernel
theorem dX6_copy_112 : decode cX6_copy 112 = .ok (.aload 6, 2) := by decide +kernel
theorem dX6_copy_114 : decode cX6_copy 114 = .ok (.getfield 86, 3) := by decide +kernel
theorem dX6_copy_117 : decode cX6_copy 117 = .ok (.iload_n 2, 1) := by decide +kernel
theorem dX6_copy_118 : decode cX6_copy 118 = .ok (.aload 7, 2) := by decide +kernel
theorem dX6_copy_120 : decode cX6_copy 120 = .ok (.getfield 86, 3) := by decide +kernel
theorem dX6_copy_123 : decode cX6_copy 123 = .ok (.iload 4, 2) := by decide +kernel
theorem dX6_copy_125 : decode cX6_copy 125 = .ok (.iload 5, 2) := by decide +kernel
theorem dX6_copy_127 : decode cX6_copy 127 = .ok (.invokestatic 241, 3) := by decide +kernel
theorem dX6_copy_130 : decode cX6_copy 130 = .ok (.iload 5, 2) := by decide +kernel
theorem dX6_copy_132 : decode cX6_copy 132 = .ok (.ireturn, 1) := by decide +kernel
set_option maxRecDepth 20000 in
theorem ggX6_tell_X6_isGallery : GoodIn wsX6_tell wsX6_isGallery := goodIn_r _ [7, 1, 8, 27, 28, 29, 30, 31, 32, 33, 34, 35, 36, 37, 38, 39, 40, 41, 42, 43] (by decide +kernel) (by decide +kernel)
set_option maxRecDepth 20000 in
theorem gX6_tell_X6_isGallery : GoodIn wsX6_tell (wsV RX6 100 RX6 yX6_isGallery wsX6_isGallery) := goodIn_app (goodIn_of _ (by decide +kernel)) ggX6_tell_X6_isGallery
set_option maxRecDepth 20000 in
theorem ggX6_tell_X6_brightBody : GoodIn wsX6_tell wsX6_brightBody := goodIn_r _ [12, 13, 14, 15, 6, 16, 17, 18, 19, 20, 21, 22, 23, 24, 25, 1, 26, 27, 28, 29, 30, 31, 32, 33, 34, 35, 36, 37, 38, 39, 40, 41, 42, 43] (by decide +kernel) (by decide +kernel)
set_option maxRecDepth 20000 in
theorem gX6_tell_X6_brightBody : GoodIn wsX6_tell (wsV RX6 247 RX6 yX6_brightBody wsX6_brightBody) := goodIn_app (goodIn_of _ (by decide +kernel)) ggX6_tell_X6_brightBody
set_option maxRecDepth 20000 in
theorem ggX6_tell_X6_greenBody : GoodIn wsX6_tell wsX6_greenBody := goodIn_r _ [21, 13, 14, 15, 6, 16, 17, 22, 23, 24, 25, 1, 26, 27, 28, 29, 30, 31, 32, 33, 34, 35, 36, 37, 38, 39, 40, 41, 42, 43] (by decide +kernel) (by decide +kernel)
set_option maxRecDepth 20000 in
theorem gX6_tell_X6_greenBody : GoodIn wsX6_tell (wsV RX6 250 RX6 yX6_greenBody wsX6_greenBody) := goodIn_app (goodIn_of _ (by decide +kernel)) ggX6_tell_X6_greenBody
set_option maxRecDepth 20000 in
theorem ggX6_tell_X6_greyBody : GoodIn wsX6_tell wsX6_greyBody := goodIn_r _ [25, 1, 26, 13, 14, 15, 6, 16, 17, 27, 28, 29, 30, 31, 32, 33, 34, 35, 36, 37, 38, 39, 40, 41, 42, 43] (by decide +kernel) (by decide +kernel)
set_option maxRecDepth 20000 in
theorem gX6_tell_X6_greyBody : GoodIn wsX6_tell (wsV RX6 253 RX6 yX6_greyBody wsX6_greyBody) := goodIn_app (goodIn_of _ (by decide +kernel)) ggX6_tell_X6_greyBody
theorem dX6_tell_0 : decode cX6_tell 0 = .ok (.aload_n 0, 1) := by decide +kernel
theorem dX6_tell_1 : decode cX6_tell 1 = .ok (.iload_n 1, 1) := by decide +kernel
theorem dX6_tell_2 : decode cX6_tell 2 = .ok (.invokevirtual 100, 3) := by decide +kernel
theorem dX6_tell_5 : decode cX6_tell 5 = .ok (.ifCond .ne 5, 3) := by decide +kernel
theorem dX6_tell_8 : decode cX6_tell 8 = .ok (.iconst (-1), 1) := by decide +kernel
theorem dX6_tell_9 : decode cX6_tell 9 = .ok (.ireturn, 1) := by decide +kernel
theorem dX6_tell_10 : decode cX6_tell 10 = .ok (.aload_n 0, 1) := by decide +kernel
theorem dX6_tell_11 : decode cX6_tell 11 = .ok (.getfield 20, 3) := by decide +kernel
theorem dX6_tell_14 : decode cX6_tell 14 = .ok (.getfield 103, 3) := by decide +kernel
theorem dX6_tell_17 : decode cX6_tell 17 = .ok (.iload_n 1, 1) := by decide +kernel
theorem dX6_tell_18 : decode cX6_tell 18 = .ok (.iaload, 1) := by decide +kernel
theorem dX6_tell_19 : decode cX6_tell 19 = .ok (.lookupswitch 37 #[(1, 31), (2, 25)], 25) := by decide +kernel
theorem dX6_tell_44 : decode cX6_tell 44 = .ok (.aload_n 0, 1) := by decide +kernel
theorem dX6_tell_45 : decode cX6_tell 45 = .ok (.iload_n 1, 1) := by decide +kernel
theorem dX6_tell_46 : decode cX6_tell 46 = .ok (.invokevirtual 247, 3) := by decide +kernel
theorem dX6_tell_49 : decode cX6_tell 49 = .ok (.ireturn, 1) := by decide +kernel
theorem dX6_tell_50 : decode cX6_tell 50 = .ok (.aload_n 0, 1) := by decide +kernel
theorem dX6_tell_51 : decode cX6_tell 51 = .ok (.iload_n 1, 1) := by decide +kernel
theorem dX6_tell_52 : decode cX6_tell 52 = .ok (.invokevirtual 250, 3) := by decide +kernel
theorem dX6_tell_55 : decode cX6_tell 55 = .ok (.ireturn, 1) := by decide +kernel
theorem dX6_tell_56 : decode cX6_tell 56 = .ok (.aload_n 0, 1) := by decide +kernel
theorem dX6_tell_57 : decode cX6_tell 57 = .ok (.iload_n 1, 1) := by decide +kernel
theorem dX6_tell_58 : decode cX6_tell 58 = .ok (.invokevirtual 253, 3) := by decide +kernel
theorem dX6_tell_61 : decode cX6_tell 61 = .ok (.ireturn, 1) := by decide +kernel
set_option maxRecDepth 20000 in
theorem ggX6_sign_X6_isGallery : GoodIn wsX6_sign wsX6_isGallery := goodIn_r _ [7, 1, 8, 22, 23, 24, 25, 26, 27, 28, 29, 30, 31, 32, 33, 34, 35, 36, 37, 38] (by decide +kernel) (by decide +kernel)
set_option maxRecDepth 20000 in
theorem gX6_sign_X6_isGallery : GoodIn wsX6_sign (wsV RX6 100 RX6 yX6_isGallery wsX6_isGallery) := goodIn_app (goodIn_of _ (by decide +kernel)) ggX6_sign_X6_isGallery
set_option maxRecDepth 20000 in
theorem ggX6_sign_X6_brightSignature : GoodIn wsX6_sign wsX6_brightSignature := goodIn_r _ [12, 13, 14, 15, 6, 16, 17, 22, 23, 24, 25, 26, 27, 28, 29, 30, 31, 32] (by decide +kernel) (by decide +kernel)
set_option maxRecDepth 20000 in
theorem gX6_sign_X6_brightSignature : GoodIn wsX6_sign (wsV RX6 256 RX6 yX6_brightSignature wsX6_brightSignature) := goodIn_app (goodIn_of _ (by decide +kernel)) ggX6_sign_X6_brightSignature
set_option maxRecDepth 20000 in
theorem ggX6_sign_X6_lentSignature : GoodIn wsX6_sign wsX6_lentSignature := goodIn_r _ [21, 13, 14, 15, 6, 16, 17, 22, 23, 24, 25, 26, 27, 28, 29, 30, 31, 32] (by decide +kernel) (by decide +kernel)
set_option maxRecDepth 20000 in
theorem gX6_sign_X6_lentSignature : GoodIn wsX6_sign (wsV RX6 260 RX6 yX6_lentSignature wsX6_lentSignature) := goodIn_app (goodIn_of _ (by decide +kernel)) ggX6_sign_X6_lentSignature
theorem dX6_sign_0 : decode cX6_sign 0 = .ok (.aload_n 0, 1) := by decide +kernel
theorem dX6_sign_1 : decode cX6_sign 1 = .ok (.iload_n 1, 1) := by decide +kernel
theorem dX6_sign_2 : decode cX6_sign 2 = .ok (.invokevirtual 100, 3) := by decide +kernel
theorem dX6_sign_5 : decode cX6_sign 5 = .ok (.ifCond .ne 5, 3) := by decide +kernel
theorem dX6_sign_8 : decode cX6_sign 8 = .ok (.iconst (-1), 1) := by decide +kernel
theorem dX6_sign_9 : decode cX6_sign 9 = .ok (.ireturn, 1) := by decide +kernel
theorem dX6_sign_10 : decode cX6_sign 10 = .ok (.aload_n 0, 1) := by decide +kernel
theorem dX6_sign_11 : decode cX6_sign 11 = .ok (.getfield 20, 3) := by decide +kernel
theorem dX6_sign_14 : decode cX6_sign 14 = .ok (.getfield 103, 3) := by decide +kernel
theorem dX6_sign_17 : decode cX6_sign 17 = .ok (.iload_n 1, 1) := by decide +kernel
theorem dX6_sign_18 : decode cX6_sign 18 = .ok (.iaload, 1) := by decide +kernel
theorem dX6_sign_19 : decode cX6_sign 19 = .ok (.iconst 2, 1) := by decide +kernel
theorem dX6_sign_20 : decode cX6_sign 20 = .ok (.if_icmp .ne 10, 3) := by decide +kernel
theorem dX6_sign_23 : decode cX6_sign 23 = .ok (.aload_n 0, 1) := by decide +kernel
theorem dX6_sign_24 : decode cX6_sign 24 = .ok (.invokevirtual 256, 3) := by decide +kernel
theorem dX6_sign_27 : decode cX6_sign 27 = .ok (.goto 8, 3) := by decide +kernel
theorem dX6_sign_30 : decode cX6_sign 30 = .ok (.aload_n 0, 1) := by decide +kernel
theorem dX6_sign_31 : decode cX6_sign 31 = .ok (.iload_n 1, 1) := by decide +kernel
theorem dX6_sign_32 : decode cX6_sign 32 = .ok (.invokevirtual 260, 3) := by decide +kernel
theorem dX6_sign_35 : decode cX6_sign 35 = .ok (.ireturn, 1) := by decide +kernel
set_option maxRecDepth 20000 in
theorem ggX6_as_X6_isGallery : GoodIn wsX6_as wsX6_isGallery := goodIn_r _ [8, 2, 9, 14, 15, 16, 17, 18, 19, 20, 21, 22, 23, 24, 25, 26, 27, 28, 29, 30] (by decide +kernel) (by decide +kernel)
set_option maxRecDepth 20000 in
theorem gX6_as_X6_isGallery : GoodIn wsX6_as (wsV RX6 100 RX6 yX6_isGallery wsX6_isGallery) := goodIn_app (goodIn_of _ (by decide +kernel)) ggX6_as_X6_isGallery
set_option maxRecDepth 20000 in
theorem ggX6_as_X6_faulted : GoodIn wsX6_as wsX6_faulted := goodIn_r _ [13, 1, 14, 15, 16, 17, 18, 19, 20, 21, 22, 23, 24] (by decide +kernel) (by decide +kernel)
set_option maxRecDepth 20000 in
theorem gX6_as_X6_faulted : GoodIn wsX6_as (wsV RX6 82 RX6 yX6_faulted wsX6_faulted) := goodIn_app (goodIn_of _ (by decide +kernel)) ggX6_as_X6_faulted
theorem dX6_as_0 : decode cX6_as 0 = .ok (.aload_n 0, 1) := by decide +kernel
theorem dX6_as_1 : decode cX6_as 1 = .ok (.iconst 0, 1) := by decide +kernel
theorem dX6_as_2 : decode cX6_as 2 = .ok (.putfield 67, 3) := by decide +kernel
theorem dX6_as_5 : decode cX6_as 5 = .ok (.aload_n 0, 1) := by decide +kernel
theorem dX6_as_6 : decode cX6_as 6 = .ok (.iload_n 1, 1) := by decide +kernel
theorem dX6_as_7 : decode cX6_as 7 = .ok (.invokevirtual 100, 3) := by decide +kernel
theorem dX6_as_10 : decode cX6_as 10 = .ok (.ifCond .ne 5, 3) := by decide +kernel
theorem dX6_as_13 : decode cX6_as 13 = .ok (.iconst (-1), 1) := by decide +kernel
theorem dX6_as_14 : decode cX6_as 14 = .ok (.ireturn, 1) := by decide +kernel
theorem dX6_as_15 : decode cX6_as 15 = .ok (.iload_n 2, 1) := by decide +kernel
theorem dX6_as_16 : decode cX6_as 16 = .ok (.ifCond .lt 8, 3) := by decide +kernel
theorem dX6_as_19 : decode cX6_as 19 = .ok (.iload_n 2, 1) := by decide +kernel
theorem dX6_as_20 : decode cX6_as 20 = .ok (.iconst 3, 1) := by decide +kernel
theorem dX6_as_21 : decode cX6_as 21 = .ok (.if_icmp .lt 6, 3) := by decide +kernel
theorem dX6_as_24 : decode cX6_as 24 = .ok (.bipush (-2), 2) := by decide +kernel
theorem dX6_as_26 : decode cX6_as 26 = .ok (.ireturn, 1) := by decide +kernel
theorem dX6_as_27 : decode cX6_as 27 = .ok (.iload_n 2, 1) := by decide +kernel
theorem dX6_as_28 : decode cX6_as 28 = .ok (.aload_n 0, 1) := by decide +kernel
theorem dX6_as_29 : decode cX6_as 29 = .ok (.getfield 20, 3) := by decide +kernel
theorem dX6_as_32 : decode cX6_as 32 = .ok (.getfield 103, 3) := by decide +kernel
theorem dX6_as_35 : decode cX6_as 35 = .ok (.iload_n 1, 1) := by decide +kernel
theorem dX6_as_36 : decode cX6_as 36 = .ok (.iaload, 1) := by decide +kernel
theorem dX6_as_37 : decode cX6_as 37 = .ok (.if_icmp .gt 7, 3) := by decide +kernel
theorem dX6_as_40 : decode cX6_as 40 = .ok (.iconst 1, 1) := by decide +kernel
theorem dX6_as_41 : decode cX6_as 41 = .ok (.goto 8, 3) := by decide +kernel
theorem dX6_as_44 : decode cX6_as 44 = .ok (.aload_n 0, 1) := by decide +kernel
theorem dX6_as_45 : decode cX6_as 45 = .ok (.iconst 2, 1) := by decide +kernel
theorem dX6_as_46 : decode cX6_as 46 = .ok (.invokevirtual 82, 3) := by decide +kernel
theorem dX6_as_49 : decode cX6_as 49 = .ok (.ireturn, 1) := by decide +kernel
theorem dX6_trace_0 : decode cX6_trace 0 = .ok (.aload_n 0, 1) := by decide +kernel
theorem dX6_trace_1 : decode cX6_trace 1 = .ok (.getfield 64, 3) := by decide +kernel
theorem dX6_trace_4 : decode cX6_trace 4 = .ok (.ireturn, 1) := by decide +kernel
theorem dX6_fault_0 : decode cX6_fault 0 = .ok (.aload_n 0, 1) := by decide +kernel
theorem dX6_fault_1 : decode cX6_fault 1 = .ok (.getfield 67, 3) := by decide +kernel
theorem dX6_fault_4 : decode cX6_fault 4 = .ok (.ireturn, 1) := by decide +kernel
set_option maxRecDepth 20000 in
theorem ggX6_many_J6_bitCount_0f7a4 : GoodIn wsX6_many wsJ6_bitCount_0f7a4 := goodIn_r _ [12, 13, 14, 15] (by decide +kernel) (by decide +kernel)
set_option maxRecDepth 20000 in
theorem gX6_many_J6_bitCount_0f7a4 : GoodIn wsX6_many (va_wsS RX6 148 yJ6_bitCount_0f7a4 wsJ6_bitCount_0f7a4) := goodIn_app (goodIn_of _ (by decide +kernel)) ggX6_many_J6_bitCount_0f7a4
theorem dX6_many_0 : decode cX6_many 0 = .ok (.iload_n 1, 1) := by decide +kernel
theorem dX6_many_1 : decode cX6_many 1 = .ok (.tableswitch 75 0 4 #[35, 43, 51, 56, 67], 35) := by decide +kernel
theorem dX6_many_36 : decode cX6_many 36 = .ok (.aload_n 0, 1) := by decide +kernel
theorem dX6_many_37 : decode cX6_many 37 = .ok (.getfield 20, 3) := by decide +kernel
theorem dX6_many_40 : decode cX6_many 40 = .ok (.getfield 97, 3) := by decide +kernel
theorem dX6_many_43 : decode cX6_many 43 = .ok (.ireturn, 1) := by decide +kernel
theorem dX6_many_44 : decode cX6_many 44 = .ok (.aload_n 0, 1) := by decide +kernel
theorem dX6_many_45 : decode cX6_many 45 = .ok (.getfield 20, 3) := by decide +kernel
theorem dX6_many_48 : decode cX6_many 48 = .ok (.getfield 196, 3) := by decide +kernel
theorem dX6_many_51 : decode cX6_many 51 = .ok (.ireturn, 1) := by decide +kernel
theorem dX6_many_52 : decode cX6_many 52 = .ok (.aload_n 0, 1) := by decide +kernel
theorem dX6_many_53 : decode cX6_many 53 = .ok (.getfield 60, 3) := by decide +kernel
theorem dX6_many_56 : decode cX6_many 56 = .ok (.ireturn, 1) := by decide +kernel
theorem dX6_many_57 : decode cX6_many 57 = .ok (.aload_n 0, 1) := by decide +kernel
theorem dX6_many_58 : decode cX6_many 58 = .ok (.getfield 27, 3) := by decide +kernel
theorem dX6_many_61 : decode cX6_many 61 = .ok (.getfield 115, 3) := by decide +kernel
theorem dX6_many_64 : decode cX6_many 64 = .ok (.invokestatic 148, 3) := by decide +kernel
theorem dX6_many_67 : decode cX6_many 67 = .ok (.ireturn, 1) := by decide +kernel
theorem dX6_many_68 : decode cX6_many 68 = .ok (.aload_n 0, 1) := by decide +kernel
theorem dX6_many_69 : decode cX6_many 69 = .ok (.getfield 34, 3) := by decide +kernel
theorem dX6_many_72 : decode cX6_many 72 = .ok (.getfield 206, 3) := by decide +kernel
theorem dX6_many_75 : decode cX6_many 75 = .ok (.ireturn, 1) := by decide +kernel
theorem dX6_many_76 : decode cX6_many 76 = .ok (.bipush (-2), 2) := by decide +kernel
theorem dX6_many_78 : decode cX6_many 78 = .ok (.ireturn, 1) := by decide +kernel
theorem dX6_hasMine_0 : decode cX6_hasMine 0 = .ok (.aload_n 0, 1) := by decide +kernel
theorem dX6_hasMine_1 : decode cX6_hasMine 1 = .ok (.getfield 20, 3) := by decide +kernel
theorem dX6_hasMine_4 : decode cX6_hasMine 4 = .ok (.getfield 97, 3) := by decide +kernel
theorem dX6_hasMine_7 : decode cX6_hasMine 7 = .ok (.ifCond .le 7, 3) := by decide +kernel
theorem dX6_hasMine_10 : decode cX6_hasMine 10 = .ok (.iconst 1, 1) := by decide +kernel
theorem dX6_hasMine_11 : decode cX6_hasMine 11 = .ok (.goto 4, 3) := by decide +kernel
theorem dX6_hasMine_14 : decode cX6_hasMine 14 = .ok (.iconst 0, 1) := by decide +kernel
theorem dX6_hasMine_15 : decode cX6_hasMine 15 = .ok (.ireturn, 1) := by decide +kernel
theorem dX6_isGallery_0 : decode cX6_isGallery 0 = .ok (.iload_n 1, 1) := by decide +kernel
theorem dX6_isGallery_1 : decode cX6_isGallery 1 = .ok (.ifCond .lt 18, 3) := by decide +kernel
theorem dX6_isGallery_4 : decode cX6_isGallery 4 = .ok (.iload_n 1, 1) := by decide +kernel
theorem dX6_isGallery_5 : decode cX6_isGallery 5 = .ok (.aload_n 0, 1) := by decide +kernel
theorem dX6_isGallery_6 : decode cX6_isGallery 6 = .ok (.getfield 20, 3) := by decide +kernel
theorem dX6_isGallery_9 : decode cX6_isGallery 9 = .ok (.getfield 97, 3) := by decide +kernel
theorem dX6_isGallery_12 : decode cX6_isGallery 12 = .ok (.if_icmp .ge 7, 3) := by decide +kernel
theorem dX6_isGallery_15 : decode cX6_isGallery 15 = .ok (.iconst 1, 1) := by decide +kernel
theorem dX6_isGallery_16 : decode cX6_isGallery 16 = .ok (.goto 4, 3) := by decide +kernel
theorem dX6_isGallery_19 : decode cX6_isGallery 19 = .ok (.iconst 0, 1) := by decide +kernel
theorem dX6_isGallery_20 : decode cX6_isGallery 20 = .ok (.ireturn, 1) := by decide +kernel
theorem dX6_isWord_0 : decode cX6_isWord 0 = .ok (.iload_n 1, 1) := by decide +kernel
theorem dX6_isWord_1 : decode cX6_isWord 1 = .ok (.ifCond .lt 18, 3) := by decide +kernel
theorem dX6_isWord_4 : decode cX6_isWord 4 = .ok (.iload_n 1, 1) := by decide +kernel
theorem dX6_isWord_5 : decode cX6_isWord 5 = .ok (.aload_n 0, 1) := by decide +kernel
theorem dX6_isWord_6 : decode cX6_isWord 6 = .ok (.getfield 20, 3) := by decide +kernel
theorem dX6_isWord_9 : decode cX6_isWord 9 = .ok (.getfield 196, 3) := by decide +kernel
theorem dX6_isWord_12 : decode cX6_isWord 12 = .ok (.if_icmp .ge 7, 3) := by decide +kernel
theorem dX6_isWord_15 : decode cX6_isWord 15 = .ok (.iconst 1, 1) := by decide +kernel
theorem dX6_isWord_16 : decode cX6_isWord 16 = .ok (.goto 4, 3) := by decide +kernel
theorem dX6_isWord_19 : decode cX6_isWord 19 = .ok (.iconst 0, 1) := by decide +kernel
theorem dX6_isWord_20 : decode cX6_isWord 20 = .ok (.ireturn, 1) := by decide +kernel
theorem dX6_isDoor_0 : decode cX6_isDoor 0 = .ok (.iload_n 1, 1) := by decide +kernel
theorem dX6_isDoor_1 : decode cX6_isDoor 1 = .ok (.ifCond .lt 20, 3) := by decide +kernel
theorem dX6_isDoor_4 : decode cX6_isDoor 4 = .ok (.iload_n 1, 1) := by decide +kernel
theorem dX6_isDoor_5 : decode cX6_isDoor 5 = .ok (.aload_n 0, 1) := by decide +kernel
theorem dX6_isDoor_6 : decode cX6_isDoor 6 = .ok (.getfield 20, 3) := by decide +kernel
theorem dX6_isDoor_9 : decode cX6_isDoor 9 = .ok (.getfield 97, 3) := by decide +kernel
theorem dX6_isDoor_12 : decode cX6_isDoor 12 = .ok (.iconst 1, 1) := by decide +kernel
theorem dX6_isDoor_13 : decode cX6_isDoor 13 = .ok (.isub, 1) := by decide +kernel
theorem dX6_isDoor_14 : decode cX6_isDoor 14 = .ok (.if_icmp .ge 7, 3) := by decide +kernel
