theorem dX7_pass_63 : decode cX7_pass 63 = .ok (.getfield 25, 3) := by decide +kernel
theorem dX7_pass_66 : decode cX7_pass 66 = .ok (.iload_n 2, 1) := by decide +kernel
theorem dX7_pass_67 : decode cX7_pass 67 = .ok (.dup2, 1) := by decide +kernel
theorem dX7_pass_68 : decode cX7_pass 68 = .ok (.iaload, 1) := by decide +kernel
theorem dX7_pass_69 : decode cX7_pass 69 = .ok (.iload 4, 2) := by decide +kernel
theorem dX7_pass_71 : decode cX7_pass 71 = .ok (.isub, 1) := by decide +kernel
theorem dX7_pass_72 : decode cX7_pass 72 = .ok (.iastore, 1) := by decide +kernel
theorem dX7_pass_73 : decode cX7_pass 73 = .ok (.aload_n 0, 1) := by decide +kernel
theorem dX7_pass_74 : decode cX7_pass 74 = .ok (.getfield 25, 3) := by decide +kernel
theorem dX7_pass_77 : decode cX7_pass 77 = .ok (.iload_n 2, 1) := by decide +kernel
theorem dX7_pass_78 : decode cX7_pass 78 = .ok (.iconst 1, 1) := by decide +kernel
theorem dX7_pass_79 : decode cX7_pass 79 = .ok (.iadd, 1) := by decide +kernel
theorem dX7_pass_80 : decode cX7_pass 80 = .ok (.dup2, 1) := by decide +kernel
theorem dX7_pass_81 : decode cX7_pass 81 = .ok (.iaload, 1) := by decide +kernel
theorem dX7_pass_82 : decode cX7_pass 82 = .ok (.iload 4, 2) := by decide +kernel
theorem dX7_pass_84 : decode cX7_pass 84 = .ok (.iadd, 1) := by decide +kernel
theorem dX7_pass_85 : decode cX7_pass 85 = .ok (.iastore, 1) := by decide +kernel
theorem dX7_pass_86 : decode cX7_pass 86 = .ok (.iinc 1 1, 3) := by decide +kernel
theorem dX7_pass_89 : decode cX7_pass 89 = .ok (.iinc 2 1, 3) := by decide +kernel
theorem dX7_pass_92 : decode cX7_pass 92 = .ok (.goto (-88), 3) := by decide +kernel
theorem dX7_pass_95 : decode cX7_pass 95 = .ok (.iload_n 1, 1) := by decide +kernel
theorem dX7_pass_96 : decode cX7_pass 96 = .ok (.ireturn, 1) := by decide +kernel
set_option maxRecDepth 20000 in
theorem ggX7_drop_X7_isOf : GoodIn wsX7_drop wsX7_isOf := goodIn_r _ [7] (by decide +kernel) (by decide +kernel)
set_option maxRecDepth 20000 in
theorem gX7_drop_X7_isOf : GoodIn wsX7_drop (va_wsS RX7 143 yX7_isOf wsX7_isOf) := goodIn_app (goodIn_of _ (by decide +kernel)) ggX7_drop_X7_isOf
set_option maxRecDepth 20000 in
theorem ggX7_drop_X7_bearsOf : GoodIn wsX7_drop wsX7_bearsOf := goodIn_r _ [11, 12, 13, 14, 15, 6, 16, 17, 18, 19, 20, 21, 22, 23, 24, 25, 26, 27, 28, 29, 30, 31, 32, 33, 34, 35, 36, 37, 38, 39, 40, 41, 42, 43, 44, 45] (by decide +kernel) (by decide +kernel)
set_option maxRecDepth 20000 in
theorem gX7_drop_X7_bearsOf : GoodIn wsX7_drop (wsV RX7 134 RX7 yX7_bearsOf wsX7_bearsOf) := goodIn_app (goodIn_of _ (by decide +kernel)) ggX7_drop_X7_bearsOf
theorem dX7_drop_0 : decode cX7_drop 0 = .ok (.iconst 0, 1) := by decide +kernel
theorem dX7_drop_1 : decode cX7_drop 1 = .ok (.istore_n 1, 1) := by decide +kernel
theorem dX7_drop_2 : decode cX7_drop 2 = .ok (.iconst 0, 1) := by decide +kernel
theorem dX7_drop_3 : decode cX7_drop 3 = .ok (.istore_n 2, 1) := by decide +kernel
theorem dX7_drop_4 : decode cX7_drop 4 = .ok (.iload_n 2, 1) := by decide +kernel
theorem dX7_drop_5 : decode cX7_drop 5 = .ok (.aload_n 0, 1) := by decide +kernel
theorem dX7_drop_6 : decode cX7_drop 6 = .ok (.getfield 65, 3) := by decide +kernel
theorem dX7_drop_9 : decode cX7_drop 9 = .ok (.if_icmp .ge 44, 3) := by decide +kernel
theorem dX7_drop_12 : decode cX7_drop 12 = .ok (.iload_n 1, 1) := by decide +kernel
theorem dX7_drop_13 : decode cX7_drop 13 = .ok (.aload_n 0, 1) := by decide +kernel
theorem dX7_drop_14 : decode cX7_drop 14 = .ok (.getfield 107, 3) := by decide +kernel
theorem dX7_drop_17 : decode cX7_drop 17 = .ok (.iload_n 2, 1) := by decide +kernel
theorem dX7_drop_18 : decode cX7_drop 18 = .ok (.invokestatic 143, 3) := by decide +kernel
theorem dX7_drop_21 : decode cX7_drop 21 = .ok (.ifCond .ne 23, 3) := by decide +kernel
theorem dX7_drop_24 : decode cX7_drop 24 = .ok (.aload_n 0, 1) := by decide +kernel
theorem dX7_drop_25 : decode cX7_drop 25 = .ok (.getfield 25, 3) := by decide +kernel
theorem dX7_drop_28 : decode cX7_drop 28 = .ok (.iload_n 2, 1) := by decide +kernel
theorem dX7_drop_29 : decode cX7_drop 29 = .ok (.iaload, 1) := by decide +kernel
theorem dX7_drop_30 : decode cX7_drop 30 = .ok (.aload_n 0, 1) := by decide +kernel
theorem dX7_drop_31 : decode cX7_drop 31 = .ok (.iload_n 2, 1) := by decide +kernel
theorem dX7_drop_32 : decode cX7_drop 32 = .ok (.invokevirtual 134, 3) := by decide +kernel
theorem dX7_drop_35 : decode cX7_drop 35 = .ok (.if_icmp .le 9, 3) := by decide +kernel
theorem dX7_drop_38 : decode cX7_drop 38 = .ok (.iconst 1, 1) := by decide +kernel
theorem dX7_drop_39 : decode cX7_drop 39 = .ok (.iload_n 2, 1) := by decide +kernel
theorem dX7_drop_40 : decode cX7_drop 40 = .ok (.ishl, 1) := by decide +kernel
theorem dX7_drop_41 : decode cX7_drop 41 = .ok (.goto 4, 3) := by decide +kernel
theorem dX7_drop_44 : decode cX7_drop 44 = .ok (.iconst 0, 1) := by decide +kernel
theorem dX7_drop_45 : decode cX7_drop 45 = .ok (.ior, 1) := by decide +kernel
theorem dX7_drop_46 : decode cX7_drop 46 = .ok (.istore_n 1, 1) := by decide +kernel
theorem dX7_drop_47 : decode cX7_drop 47 = .ok (.iinc 2 1, 3) := by decide +kernel
theorem dX7_drop_50 : decode cX7_drop 50 = .ok (.goto (-46), 3) := by decide +kernel
theorem dX7_drop_53 : decode cX7_drop 53 = .ok (.aload_n 0, 1) := by decide +kernel
theorem dX7_drop_54 : decode cX7_drop 54 = .ok (.dup, 1) := by decide +kernel
theorem dX7_drop_55 : decode cX7_drop 55 = .ok (.getfield 107, 3) := by decide +kernel
theorem dX7_drop_58 : decode cX7_drop 58 = .ok (.iload_n 1, 1) := by decide +kernel
theorem dX7_drop_59 : decode cX7_drop 59 = .ok (.ior, 1) := by decide +kernel
theorem dX7_drop_60 : decode cX7_drop 60 = .ok (.putfield 107, 3) := by decide +kernel
theorem dX7_drop_63 : decode cX7_drop 63 = .ok (.iload_n 1, 1) := by decide +kernel
theorem dX7_drop_64 : decode cX7_drop 64 = .ok (.ireturn, 1) := by decide +kernel
theorem dX7_sayIn_0 : decode cX7_sayIn 0 = .ok (.aload_n 0, 1) := by decide +kernel
theorem dX7_sayIn_1 : decode cX7_sayIn 1 = .ok (.getfield 25, 3) := by decide +kernel
theorem dX7_sayIn_4 : decode cX7_sayIn 4 = .ok (.iload_n 1, 1) := by decide +kernel
theorem dX7_sayIn_5 : decode cX7_sayIn 5 = .ok (.iaload, 1) := by decide +kernel
theorem dX7_sayIn_6 : decode cX7_sayIn 6 = .ok (.aload_n 0, 1) := by decide +kernel
theorem dX7_sayIn_7 : decode cX7_sayIn 7 = .ok (.getfield 19, 3) := by decide +kernel
theorem dX7_sayIn_10 : decode cX7_sayIn 10 = .ok (.iload_n 2, 1) := by decide +kernel
theorem dX7_sayIn_11 : decode cX7_sayIn 11 = .ok (.iaload, 1) := by decide +kernel
theorem dX7_sayIn_12 : decode cX7_sayIn 12 = .ok (.iadd, 1) := by decide +kernel
theorem dX7_sayIn_13 : decode cX7_sayIn 13 = .ok (.iconst 4, 1) := by decide +kernel
theorem dX7_sayIn_14 : decode cX7_sayIn 14 = .ok (.isub, 1) := by decide +kernel
theorem dX7_sayIn_15 : decode cX7_sayIn 15 = .ok (.istore_n 3, 1) := by decide +kernel
theorem dX7_sayIn_16 : decode cX7_sayIn 16 = .ok (.aload_n 0, 1) := by decide +kernel
theorem dX7_sayIn_17 : decode cX7_sayIn 17 = .ok (.getfield 25, 3) := by decide +kernel
theorem dX7_sayIn_20 : decode cX7_sayIn 20 = .ok (.iload_n 1, 1) := by decide +kernel
theorem dX7_sayIn_21 : decode cX7_sayIn 21 = .ok (.iload_n 3, 1) := by decide +kernel
theorem dX7_sayIn_22 : decode cX7_sayIn 22 = .ok (.ifCond .ge 7, 3) := by decide +kernel
theorem dX7_sayIn_25 : decode cX7_sayIn 25 = .ok (.iconst 0, 1) := by decide +kernel
theorem dX7_sayIn_26 : decode cX7_sayIn 26 = .ok (.goto 15, 3) := by decide +kernel
theorem dX7_sayIn_29 : decode cX7_sayIn 29 = .ok (.iload_n 3, 1) := by decide +kernel
theorem dX7_sayIn_30 : decode cX7_sayIn 30 = .ok (.bipush 40, 2) := by decide +kernel
theorem dX7_sayIn_32 : decode cX7_sayIn 32 = .ok (.if_icmp .le 8, 3) := by decide +kernel
theorem dX7_sayIn_35 : decode cX7_sayIn 35 = .ok (.bipush 40, 2) := by decide +kernel
theorem dX7_sayIn_37 : decode cX7_sayIn 37 = .ok (.goto 4, 3) := by decide +kernel
theorem dX7_sayIn_40 : decode cX7_sayIn 40 = .ok (.iload_n 3, 1) := by decide +kernel
theorem dX7_sayIn_41 : decode cX7_sayIn 41 = .ok (.iastore, 1) := by decide +kernel
theorem dX7_sayIn_42 : decode cX7_sayIn 42 = .ok (.return_, 1) := by decide +kernel
set_option maxRecDepth 20000 in
theorem ggX7_breathe_X7_sayIn : GoodIn wsX7_breathe wsX7_sayIn := goodIn_r _ [5, 6, 7, 31, 32, 33, 34, 35, 36, 37, 38, 39, 40, 41, 42, 43, 44, 45, 46, 47, 48, 49, 50, 51, 52, 53, 54, 55, 56, 57, 58, 59] (by decide +kernel) (by decide +kernel)
set_option maxRecDepth 20000 in
theorem gX7_breathe_X7_sayIn : GoodIn wsX7_breathe (wsV RX7 146 RX7 yX7_sayIn wsX7_sayIn) := goodIn_app (goodIn_of _ (by decide +kernel)) ggX7_breathe_X7_sayIn
set_option maxRecDepth 20000 in
theorem ggX7_breathe_X7_pass : GoodIn wsX7_breathe wsX7_pass := goodIn_r _ [11, 12, 6, 13, 14, 15, 4, 16, 31, 32, 33, 34, 35, 36, 37, 38, 39, 40, 41, 42, 43, 44, 45, 46, 47, 48, 49, 50, 51, 52, 53, 54, 55, 56, 57, 58, 59] (by decide +kernel) (by decide +kernel)
set_option maxRecDepth 20000 in
theorem gX7_breathe_X7_pass : GoodIn wsX7_breathe (wsV RX7 150 RX7 yX7_pass wsX7_pass) := goodIn_app (goodIn_of _ (by decide +kernel)) ggX7_breathe_X7_pass
set_option maxRecDepth 20000 in
theorem ggX7_breathe_X7_drop : GoodIn wsX7_breathe wsX7_drop := goodIn_r _ [20, 12, 21, 6, 14, 15, 4, 16, 22, 23, 24, 25, 26, 27, 28, 29, 30, 31, 32, 33, 34, 35, 36, 37, 38, 39, 40, 41, 42, 43, 44, 45, 46, 47, 48, 49, 50, 51, 52, 53, 54, 55, 56, 57, 58, 59] (by decide +kernel) (by decide +kernel)
set_option maxRecDepth 20000 in
theorem gX7_breathe_X7_drop : GoodIn wsX7_breathe (wsV RX7 154 RX7 yX7_drop wsX7_drop) := goodIn_app (goodIn_of _ (by decide +kernel)) ggX7_breathe_X7_drop
theorem dX7_breathe_0 : decode cX7_breathe 0 = .ok (.aload_n 0, 1) := by decide +kernel
theorem dX7_breathe_1 : decode cX7_breathe 1 = .ok (.iload_n 1, 1) := by decide +kernel
theorem dX7_breathe_2 : decode cX7_breathe 2 = .ok (.iload_n 2, 1) := by decide +kernel
theorem dX7_breathe_3 : decode cX7_breathe 3 = .ok (.invokevirtual 146, 3) := by decide +kernel
theorem dX7_breathe_6 : decode cX7_breathe 6 = .ok (.aload_n 0, 1) := by decide +kernel
theorem dX7_breathe_7 : decode cX7_breathe 7 = .ok (.invokevirtual 150, 3) := by decide +kernel
theorem dX7_breathe_10 : decode cX7_breathe 10 = .ok (.pop, 1) := by decide +kernel
theorem dX7_breathe_11 : decode cX7_breathe 11 = .ok (.aload_n 0, 1) := by decide +kernel
theorem dX7_breathe_12 : decode cX7_breathe 12 = .ok (.invokevirtual 154, 3) := by decide +kernel
theorem dX7_breathe_15 : decode cX7_breathe 15 = .ok (.ireturn, 1) := by decide +kernel
set_option maxRecDepth 20000 in
theorem ggX7_say_X7_isGallery : GoodIn wsX7_say wsX7_isGallery := goodIn_r _ [6, 7, 45, 46, 47, 48, 49, 50, 51, 52, 53, 54, 55, 56, 57, 58, 59, 60, 61, 62, 63, 64, 65, 66, 67, 68, 69, 70, 71, 72, 73] (by decide +kernel) (by decide +kernel)
set_option maxRecDepth 20000 in
theorem gX7_say_X7_isGallery : GoodIn wsX7_say (wsV RX7 131 RX7 yX7_isGallery wsX7_isGallery) := goodIn_app (goodIn_of _ (by decide +kernel)) ggX7_say_X7_isGallery
set_option maxRecDepth 20000 in
theorem ggX7_say_X7_isWord : GoodIn wsX7_say wsX7_isWord := goodIn_r _ [11, 12, 45, 46, 47, 48, 49, 50, 51, 52, 53, 54, 55, 56, 57, 58, 59, 60, 61, 62, 63, 64, 65, 66, 67, 68, 69, 70, 71, 72, 73] (by decide +kernel) (by decide +kernel)
set_option maxRecDepth 20000 in
theorem gX7_say_X7_isWord : GoodIn wsX7_say (wsV RX7 140 RX7 yX7_isWord wsX7_isWord) := goodIn_app (goodIn_of _ (by decide +kernel)) ggX7_say_X7_isWord
set_option maxRecDepth 20000 in
theorem ggX7_say_X7_breathe : GoodIn wsX7_say wsX7_breathe := goodIn_r _ [16, 17, 18, 19, 5, 20, 21, 22, 23, 24, 25, 26, 7, 27, 28, 29, 30, 31, 32, 33, 34, 35, 36, 37, 38, 39, 40, 41, 42, 43, 44, 45, 46, 47, 48, 49, 50, 51, 52, 53, 54, 55, 56, 57, 58, 59, 60, 61, 62, 63, 64, 65, 66, 67, 68, 69, 70, 71, 72, 73] (by decide +kernel) (by decide +kernel)
set_option maxRecDepth 20000 in
theorem gX7_say_X7_breathe : GoodIn wsX7_say (wsV RX7 157 RX7 yX7_breathe wsX7_breathe) := goodIn_app (goodIn_of _ (by decide +kernel)) ggX7_say_X7_breathe
theorem dX7_say_0 : decode cX7_say 0 = .ok (.aload_n 0, 1) := by decide +kernel
theorem dX7_say_1 : decode cX7_say 1 = .ok (.iload_n 1, 1) := by decide +kernel
theorem dX7_say_2 : decode cX7_say 2 = .ok (.invokevirtual 131, 3) := by decide +kernel
theorem dX7_say_5 : decode cX7_say 5 = .ok (.ifCond .eq 11, 3) := by decide +kernel
theorem dX7_say_8 : decode cX7_say 8 = .ok (.aload_n 0, 1) := by decide +kernel
theorem dX7_say_9 : decode cX7_say 9 = .ok (.iload_n 2, 1) := by decide +kernel
theorem dX7_say_10 : decode cX7_say 10 = .ok (.invokevirtual 140, 3) := by decide +kernel
theorem dX7_say_13 : decode cX7_say 13 = .ok (.ifCond .ne 5, 3) := by decide +kernel
theorem dX7_say_16 : decode cX7_say 16 = .ok (.iconst (-1), 1) := by decide +kernel
theorem dX7_say_17 : decode cX7_say 17 = .ok (.ireturn, 1) := by decide +kernel
theorem dX7_say_18 : decode cX7_say 18 = .ok (.aload_n 0, 1) := by decide +kernel
theorem dX7_say_19 : decode cX7_say 19 = .ok (.dup, 1) := by decide +kernel
theorem dX7_say_20 : decode cX7_say 20 = .ok (.getfield 104, 3) := by decide +kernel
theorem dX7_say_23 : decode cX7_say 23 = .ok (.iconst 1, 1) := by decide +kernel
theorem dX7_say_24 : decode cX7_say 24 = .ok (.iadd, 1) := by decide +kernel
theorem dX7_say_25 : decode cX7_say 25 = .ok (.putfield 104, 3) := by decide +kernel
theorem dX7_say_28 : decode cX7_say 28 = .ok (.aload_n 0, 1) := by decide +kernel
theorem dX7_say_29 : decode cX7_say 29 = .ok (.iload_n 1, 1) := by decide +kernel
theorem dX7_say_30 : decode cX7_say 30 = .ok (.iload_n 2, 1) := by decide +kernel
theorem dX7_say_31 : decode cX7_say 31 = .ok (.invokevirtual 157, 3) := by decide +kernel
theorem dX7_say_34 : decode cX7_say 34 = .ok (.ireturn, 1) := by decide +kernel
set_option maxRecDepth 20000 in
theorem ggX7_hush_X7_within : GoodIn wsX7_hush wsX7_within := goodIn_r _ [6] (by decide +kernel) (by decide +kernel)
set_option maxRecDepth 20000 in
theorem gX7_hush_X7_within : GoodIn wsX7_hush (va_wsS RX7 61 yX7_within wsX7_within) := goodIn_app (goodIn_of _ (by decide +kernel)) ggX7_hush_X7_within
set_option maxRecDepth 20000 in
theorem ggX7_hush_X7_pass : GoodIn wsX7_hush wsX7_pass := goodIn_r _ [10, 1, 11, 12, 13, 14, 5, 15, 30, 31, 32, 33, 34, 35, 36, 37, 38, 39, 40, 41, 42, 43, 44, 45, 46, 47, 48, 49, 50, 51, 52, 53, 54, 55, 56, 57, 58] (by decide +kernel) (by decide +kernel)
set_option maxRecDepth 20000 in
theorem gX7_hush_X7_pass : GoodIn wsX7_hush (wsV RX7 150 RX7 yX7_pass wsX7_pass) := goodIn_app (goodIn_of _ (by decide +kernel)) ggX7_hush_X7_pass
set_option maxRecDepth 20000 in
theorem ggX7_hush_X7_drop : GoodIn wsX7_hush wsX7_drop := goodIn_r _ [19, 1, 20, 11, 13, 14, 5, 15, 21, 22, 23, 24, 25, 26, 27, 28, 29, 30, 31, 32, 33, 34, 35, 36, 37, 38, 39, 40, 41, 42, 43, 44, 45, 46, 47, 48, 49, 50, 51, 52, 53, 54, 55, 56, 57, 58] (by decide +kernel) (by decide +kernel)
set_option maxRecDepth 20000 in
theorem gX7_hush_X7_drop : GoodIn wsX7_hush (wsV RX7 154 RX7 yX7_drop wsX7_drop) := goodIn_app (goodIn_of _ (by decide +kernel)) ggX7_hush_X7_drop
theorem dX7_hush_0 : decode cX7_hush 0 = .ok (.iload_n 1, 1) := by decide +kernel
theorem dX7_hush_1 : decode cX7_hush 1 = .ok (.iconst 1, 1) := by decide +kernel
theorem dX7_hush_2 : decode cX7_hush 2 = .ok (.bipush 30, 2) := by decide +kernel
theorem dX7_hush_4 : decode cX7_hush 4 = .ok (.invokestatic 61, 3) := by decide +kernel
theorem dX7_hush_7 : decode cX7_hush 7 = .ok (.ifCond .ne 6, 3) := by decide +kernel
theorem dX7_hush_10 : decode cX7_hush 10 = .ok (.bipush (-2), 2) := by decide +kernel
theorem dX7_hush_12 : decode cX7_hush 12 = .ok (.ireturn, 1) := by decide +kernel
theorem dX7_hush_13 : decode cX7_hush 13 = .ok (.aload_n 0, 1) := by decide +kernel
theorem dX7_hush_14 : decode cX7_hush 14 = .ok (.getfield 65, 3) := by decide +kernel
theorem dX7_hush_17 : decode cX7_hush 17 = .ok (.ifCond .ne 6, 3) := by decide +kernel
theorem dX7_hush_20 : decode cX7_hush 20 = .ok (.bipush (-3), 2) := by decide +kernel
theorem dX7_hush_22 : decode cX7_hush 22 = .ok (.ireturn, 1) := by decide +kernel
theorem dX7_hush_23 : decode cX7_hush 23 = .ok (.iconst 0, 1) := by decide +kernel
theorem dX7_hush_24 : decode cX7_hush 24 = .ok (.istore_n 2, 1) := by decide +kernel
theorem dX7_hush_25 : decode cX7_hush 25 = .ok (.iconst 0, 1) := by decide +kernel
theorem dX7_hush_26 : decode cX7_hush 26 = .ok (.istore_n 3, 1) := by decide +kernel
theorem dX7_hush_27 : decode cX7_hush 27 = .ok (.iload_n 3, 1) := by decide +kernel
theorem dX7_hush_28 : decode cX7_hush 28 = .ok (.iload_n 1, 1) := by decide +kernel
theorem dX7_hush_29 : decode cX7_hush 29 = .ok (.if_icmp .ge 21, 3) := by decide +kernel
theorem dX7_hush_32 : decode cX7_hush 32 = .ok (.aload_n 0, 1) := by decide +kernel
theorem dX7_hush_33 : decode cX7_hush 33 = .ok (.invokevirtual 150, 3) := by decide +kernel
theorem dX7_hush_36 : decode cX7_hush 36 = .ok (.pop, 1) := by decide +kernel
theorem dX7_hush_37 : decode cX7_hush 37 = .ok (.iload_n 2, 1) := by decide +kernel
theorem dX7_hush_38 : decode cX7_hush 38 = .ok (.aload_n 0, 1) := by decide +kernel
theorem dX7_hush_39 : decode cX7_hush 39 = .ok (.invokevirtual 154, 3) := by decide +kernel
theorem dX7_hush_42 : decode cX7_hush 42 = .ok (.ior, 1) := by decide +kernel
theorem dX7_hush_43 : decode cX7_hush 43 = .ok (.istore_n 2, 1) := by decide +kernel
theorem dX7_hush_44 : decode cX7_hush 44 = .ok (.iinc 3 1, 3) := by decide +kernel
theorem dX7_hush_47 : decode cX7_hush 47 = .ok (.goto (-20), 3) := by decide +kernel
theorem dX7_hush_50 : decode cX7_hush 50 = .ok (.aload_n 0, 1) := by decide +kernel
theorem dX7_hush_51 : decode cX7_hush 51 = .ok (.dup, 1) := by decide +kernel
theorem dX7_hush_52 : decode cX7_hush 52 = .ok (.getfield 104, 3) := by decide +kernel
theorem dX7_hush_55 : decode cX7_hush 55 = .ok (.iload_n 1, 1) := by decide +kernel
theorem dX7_hush_56 : decode cX7_hush 56 = .ok (.iadd, 1) := by decide +kernel
theorem dX7_hush_57 : decode cX7_hush 57 = .ok (.putfield 104, 3) := by decide +kernel
theorem dX7_hush_60 : decode cX7_hush 60 = .ok (.iload_n 2, 1) := by decide +kernel
theorem dX7_hush_61 : decode cX7_hush 61 = .ok (.ireturn, 1) := by decide +kernel
theorem dX7_size_0 : decode cX7_size 0 = .ok (.iconst 0, 1) := by decide +kernel
theorem dX7_size_1 : decode cX7_size 1 = .ok (.istore_n 1, 1) := by decide +kernel
theorem dX7_size_2 : decode cX7_size 2 = .ok (.iload_n 0, 1) := by decide +kernel
theorem dX7_size_3 : decode cX7_size 3 = .ok (.istore_n 2, 1) := by decide +kernel
theorem dX7_size_4 : decode cX7_size 4 = .ok (.iload_n 2, 1) := by decide +kernel
theorem dX7_size_5 : decode cX7_size 5 = .ok (.ifCond .le 16, 3) := by decide +kernel
theorem dX7_size_8 : decode cX7_size 8 = .ok (.iload_n 1, 1) := by decide +kernel
theorem dX7_size_9 : decode cX7_size 9 = .ok (.iload_n 2, 1) := by decide +kernel
theorem dX7_size_10 : decode cX7_size 10 = .ok (.iconst 1, 1) := by decide +kernel
theorem dX7_size_11 : decode cX7_size 11 = .ok (.iand, 1) := by decide +kernel
theorem dX7_size_12 : decode cX7_size 12 = .ok (.iadd, 1) := by decide +kernel
theorem dX7_size_13 : decode cX7_size 13 = .ok (.istore_n 1, 1) := by decide +kernel
theorem dX7_size_14 : decode cX7_size 14 = .ok (.iload_n 2, 1) := by decide +kernel
theorem dX7_size_15 : decode cX7_size 15 = .ok (.iconst 1, 1) := by decide +kernel
theorem dX7_size_16 : decode cX7_size 16 = .ok (.ishr, 1) := by decide +kernel
theorem dX7_size_17 : decode cX7_size 17 = .ok (.istore_n 2, 1) := by decide +kernel
theorem dX7_size_18 : decode cX7_size 18 = .ok (.goto (-14), 3) := by decide +kernel
theorem dX7_size_21 : decode cX7_size 21 = .ok (.iload_n 1, 1) := by decide +kernel
theorem dX7_size_22 : decode cX7_size 22 = .ok (.ireturn, 1) := by decide +kernel
set_option maxRecDepth 20000 in
theorem ggX7_blow_X7_isGallery : GoodIn wsX7_blow wsX7_isGallery := goodIn_r _ [7, 8, 24, 25, 26, 27, 28, 29, 30, 31, 32, 33, 34, 35, 36, 37, 38, 39, 40, 41, 42, 43, 44, 45, 46, 47, 48, 49, 50, 51, 52] (by decide +kernel) (by decide +kernel)
set_option maxRecDepth 20000 in
theorem gX7_blow_X7_isGallery : GoodIn wsX7_blow (wsV RX7 131 RX7 yX7_isGallery wsX7_isGallery) := goodIn_app (goodIn_of _ (by decide +kernel)) ggX7_blow_X7_isGallery
set_option maxRecDepth 20000 in
theorem ggX7_blow_X7_isOf : GoodIn wsX7_blow wsX7_isOf := goodIn_r _ [11] (by decide +kernel) (by decide +kernel)
set_option maxRecDepth 20000 in
theorem gX7_blow_X7_isOf : GoodIn wsX7_blow (va_wsS RX7 143 yX7_isOf wsX7_isOf) := goodIn_app (goodIn_of _ (by decide +kernel)) ggX7_blow_X7_isOf
set_option maxRecDepth 20000 in
theorem ggX7_blow_X7_bearsOf : GoodIn wsX7_blow wsX7_bearsOf := goodIn_r _ [15, 16, 17, 18, 19, 6, 20, 24, 25, 26, 27, 28, 29, 30, 31, 32, 33, 34, 35, 36, 37, 38, 39, 40, 41, 42, 43, 44, 45, 46, 47, 48, 49, 50, 51, 52] (by decide +kernel) (by decide +kernel)
set_option maxRecDepth 20000 in
theorem gX7_blow_X7_bearsOf : GoodIn wsX7_blow (wsV RX7 134 RX7 yX7_bearsOf wsX7_bearsOf) := goodIn_app (goodIn_of _ (by decide +kernel)) ggX7_blow_X7_bearsOf
set_option maxRecDepth 20000 in
theorem ggX7_blow_X7_size : GoodIn wsX7_blow wsX7_size := goodIn_r _ [23] (by decide +kernel) (by decide +kernel)
set_option maxRecDepth 20000 in
theorem gX7_blow_X7_size : GoodIn wsX7_blow (va_wsS RX7 160 yX7_size wsX7_size) := goodIn_app (goodIn_of _ (by decide +kernel)) ggX7_blow_X7_size
theorem dX7_blow_0 : decode cX7_blow 0 = .ok (.aload_n 0, 1) := by decide +kernel
theorem dX7_blow_1 : decode cX7_blow 1 = .ok (.iload_n 1, 1) := by decide +kernel
theorem dX7_blow_2 : decode cX7_blow 2 = .ok (.invokevirtual 131, 3) := by decide +kernel
theorem dX7_blow_5 : decode cX7_blow 5 = .ok (.ifCond .ne 5, 3) := by decide +kernel
theorem dX7_blow_8 : decode cX7_blow 8 = .ok (.iconst (-1), 1) := by decide +kernel
theorem dX7_blow_9 : decode cX7_blow 9 = .ok (.ireturn, 1) := by decide +kernel
theorem dX7_blow_10 : decode cX7_blow 10 = .ok (.aload_n 0, 1) := by decide +kernel
theorem dX7_blow_11 : decode cX7_blow 11 = .ok (.getfield 107, 3) := by decide +kernel
theorem dX7_blow_14 : decode cX7_blow 14 = .ok (.iload_n 1, 1) := by decide +kernel
theorem dX7_blow_15 : decode cX7_blow 15 = .ok (.invokestatic 143, 3) := by decide +kernel
theorem dX7_blow_18 : decode cX7_blow 18 = .ok (.ifCond .eq 17, 3) := by decide +kernel
theorem dX7_blow_21 : decode cX7_blow 21 = .ok (.aload_n 0, 1) := by decide +kernel
theorem dX7_blow_22 : decode cX7_blow 22 = .ok (.getfield 25, 3) := by decide +kernel
theorem dX7_blow_25 : decode cX7_blow 25 = .ok (.iload_n 1, 1) := by decide +kernel
theorem dX7_blow_26 : decode cX7_blow 26 = .ok (.iaload, 1) := by decide +kernel
theorem dX7_blow_27 : decode cX7_blow 27 = .ok (.aload_n 0, 1) := by decide +kernel
theorem dX7_blow_28 : decode cX7_blow 28 = .ok (.iload_n 1, 1) := by decide +kernel
theorem dX7_blow_29 : decode cX7_blow 29 = .ok (.invokevirtual 134, 3) := by decide +kernel
theorem dX7_blow_32 : decode cX7_blow 32 = .ok (.if_icmp .le 6, 3) := by decide +kernel
theorem dX7_blow_35 : decode cX7_blow 35 = .ok (.bipush (-3), 2) := by decide +kernel
theorem dX7_blow_37 : decode cX7_blow 37 = .ok (.ireturn, 1) := by decide +kernel
theorem dX7_blow_38 : decode cX7_blow 38 = .ok (.aload_n 0, 1) := by decide +kernel
theorem dX7_blow_39 : decode cX7_blow 39 = .ok (.dup, 1) := by decide +kernel
theorem dX7_blow_40 : decode cX7_blow 40 = .ok (.getfield 107, 3) := by decide +kernel
theorem dX7_blow_43 : decode cX7_blow 43 = .ok (.iconst 1, 1) := by decide +kernel
theorem dX7_blow_44 : decode cX7_blow 44 = .ok (.iload_n 1, 1) := by decide +kernel
theorem dX7_blow_45 : decode cX7_blow 45 = .ok (.ishl, 1) := by decide +kernel
theorem dX7_blow_46 : decode cX7_blow 46 = .ok (.iconst (-1), 1) := by decide +kernel
theorem dX7_blow_47 : decode cX7_blow 47 = .ok (.ixor, 1) := by decide +kernel
theorem dX7_blow_48 : decode cX7_blow 48 = .ok (.iand, 1) := by decide +kernel
theorem dX7_blow_49 : decode cX7_blow 49 = .ok (.putfield 107, 3) := by decide +kernel
theorem dX7_blow_52 : decode cX7_blow 52 = .ok (.aload_n 0, 1) := by decide +kernel
theorem dX7_blow_53 : decode cX7_blow 53 = .ok (.getfield 107, 3) := by decide +kernel
theorem dX7_blow_56 : decode cX7_blow 56 = .ok (.invokestatic 160, 3) := by decide +kernel
theorem dX7_blow_59 : decode cX7_blow 59 = .ok (.ireturn, 1) := by decide +kernel
theorem dX7_keep_0 : decode cX7_keep 0 = .ok (.aload_n 0, 1) := by decide +kernel
theorem dX7_keep_1 : decode cX7_keep 1 = .ok (.aload_n 0, 1) := by decide +kernel
theorem dX7_keep_2 : decode cX7_keep 2 = .ok (.getfield 107, 3) := by decide +kernel
theorem dX7_keep_5 : decode cX7_keep 5 = .ok (.putfield 163, 3) := by decide +kernel
theorem dX7_keep_8 : decode cX7_keep 8 = .ok (.iconst 0, 1) := by decide +kernel
theorem dX7_keep_9 : decode cX7_keep 9 = .ok (.istore_n 1, 1) := by decide +kernel
theorem dX7_keep_10 : decode cX7_keep 10 = .ok (.iload_n 1, 1) := by decide +kernel
theorem dX7_keep_11 : decode cX7_keep 11 = .ok (.aload_n 0, 1) := by decide +kernel
theorem dX7_keep_12 : decode cX7_keep 12 = .ok (.getfield 65, 3) := by decide +kernel
theorem dX7_keep_15 : decode cX7_keep 15 = .ok (.if_icmp .ge 21, 3) := by decide +kernel
theorem dX7_keep_18 : decode cX7_keep 18 = .ok (.aload_n 0, 1) := by decide +kernel
theorem dX7_keep_19 : decode cX7_keep 19 = .ok (.getfield 37, 3) := by decide +kernel
theorem dX7_keep_22 : decode cX7_keep 22 = .ok (.iload_n 1, 1) := by decide +kernel
theorem dX7_keep_23 : decode cX7_keep 23 = .ok (.aload_n 0, 1) := by decide +kernel
theorem dX7_keep_24 : decode cX7_keep 24 = .ok (.getfield 25, 3) := by decide +kernel
theorem dX7_keep_27 : decode cX7_keep 27 = .ok (.iload_n 1, 1) := by decide +kernel
theorem dX7_keep_28 : decode cX7_keep 28 = .ok (.iaload, 1) := by decide +kernel
theorem dX7_keep_29 : decode cX7_keep 29 = .ok (.iastore, 1) := by decide +kernel
theorem dX7_keep_30 : decode cX7_keep 30 = .ok (.iinc 1 1, 3) := by decide +kernel
theorem dX7_keep_33 : decode cX7_keep 33 = .ok (.goto (-23), 3) := by decide +kernel
theorem dX7_keep_36 : decode cX7_keep 36 = .ok (.return_, 1) := by decide +kernel
theorem dX7_putBack_0 : decode cX7_putBack 0 = .ok (.aload_n 0, 1) := by decide +kernel
theorem dX7_putBack_1 : decode cX7_putBack 1 = .ok (.aload_n 0, 1) := by decide +kernel
theorem dX7_putBack_2 : decode cX7_putBack 2 = .ok (.getfield 163, 3) := by decide +kernel
theorem dX7_putBack_5 : decode cX7_putBack 5 = .ok (.putfield 107, 3) := by decide +kernel
theorem dX7_putBack_8 : decode cX7_putBack 8 = .ok (.iconst 0, 1) := by decide +kernel
theorem dX7_putBack_9 : decode cX7_putBack 9 = .ok (.istore_n 1, 1) := by decide +kernel
theorem dX7_putBack_10 : decode cX7_putBack 10 = .ok (.iload_n 1, 1) := by decide +kernel
theorem dX7_putBack_11 : decode cX7_putBack 11 = .ok (.aload_n 0, 1) := by decide +kernel
theorem dX7_putBack_12 : decode cX7_putBack 12 = .ok (.getfield 65, 3) := by decide +kernel
theorem dX7_putBack_15 : decode cX7_putBack 15 = .ok (.if_icmp .ge 21, 3) := by decide +kernel
theorem dX7_putBack_18 : decode cX7_putBack 18 = .ok (.aload_n 0, 1) := by decide +kernel
theorem dX7_putBack_19 : decode cX7_putBack 19 = .ok (.getfield 25, 3) := by decide +kernel
theorem dX7_putBack_22 : decode cX7_putBack 22 = .ok (.iload_n 1, 1) := by decide +kernel
theorem dX7_putBack_23 : decode cX7_putBack 23 = .ok (.aload_n 0, 1) := by decide +kernel
theorem dX7_putBack_24 : decode cX7_putBack 24 = .ok (.getfield 37, 3) := by decide +kernel
theorem dX7_putBack_27 : decode cX7_putBack 27 = .ok (.iload_n 1, 1) := by decide +kernel
theorem dX7_putBack_28 : decode cX7_putBack 28 = .ok (.iaload, 1) := by decide +kernel
theorem dX7_putBack_29 : decode cX7_putBack 29 = .ok (.iastore, 1) := by decide +kernel
theorem dX7_putBack_30 : decode cX7_putBack 30 = .ok (.iinc 1 1, 3) := by decide +kernel
theorem dX7_putBack_33 : decode cX7_putBack 33 = .ok (.goto (-23), 3) := by decide +kernel
theorem dX7_putBack_36 : decode cX7_putBack 36 = .ok (.return_, 1) := by decide +kernel
set_option maxRecDepth 20000 in
theorem ggX7_refusesPairs_X7_isGallery : GoodIn wsX7_refusesPairs wsX7_isGallery := goodIn_r _ [6, 7, 13, 14, 15, 16, 17, 18, 19, 20, 21, 22, 23, 24, 25, 26, 27, 28, 29, 30, 31, 32, 33, 34, 35, 36, 37, 38, 39, 40, 41] (by decide +kernel) (by decide +kernel)
set_option maxRecDepth 20000 in
theorem gX7_refusesPairs_X7_isGallery : GoodIn wsX7_refusesPairs (wsV RX7 131 RX7 yX7_isGallery wsX7_isGallery) := goodIn_app (goodIn_of _ (by decide +kernel)) ggX7_refusesPairs_X7_isGallery
set_option maxRecDepth 20000 in
theorem ggX7_refusesPairs_X7_isWord : GoodIn wsX7_refusesPairs wsX7_isWord := goodIn_r _ [11, 12, 13, 14, 15, 16, 17, 18, 19, 20, 21, 22, 23, 24, 25, 26, 27, 28, 29, 30, 31, 32, 33, 34, 35, 36, 37, 38, 39, 40, 41] (by decide +kernel) (by decide +kernel)
set_option maxRecDepth 20000 in
theorem gX7_refusesPairs_X7_isWord : GoodIn wsX7_refusesPairs (wsV RX7 140 RX7 yX7_isWord wsX7_isWord) := goodIn_app (goodIn_of _ (by decide +kernel)) ggX7_refusesPairs_X7_isWord
theorem dX7_refusesPairs_0 : decode cX7_refusesPairs 0 = .ok (.iconst 0, 1) := by decide +kernel
theorem dX7_refusesPairs_1 : decode cX7_refusesPairs 1 = .ok (.istore_n 3, 1) := by decide +kernel
theorem dX7_refusesPairs_2 : decode cX7_refusesPairs 2 = .ok (.iload_n 3, 1) := by decide +kernel
theorem dX7_refusesPairs_3 : decode cX7_refusesPairs 3 = .ok (.iload_n 2, 1) := by decide +kernel
theorem dX7_refusesPairs_4 : decode cX7_refusesPairs 4 = .ok (.if_icmp .ge 47, 3) := by decide +kernel
theorem dX7_refusesPairs_7 : decode cX7_refusesPairs 7 = .ok (.aload_n 0, 1) := by decide +kernel
theorem dX7_refusesPairs_8 : decode cX7_refusesPairs 8 = .ok (.aload_n 0, 1) := by decide +kernel
theorem dX7_refusesPairs_9 : decode cX7_refusesPairs 9 = .ok (.getfield 16, 3) := by decide +kernel
theorem dX7_refusesPairs_12 : decode cX7_refusesPairs 12 = .ok (.iload_n 1, 1) := by decide +kernel
theorem dX7_refusesPairs_13 : decode cX7_refusesPairs 13 = .ok (.iconst 2, 1) := by decide +kernel
theorem dX7_refusesPairs_14 : decode cX7_refusesPairs 14 = .ok (.iload_n 3, 1) := by decide +kernel
theorem dX7_refusesPairs_15 : decode cX7_refusesPairs 15 = .ok (.imul, 1) := by decide +kernel
theorem dX7_refusesPairs_16 : decode cX7_refusesPairs 16 = .ok (.iadd, 1) := by decide +kernel
theorem dX7_refusesPairs_17 : decode cX7_refusesPairs 17 = .ok (.iaload, 1) := by decide +kernel
theorem dX7_refusesPairs_18 : decode cX7_refusesPairs 18 = .ok (.invokevirtual 131, 3) := by decide +kernel
theorem dX7_refusesPairs_21 : decode cX7_refusesPairs 21 = .ok (.ifCond .eq 22, 3) := by decide +kernel
theorem dX7_refusesPairs_24 : decode cX7_refusesPairs 24 = .ok (.aload_n 0, 1) := by decide +kernel
theorem dX7_refusesPairs_25 : decode cX7_refusesPairs 25 = .ok (.aload_n 0, 1) := by decide +kernel
theorem dX7_refusesPairs_26 : decode cX7_refusesPairs 26 = .ok (.getfield 16, 3) := by decide +kernel
theorem dX7_refusesPairs_29 : decode cX7_refusesPairs 29 = .ok (.iload_n 1, 1) := by decide +kernel
theorem dX7_refusesPairs_30 : decode cX7_refusesPairs 30 = .ok (.iconst 2, 1) := by decide +kernel
theorem dX7_refusesPairs_31 : decode cX7_refusesPairs 31 = .ok (.iload_n 3, 1) := by decide +kernel
theorem dX7_refusesPairs_32 : decode cX7_refusesPairs 32 = .ok (.imul, 1) := by decide +kernel
theorem dX7_refusesPairs_33 : decode cX7_refusesPairs 33 = .ok (.iadd, 1) := by decide +kernel
theorem dX7_refusesPairs_34 : decode cX7_refusesPairs 34 = .ok (.iconst 1, 1) := by decide +kernel
theorem dX7_refusesPairs_35 : decode cX7_refusesPairs 35 = .ok (.iadd, 1) := by decide +kernel
theorem dX7_refusesPairs_36 : decode cX7_refusesPairs 36 = .ok (.iaload, 1) := by decide +kernel
theorem dX7_refusesPairs_37 : decode cX7_refusesPairs 37 = .ok (.invokevirtual 140, 3) := by decide +kernel
theorem dX7_refusesPairs_40 : decode cX7_refusesPairs 40 = .ok (.ifCond .ne 5, 3) := by decide +kernel
theorem dX7_refusesPairs_43 : decode cX7_refusesPairs 43 = .ok (.iconst (-1), 1) := by decide +kernel
theorem dX7_refusesPairs_44 : decode cX7_refusesPairs 44 = .ok (.ireturn, 1) := by decide +kernel
theorem dX7_refusesPairs_45 : decode cX7_refusesPairs 45 = .ok (.iinc 3 1, 3) := by decide +kernel
theorem dX7_refusesPairs_48 : decode cX7_refusesPairs 48 = .ok (.goto (-46), 3) := by decide +kernel
theorem dX7_refusesPairs_51 : decode cX7_refusesPairs 51 = .ok (.iconst 0, 1) := by decide +kernel
theorem dX7_refusesPairs_52 : decode cX7_refusesPairs 52 = .ok (.ireturn, 1) := by decide +kernel
set_option maxRecDepth 20000 in
theorem ggX7_goShift_X7_breathe : GoodIn wsX7_goShift wsX7_breathe := goodIn_r _ [8, 9, 10, 11, 7, 12, 13, 14, 15, 16, 17, 18, 19, 20, 21, 22, 23, 24, 25, 26, 27, 28, 29, 30, 31, 32, 33, 34, 35, 36, 37, 41, 42, 43, 44, 45, 46, 47, 48, 49, 50, 51, 52, 53, 54, 55, 56, 57, 58, 59, 60, 61, 62, 63, 64, 65, 66, 67, 68, 69] (by decide +kernel) (by decide +kernel)
set_option maxRecDepth 20000 in
theorem gX7_goShift_X7_breathe : GoodIn wsX7_goShift (wsV RX7 157 RX7 yX7_breathe wsX7_breathe) := goodIn_app (goodIn_of _ (by decide +kernel)) ggX7_goShift_X7_breathe
set_option maxRecDepth 20000 in
theorem ggX7_goShift_X7_size : GoodIn wsX7_goShift wsX7_size := goodIn_r _ [40] (by decide +kernel) (by decide +kernel)
set_option maxRecDepth 20000 in
theorem gX7_goShift_X7_size : GoodIn wsX7_goShift (va_wsS RX7 160 yX7_size wsX7_size) := goodIn_app (goodIn_of _ (by decide +kernel)) ggX7_goShift_X7_size
theorem dX7_goShift_0 : decode cX7_goShift 0 = .ok (.aload_n 0, 1) := by decide +kernel
theorem dX7_goShift_1 : decode cX7_goShift 1 = .ok (.iconst 0, 1) := by decide +kernel
theorem dX7_goShift_2 : decode cX7_goShift 2 = .ok (.putfield 166, 3) := by decide +kernel
theorem dX7_goShift_5 : decode cX7_goShift 5 = .ok (.aload_n 0, 1) := by decide +kernel
theorem dX7_goShift_6 : decode cX7_goShift 6 = .ok (.bipush (-9), 2) := by decide +kernel
theorem dX7_goShift_8 : decode cX7_goShift 8 = .ok (.putfield 169, 3) := by decide +kernel
theorem dX7_goShift_11 : decode cX7_goShift 11 = .ok (.iconst 0, 1) := by decide +kernel
theorem dX7_goShift_12 : decode cX7_goShift 12 = .ok (.istore_n 3, 1) := by decide +kernel
theorem dX7_goShift_13 : decode cX7_goShift 13 = .ok (.iload_n 3, 1) := by decide +kernel
theorem dX7_goShift_14 : decode cX7_goShift 14 = .ok (.iload_n 2, 1) := by decide +kernel
theorem dX7_goShift_15 : decode cX7_goShift 15 = .ok (.if_icmp .ge 77, 3) := by decide +kernel
theorem dX7_goShift_18 : decode cX7_goShift 18 = .ok (.aload_n 0, 1) := by decide +kernel
theorem dX7_goShift_19 : decode cX7_goShift 19 = .ok (.aload_n 0, 1) := by decide +kernel
theorem dX7_goShift_20 : decode cX7_goShift 20 = .ok (.getfield 16, 3) := by decide +kernel
theorem dX7_goShift_23 : decode cX7_goShift 23 = .ok (.iload_n 1, 1) := by decide +kernel
theorem dX7_goShift_24 : decode cX7_goShift 24 = .ok (.iconst 2, 1) := by decide +kernel
theorem dX7_goShift_25 : decode cX7_goShift 25 = .ok (.iload_n 3, 1) := by decide +kernel
theorem dX7_goShift_26 : decode cX7_goShift 26 = .ok (.imul, 1) := by decide +kernel
theorem dX7_goShift_27 : decode cX7_goShift 27 = .ok (.iadd, 1) := by decide +kernel
theorem dX7_goShift_28 : decode cX7_goShift 28 = .ok (.iaload, 1) := by decide +kernel
theorem dX7_goShift_29 : decode cX7_goShift 29 = .ok (.aload_n 0, 1) := by decide +kernel
theorem dX7_goShift_30 : decode cX7_goShift 30 = .ok (.getfield 16, 3) := by decide +kernel
theorem dX7_goShift_33 : decode cX7_goShift 33 = .ok (.iload_n 1, 1) := by decide +kernel
theorem dX7_goShift_34 : decode cX7_goShift 34 = .ok (.iconst 2, 1) := by decide +kernel
theorem dX7_goShift_35 : decode cX7_goShift 35 = .ok (.iload_n 3, 1) := by decide +kernel
theorem dX7_goShift_36 : decode cX7_goShift 36 = .ok (.imul, 1) := by decide +kernel
theorem dX7_goShift_37 : decode cX7_goShift 37 = .ok (.iadd, 1) := by decide +kernel
theorem dX7_goShift_38 : decode cX7_goShift 38 = .ok (.iconst 1, 1) := by decide +kernel
theorem dX7_goShift_39 : decode cX7_goShift 39 = .ok (.iadd, 1) := by decide +kernel
theorem dX7_goShift_40 : decode cX7_goShift 40 = .ok (.iaload, 1) := by decide +kernel
theorem dX7_goShift_41 : decode cX7_goShift 41 = .ok (.invokevirtual 157, 3) := by decide +kernel
theorem dX7_goShift_44 : decode cX7_goShift 44 = .ok (.istore 4, 2) := by decide +kernel
theorem dX7_goShift_46 : decode cX7_goShift 46 = .ok (.aload_n 0, 1) := by decide +kernel
theorem dX7_goShift_47 : decode cX7_goShift 47 = .ok (.dup, 1) := by decide +kernel
theorem dX7_goShift_48 : decode cX7_goShift 48 = .ok (.getfield 166, 3) := by decide +kernel
theorem dX7_goShift_51 : decode cX7_goShift 51 = .ok (.iload 4, 2) := by decide +kernel
theorem dX7_goShift_53 : decode cX7_goShift 53 = .ok (.invokestatic 160, 3) := by decide +kernel
theorem dX7_goShift_56 : decode cX7_goShift 56 = .ok (.iadd, 1) := by decide +kernel
theorem dX7_goShift_57 : decode cX7_goShift 57 = .ok (.putfield 166, 3) := by decide +kernel
theorem dX7_goShift_60 : decode cX7_goShift 60 = .ok (.aload_n 0, 1) := by decide +kernel
theorem dX7_goShift_61 : decode cX7_goShift 61 = .ok (.aload_n 0, 1) := by decide +kernel
theorem dX7_goShift_62 : decode cX7_goShift 62 = .ok (.getfield 169, 3) := by decide +kernel
theorem dX7_goShift_65 : decode cX7_goShift 65 = .ok (.bipush (-9), 2) := by decide +kernel
theorem dX7_goShift_67 : decode cX7_goShift 67 = .ok (.if_icmp .ne 12, 3) := by decide +kernel
theorem dX7_goShift_70 : decode cX7_goShift 70 = .ok (.iload 4, 2) := by decide +kernel
theorem dX7_goShift_72 : decode cX7_goShift 72 = .ok (.ifCond .eq 7, 3) := by decide +kernel
theorem dX7_goShift_75 : decode cX7_goShift 75 = .ok (.iload_n 3, 1) := by decide +kernel
theorem dX7_goShift_76 : decode cX7_goShift 76 = .ok (.goto 7, 3) := by decide +kernel
theorem dX7_goShift_79 : decode cX7_goShift 79 = .ok (.aload_n 0, 1) := by decide +kernel
theorem dX7_goShift_80 : decode cX7_goShift 80 = .ok (.getfield 169, 3) := by decide +kernel
theorem dX7_goShift_83 : decode cX7_goShift 83 = .ok (.putfield 169, 3) := by decide +kernel
theorem dX7_goShift_86 : decode cX7_goShift 86 = .ok (.iinc 3 1, 3) := by decide +kernel
theorem dX7_goShift_89 : decode cX7_goShift 89 = .ok (.goto (-76), 3) := by decide +kernel
theorem dX7_goShift_92 : decode cX7_goShift 92 = .ok (.return_, 1) := by decide +kernel
set_option maxRecDepth 20000 in
theorem ggX7_refuses_X7_isSheet : GoodIn wsX7_refuses wsX7_isSheet := goodIn_r _ [5, 6, 7, 4, 8] (by decide +kernel) (by decide +kernel)
set_option maxRecDepth 20000 in
theorem gX7_refuses_X7_isSheet : GoodIn wsX7_refuses (va_wsS RX7 74 yX7_isSheet wsX7_isSheet) := goodIn_app (goodIn_of _ (by decide +kernel)) ggX7_refuses_X7_isSheet
set_option maxRecDepth 20000 in
theorem ggX7_refuses_X7_isSort : GoodIn wsX7_refuses wsX7_isSort := goodIn_r _ [11, 6, 7, 4, 8] (by decide +kernel) (by decide +kernel)
set_option maxRecDepth 20000 in
theorem gX7_refuses_X7_isSort : GoodIn wsX7_refuses (va_wsS RX7 78 yX7_isSort wsX7_isSort) := goodIn_app (goodIn_of _ (by decide +kernel)) ggX7_refuses_X7_isSort
set_option maxRecDepth 20000 in
theorem ggX7_refuses_X7_within : GoodIn wsX7_refuses wsX7_within := goodIn_r _ [8] (by decide +kernel) (by decide +kernel)
set_option maxRecDepth 20000 in
theorem gX7_refuses_X7_within : GoodIn wsX7_refuses (va_wsS RX7 61 yX7_within wsX7_within) := goodIn_app (goodIn_of _ (by decide +kernel)) ggX7_refuses_X7_within
set_option maxRecDepth 20000 in
theorem ggX7_refuses_X7_against : GoodIn wsX7_refuses wsX7_against := goodIn_r _ [15, 16, 17, 37, 38, 39, 40, 41, 42, 43, 44, 45, 46, 47, 48, 49, 50, 51, 52, 53, 54, 55, 56, 57, 58, 59, 60, 61, 62, 63, 64, 65] (by decide +kernel) (by decide +kernel)
set_option maxRecDepth 20000 in
theorem gX7_refuses_X7_against : GoodIn wsX7_refuses (wsV RX7 81 RX7 yX7_against wsX7_against) := goodIn_app (goodIn_of _ (by decide +kernel)) ggX7_refuses_X7_against
set_option maxRecDepth 20000 in
theorem ggX7_refuses_X7_fails : GoodIn wsX7_refuses wsX7_fails := goodIn_r _ [21, 22, 37, 38, 39, 40, 41, 42, 43, 44, 45, 46, 47, 48, 49, 50, 51, 52, 53, 54, 55, 56, 57, 58, 59, 60, 61, 62, 63, 64, 65] (by decide +kernel) (by decide +kernel)
set_option maxRecDepth 20000 in
theorem gX7_refuses_X7_fails : GoodIn wsX7_refuses (wsV RX7 85 RX7 yX7_fails wsX7_fails) := goodIn_app (goodIn_of _ (by decide +kernel)) ggX7_refuses_X7_fails
set_option maxRecDepth 20000 in
theorem ggX7_refuses_X7_refusesPairs : GoodIn wsX7_refuses wsX7_refusesPairs := goodIn_r _ [26, 27, 28, 29, 30, 4, 31, 1, 32, 33, 34, 35, 36, 37, 38, 39, 40, 41, 42, 43, 44, 45, 46, 47, 48, 49, 50, 51, 52, 53, 54, 55, 56, 57, 58, 59, 60, 61, 62, 63, 64, 65] (by decide +kernel) (by decide +kernel)
set_option maxRecDepth 20000 in
theorem gX7_refuses_X7_refusesPairs : GoodIn wsX7_refuses (wsV RX7 172 RX7 yX7_refusesPairs wsX7_refusesPairs) := goodIn_app (goodIn_of _ (by decide +kernel)) ggX7_refuses_X7_refusesPairs
theorem dX7_refuses_0 : decode cX7_refuses 0 = .ok (.iload_n 1, 1) := by decide +kernel
theorem dX7_refuses_1 : decode cX7_refuses 1 = .ok (.invokestatic 74, 3) := by decide +kernel
theorem dX7_refuses_4 : decode cX7_refuses 4 = .ok (.ifCond .ne 5, 3) := by decide +kernel
theorem dX7_refuses_7 : decode cX7_refuses 7 = .ok (.iconst (-1), 1) := by decide +kernel
theorem dX7_refuses_8 : decode cX7_refuses 8 = .ok (.ireturn, 1) := by decide +kernel
theorem dX7_refuses_9 : decode cX7_refuses 9 = .ok (.iload_n 2, 1) := by decide +kernel
theorem dX7_refuses_10 : decode cX7_refuses 10 = .ok (.invokestatic 78, 3) := by decide +kernel
theorem dX7_refuses_13 : decode cX7_refuses 13 = .ok (.ifCond .eq 19, 3) := by decide +kernel
theorem dX7_refuses_16 : decode cX7_refuses 16 = .ok (.iload 4, 2) := by decide +kernel
theorem dX7_refuses_18 : decode cX7_refuses 18 = .ok (.iconst 0, 1) := by decide +kernel
theorem dX7_refuses_19 : decode cX7_refuses 19 = .ok (.iload 5, 2) := by decide +kernel
theorem dX7_refuses_21 : decode cX7_refuses 21 = .ok (.invokestatic 61, 3) := by decide +kernel
theorem dX7_refuses_24 : decode cX7_refuses 24 = .ok (.ifCond .eq 8, 3) := by decide +kernel
theorem dX7_refuses_27 : decode cX7_refuses 27 = .ok (.iload 6, 2) := by decide +kernel
theorem dX7_refuses_29 : decode cX7_refuses 29 = .ok (.ifCond .ne 6, 3) := by decide +kernel
theorem dX7_refuses_32 : decode cX7_refuses 32 = .ok (.bipush (-2), 2) := by decide +kernel
theorem dX7_refuses_34 : decode cX7_refuses 34 = .ok (.ireturn, 1) := by decide +kernel
theorem dX7_refuses_35 : decode cX7_refuses 35 = .ok (.aload_n 0, 1) := by decide +kernel
theorem dX7_refuses_36 : decode cX7_refuses 36 = .ok (.iload_n 1, 1) := by decide +kernel
theorem dX7_refuses_37 : decode cX7_refuses 37 = .ok (.iload_n 2, 1) := by decide +kernel
theorem dX7_refuses_38 : decode cX7_refuses 38 = .ok (.iload_n 3, 1) := by decide +kernel
theorem dX7_refuses_39 : decode cX7_refuses 39 = .ok (.iconst 2, 1) := by decide +kernel
theorem dX7_refuses_40 : decode cX7_refuses 40 = .ok (.iload 4, 2) := by decide +kernel
theorem dX7_refuses_42 : decode cX7_refuses 42 = .ok (.imul, 1) := by decide +kernel
theorem dX7_refuses_43 : decode cX7_refuses 43 = .ok (.invokevirtual 81, 3) := by decide +kernel
theorem dX7_refuses_46 : decode cX7_refuses 46 = .ok (.istore 7, 2) := by decide +kernel
theorem dX7_refuses_48 : decode cX7_refuses 48 = .ok (.iload 7, 2) := by decide +kernel
theorem dX7_refuses_50 : decode cX7_refuses 50 = .ok (.ifCond .eq 10, 3) := by decide +kernel
theorem dX7_refuses_53 : decode cX7_refuses 53 = .ok (.aload_n 0, 1) := by decide +kernel
theorem dX7_refuses_54 : decode cX7_refuses 54 = .ok (.iload 7, 2) := by decide +kernel
theorem dX7_refuses_56 : decode cX7_refuses 56 = .ok (.invokevirtual 85, 3) := by decide +kernel
theorem dX7_refuses_59 : decode cX7_refuses 59 = .ok (.ireturn, 1) := by decide +kernel
theorem dX7_refuses_60 : decode cX7_refuses 60 = .ok (.aload_n 0, 1) := by decide +kernel
theorem dX7_refuses_61 : decode cX7_refuses 61 = .ok (.getfield 65, 3) := by decide +kernel
theorem dX7_refuses_64 : decode cX7_refuses 64 = .ok (.ifCond .ne 8, 3) := by decide +kernel
theorem dX7_refuses_67 : decode cX7_refuses 67 = .ok (.bipush (-3), 2) := by decide +kernel
theorem dX7_refuses_69 : decode cX7_refuses 69 = .ok (.goto 15, 3) := by decide +kernel
theorem dX7_refuses_72 : decode cX7_refuses 72 = .ok (.aload_n 0, 1) := by decide +kernel
theorem dX7_refuses_73 : decode cX7_refuses 73 = .ok (.bipush 60, 2) := by decide +kernel
theorem dX7_refuses_75 : decode cX7_refuses 75 = .ok (.iload_n 1, 1) := by decide +kernel
theorem dX7_refuses_76 : decode cX7_refuses 76 = .ok (.imul, 1) := by decide +kernel
theorem dX7_refuses_77 : decode cX7_refuses 77 = .ok (.iload_n 3, 1) := by decide +kernel
theorem dX7_refuses_78 : decode cX7_refuses 78 = .ok (.iadd, 1) := by decide +kernel
theorem dX7_refuses_79 : decode cX7_refuses 79 = .ok (.iload 4, 2) := by decide +kernel
theorem dX7_refuses_81 : decode cX7_refuses 81 = .ok (.invokevirtual 172, 3) := by decide +kernel
theorem dX7_refuses_84 : decode cX7_refuses 84 = .ok (.ireturn, 1) := by decide +kernel
set_option maxRecDepth 20000 in
theorem ggX7_shift_X7_within : GoodIn wsX7_shift wsX7_within := goodIn_r _ [5] (by decide +kernel) (by decide +kernel)
set_option maxRecDepth 20000 in
theorem gX7_shift_X7_within : GoodIn wsX7_shift (va_wsS RX7 61 yX7_within wsX7_within) := goodIn_app (goodIn_of _ (by decide +kernel)) ggX7_shift_X7_within
set_option maxRecDepth 20000 in
theorem ggX7_shift_X7_refuses : GoodIn wsX7_shift wsX7_refuses := goodIn_r _ [9, 10, 11, 12, 4, 13, 2, 3, 5, 14, 15, 16, 17, 18, 19, 20, 21, 22, 23, 24, 25, 26, 1, 27, 28, 29, 30, 31, 32, 33, 34, 35, 36, 37, 38, 39, 40, 96, 97, 98, 99, 100, 101, 102, 103, 104, 105, 106, 107, 108, 109, 110, 111, 112, 113, 114, 115, 116, 117, 118, 119, 120, 121, 122, 123, 124] (by decide +kernel) (by decide +kernel)
set_option maxRecDepth 20000 in
theorem gX7_shift_X7_refuses : GoodIn wsX7_shift (wsV RX7 175 RX7 yX7_refuses wsX7_refuses) := goodIn_app (goodIn_of _ (by decide +kernel)) ggX7_shift_X7_refuses
set_option maxRecDepth 20000 in
theorem ggX7_shift_X7_keep : GoodIn wsX7_shift wsX7_keep := goodIn_r _ [44, 45, 46, 10, 47, 48, 96, 97, 98, 99, 100, 101, 102, 103, 104, 105, 106, 107, 108, 109, 110, 111, 112, 113, 114, 115, 116, 117, 118, 119, 120, 121, 122, 123, 124] (by decide +kernel) (by decide +kernel)
set_option maxRecDepth 20000 in
theorem gX7_shift_X7_keep : GoodIn wsX7_shift (wsV RX7 179 RX7 yX7_keep wsX7_keep) := goodIn_app (goodIn_of _ (by decide +kernel)) ggX7_shift_X7_keep
set_option maxRecDepth 20000 in
theorem ggX7_shift_X7_goShift : GoodIn wsX7_shift wsX7_goShift := goodIn_r _ [52, 53, 54, 31, 55, 56, 57, 4, 58, 59, 60, 61, 62, 48, 63, 64, 65, 66, 67, 10, 68, 69, 70, 71, 72, 73, 74, 75, 45, 76, 77, 78, 79, 80, 81, 82, 83, 84, 85, 86, 87, 96, 97, 98, 99, 100, 101, 102, 103, 104, 105, 106, 107, 108, 109, 110, 111, 112, 113, 114, 115, 116, 117, 118, 119, 120, 121, 122, 123, 124] (by decide +kernel) (by decide +kernel)
set_option maxRecDepth 20000 in
theorem gX7_shift_X7_goShift : GoodIn wsX7_shift (wsV RX7 182 RX7 yX7_goShift wsX7_goShift) := goodIn_app (goodIn_of _ (by decide +kernel)) ggX7_shift_X7_goShift
set_option maxRecDepth 20000 in
theorem ggX7_shift_X7_tellShift : GoodIn wsX7_shift wsX7_tellShift := goodIn_r _ [91, 48, 53, 54, 45, 10, 32, 33, 34, 4, 35, 96, 97, 98, 99, 100, 101, 102, 103, 104, 105, 106, 107, 108, 109, 110, 111, 112, 113, 114, 115, 116, 117, 118, 119, 120, 121, 122, 123, 124] (by decide +kernel) (by decide +kernel)
set_option maxRecDepth 20000 in
theorem gX7_shift_X7_tellShift : GoodIn wsX7_shift (wsV RX7 185 RX7 yX7_tellShift wsX7_tellShift) := goodIn_app (goodIn_of _ (by decide +kernel)) ggX7_shift_X7_tellShift
set_option maxRecDepth 20000 in
theorem ggX7_shift_X7_putBack : GoodIn wsX7_shift wsX7_putBack := goodIn_r _ [95, 46, 45, 10, 48, 47, 96, 97, 98, 99, 100, 101, 102, 103, 104, 105, 106, 107, 108, 109, 110, 111, 112, 113, 114, 115, 116, 117, 118, 119, 120, 121, 122, 123, 124] (by decide +kernel) (by decide +kernel)
set_option maxRecDepth 20000 in
theorem gX7_shift_X7_putBack : GoodIn wsX7_shift (wsV RX7 188 RX7 yX7_putBack wsX7_putBack) := goodIn_app (goodIn_of _ (by decide +kernel)) ggX7_shift_X7_putBack
theorem dX7_shift_0 : decode cX7_shift 0 = .ok (.aload_n 0, 1) := by decide +kernel
theorem dX7_shift_1 : decode cX7_shift 1 = .ok (.iconst 0, 1) := by decide +kernel
theorem dX7_shift_2 : decode cX7_shift 2 = .ok (.putfield 55, 3) := by decide +kernel
theorem dX7_shift_5 : decode cX7_shift 5 = .ok (.aload_n 0, 1) := by decide +kernel
theorem dX7_shift_6 : decode cX7_shift 6 = .ok (.iload_n 1, 1) := by decide +kernel
theorem dX7_shift_7 : decode cX7_shift 7 = .ok (.iload_n 2, 1) := by decide +kernel
theorem dX7_shift_8 : decode cX7_shift 8 = .ok (.iload_n 3, 1) := by decide +kernel
theorem dX7_shift_9 : decode cX7_shift 9 = .ok (.iload 4, 2) := by decide +kernel
theorem dX7_shift_11 : decode cX7_shift 11 = .ok (.bipush 20, 2) := by decide +kernel
theorem dX7_shift_13 : decode cX7_shift 13 = .ok (.iload 5, 2) := by decide +kernel
theorem dX7_shift_15 : decode cX7_shift 15 = .ok (.iconst 0, 1) := by decide +kernel
theorem dX7_shift_16 : decode cX7_shift 16 = .ok (.iconst 3, 1) := by decide +kernel
theorem dX7_shift_17 : decode cX7_shift 17 = .ok (.invokestatic 61, 3) := by decide +kernel
theorem dX7_shift_20 : decode cX7_shift 20 = .ok (.ifCond .ne 15, 3) := by decide +kernel
theorem dX7_shift_23 : decode cX7_shift 23 = .ok (.iload 5, 2) := by decide +kernel
theorem dX7_shift_25 : decode cX7_shift 25 = .ok (.bipush 10, 2) := by decide +kernel
theorem dX7_shift_27 : decode cX7_shift 27 = .ok (.bipush 15, 2) := by decide +kernel
theorem dX7_shift_29 : decode cX7_shift 29 = .ok (.invokestatic 61, 3) := by decide +kernel
theorem dX7_shift_32 : decode cX7_shift 32 = .ok (.ifCond .eq 7, 3) := by decide +kernel
theorem dX7_shift_35 : decode cX7_shift 35 = .ok (.iconst 1, 1) := by decide +kernel
theorem dX7_shift_36 : decode cX7_shift 36 = .ok (.goto 4, 3) := by decide +kernel
theorem dX7_shift_39 : decode cX7_shift 39 = .ok (.iconst 0, 1) := by decide +kernel
theorem dX7_shift_40 : decode cX7_shift 40 = .ok (.invokevirtual 175, 3) := by decide +kernel
theorem dX7_shift_43 : decode cX7_shift 43 = .ok (.istore 6, 2) := by decide +kernel
theorem dX7_shift_45 : decode cX7_shift 45 = .ok (.iload 6, 2) := by decide +kernel
theorem dX7_shift_47 : decode cX7_shift 47 = .ok (.ifCond .eq 6, 3) := by decide +kernel
theorem dX7_shift_50 : decode cX7_shift 50 = .ok (.iload 6, 2) := by decide +kernel
theorem dX7_shift_52 : decode cX7_shift 52 = .ok (.ireturn, 1) := by decide +kernel
theorem dX7_shift_53 : decode cX7_shift 53 = .ok (.aload_n 0, 1) := by decide +kernel
theorem dX7_shift_54 : decode cX7_shift 54 = .ok (.invokevirtual 179, 3) := by decide +kernel
theorem dX7_shift_57 : decode cX7_shift 57 = .ok (.aload_n 0, 1) := by decide +kernel
theorem dX7_shift_58 : decode cX7_shift 58 = .ok (.bipush 60, 2) := by decide +kernel
theorem dX7_shift_60 : decode cX7_shift 60 = .ok (.iload_n 1, 1) := by decide +kernel
theorem dX7_shift_61 : decode cX7_shift 61 = .ok (.imul, 1) := by decide +kernel
theorem dX7_shift_62 : decode cX7_shift 62 = .ok (.iload_n 3, 1) := by decide +kernel
theorem dX7_shift_63 : decode cX7_shift 63 = .ok (.iadd, 1) := by decide +kernel
theorem dX7_shift_64 : decode cX7_shift 64 = .ok (.iload 4, 2) := by decide +kernel
theorem dX7_shift_66 : decode cX7_shift 66 = .ok (.invokevirtual 182, 3) := by decide +kernel
theorem dX7_shift_69 : decode cX7_shift 69 = .ok (.aload_n 0, 1) := by decide +kernel
theorem dX7_shift_70 : decode cX7_shift 70 = .ok (.iload 5, 2) := by decide +kernel
theorem dX7_shift_72 : decode cX7_shift 72 = .ok (.invokevirtual 185, 3) := by decide +kernel
theorem dX7_shift_75 : decode cX7_shift 75 = .ok (.istore 7, 2) := by decide +kernel
theorem dX7_shift_77 : decode cX7_shift 77 = .ok (.aload_n 0, 1) := by decide +kernel
theorem dX7_shift_78 : decode cX7_shift 78 = .ok (.invokevirtual 188, 3) := by decide +kernel
theorem dX7_shift_81 : decode cX7_shift 81 = .ok (.iload 7, 2) := by decide +kernel
theorem dX7_shift_83 : decode cX7_shift 83 = .ok (.ireturn, 1) := by decide +kernel
set_option maxRecDepth 20000 in
theorem ggX7_tellShift_X7_isGallery : GoodIn wsX7_tellShift wsX7_isGallery := goodIn_r _ [10, 5, 11, 12, 13, 14, 15, 16, 17, 18, 19, 20, 21, 22, 23, 24, 25, 26, 27, 28, 29, 30, 31, 32, 33, 34, 35, 36, 37, 38, 39] (by decide +kernel) (by decide +kernel)
set_option maxRecDepth 20000 in
theorem gX7_tellShift_X7_isGallery : GoodIn wsX7_tellShift (wsV RX7 131 RX7 yX7_isGallery wsX7_isGallery) := goodIn_app (goodIn_of _ (by decide +kernel)) ggX7_tellShift_X7_isGallery
theorem dX7_tellShift_0 : decode cX7_tellShift 0 = .ok (.iload_n 1, 1) := by decide +kernel
theorem dX7_tellShift_1 : decode cX7_tellShift 1 = .ok (.bipush 10, 2) := by decide +kernel
theorem dX7_tellShift_3 : decode cX7_tellShift 3 = .ok (.if_icmp .lt 29, 3) := by decide +kernel
theorem dX7_tellShift_6 : decode cX7_tellShift 6 = .ok (.aload_n 0, 1) := by decide +kernel
theorem dX7_tellShift_7 : decode cX7_tellShift 7 = .ok (.iload_n 1, 1) := by decide +kernel
theorem dX7_tellShift_8 : decode cX7_tellShift 8 = .ok (.bipush 10, 2) := by decide +kernel
theorem dX7_tellShift_10 : decode cX7_tellShift 10 = .ok (.isub, 1) := by decide +kernel
theorem dX7_tellShift_11 : decode cX7_tellShift 11 = .ok (.invokevirtual 131, 3) := by decide +kernel
theorem dX7_tellShift_14 : decode cX7_tellShift 14 = .ok (.ifCond .eq 15, 3) := by decide +kernel
theorem dX7_tellShift_17 : decode cX7_tellShift 17 = .ok (.aload_n 0, 1) := by decide +kernel
theorem dX7_tellShift_18 : decode cX7_tellShift 18 = .ok (.getfield 25, 3) := by decide +kernel
theorem dX7_tellShift_21 : decode cX7_tellShift 21 = .ok (.iload_n 1, 1) := by decide +kernel
theorem dX7_tellShift_22 : decode cX7_tellShift 22 = .ok (.bipush 10, 2) := by decide +kernel
theorem dX7_tellShift_24 : decode cX7_tellShift 24 = .ok (.isub, 1) := by decide +kernel
theorem dX7_tellShift_25 : decode cX7_tellShift 25 = .ok (.iaload, 1) := by decide +kernel
theorem dX7_tellShift_26 : decode cX7_tellShift 26 = .ok (.goto 5, 3) := by decide +kernel
theorem dX7_tellShift_29 : decode cX7_tellShift 29 = .ok (.bipush (-9), 2) := by decide +kernel
theorem dX7_tellShift_31 : decode cX7_tellShift 31 = .ok (.ireturn, 1) := by decide +kernel
theorem dX7_tellShift_32 : decode cX7_tellShift 32 = .ok (.iload_n 1, 1) := by decide +kernel
theorem dX7_tellShift_33 : decode cX7_tellShift 33 = .ok (.iconst 3, 1) := by decide +kernel
theorem dX7_tellShift_34 : decode cX7_tellShift 34 = .ok (.if_icmp .ge 31, 3) := by decide +kernel
theorem dX7_tellShift_37 : decode cX7_tellShift 37 = .ok (.iload_n 1, 1) := by decide +kernel
theorem dX7_tellShift_38 : decode cX7_tellShift 38 = .ok (.ifCond .ne 10, 3) := by decide +kernel
theorem dX7_tellShift_41 : decode cX7_tellShift 41 = .ok (.aload_n 0, 1) := by decide +kernel
theorem dX7_tellShift_42 : decode cX7_tellShift 42 = .ok (.getfield 166, 3) := by decide +kernel
theorem dX7_tellShift_45 : decode cX7_tellShift 45 = .ok (.goto 19, 3) := by decide +kernel
theorem dX7_tellShift_48 : decode cX7_tellShift 48 = .ok (.iload_n 1, 1) := by decide +kernel
theorem dX7_tellShift_49 : decode cX7_tellShift 49 = .ok (.iconst 1, 1) := by decide +kernel
theorem dX7_tellShift_50 : decode cX7_tellShift 50 = .ok (.if_icmp .ne 10, 3) := by decide +kernel
theorem dX7_tellShift_53 : decode cX7_tellShift 53 = .ok (.aload_n 0, 1) := by decide +kernel
theorem dX7_tellShift_54 : decode cX7_tellShift 54 = .ok (.getfield 169, 3) := by decide +kernel
theorem dX7_tellShift_57 : decode cX7_tellShift 57 = .ok (.goto 7, 3) := by decide +kernel
theorem dX7_tellShift_60 : decode cX7_tellShift 60 = .ok (.aload_n 0, 1) := by decide +kernel
theorem dX7_tellShift_61 : decode cX7_tellShift 61 = .ok (.getfield 107, 3) := by decide +kernel
theorem dX7_tellShift_64 : decode cX7_tellShift 64 = .ok (.ireturn, 1) := by decide +kernel
theorem dX7_tellShift_65 : decode cX7_tellShift 65 = .ok (.iconst 0, 1) := by decide +kernel
theorem dX7_tellShift_66 : decode cX7_tellShift 66 = .ok (.istore_n 2, 1) := by decide +kernel
theorem dX7_tellShift_67 : decode cX7_tellShift 67 = .ok (.iconst 0, 1) := by decide +kernel
theorem dX7_tellShift_68 : decode cX7_tellShift 68 = .ok (.istore_n 3, 1) := by decide +kernel
theorem dX7_tellShift_69 : decode cX7_tellShift 69 = .ok (.iload_n 3, 1) := by decide +kernel
theorem dX7_tellShift_70 : decode cX7_tellShift 70 = .ok (.aload_n 0, 1) := by decide +kernel
theorem dX7_tellShift_71 : decode cX7_tellShift 71 = .ok (.getfield 65, 3) := by decide +kernel
theorem dX7_tellShift_74 : decode cX7_tellShift 74 = .ok (.if_icmp .ge 18, 3) := by decide +kernel
theorem dX7_tellShift_77 : decode cX7_tellShift 77 = .ok (.iload_n 2, 1) := by decide +kernel
theorem dX7_tellShift_78 : decode cX7_tellShift 78 = .ok (.aload_n 0, 1) := by decide +kernel
theorem dX7_tellShift_79 : decode cX7_tellShift 79 = .ok (.getfield 25, 3) := by decide +kernel
theorem dX7_tellShift_82 : decode cX7_tellShift 82 = .ok (.iload_n 3, 1) := by decide +kernel
theorem dX7_tellShift_83 : decode cX7_tellShift 83 = .ok (.iaload, 1) := by decide +kernel
theorem dX7_tellShift_84 : decode cX7_tellShift 84 = .ok (.iadd, 1) := by decide +kernel
theorem dX7_tellShift_85 : decode cX7_tellShift 85 = .ok (.istore_n 2, 1) := by decide +kernel
theorem dX7_tellShift_86 : decode cX7_tellShift 86 = .ok (.iinc 3 1, 3) := by decide +kernel
theorem dX7_tellShift_89 : decode cX7_tellShift 89 = .ok (.goto (-20), 3) := by decide +kernel
theorem dX7_tellShift_92 : decode cX7_tellShift 92 = .ok (.iload_n 2, 1) := by decide +kernel
theorem dX7_tellShift_93 : decode cX7_tellShift 93 = .ok (.ireturn, 1) := by decide +kernel
set_option maxRecDepth 20000 in
theorem ggX7_orderOf_X7_isOf : GoodIn wsX7_orderOf wsX7_isOf := goodIn_r _ [5] (by decide +kernel) (by decide +kernel)
set_option maxRecDepth 20000 in
theorem gX7_orderOf_X7_isOf : GoodIn wsX7_orderOf (va_wsS RX7 143 yX7_isOf wsX7_isOf) := goodIn_app (goodIn_of _ (by decide +kernel)) ggX7_orderOf_X7_isOf
theorem dX7_orderOf_0 : decode cX7_orderOf 0 = .ok (.iload_n 1, 1) := by decide +kernel
theorem dX7_orderOf_1 : decode cX7_orderOf 1 = .ok (.istore_n 3, 1) := by decide +kernel
theorem dX7_orderOf_2 : decode cX7_orderOf 2 = .ok (.iconst 1, 1) := by decide +kernel
theorem dX7_orderOf_3 : decode cX7_orderOf 3 = .ok (.istore 4, 2) := by decide +kernel
theorem dX7_orderOf_5 : decode cX7_orderOf 5 = .ok (.iconst 2, 1) := by decide +kernel
theorem dX7_orderOf_6 : decode cX7_orderOf 6 = .ok (.istore 5, 2) := by decide +kernel
theorem dX7_orderOf_8 : decode cX7_orderOf 8 = .ok (.iload 5, 2) := by decide +kernel
theorem dX7_orderOf_10 : decode cX7_orderOf 10 = .ok (.iload_n 2, 1) := by decide +kernel
theorem dX7_orderOf_11 : decode cX7_orderOf 11 = .ok (.if_icmp .ge 16, 3) := by decide +kernel
theorem dX7_orderOf_14 : decode cX7_orderOf 14 = .ok (.iload 4, 2) := by decide +kernel
theorem dX7_orderOf_16 : decode cX7_orderOf 16 = .ok (.iload 5, 2) := by decide +kernel
theorem dX7_orderOf_18 : decode cX7_orderOf 18 = .ok (.imul, 1) := by decide +kernel
theorem dX7_orderOf_19 : decode cX7_orderOf 19 = .ok (.istore 4, 2) := by decide +kernel
theorem dX7_orderOf_21 : decode cX7_orderOf 21 = .ok (.iinc 5 1, 3) := by decide +kernel
theorem dX7_orderOf_24 : decode cX7_orderOf 24 = .ok (.goto (-16), 3) := by decide +kernel
theorem dX7_orderOf_27 : decode cX7_orderOf 27 = .ok (.iconst 0, 1) := by decide +kernel
theorem dX7_orderOf_28 : decode cX7_orderOf 28 = .ok (.istore 5, 2) := by decide +kernel
theorem dX7_orderOf_30 : decode cX7_orderOf 30 = .ok (.iconst 0, 1) := by decide +kernel
theorem dX7_orderOf_31 : decode cX7_orderOf 31 = .ok (.istore 6, 2) := by decide +kernel
theorem dX7_orderOf_33 : decode cX7_orderOf 33 = .ok (.iload 6, 2) := by decide +kernel
theorem dX7_orderOf_35 : decode cX7_orderOf 35 = .ok (.iload_n 2, 1) := by decide +kernel
theorem dX7_orderOf_36 : decode cX7_orderOf 36 = .ok (.if_icmp .ge 107, 3) := by decide +kernel
theorem dX7_orderOf_39 : decode cX7_orderOf 39 = .ok (.iload_n 3, 1) := by decide +kernel
theorem dX7_orderOf_40 : decode cX7_orderOf 40 = .ok (.iload 4, 2) := by decide +kernel
theorem dX7_orderOf_42 : decode cX7_orderOf 42 = .ok (.idiv, 1) := by decide +kernel
theorem dX7_orderOf_43 : decode cX7_orderOf 43 = .ok (.istore 7, 2) := by decide +kernel
theorem dX7_orderOf_45 : decode cX7_orderOf 45 = .ok (.iload_n 3, 1) := by decide +kernel
theorem dX7_orderOf_46 : decode cX7_orderOf 46 = .ok (.iload 4, 2) := by decide +kernel
theorem dX7_orderOf_48 : decode cX7_orderOf 48 = .ok (.irem, 1) := by decide +kernel
theorem dX7_orderOf_49 : decode cX7_orderOf 49 = .ok (.istore_n 3, 1) := by decide +kernel
theorem dX7_orderOf_50 : decode cX7_orderOf 50 = .ok (.iconst 0, 1) := by decide +kernel
theorem dX7_orderOf_51 : decode cX7_orderOf 51 = .ok (.istore 8, 2) := by decide +kernel
theorem dX7_orderOf_53 : decode cX7_orderOf 53 = .ok (.iload 5, 2) := by decide +kernel
theorem dX7_orderOf_55 : decode cX7_orderOf 55 = .ok (.iload 8, 2) := by decide +kernel
theorem dX7_orderOf_57 : decode cX7_orderOf 57 = .ok (.invokestatic 143, 3) := by decide +kernel
theorem dX7_orderOf_60 : decode cX7_orderOf 60 = .ok (.ifCond .ne 8, 3) := by decide +kernel
theorem dX7_orderOf_63 : decode cX7_orderOf 63 = .ok (.iload 7, 2) := by decide +kernel
theorem dX7_orderOf_65 : decode cX7_orderOf 65 = .ok (.ifCond .le 29, 3) := by decide +kernel
theorem dX7_orderOf_68 : decode cX7_orderOf 68 = .ok (.iload 7, 2) := by decide +kernel
theorem dX7_orderOf_70 : decode cX7_orderOf 70 = .ok (.iload 5, 2) := by decide +kernel
theorem dX7_orderOf_72 : decode cX7_orderOf 72 = .ok (.iload 8, 2) := by decide +kernel
theorem dX7_orderOf_74 : decode cX7_orderOf 74 = .ok (.invokestatic 143, 3) := by decide +kernel
theorem dX7_orderOf_77 : decode cX7_orderOf 77 = .ok (.ifCond .eq 7, 3) := by decide +kernel
theorem dX7_orderOf_80 : decode cX7_orderOf 80 = .ok (.iconst 0, 1) := by decide +kernel
theorem dX7_orderOf_81 : decode cX7_orderOf 81 = .ok (.goto 4, 3) := by decide +kernel
theorem dX7_orderOf_84 : decode cX7_orderOf 84 = .ok (.iconst 1, 1) := by decide +kernel
theorem dX7_orderOf_85 : decode cX7_orderOf 85 = .ok (.isub, 1) := by decide +kernel
theorem dX7_orderOf_86 : decode cX7_orderOf 86 = .ok (.istore 7, 2) := by decide +kernel
theorem dX7_orderOf_88 : decode cX7_orderOf 88 = .ok (.iinc 8 1, 3) := by decide +kernel
theorem dX7_orderOf_91 : decode cX7_orderOf 91 = .ok (.goto (-38), 3) := by decide +kernel
theorem dX7_orderOf_94 : decode cX7_orderOf 94 = .ok (.aload_n 0, 1) := by decide +kernel
theorem dX7_orderOf_95 : decode cX7_orderOf 95 = .ok (.getfield 40, 3) := by decide +kernel
theorem dX7_orderOf_98 : decode cX7_orderOf 98 = .ok (.iload 6, 2) := by decide +kernel
theorem dX7_orderOf_100 : decode cX7_orderOf 100 = .ok (.iload 8, 2) := by decide +kernel
theorem dX7_orderOf_102 : decode cX7_orderOf 102 = .ok (.iastore, 1) := by decide +kernel
theorem dX7_orderOf_103 : decode cX7_orderOf 103 = .ok (.iload 5, 2) := by decide +kernel
theorem dX7_orderOf_105 : decode cX7_orderOf 105 = .ok (.iconst 1, 1) := by decide +kernel
theorem dX7_orderOf_106 : decode cX7_orderOf 106 = .ok (.iload 8, 2) := by decide +kernel
theorem dX7_orderOf_108 : decode cX7_orderOf 108 = .ok (.ishl, 1) := by decide +kernel
theorem dX7_orderOf_109 : decode cX7_orderOf 109 = .ok (.ior, 1) := by decide +kernel
theorem dX7_orderOf_110 : decode cX7_orderOf 110 = .ok (.istore 5, 2) := by decide +kernel
theorem dX7_orderOf_112 : decode cX7_orderOf 112 = .ok (.iload_n 2, 1) := by decide +kernel
theorem dX7_orderOf_113 : decode cX7_orderOf 113 = .ok (.iload 6, 2) := by decide +kernel
theorem dX7_orderOf_115 : decode cX7_orderOf 115 = .ok (.isub, 1) := by decide +kernel
theorem dX7_orderOf_116 : decode cX7_orderOf 116 = .ok (.iconst 1, 1) := by decide +kernel
theorem dX7_orderOf_117 : decode cX7_orderOf 117 = .ok (.isub, 1) := by decide +kernel
theorem dX7_orderOf_118 : decode cX7_orderOf 118 = .ok (.iconst 1, 1) := by decide +kernel
theorem dX7_orderOf_119 : decode cX7_orderOf 119 = .ok (.if_icmp .le 15, 3) := by decide +kernel
theorem dX7_orderOf_122 : decode cX7_orderOf 122 = .ok (.iload 4, 2) := by decide +kernel
theorem dX7_orderOf_124 : decode cX7_orderOf 124 = .ok (.iload_n 2, 1) := by decide +kernel
theorem dX7_orderOf_125 : decode cX7_orderOf 125 = .ok (.iload 6, 2) := by decide +kernel
theorem dX7_orderOf_127 : decode cX7_orderOf 127 = .ok (.isub, 1) := by decide +kernel
theorem dX7_orderOf_128 : decode cX7_orderOf 128 = .ok (.iconst 1, 1) := by decide +kernel
theorem dX7_orderOf_129 : decode cX7_orderOf 129 = .ok (.isub, 1) := by decide +kernel
theorem dX7_orderOf_130 : decode cX7_orderOf 130 = .ok (.idiv, 1) := by decide +kernel
theorem dX7_orderOf_131 : decode cX7_orderOf 131 = .ok (.goto 4, 3) := by decide +kernel
theorem dX7_orderOf_134 : decode cX7_orderOf 134 = .ok (.iconst 1, 1) := by decide +kernel
theorem dX7_orderOf_135 : decode cX7_orderOf 135 = .ok (.istore 4, 2) := by decide +kernel
theorem dX7_orderOf_137 : decode cX7_orderOf 137 = .ok (.iinc 6 1, 3) := by decide +kernel
theorem dX7_orderOf_140 : decode cX7_orderOf 140 = .ok (.goto (-107), 3) := by decide +kernel
theorem dX7_orderOf_143 : decode cX7_orderOf 143 = .ok (.return_, 1) := by decide +kernel
theorem dX7_ordersOf_0 : decode cX7_ordersOf 0 = .ok (.iconst 1, 1) := by decide +kernel
theorem dX7_ordersOf_1 : decode cX7_ordersOf 1 = .ok (.istore_n 1, 1) := by decide +kernel
theorem dX7_ordersOf_2 : decode cX7_ordersOf 2 = .ok (.iconst 2, 1) := by decide +kernel
theorem dX7_ordersOf_3 : decode cX7_ordersOf 3 = .ok (.istore_n 2, 1) := by decide +kernel
theorem dX7_ordersOf_4 : decode cX7_ordersOf 4 = .ok (.iload_n 2, 1) := by decide +kernel
theorem dX7_ordersOf_5 : decode cX7_ordersOf 5 = .ok (.iload_n 0, 1) := by decide +kernel
theorem dX7_ordersOf_6 : decode cX7_ordersOf 6 = .ok (.if_icmp .gt 13, 3) := by decide +kernel
theorem dX7_ordersOf_9 : decode cX7_ordersOf 9 = .ok (.iload_n 1, 1) := by decide +kernel
theorem dX7_ordersOf_10 : decode cX7_ordersOf 10 = .ok (.iload_n 2, 1) := by decide +kernel
theorem dX7_ordersOf_11 : decode cX7_ordersOf 11 = .ok (.imul, 1) := by decide +kernel
theorem dX7_ordersOf_12 : decode cX7_ordersOf 12 = .ok (.istore_n 1, 1) := by decide +kernel
theorem dX7_ordersOf_13 : decode cX7_ordersOf 13 = .ok (.iinc 2 1, 3) := by decide +kernel
theorem dX7_ordersOf_16 : decode cX7_ordersOf 16 = .ok (.goto (-12), 3) := by decide +kernel
theorem dX7_ordersOf_19 : decode cX7_ordersOf 19 = .ok (.iload_n 1, 1) := by decide +kernel
theorem dX7_ordersOf_20 : decode cX7_ordersOf 20 = .ok (.ireturn, 1) := by decide +kernel
set_option maxRecDepth 20000 in
theorem ggX7_isQuiet_X7_keep : GoodIn wsX7_isQuiet wsX7_keep := goodIn_r _ [7, 8, 9, 10, 11, 12, 47, 48, 49, 50, 51, 52, 53, 54, 55, 56, 57, 58, 59, 60, 61, 62, 63, 64, 65, 66, 67, 68, 69, 70, 71, 72, 73, 74, 75] (by decide +kernel) (by decide +kernel)
set_option maxRecDepth 20000 in
theorem gX7_isQuiet_X7_keep : GoodIn wsX7_isQuiet (wsV RX7 179 RX7 yX7_keep wsX7_keep) := goodIn_app (goodIn_of _ (by decide +kernel)) ggX7_isQuiet_X7_keep
set_option maxRecDepth 20000 in
theorem ggX7_isQuiet_X7_breathe : GoodIn wsX7_isQuiet wsX7_breathe := goodIn_r _ [16, 17, 18, 19, 6, 20, 12, 21, 22, 23, 24, 25, 10, 26, 27, 28, 29, 30, 31, 32, 33, 8, 34, 35, 36, 37, 38, 39, 40, 41, 42, 47, 48, 49, 50, 51, 52, 53, 54, 55, 56, 57, 58, 59, 60, 61, 62, 63, 64, 65, 66, 67, 68, 69, 70, 71, 72, 73, 74, 75] (by decide +kernel) (by decide +kernel)
set_option maxRecDepth 20000 in
theorem gX7_isQuiet_X7_breathe : GoodIn wsX7_isQuiet (wsV RX7 157 RX7 yX7_breathe wsX7_breathe) := goodIn_app (goodIn_of _ (by decide +kernel)) ggX7_isQuiet_X7_breathe
set_option maxRecDepth 20000 in
theorem ggX7_isQuiet_X7_putBack : GoodIn wsX7_isQuiet wsX7_putBack := goodIn_r _ [46, 9, 8, 10, 12, 11, 47, 48, 49, 50, 51, 52, 53, 54, 55, 56, 57, 58, 59, 60, 61, 62, 63, 64, 65, 66, 67, 68, 69, 70, 71, 72, 73, 74, 75] (by decide +kernel) (by decide +kernel)
set_option maxRecDepth 20000 in
theorem gX7_isQuiet_X7_putBack : GoodIn wsX7_isQuiet (wsV RX7 188 RX7 yX7_putBack wsX7_putBack) := goodIn_app (goodIn_of _ (by decide +kernel)) ggX7_isQuiet_X7_putBack
theorem dX7_isQuiet_0 : decode cX7_isQuiet 0 = .ok (.aload_n 0, 1) := by decide +kernel
theorem dX7_isQuiet_1 : decode cX7_isQuiet 1 = .ok (.invokevirtual 179, 3) := by decide +kernel
theorem dX7_isQuiet_4 : decode cX7_isQuiet 4 = .ok (.iconst 1, 1) := by decide +kernel
theorem dX7_isQuiet_5 : decode cX7_isQuiet 5 = .ok (.istore_n 3, 1) := by decide +kernel
theorem dX7_isQuiet_6 : decode cX7_isQuiet 6 = .ok (.iconst 0, 1) := by decide +kernel
theorem dX7_isQuiet_7 : decode cX7_isQuiet 7 = .ok (.istore 4, 2) := by decide +kernel
theorem dX7_isQuiet_9 : decode cX7_isQuiet 9 = .ok (.iload 4, 2) := by decide +kernel
theorem dX7_isQuiet_11 : decode cX7_isQuiet 11 = .ok (.iload_n 2, 1) := by decide +kernel
theorem dX7_isQuiet_12 : decode cX7_isQuiet 12 = .ok (.if_icmp .ge 60, 3) := by decide +kernel
theorem dX7_isQuiet_15 : decode cX7_isQuiet 15 = .ok (.iload_n 3, 1) := by decide +kernel
theorem dX7_isQuiet_16 : decode cX7_isQuiet 16 = .ok (.ifCond .eq 56, 3) := by decide +kernel
theorem dX7_isQuiet_19 : decode cX7_isQuiet 19 = .ok (.aload_n 0, 1) := by decide +kernel
theorem dX7_isQuiet_20 : decode cX7_isQuiet 20 = .ok (.aload_n 0, 1) := by decide +kernel
theorem dX7_isQuiet_21 : decode cX7_isQuiet 21 = .ok (.getfield 16, 3) := by decide +kernel
theorem dX7_isQuiet_24 : decode cX7_isQuiet 24 = .ok (.iload_n 1, 1) := by decide +kernel
theorem dX7_isQuiet_25 : decode cX7_isQuiet 25 = .ok (.iconst 2, 1) := by decide +kernel
theorem dX7_isQuiet_26 : decode cX7_isQuiet 26 = .ok (.aload_n 0, 1) := by decide +kernel
theorem dX7_isQuiet_27 : decode cX7_isQuiet 27 = .ok (.getfield 40, 3) := by decide +kernel
theorem dX7_isQuiet_30 : decode cX7_isQuiet 30 = .ok (.iload 4, 2) := by decide +kernel
theorem dX7_isQuiet_32 : decode cX7_isQuiet 32 = .ok (.iaload, 1) := by decide +kernel
theorem dX7_isQuiet_33 : decode cX7_isQuiet 33 = .ok (.imul, 1) := by decide +kernel
theorem dX7_isQuiet_34 : decode cX7_isQuiet 34 = .ok (.iadd, 1) := by decide +kernel
theorem dX7_isQuiet_35 : decode cX7_isQuiet 35 = .ok (.iaload, 1) := by decide +kernel
theorem dX7_isQuiet_36 : decode cX7_isQuiet 36 = .ok (.aload_n 0, 1) := by decide +kernel
theorem dX7_isQuiet_37 : decode cX7_isQuiet 37 = .ok (.getfield 16, 3) := by decide +kernel
theorem dX7_isQuiet_40 : decode cX7_isQuiet 40 = .ok (.iload_n 1, 1) := by decide +kernel
theorem dX7_isQuiet_41 : decode cX7_isQuiet 41 = .ok (.iconst 2, 1) := by decide +kernel
theorem dX7_isQuiet_42 : decode cX7_isQuiet 42 = .ok (.aload_n 0, 1) := by decide +kernel
theorem dX7_isQuiet_43 : decode cX7_isQuiet 43 = .ok (.getfield 40, 3) := by decide +kernel
theorem dX7_isQuiet_46 : decode cX7_isQuiet 46 = .ok (.iload 4, 2) := by decide +kernel
theorem dX7_isQuiet_48 : decode cX7_isQuiet 48 = .ok (.iaload, 1) := by decide +kernel
theorem dX7_isQuiet_49 : decode cX7_isQuiet 49 = .ok (.imul, 1) := by decide +kernel
theorem dX7_isQuiet_50 : decode cX7_isQuiet 50 = .ok (.iadd, 1) := by decide +kernel
theorem dX7_isQuiet_51 : decode cX7_isQuiet 51 = .ok (.iconst 1, 1) := by decide +kernel
theorem dX7_isQuiet_52 : decode cX7_isQuiet 52 = .ok (.iadd, 1) := by decide +kernel
theorem dX7_isQuiet_53 : decode cX7_isQuiet 53 = .ok (.iaload, 1) := by decide +kernel
theorem dX7_isQuiet_54 : decode cX7_isQuiet 54 = .ok (.invokevirtual 157, 3) := by decide +kernel
theorem dX7_isQuiet_57 : decode cX7_isQuiet 57 = .ok (.ifCond .ne 7, 3) := by decide +kernel
theorem dX7_isQuiet_60 : decode cX7_isQuiet 60 = .ok (.iconst 1, 1) := by decide +kernel
theorem dX7_isQuiet_61 : decode cX7_isQuiet 61 = .ok (.goto 4, 3) := by decide +kernel
theorem dX7_isQuiet_64 : decode cX7_isQuiet 64 = .ok (.iconst 0, 1) := by decide +kernel
theorem dX7_isQuiet_65 : decode cX7_isQuiet 65 = .ok (.istore_n 3, 1) := by decide +kernel
theorem dX7_isQuiet_66 : decode cX7_isQuiet 66 = .ok (.iinc 4 1, 3) := by decide +kernel
theorem dX7_isQuiet_69 : decode cX7_isQuiet 69 = .ok (.goto (-60), 3) := by decide +kernel
theorem dX7_isQuiet_72 : decode cX7_isQuiet 72 = .ok (.aload_n 0, 1) := by decide +kernel
theorem dX7_isQuiet_73 : decode cX7_isQuiet 73 = .ok (.invokevirtual 188, 3) := by decide +kernel
theorem dX7_isQuiet_76 : decode cX7_isQuiet 76 = .ok (.iload_n 3, 1) := by decide +kernel
theorem dX7_isQuiet_77 : decode cX7_isQuiet 77 = .ok (.ireturn, 1) := by decide +kernel
set_option maxRecDepth 20000 in
theorem ggX7_order_X7_within : GoodIn wsX7_order wsX7_within := goodIn_r _ [6] (by decide +kernel) (by decide +kernel)
set_option maxRecDepth 20000 in
theorem gX7_order_X7_within : GoodIn wsX7_order (va_wsS RX7 61 yX7_within wsX7_within) := goodIn_app (goodIn_of _ (by decide +kernel)) ggX7_order_X7_within
set_option maxRecDepth 20000 in
theorem ggX7_order_X7_refuses : GoodIn wsX7_order wsX7_refuses := goodIn_r _ [10, 11, 12, 13, 5, 14, 3, 4, 6, 15, 16, 17, 18, 19, 20, 21, 22, 23, 24, 25, 26, 27, 1, 28, 29, 30, 31, 32, 33, 34, 35, 36, 37, 38, 39, 40, 41, 95, 96, 97, 98, 99, 100, 101, 102, 103, 104, 105, 106, 107, 108, 109, 110, 111, 112, 113, 114, 115, 116, 117, 118, 119, 120, 121, 122, 123] (by decide +kernel) (by decide +kernel)
set_option maxRecDepth 20000 in
theorem gX7_order_X7_refuses : GoodIn wsX7_order (wsV RX7 175 RX7 yX7_refuses wsX7_refuses) := goodIn_app (goodIn_of _ (by decide +kernel)) ggX7_order_X7_refuses
set_option maxRecDepth 20000 in
theorem ggX7_order_X7_ordersOf : GoodIn wsX7_order wsX7_ordersOf := goodIn_r _ [44] (by decide +kernel) (by decide +kernel)
set_option maxRecDepth 20000 in
theorem gX7_order_X7_ordersOf : GoodIn wsX7_order (va_wsS RX7 191 yX7_ordersOf wsX7_ordersOf) := goodIn_app (goodIn_of _ (by decide +kernel)) ggX7_order_X7_ordersOf
set_option maxRecDepth 20000 in
theorem ggX7_order_X7_orderOf : GoodIn wsX7_order wsX7_orderOf := goodIn_r _ [48, 2, 49, 50, 5, 51, 95, 96, 97, 98, 99, 100, 101, 102, 103, 104, 105, 106, 107, 108, 109, 110, 111, 112, 113, 114, 115, 116, 117, 118, 119, 120, 121, 122, 123] (by decide +kernel) (by decide +kernel)
set_option maxRecDepth 20000 in
theorem gX7_order_X7_orderOf : GoodIn wsX7_order (wsV RX7 194 RX7 yX7_orderOf wsX7_orderOf) := goodIn_app (goodIn_of _ (by decide +kernel)) ggX7_order_X7_orderOf
set_option maxRecDepth 20000 in
theorem ggX7_order_X7_isQuiet : GoodIn wsX7_order wsX7_isQuiet := goodIn_r _ [55, 32, 2, 56, 57, 58, 5, 59, 60, 61, 11, 62, 63, 64, 65, 66, 67, 68, 69, 70, 71, 72, 73, 74, 75, 76, 77, 49, 50, 51, 78, 79, 80, 81, 82, 83, 84, 85, 86, 87, 88, 89, 90, 91, 92, 93, 94, 95, 96, 97, 98, 99, 100, 101, 102, 103, 104, 105, 106, 107, 108, 109, 110, 111, 112, 113, 114, 115, 116, 117, 118, 119, 120, 121, 122, 123] (by decide +kernel) (by decide +kernel)
set_option maxRecDepth 20000 in
theorem gX7_order_X7_isQuiet : GoodIn wsX7_order (wsV RX7 197 RX7 yX7_isQuiet wsX7_isQuiet) := goodIn_app (goodIn_of _ (by decide +kernel)) ggX7_order_X7_isQuiet
theorem dX7_order_0 : decode cX7_order 0 = .ok (.aload_n 0, 1) := by decide +kernel
theorem dX7_order_1 : decode cX7_order 1 = .ok (.iconst 0, 1) := by decide +kernel
theorem dX7_order_2 : decode cX7_order 2 = .ok (.putfield 55, 3) := by decide +kernel
theorem dX7_order_5 : decode cX7_order 5 = .ok (.aload_n 0, 1) := by decide +kernel
theorem dX7_order_6 : decode cX7_order 6 = .ok (.iload_n 1, 1) := by decide +kernel
theorem dX7_order_7 : decode cX7_order 7 = .ok (.iload_n 2, 1) := by decide +kernel
theorem dX7_order_8 : decode cX7_order 8 = .ok (.iload_n 3, 1) := by decide +kernel
theorem dX7_order_9 : decode cX7_order 9 = .ok (.iload 4, 2) := by decide +kernel
theorem dX7_order_11 : decode cX7_order 11 = .ok (.bipush 6, 2) := by decide +kernel
theorem dX7_order_13 : decode cX7_order 13 = .ok (.iload 5, 2) := by decide +kernel
theorem dX7_order_15 : decode cX7_order 15 = .ok (.iconst 0, 1) := by decide +kernel
theorem dX7_order_16 : decode cX7_order 16 = .ok (.iconst 5, 1) := by decide +kernel
theorem dX7_order_17 : decode cX7_order 17 = .ok (.invokestatic 61, 3) := by decide +kernel
theorem dX7_order_20 : decode cX7_order 20 = .ok (.invokevirtual 175, 3) := by decide +kernel
theorem dX7_order_23 : decode cX7_order 23 = .ok (.istore 6, 2) := by decide +kernel
theorem dX7_order_25 : decode cX7_order 25 = .ok (.iload 6, 2) := by decide +kernel
theorem dX7_order_27 : decode cX7_order 27 = .ok (.ifCond .eq 6, 3) := by decide +kernel
theorem dX7_order_30 : decode cX7_order 30 = .ok (.iload 6, 2) := by decide +kernel
theorem dX7_order_32 : decode cX7_order 32 = .ok (.ireturn, 1) := by decide +kernel
theorem dX7_order_33 : decode cX7_order 33 = .ok (.iload 5, 2) := by decide +kernel
theorem dX7_order_35 : decode cX7_order 35 = .ok (.iload 4, 2) := by decide +kernel
theorem dX7_order_37 : decode cX7_order 37 = .ok (.if_icmp .lt 6, 3) := by decide +kernel
theorem dX7_order_40 : decode cX7_order 40 = .ok (.bipush (-9), 2) := by decide +kernel
theorem dX7_order_42 : decode cX7_order 42 = .ok (.ireturn, 1) := by decide +kernel
theorem dX7_order_43 : decode cX7_order 43 = .ok (.iconst 0, 1) := by decide +kernel
theorem dX7_order_44 : decode cX7_order 44 = .ok (.istore 7, 2) := by decide +kernel
theorem dX7_order_46 : decode cX7_order 46 = .ok (.iload 7, 2) := by decide +kernel
theorem dX7_order_48 : decode cX7_order 48 = .ok (.iload 4, 2) := by decide +kernel
theorem dX7_order_50 : decode cX7_order 50 = .ok (.invokestatic 191, 3) := by decide +kernel
theorem dX7_order_53 : decode cX7_order 53 = .ok (.if_icmp .ge 40, 3) := by decide +kernel
theorem dX7_order_56 : decode cX7_order 56 = .ok (.aload_n 0, 1) := by decide +kernel
theorem dX7_order_57 : decode cX7_order 57 = .ok (.iload 7, 2) := by decide +kernel
theorem dX7_order_59 : decode cX7_order 59 = .ok (.iload 4, 2) := by decide +kernel
theorem dX7_order_61 : decode cX7_order 61 = .ok (.invokevirtual 194, 3) := by decide +kernel
theorem dX7_order_64 : decode cX7_order 64 = .ok (.aload_n 0, 1) := by decide +kernel
theorem dX7_order_65 : decode cX7_order 65 = .ok (.bipush 60, 2) := by decide +kernel
theorem dX7_order_67 : decode cX7_order 67 = .ok (.iload_n 1, 1) := by decide +kernel
theorem dX7_order_68 : decode cX7_order 68 = .ok (.imul, 1) := by decide +kernel
theorem dX7_order_69 : decode cX7_order 69 = .ok (.iload_n 3, 1) := by decide +kernel
theorem dX7_order_70 : decode cX7_order 70 = .ok (.iadd, 1) := by decide +kernel
theorem dX7_order_71 : decode cX7_order 71 = .ok (.iload 4, 2) := by decide +kernel
theorem dX7_order_73 : decode cX7_order 73 = .ok (.invokevirtual 197, 3) := by decide +kernel
theorem dX7_order_76 : decode cX7_order 76 = .ok (.ifCond .eq 11, 3) := by decide +kernel
theorem dX7_order_79 : decode cX7_order 79 = .ok (.aload_n 0, 1) := by decide +kernel
theorem dX7_order_80 : decode cX7_order 80 = .ok (.getfield 40, 3) := by decide +kernel
theorem dX7_order_83 : decode cX7_order 83 = .ok (.iload 5, 2) := by decide +kernel
theorem dX7_order_85 : decode cX7_order 85 = .ok (.iaload, 1) := by decide +kernel
theorem dX7_order_86 : decode cX7_order 86 = .ok (.ireturn, 1) := by decide +kernel
theorem dX7_order_87 : decode cX7_order 87 = .ok (.iinc 7 1, 3) := by decide +kernel
theorem dX7_order_90 : decode cX7_order 90 = .ok (.goto (-44), 3) := by decide +kernel
theorem dX7_order_93 : decode cX7_order 93 = .ok (.bipush (-9), 2) := by decide +kernel
theorem dX7_order_95 : decode cX7_order 95 = .ok (.ireturn, 1) := by decide +kernel
set_option maxRecDepth 20000 in
theorem ggX7_shut_X7_within : GoodIn wsX7_shut wsX7_within := goodIn_r _ [8] (by decide +kernel) (by decide +kernel)
set_option maxRecDepth 20000 in
theorem gX7_shut_X7_within : GoodIn wsX7_shut (va_wsS RX7 61 yX7_within wsX7_within) := goodIn_app (goodIn_of _ (by decide +kernel)) ggX7_shut_X7_within
set_option maxRecDepth 20000 in
theorem ggX7_shut_X7_refuses : GoodIn wsX7_shut wsX7_refuses := goodIn_r _ [12, 3, 13, 14, 7, 15, 5, 6, 8, 16, 17, 18, 19, 20, 21, 22, 23, 24, 25, 26, 27, 28, 1, 29, 30, 31, 32, 33, 34, 35, 36, 37, 38, 39, 40, 41, 42, 92, 93, 94, 95, 96, 97, 98, 99, 100, 101, 102, 103, 104, 105, 106, 107, 108, 109, 110, 111, 112, 113, 114, 115, 116, 117, 118, 119, 120] (by decide +kernel) (by decide +kernel)
set_option maxRecDepth 20000 in
theorem gX7_shut_X7_refuses : GoodIn wsX7_shut (wsV RX7 175 RX7 yX7_refuses wsX7_refuses) := goodIn_app (goodIn_of _ (by decide +kernel)) ggX7_shut_X7_refuses
set_option maxRecDepth 20000 in
theorem ggX7_shut_X7_keep : GoodIn wsX7_shut wsX7_keep := goodIn_r _ [46, 47, 48, 3, 49, 50, 92, 93, 94, 95, 96, 97, 98, 99, 100, 101, 102, 103, 104, 105, 106, 107, 108, 109, 110, 111, 112, 113, 114, 115, 116, 117, 118, 119, 120] (by decide +kernel) (by decide +kernel)
set_option maxRecDepth 20000 in
theorem gX7_shut_X7_keep : GoodIn wsX7_shut (wsV RX7 179 RX7 yX7_keep wsX7_keep) := goodIn_app (goodIn_of _ (by decide +kernel)) ggX7_shut_X7_keep
set_option maxRecDepth 20000 in
theorem ggX7_shut_X7_goShift : GoodIn wsX7_shut wsX7_goShift := goodIn_r _ [54, 4, 55, 33, 56, 57, 58, 7, 59, 60, 61, 62, 63, 50, 64, 65, 66, 67, 68, 3, 2, 69, 70, 71, 72, 73, 74, 75, 47, 76, 77, 78, 79, 80, 81, 82, 83, 84, 85, 86, 87, 92, 93, 94, 95, 96, 97, 98, 99, 100, 101, 102, 103, 104, 105, 106, 107, 108, 109, 110, 111, 112, 113, 114, 115, 116, 117, 118, 119, 120] (by decide +kernel) (by decide +kernel)
set_option maxRecDepth 20000 in
theorem gX7_shut_X7_goShift : GoodIn wsX7_shut (wsV RX7 182 RX7 yX7_goShift wsX7_goShift) := goodIn_app (goodIn_of _ (by decide +kernel)) ggX7_shut_X7_goShift
set_option maxRecDepth 20000 in
theorem ggX7_shut_X7_putBack : GoodIn wsX7_shut wsX7_putBack := goodIn_r _ [91, 48, 47, 3, 50, 49, 92, 93, 94, 95, 96, 97, 98, 99, 100, 101, 102, 103, 104, 105, 106, 107, 108, 109, 110, 111, 112, 113, 114, 115, 116, 117, 118, 119, 120] (by decide +kernel) (by decide +kernel)
set_option maxRecDepth 20000 in
theorem gX7_shut_X7_putBack : GoodIn wsX7_shut (wsV RX7 188 RX7 yX7_putBack wsX7_putBack) := goodIn_app (goodIn_of _ (by decide +kernel)) ggX7_shut_X7_putBack
set_option maxRecDepth 20000 in
theorem ggX7_shut_X7_size : GoodIn wsX7_shut wsX7_size := goodIn_r _ [87] (by decide +kernel) (by decide +kernel)
set_option maxRecDepth 20000 in
theorem gX7_shut_X7_size : GoodIn wsX7_shut (va_wsS RX7 160 yX7_size wsX7_size) := goodIn_app (goodIn_of _ (by decide +kernel)) ggX7_shut_X7_size
theorem dX7_shut_0 : decode cX7_shut 0 = .ok (.aload_n 0, 1) := by decide +kernel
theorem dX7_shut_1 : decode cX7_shut 1 = .ok (.iconst 0, 1) := by decide +kernel
theorem dX7_shut_2 : decode cX7_shut 2 = .ok (.putfield 55, 3) := by decide +kernel
theorem dX7_shut_5 : decode cX7_shut 5 = .ok (.aload_n 0, 1) := by decide +kernel
theorem dX7_shut_6 : decode cX7_shut 6 = .ok (.iload_n 1, 1) := by decide +kernel
theorem dX7_shut_7 : decode cX7_shut 7 = .ok (.iload_n 2, 1) := by decide +kernel
theorem dX7_shut_8 : decode cX7_shut 8 = .ok (.iload_n 3, 1) := by decide +kernel
theorem dX7_shut_9 : decode cX7_shut 9 = .ok (.iload 4, 2) := by decide +kernel
theorem dX7_shut_11 : decode cX7_shut 11 = .ok (.bipush 20, 2) := by decide +kernel
theorem dX7_shut_13 : decode cX7_shut 13 = .ok (.iload 5, 2) := by decide +kernel
theorem dX7_shut_15 : decode cX7_shut 15 = .ok (.iconst 0, 1) := by decide +kernel
theorem dX7_shut_16 : decode cX7_shut 16 = .ok (.iconst 1, 1) := by decide +kernel
theorem dX7_shut_17 : decode cX7_shut 17 = .ok (.invokestatic 61, 3) := by decide +kernel
theorem dX7_shut_20 : decode cX7_shut 20 = .ok (.invokevirtual 175, 3) := by decide +kernel
theorem dX7_shut_23 : decode cX7_shut 23 = .ok (.istore 6, 2) := by decide +kernel
theorem dX7_shut_25 : decode cX7_shut 25 = .ok (.iload 6, 2) := by decide +kernel
theorem dX7_shut_27 : decode cX7_shut 27 = .ok (.ifCond .eq 6, 3) := by decide +kernel
theorem dX7_shut_30 : decode cX7_shut 30 = .ok (.iload 6, 2) := by decide +kernel
theorem dX7_shut_32 : decode cX7_shut 32 = .ok (.ireturn, 1) := by decide +kernel
theorem dX7_shut_33 : decode cX7_shut 33 = .ok (.aload_n 0, 1) := by decide +kernel
theorem dX7_shut_34 : decode cX7_shut 34 = .ok (.getfield 101, 3) := by decide +kernel
theorem dX7_shut_37 : decode cX7_shut 37 = .ok (.istore 7, 2) := by decide +kernel
theorem dX7_shut_39 : decode cX7_shut 39 = .ok (.iconst 0, 1) := by decide +kernel
theorem dX7_shut_40 : decode cX7_shut 40 = .ok (.istore 8, 2) := by decide +kernel
theorem dX7_shut_42 : decode cX7_shut 42 = .ok (.bipush (-9), 2) := by decide +kernel
theorem dX7_shut_44 : decode cX7_shut 44 = .ok (.istore 9, 2) := by decide +kernel
theorem dX7_shut_46 : decode cX7_shut 46 = .ok (.iconst 0, 1) := by decide +kernel
theorem dX7_shut_47 : decode cX7_shut 47 = .ok (.istore 10, 2) := by decide +kernel
theorem dX7_shut_49 : decode cX7_shut 49 = .ok (.iload 10, 2) := by decide +kernel
