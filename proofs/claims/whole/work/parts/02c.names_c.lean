theorem dX6_ofGallery_69 : decode cX6_ofGallery 69 = .ok (.getfield 20, 3) := by decide +kernel
theorem dX6_ofGallery_72 : decode cX6_ofGallery 72 = .ok (.getfield 109, 3) := by decide +kernel
theorem dX6_ofGallery_75 : decode cX6_ofGallery 75 = .ok (.iload_n 1, 1) := by decide +kernel
theorem dX6_ofGallery_76 : decode cX6_ofGallery 76 = .ok (.iaload, 1) := by decide +kernel
theorem dX6_ofGallery_77 : decode cX6_ofGallery 77 = .ok (.ireturn, 1) := by decide +kernel
theorem dX6_ofGallery_78 : decode cX6_ofGallery 78 = .ok (.aload_n 0, 1) := by decide +kernel
theorem dX6_ofGallery_79 : decode cX6_ofGallery 79 = .ok (.getfield 20, 3) := by decide +kernel
theorem dX6_ofGallery_82 : decode cX6_ofGallery 82 = .ok (.iload_n 1, 1) := by decide +kernel
theorem dX6_ofGallery_83 : decode cX6_ofGallery 83 = .ok (.invokevirtual 112, 3) := by decide +kernel
theorem dX6_ofGallery_86 : decode cX6_ofGallery 86 = .ok (.ireturn, 1) := by decide +kernel
theorem dX6_ofGallery_87 : decode cX6_ofGallery 87 = .ok (.aload_n 0, 1) := by decide +kernel
theorem dX6_ofGallery_88 : decode cX6_ofGallery 88 = .ok (.getfield 27, 3) := by decide +kernel
theorem dX6_ofGallery_91 : decode cX6_ofGallery 91 = .ok (.getfield 115, 3) := by decide +kernel
theorem dX6_ofGallery_94 : decode cX6_ofGallery 94 = .ok (.iload_n 1, 1) := by decide +kernel
theorem dX6_ofGallery_95 : decode cX6_ofGallery 95 = .ok (.ishr, 1) := by decide +kernel
theorem dX6_ofGallery_96 : decode cX6_ofGallery 96 = .ok (.iconst 1, 1) := by decide +kernel
theorem dX6_ofGallery_97 : decode cX6_ofGallery 97 = .ok (.iand, 1) := by decide +kernel
theorem dX6_ofGallery_98 : decode cX6_ofGallery 98 = .ok (.ireturn, 1) := by decide +kernel
theorem dX6_ofGallery_99 : decode cX6_ofGallery 99 = .ok (.aload_n 0, 1) := by decide +kernel
theorem dX6_ofGallery_100 : decode cX6_ofGallery 100 = .ok (.iload_n 1, 1) := by decide +kernel
theorem dX6_ofGallery_101 : decode cX6_ofGallery 101 = .ok (.invokevirtual 118, 3) := by decide +kernel
theorem dX6_ofGallery_104 : decode cX6_ofGallery 104 = .ok (.ifCond .eq 17, 3) := by decide +kernel
theorem dX6_ofGallery_107 : decode cX6_ofGallery 107 = .ok (.aload_n 0, 1) := by decide +kernel
theorem dX6_ofGallery_108 : decode cX6_ofGallery 108 = .ok (.getfield 20, 3) := by decide +kernel
theorem dX6_ofGallery_111 : decode cX6_ofGallery 111 = .ok (.getfield 121, 3) := by decide +kernel
theorem dX6_ofGallery_114 : decode cX6_ofGallery 114 = .ok (.iload_n 1, 1) := by decide +kernel
theorem dX6_ofGallery_115 : decode cX6_ofGallery 115 = .ok (.ishr, 1) := by decide +kernel
theorem dX6_ofGallery_116 : decode cX6_ofGallery 116 = .ok (.iconst 1, 1) := by decide +kernel
theorem dX6_ofGallery_117 : decode cX6_ofGallery 117 = .ok (.iand, 1) := by decide +kernel
theorem dX6_ofGallery_118 : decode cX6_ofGallery 118 = .ok (.goto 5, 3) := by decide +kernel
theorem dX6_ofGallery_121 : decode cX6_ofGallery 121 = .ok (.bipush (-9), 2) := by decide +kernel
theorem dX6_ofGallery_123 : decode cX6_ofGallery 123 = .ok (.ireturn, 1) := by decide +kernel
theorem dX6_ofGallery_124 : decode cX6_ofGallery 124 = .ok (.bipush (-2), 2) := by decide +kernel
theorem dX6_ofGallery_126 : decode cX6_ofGallery 126 = .ok (.ireturn, 1) := by decide +kernel
set_option maxRecDepth 20000 in
theorem ggX6_bad_X6_isWord : GoodIn wsX6_bad wsX6_isWord := goodIn_r _ [7, 1, 8, 9, 10, 11, 12, 13, 14, 15, 16, 17, 18, 19, 20, 21, 22, 23, 24, 25] (by decide +kernel) (by decide +kernel)
set_option maxRecDepth 20000 in
theorem gX6_bad_X6_isWord : GoodIn wsX6_bad (wsV RX6 124 RX6 yX6_isWord wsX6_isWord) := goodIn_app (goodIn_of _ (by decide +kernel)) ggX6_bad_X6_isWord
theorem dX6_bad_0 : decode cX6_bad 0 = .ok (.aload_n 0, 1) := by decide +kernel
theorem dX6_bad_1 : decode cX6_bad 1 = .ok (.iload_n 1, 1) := by decide +kernel
theorem dX6_bad_2 : decode cX6_bad 2 = .ok (.invokevirtual 124, 3) := by decide +kernel
theorem dX6_bad_5 : decode cX6_bad 5 = .ok (.ifCond .ne 5, 3) := by decide +kernel
theorem dX6_bad_8 : decode cX6_bad 8 = .ok (.iconst (-1), 1) := by decide +kernel
theorem dX6_bad_9 : decode cX6_bad 9 = .ok (.ireturn, 1) := by decide +kernel
theorem dX6_bad_10 : decode cX6_bad 10 = .ok (.aload_n 0, 1) := by decide +kernel
theorem dX6_bad_11 : decode cX6_bad 11 = .ok (.getfield 20, 3) := by decide +kernel
theorem dX6_bad_14 : decode cX6_bad 14 = .ok (.getfield 127, 3) := by decide +kernel
theorem dX6_bad_17 : decode cX6_bad 17 = .ok (.iload_n 1, 1) := by decide +kernel
theorem dX6_bad_18 : decode cX6_bad 18 = .ok (.iaload, 1) := by decide +kernel
theorem dX6_bad_19 : decode cX6_bad 19 = .ok (.ireturn, 1) := by decide +kernel
set_option maxRecDepth 20000 in
theorem ggX6_foul_X6_isGallery : GoodIn wsX6_foul wsX6_isGallery := goodIn_r _ [7, 8, 9, 13, 14, 15, 16, 17, 18, 19, 20, 21, 22, 23, 26, 27, 28, 29, 30, 31] (by decide +kernel) (by decide +kernel)
set_option maxRecDepth 20000 in
theorem gX6_foul_X6_isGallery : GoodIn wsX6_foul (wsV RX6 100 RX6 yX6_isGallery wsX6_isGallery) := goodIn_app (goodIn_of _ (by decide +kernel)) ggX6_foul_X6_isGallery
set_option maxRecDepth 20000 in
theorem ggX6_foul_X6_isFoul : GoodIn wsX6_foul wsX6_isFoul := goodIn_r _ [12] (by decide +kernel) (by decide +kernel)
set_option maxRecDepth 20000 in
theorem gX6_foul_X6_isFoul : GoodIn wsX6_foul (va_wsS RX6 130 yX6_isFoul wsX6_isFoul) := goodIn_app (goodIn_of _ (by decide +kernel)) ggX6_foul_X6_isFoul
theorem dX6_foul_0 : decode cX6_foul 0 = .ok (.aload_n 0, 1) := by decide +kernel
theorem dX6_foul_1 : decode cX6_foul 1 = .ok (.iload_n 1, 1) := by decide +kernel
theorem dX6_foul_2 : decode cX6_foul 2 = .ok (.invokevirtual 100, 3) := by decide +kernel
theorem dX6_foul_5 : decode cX6_foul 5 = .ok (.ifCond .ne 5, 3) := by decide +kernel
theorem dX6_foul_8 : decode cX6_foul 8 = .ok (.iconst (-1), 1) := by decide +kernel
theorem dX6_foul_9 : decode cX6_foul 9 = .ok (.ireturn, 1) := by decide +kernel
theorem dX6_foul_10 : decode cX6_foul 10 = .ok (.iload_n 2, 1) := by decide +kernel
theorem dX6_foul_11 : decode cX6_foul 11 = .ok (.invokestatic 130, 3) := by decide +kernel
theorem dX6_foul_14 : decode cX6_foul 14 = .ok (.ifCond .ne 6, 3) := by decide +kernel
theorem dX6_foul_17 : decode cX6_foul 17 = .ok (.bipush (-2), 2) := by decide +kernel
theorem dX6_foul_19 : decode cX6_foul 19 = .ok (.ireturn, 1) := by decide +kernel
theorem dX6_foul_20 : decode cX6_foul 20 = .ok (.aload_n 0, 1) := by decide +kernel
theorem dX6_foul_21 : decode cX6_foul 21 = .ok (.getfield 27, 3) := by decide +kernel
theorem dX6_foul_24 : decode cX6_foul 24 = .ok (.getfield 106, 3) := by decide +kernel
theorem dX6_foul_27 : decode cX6_foul 27 = .ok (.iload_n 1, 1) := by decide +kernel
theorem dX6_foul_28 : decode cX6_foul 28 = .ok (.iaload, 1) := by decide +kernel
theorem dX6_foul_29 : decode cX6_foul 29 = .ok (.istore_n 3, 1) := by decide +kernel
theorem dX6_foul_30 : decode cX6_foul 30 = .ok (.aload_n 0, 1) := by decide +kernel
theorem dX6_foul_31 : decode cX6_foul 31 = .ok (.getfield 27, 3) := by decide +kernel
theorem dX6_foul_34 : decode cX6_foul 34 = .ok (.getfield 106, 3) := by decide +kernel
theorem dX6_foul_37 : decode cX6_foul 37 = .ok (.iload_n 1, 1) := by decide +kernel
theorem dX6_foul_38 : decode cX6_foul 38 = .ok (.iload_n 2, 1) := by decide +kernel
theorem dX6_foul_39 : decode cX6_foul 39 = .ok (.iastore, 1) := by decide +kernel
theorem dX6_foul_40 : decode cX6_foul 40 = .ok (.iload_n 3, 1) := by decide +kernel
theorem dX6_foul_41 : decode cX6_foul 41 = .ok (.ireturn, 1) := by decide +kernel
set_option maxRecDepth 20000 in
theorem ggX6_breed_X6_isGallery : GoodIn wsX6_breed wsX6_isGallery := goodIn_r _ [7, 1, 8, 9, 10, 11, 12, 13, 14, 15, 16, 17, 18, 19, 20, 21, 22, 23, 24, 25] (by decide +kernel) (by decide +kernel)
set_option maxRecDepth 20000 in
theorem gX6_breed_X6_isGallery : GoodIn wsX6_breed (wsV RX6 100 RX6 yX6_isGallery wsX6_isGallery) := goodIn_app (goodIn_of _ (by decide +kernel)) ggX6_breed_X6_isGallery
theorem dX6_breed_0 : decode cX6_breed 0 = .ok (.aload_n 0, 1) := by decide +kernel
theorem dX6_breed_1 : decode cX6_breed 1 = .ok (.iload_n 1, 1) := by decide +kernel
theorem dX6_breed_2 : decode cX6_breed 2 = .ok (.invokevirtual 100, 3) := by decide +kernel
theorem dX6_breed_5 : decode cX6_breed 5 = .ok (.ifCond .ne 5, 3) := by decide +kernel
theorem dX6_breed_8 : decode cX6_breed 8 = .ok (.iconst (-1), 1) := by decide +kernel
theorem dX6_breed_9 : decode cX6_breed 9 = .ok (.ireturn, 1) := by decide +kernel
theorem dX6_breed_10 : decode cX6_breed 10 = .ok (.iload_n 2, 1) := by decide +kernel
theorem dX6_breed_11 : decode cX6_breed 11 = .ok (.iconst 1, 1) := by decide +kernel
theorem dX6_breed_12 : decode cX6_breed 12 = .ok (.if_icmp .lt 9, 3) := by decide +kernel
theorem dX6_breed_15 : decode cX6_breed 15 = .ok (.iload_n 2, 1) := by decide +kernel
theorem dX6_breed_16 : decode cX6_breed 16 = .ok (.bipush 9, 2) := by decide +kernel
theorem dX6_breed_18 : decode cX6_breed 18 = .ok (.if_icmp .le 6, 3) := by decide +kernel
theorem dX6_breed_21 : decode cX6_breed 21 = .ok (.bipush (-2), 2) := by decide +kernel
theorem dX6_breed_23 : decode cX6_breed 23 = .ok (.ireturn, 1) := by decide +kernel
theorem dX6_breed_24 : decode cX6_breed 24 = .ok (.aload_n 0, 1) := by decide +kernel
theorem dX6_breed_25 : decode cX6_breed 25 = .ok (.getfield 20, 3) := by decide +kernel
theorem dX6_breed_28 : decode cX6_breed 28 = .ok (.getfield 109, 3) := by decide +kernel
theorem dX6_breed_31 : decode cX6_breed 31 = .ok (.iload_n 1, 1) := by decide +kernel
theorem dX6_breed_32 : decode cX6_breed 32 = .ok (.iaload, 1) := by decide +kernel
theorem dX6_breed_33 : decode cX6_breed 33 = .ok (.istore_n 3, 1) := by decide +kernel
theorem dX6_breed_34 : decode cX6_breed 34 = .ok (.aload_n 0, 1) := by decide +kernel
theorem dX6_breed_35 : decode cX6_breed 35 = .ok (.getfield 20, 3) := by decide +kernel
theorem dX6_breed_38 : decode cX6_breed 38 = .ok (.getfield 109, 3) := by decide +kernel
theorem dX6_breed_41 : decode cX6_breed 41 = .ok (.iload_n 1, 1) := by decide +kernel
theorem dX6_breed_42 : decode cX6_breed 42 = .ok (.iload_n 2, 1) := by decide +kernel
theorem dX6_breed_43 : decode cX6_breed 43 = .ok (.iastore, 1) := by decide +kernel
theorem dX6_breed_44 : decode cX6_breed 44 = .ok (.iload_n 3, 1) := by decide +kernel
theorem dX6_breed_45 : decode cX6_breed 45 = .ok (.ireturn, 1) := by decide +kernel
set_option maxRecDepth 20000 in
theorem ggX6_door_X6_isDoor : GoodIn wsX6_door wsX6_isDoor := goodIn_r _ [7, 1, 8, 9, 10, 11, 12, 13, 14, 15, 16, 17, 18, 19, 20, 21, 22, 23, 24, 25] (by decide +kernel) (by decide +kernel)
set_option maxRecDepth 20000 in
theorem gX6_door_X6_isDoor : GoodIn wsX6_door (wsV RX6 118 RX6 yX6_isDoor wsX6_isDoor) := goodIn_app (goodIn_of _ (by decide +kernel)) ggX6_door_X6_isDoor
theorem dX6_door_0 : decode cX6_door 0 = .ok (.aload_n 0, 1) := by decide +kernel
theorem dX6_door_1 : decode cX6_door 1 = .ok (.iload_n 1, 1) := by decide +kernel
theorem dX6_door_2 : decode cX6_door 2 = .ok (.invokevirtual 118, 3) := by decide +kernel
theorem dX6_door_5 : decode cX6_door 5 = .ok (.ifCond .ne 5, 3) := by decide +kernel
theorem dX6_door_8 : decode cX6_door 8 = .ok (.iconst (-1), 1) := by decide +kernel
theorem dX6_door_9 : decode cX6_door 9 = .ok (.ireturn, 1) := by decide +kernel
theorem dX6_door_10 : decode cX6_door 10 = .ok (.iload_n 2, 1) := by decide +kernel
theorem dX6_door_11 : decode cX6_door 11 = .ok (.ifCond .eq 11, 3) := by decide +kernel
theorem dX6_door_14 : decode cX6_door 14 = .ok (.iload_n 2, 1) := by decide +kernel
theorem dX6_door_15 : decode cX6_door 15 = .ok (.iconst 1, 1) := by decide +kernel
theorem dX6_door_16 : decode cX6_door 16 = .ok (.if_icmp .eq 6, 3) := by decide +kernel
theorem dX6_door_19 : decode cX6_door 19 = .ok (.bipush (-2), 2) := by decide +kernel
theorem dX6_door_21 : decode cX6_door 21 = .ok (.ireturn, 1) := by decide +kernel
theorem dX6_door_22 : decode cX6_door 22 = .ok (.aload_n 0, 1) := by decide +kernel
theorem dX6_door_23 : decode cX6_door 23 = .ok (.getfield 20, 3) := by decide +kernel
theorem dX6_door_26 : decode cX6_door 26 = .ok (.getfield 121, 3) := by decide +kernel
theorem dX6_door_29 : decode cX6_door 29 = .ok (.iload_n 1, 1) := by decide +kernel
theorem dX6_door_30 : decode cX6_door 30 = .ok (.ishr, 1) := by decide +kernel
theorem dX6_door_31 : decode cX6_door 31 = .ok (.iconst 1, 1) := by decide +kernel
theorem dX6_door_32 : decode cX6_door 32 = .ok (.iand, 1) := by decide +kernel
theorem dX6_door_33 : decode cX6_door 33 = .ok (.istore_n 3, 1) := by decide +kernel
theorem dX6_door_34 : decode cX6_door 34 = .ok (.aload_n 0, 1) := by decide +kernel
theorem dX6_door_35 : decode cX6_door 35 = .ok (.getfield 20, 3) := by decide +kernel
theorem dX6_door_38 : decode cX6_door 38 = .ok (.aload_n 0, 1) := by decide +kernel
theorem dX6_door_39 : decode cX6_door 39 = .ok (.getfield 20, 3) := by decide +kernel
theorem dX6_door_42 : decode cX6_door 42 = .ok (.getfield 121, 3) := by decide +kernel
theorem dX6_door_45 : decode cX6_door 45 = .ok (.iconst 1, 1) := by decide +kernel
theorem dX6_door_46 : decode cX6_door 46 = .ok (.iload_n 1, 1) := by decide +kernel
theorem dX6_door_47 : decode cX6_door 47 = .ok (.ishl, 1) := by decide +kernel
theorem dX6_door_48 : decode cX6_door 48 = .ok (.iconst (-1), 1) := by decide +kernel
theorem dX6_door_49 : decode cX6_door 49 = .ok (.ixor, 1) := by decide +kernel
theorem dX6_door_50 : decode cX6_door 50 = .ok (.iand, 1) := by decide +kernel
theorem dX6_door_51 : decode cX6_door 51 = .ok (.iload_n 2, 1) := by decide +kernel
theorem dX6_door_52 : decode cX6_door 52 = .ok (.iload_n 1, 1) := by decide +kernel
theorem dX6_door_53 : decode cX6_door 53 = .ok (.ishl, 1) := by decide +kernel
theorem dX6_door_54 : decode cX6_door 54 = .ok (.ior, 1) := by decide +kernel
theorem dX6_door_55 : decode cX6_door 55 = .ok (.putfield 121, 3) := by decide +kernel
theorem dX6_door_58 : decode cX6_door 58 = .ok (.iload_n 3, 1) := by decide +kernel
theorem dX6_door_59 : decode cX6_door 59 = .ok (.ireturn, 1) := by decide +kernel
set_option maxRecDepth 20000 in
theorem ggX6_say_X6_isGallery : GoodIn wsX6_say wsX6_isGallery := goodIn_r _ [9, 2, 10, 61, 62, 63, 64, 65, 66, 67, 68, 69, 70, 71, 72, 73, 74, 75, 76, 77] (by decide +kernel) (by decide +kernel)
set_option maxRecDepth 20000 in
theorem gX6_say_X6_isGallery : GoodIn wsX6_say (wsV RX6 100 RX6 yX6_isGallery wsX6_isGallery) := goodIn_app (goodIn_of _ (by decide +kernel)) ggX6_say_X6_isGallery
set_option maxRecDepth 20000 in
theorem ggX6_say_X6_isWord : GoodIn wsX6_say wsX6_isWord := goodIn_r _ [14, 2, 15, 61, 62, 63, 64, 65, 66, 67, 68, 69, 70, 71, 72, 73, 74, 75, 76, 77] (by decide +kernel) (by decide +kernel)
set_option maxRecDepth 20000 in
theorem gX6_say_X6_isWord : GoodIn wsX6_say (wsV RX6 124 RX6 yX6_isWord wsX6_isWord) := goodIn_app (goodIn_of _ (by decide +kernel)) ggX6_say_X6_isWord
set_option maxRecDepth 20000 in
theorem ggX6_say_X2_breathe : GoodIn wsX6_say wsX2_breathe := goodIn_r _ [20, 21, 22, 23, 24, 25, 26, 27, 28, 29, 30, 31, 32, 19, 33, 34, 35, 36, 37, 38, 39, 40, 41, 42, 43, 44, 45, 46, 47, 48, 49, 50, 51, 52, 53, 54, 55, 56, 57, 58, 59, 8, 60, 78, 79, 72, 73, 74, 75, 76, 77] (by decide +kernel) (by decide +kernel)
set_option maxRecDepth 20000 in
theorem gX6_say_X2_breathe : GoodIn wsX6_say (wsV RX6 133 RX2 yX2_breathe wsX2_breathe) := goodIn_app (goodIn_of _ (by decide +kernel)) ggX6_say_X2_breathe
theorem dX6_say_0 : decode cX6_say 0 = .ok (.aload_n 0, 1) := by decide +kernel
theorem dX6_say_1 : decode cX6_say 1 = .ok (.iload_n 1, 1) := by decide +kernel
theorem dX6_say_2 : decode cX6_say 2 = .ok (.invokevirtual 100, 3) := by decide +kernel
theorem dX6_say_5 : decode cX6_say 5 = .ok (.ifCond .eq 11, 3) := by decide +kernel
theorem dX6_say_8 : decode cX6_say 8 = .ok (.aload_n 0, 1) := by decide +kernel
theorem dX6_say_9 : decode cX6_say 9 = .ok (.iload_n 2, 1) := by decide +kernel
theorem dX6_say_10 : decode cX6_say 10 = .ok (.invokevirtual 124, 3) := by decide +kernel
theorem dX6_say_13 : decode cX6_say 13 = .ok (.ifCond .ne 5, 3) := by decide +kernel
theorem dX6_say_16 : decode cX6_say 16 = .ok (.iconst (-1), 1) := by decide +kernel
theorem dX6_say_17 : decode cX6_say 17 = .ok (.ireturn, 1) := by decide +kernel
theorem dX6_say_18 : decode cX6_say 18 = .ok (.aload_n 0, 1) := by decide +kernel
theorem dX6_say_19 : decode cX6_say 19 = .ok (.dup, 1) := by decide +kernel
theorem dX6_say_20 : decode cX6_say 20 = .ok (.getfield 60, 3) := by decide +kernel
theorem dX6_say_23 : decode cX6_say 23 = .ok (.iconst 1, 1) := by decide +kernel
theorem dX6_say_24 : decode cX6_say 24 = .ok (.iadd, 1) := by decide +kernel
theorem dX6_say_25 : decode cX6_say 25 = .ok (.putfield 60, 3) := by decide +kernel
theorem dX6_say_28 : decode cX6_say 28 = .ok (.aload_n 0, 1) := by decide +kernel
theorem dX6_say_29 : decode cX6_say 29 = .ok (.getfield 20, 3) := by decide +kernel
theorem dX6_say_32 : decode cX6_say 32 = .ok (.aload_n 0, 1) := by decide +kernel
theorem dX6_say_33 : decode cX6_say 33 = .ok (.getfield 27, 3) := by decide +kernel
theorem dX6_say_36 : decode cX6_say 36 = .ok (.aload_n 0, 1) := by decide +kernel
theorem dX6_say_37 : decode cX6_say 37 = .ok (.getfield 20, 3) := by decide +kernel
theorem dX6_say_40 : decode cX6_say 40 = .ok (.getfield 121, 3) := by decide +kernel
theorem dX6_say_43 : decode cX6_say 43 = .ok (.iload_n 1, 1) := by decide +kernel
theorem dX6_say_44 : decode cX6_say 44 = .ok (.iload_n 2, 1) := by decide +kernel
theorem dX6_say_45 : decode cX6_say 45 = .ok (.invokevirtual 133, 3) := by decide +kernel
theorem dX6_say_48 : decode cX6_say 48 = .ok (.ireturn, 1) := by decide +kernel
set_option maxRecDepth 20000 in
theorem ggX6_hush_X6_hasMine : GoodIn wsX6_hush wsX6_hasMine := goodIn_r _ [9, 1, 10, 45, 46, 47, 48, 49, 50, 51, 52, 53, 54, 55, 56, 57, 58, 59, 60, 61] (by decide +kernel) (by decide +kernel)
set_option maxRecDepth 20000 in
theorem gX6_hush_X6_hasMine : GoodIn wsX6_hush (wsV RX6 137 RX6 yX6_hasMine wsX6_hasMine) := goodIn_app (goodIn_of _ (by decide +kernel)) ggX6_hush_X6_hasMine
set_option maxRecDepth 20000 in
theorem ggX6_hush_X2_breatheHushed : GoodIn wsX6_hush wsX2_breatheHushed := goodIn_r _ [15, 16, 17, 18, 14, 19, 20, 21, 22, 23, 24, 25, 26, 27, 28, 29, 30, 31, 32, 33, 34, 35, 36, 37, 38, 39, 40, 41, 42, 43, 8, 44, 56, 57, 58, 59, 60, 61, 62, 63] (by decide +kernel) (by decide +kernel)
set_option maxRecDepth 20000 in
theorem gX6_hush_X2_breatheHushed : GoodIn wsX6_hush (wsV RX6 141 RX2 yX2_breatheHushed wsX2_breatheHushed) := goodIn_app (goodIn_of _ (by decide +kernel)) ggX6_hush_X2_breatheHushed
theorem dX6_hush_0 : decode cX6_hush 0 = .ok (.iload_n 1, 1) := by decide +kernel
theorem dX6_hush_1 : decode cX6_hush 1 = .ok (.iconst 1, 1) := by decide +kernel
theorem dX6_hush_2 : decode cX6_hush 2 = .ok (.if_icmp .lt 9, 3) := by decide +kernel
theorem dX6_hush_5 : decode cX6_hush 5 = .ok (.iload_n 1, 1) := by decide +kernel
theorem dX6_hush_6 : decode cX6_hush 6 = .ok (.bipush 30, 2) := by decide +kernel
theorem dX6_hush_8 : decode cX6_hush 8 = .ok (.if_icmp .le 6, 3) := by decide +kernel
theorem dX6_hush_11 : decode cX6_hush 11 = .ok (.bipush (-2), 2) := by decide +kernel
theorem dX6_hush_13 : decode cX6_hush 13 = .ok (.ireturn, 1) := by decide +kernel
theorem dX6_hush_14 : decode cX6_hush 14 = .ok (.aload_n 0, 1) := by decide +kernel
theorem dX6_hush_15 : decode cX6_hush 15 = .ok (.invokevirtual 137, 3) := by decide +kernel
theorem dX6_hush_18 : decode cX6_hush 18 = .ok (.ifCond .ne 6, 3) := by decide +kernel
theorem dX6_hush_21 : decode cX6_hush 21 = .ok (.bipush (-3), 2) := by decide +kernel
theorem dX6_hush_23 : decode cX6_hush 23 = .ok (.ireturn, 1) := by decide +kernel
theorem dX6_hush_24 : decode cX6_hush 24 = .ok (.iconst 0, 1) := by decide +kernel
theorem dX6_hush_25 : decode cX6_hush 25 = .ok (.istore_n 2, 1) := by decide +kernel
theorem dX6_hush_26 : decode cX6_hush 26 = .ok (.iconst 0, 1) := by decide +kernel
theorem dX6_hush_27 : decode cX6_hush 27 = .ok (.istore_n 3, 1) := by decide +kernel
theorem dX6_hush_28 : decode cX6_hush 28 = .ok (.iload_n 3, 1) := by decide +kernel
theorem dX6_hush_29 : decode cX6_hush 29 = .ok (.iload_n 1, 1) := by decide +kernel
theorem dX6_hush_30 : decode cX6_hush 30 = .ok (.if_icmp .ge 30, 3) := by decide +kernel
theorem dX6_hush_33 : decode cX6_hush 33 = .ok (.iload_n 2, 1) := by decide +kernel
theorem dX6_hush_34 : decode cX6_hush 34 = .ok (.aload_n 0, 1) := by decide +kernel
theorem dX6_hush_35 : decode cX6_hush 35 = .ok (.getfield 20, 3) := by decide +kernel
theorem dX6_hush_38 : decode cX6_hush 38 = .ok (.aload_n 0, 1) := by decide +kernel
theorem dX6_hush_39 : decode cX6_hush 39 = .ok (.getfield 27, 3) := by decide +kernel
theorem dX6_hush_42 : decode cX6_hush 42 = .ok (.aload_n 0, 1) := by decide +kernel
theorem dX6_hush_43 : decode cX6_hush 43 = .ok (.getfield 20, 3) := by decide +kernel
theorem dX6_hush_46 : decode cX6_hush 46 = .ok (.getfield 121, 3) := by decide +kernel
theorem dX6_hush_49 : decode cX6_hush 49 = .ok (.invokevirtual 141, 3) := by decide +kernel
theorem dX6_hush_52 : decode cX6_hush 52 = .ok (.ior, 1) := by decide +kernel
theorem dX6_hush_53 : decode cX6_hush 53 = .ok (.istore_n 2, 1) := by decide +kernel
theorem dX6_hush_54 : decode cX6_hush 54 = .ok (.iinc 3 1, 3) := by decide +kernel
theorem dX6_hush_57 : decode cX6_hush 57 = .ok (.goto (-29), 3) := by decide +kernel
theorem dX6_hush_60 : decode cX6_hush 60 = .ok (.aload_n 0, 1) := by decide +kernel
theorem dX6_hush_61 : decode cX6_hush 61 = .ok (.dup, 1) := by decide +kernel
theorem dX6_hush_62 : decode cX6_hush 62 = .ok (.getfield 60, 3) := by decide +kernel
theorem dX6_hush_65 : decode cX6_hush 65 = .ok (.iload_n 1, 1) := by decide +kernel
theorem dX6_hush_66 : decode cX6_hush 66 = .ok (.iadd, 1) := by decide +kernel
theorem dX6_hush_67 : decode cX6_hush 67 = .ok (.putfield 60, 3) := by decide +kernel
theorem dX6_hush_70 : decode cX6_hush 70 = .ok (.iload_n 2, 1) := by decide +kernel
theorem dX6_hush_71 : decode cX6_hush 71 = .ok (.ireturn, 1) := by decide +kernel
set_option maxRecDepth 20000 in
theorem ggX6_blow_X6_isGallery : GoodIn wsX6_blow wsX6_isGallery := goodIn_r _ [9, 3, 10, 33, 34, 35, 36, 37, 38, 39, 40, 41, 42, 43, 46, 47, 48, 49, 50, 51] (by decide +kernel) (by decide +kernel)
set_option maxRecDepth 20000 in
theorem gX6_blow_X6_isGallery : GoodIn wsX6_blow (wsV RX6 100 RX6 yX6_isGallery wsX6_isGallery) := goodIn_app (goodIn_of _ (by decide +kernel)) ggX6_blow_X6_isGallery
set_option maxRecDepth 20000 in
theorem ggX6_blow_X0_isDown : GoodIn wsX6_blow wsX0_isDown := goodIn_r _ [15, 16, 44, 45] (by decide +kernel) (by decide +kernel)
set_option maxRecDepth 20000 in
theorem gX6_blow_X0_isDown : GoodIn wsX6_blow (wsV RX6 145 RX0 yX0_isDown wsX0_isDown) := goodIn_app (goodIn_of _ (by decide +kernel)) ggX6_blow_X0_isDown
set_option maxRecDepth 20000 in
theorem ggX6_blow_X2_bears : GoodIn wsX6_blow wsX2_bears := goodIn_r _ [21, 22, 23, 24, 8, 25, 46, 47, 48, 49, 50, 51] (by decide +kernel) (by decide +kernel)
set_option maxRecDepth 20000 in
theorem gX6_blow_X2_bears : GoodIn wsX6_blow (wsV RX6 112 RX2 yX2_bears wsX2_bears) := goodIn_app (goodIn_of _ (by decide +kernel)) ggX6_blow_X2_bears
set_option maxRecDepth 20000 in
theorem ggX6_blow_J6_bitCount_0f7a4 : GoodIn wsX6_blow wsJ6_bitCount_0f7a4 := goodIn_r _ [29, 30, 31, 32] (by decide +kernel) (by decide +kernel)
set_option maxRecDepth 20000 in
theorem gX6_blow_J6_bitCount_0f7a4 : GoodIn wsX6_blow (va_wsS RX6 148 yJ6_bitCount_0f7a4 wsJ6_bitCount_0f7a4) := goodIn_app (goodIn_of _ (by decide +kernel)) ggX6_blow_J6_bitCount_0f7a4
theorem dX6_blow_0 : decode cX6_blow 0 = .ok (.aload_n 0, 1) := by decide +kernel
theorem dX6_blow_1 : decode cX6_blow 1 = .ok (.iload_n 1, 1) := by decide +kernel
theorem dX6_blow_2 : decode cX6_blow 2 = .ok (.invokevirtual 100, 3) := by decide +kernel
theorem dX6_blow_5 : decode cX6_blow 5 = .ok (.ifCond .ne 5, 3) := by decide +kernel
theorem dX6_blow_8 : decode cX6_blow 8 = .ok (.iconst (-1), 1) := by decide +kernel
theorem dX6_blow_9 : decode cX6_blow 9 = .ok (.ireturn, 1) := by decide +kernel
theorem dX6_blow_10 : decode cX6_blow 10 = .ok (.aload_n 0, 1) := by decide +kernel
theorem dX6_blow_11 : decode cX6_blow 11 = .ok (.getfield 27, 3) := by decide +kernel
theorem dX6_blow_14 : decode cX6_blow 14 = .ok (.iload_n 1, 1) := by decide +kernel
theorem dX6_blow_15 : decode cX6_blow 15 = .ok (.invokevirtual 145, 3) := by decide +kernel
theorem dX6_blow_18 : decode cX6_blow 18 = .ok (.ifCond .eq 23, 3) := by decide +kernel
theorem dX6_blow_21 : decode cX6_blow 21 = .ok (.aload_n 0, 1) := by decide +kernel
theorem dX6_blow_22 : decode cX6_blow 22 = .ok (.getfield 27, 3) := by decide +kernel
theorem dX6_blow_25 : decode cX6_blow 25 = .ok (.getfield 106, 3) := by decide +kernel
theorem dX6_blow_28 : decode cX6_blow 28 = .ok (.iload_n 1, 1) := by decide +kernel
theorem dX6_blow_29 : decode cX6_blow 29 = .ok (.iaload, 1) := by decide +kernel
theorem dX6_blow_30 : decode cX6_blow 30 = .ok (.aload_n 0, 1) := by decide +kernel
theorem dX6_blow_31 : decode cX6_blow 31 = .ok (.getfield 20, 3) := by decide +kernel
theorem dX6_blow_34 : decode cX6_blow 34 = .ok (.iload_n 1, 1) := by decide +kernel
theorem dX6_blow_35 : decode cX6_blow 35 = .ok (.invokevirtual 112, 3) := by decide +kernel
theorem dX6_blow_38 : decode cX6_blow 38 = .ok (.if_icmp .le 6, 3) := by decide +kernel
theorem dX6_blow_41 : decode cX6_blow 41 = .ok (.bipush (-3), 2) := by decide +kernel
theorem dX6_blow_43 : decode cX6_blow 43 = .ok (.ireturn, 1) := by decide +kernel
theorem dX6_blow_44 : decode cX6_blow 44 = .ok (.aload_n 0, 1) := by decide +kernel
theorem dX6_blow_45 : decode cX6_blow 45 = .ok (.getfield 27, 3) := by decide +kernel
theorem dX6_blow_48 : decode cX6_blow 48 = .ok (.dup, 1) := by decide +kernel
theorem dX6_blow_49 : decode cX6_blow 49 = .ok (.getfield 115, 3) := by decide +kernel
theorem dX6_blow_52 : decode cX6_blow 52 = .ok (.iconst 1, 1) := by decide +kernel
theorem dX6_blow_53 : decode cX6_blow 53 = .ok (.iload_n 1, 1) := by decide +kernel
theorem dX6_blow_54 : decode cX6_blow 54 = .ok (.ishl, 1) := by decide +kernel
theorem dX6_blow_55 : decode cX6_blow 55 = .ok (.iconst (-1), 1) := by decide +kernel
theorem dX6_blow_56 : decode cX6_blow 56 = .ok (.ixor, 1) := by decide +kernel
theorem dX6_blow_57 : decode cX6_blow 57 = .ok (.iand, 1) := by decide +kernel
theorem dX6_blow_58 : decode cX6_blow 58 = .ok (.putfield 115, 3) := by decide +kernel
theorem dX6_blow_61 : decode cX6_blow 61 = .ok (.aload_n 0, 1) := by decide +kernel
theorem dX6_blow_62 : decode cX6_blow 62 = .ok (.getfield 27, 3) := by decide +kernel
theorem dX6_blow_65 : decode cX6_blow 65 = .ok (.getfield 115, 3) := by decide +kernel
theorem dX6_blow_68 : decode cX6_blow 68 = .ok (.invokestatic 148, 3) := by decide +kernel
theorem dX6_blow_71 : decode cX6_blow 71 = .ok (.ireturn, 1) := by decide +kernel
set_option maxRecDepth 20000 in
theorem ggX6_shift_X6_isSheet : GoodIn wsX6_shift wsX6_isSheet := goodIn_r _ [16] (by decide +kernel) (by decide +kernel)
set_option maxRecDepth 20000 in
theorem gX6_shift_X6_isSheet : GoodIn wsX6_shift (va_wsS RX6 71 yX6_isSheet wsX6_isSheet) := goodIn_app (goodIn_of _ (by decide +kernel)) ggX6_shift_X6_isSheet
set_option maxRecDepth 20000 in
theorem ggX6_shift_X6_isLane : GoodIn wsX6_shift wsX6_isLane := goodIn_r _ [19] (by decide +kernel) (by decide +kernel)
set_option maxRecDepth 20000 in
theorem gX6_shift_X6_isLane : GoodIn wsX6_shift (va_wsS RX6 75 yX6_isLane wsX6_isLane) := goodIn_app (goodIn_of _ (by decide +kernel)) ggX6_shift_X6_isLane
set_option maxRecDepth 20000 in
theorem ggX6_shift_X6_isOfShift : GoodIn wsX6_shift wsX6_isOfShift := goodIn_r _ [22] (by decide +kernel) (by decide +kernel)
set_option maxRecDepth 20000 in
theorem gX6_shift_X6_isOfShift : GoodIn wsX6_shift (va_wsS RX6 153 yX6_isOfShift wsX6_isOfShift) := goodIn_app (goodIn_of _ (by decide +kernel)) ggX6_shift_X6_isOfShift
set_option maxRecDepth 20000 in
theorem ggX6_shift_X6_takePairs : GoodIn wsX6_shift wsX6_takePairs := goodIn_r _ [26, 27, 5, 9, 10, 6, 28, 29, 30, 31, 32, 33, 34, 35, 36, 37, 38, 39, 40, 41, 42, 15, 43, 1, 44, 45, 46, 47, 7, 48, 49, 50, 51, 52, 53, 54, 55, 56, 57, 145, 146, 147, 148, 123, 124, 125, 126, 127, 128, 129, 130, 131, 132, 133, 134, 135, 136, 137, 138, 139, 140, 141, 142] (by decide +kernel) (by decide +kernel)
set_option maxRecDepth 20000 in
theorem gX6_shift_X6_takePairs : GoodIn wsX6_shift (wsV RX6 156 RX6 yX6_takePairs wsX6_takePairs) := goodIn_app (goodIn_of _ (by decide +kernel)) ggX6_shift_X6_takePairs
set_option maxRecDepth 20000 in
theorem ggX6_shift_X0_becomeLike : GoodIn wsX6_shift wsX0_becomeLike := goodIn_r _ [62, 63, 64, 65, 66, 67, 68, 143, 144] (by decide +kernel) (by decide +kernel)
set_option maxRecDepth 20000 in
theorem gX6_shift_X0_becomeLike : GoodIn wsX6_shift (wsV RX6 160 RX0 yX0_becomeLike wsX0_becomeLike) := goodIn_app (goodIn_of _ (by decide +kernel)) ggX6_shift_X0_becomeLike
set_option maxRecDepth 20000 in
theorem ggX6_shift_X2_breathe : GoodIn wsX6_shift wsX2_breathe := goodIn_r _ [73, 74, 75, 76, 77, 78, 79, 80, 81, 82, 83, 84, 85, 72, 86, 87, 88, 89, 90, 91, 92, 93, 94, 95, 96, 97, 98, 99, 100, 101, 102, 61, 103, 68, 104, 105, 106, 107, 108, 109, 110, 15, 111, 143, 144, 137, 138, 139, 140, 141, 142] (by decide +kernel) (by decide +kernel)
set_option maxRecDepth 20000 in
theorem gX6_shift_X2_breathe : GoodIn wsX6_shift (wsV RX6 133 RX2 yX2_breathe wsX2_breathe) := goodIn_app (goodIn_of _ (by decide +kernel)) ggX6_shift_X2_breathe
set_option maxRecDepth 20000 in
theorem ggX6_shift_J6_bitCount_0f7a4 : GoodIn wsX6_shift wsJ6_bitCount_0f7a4 := goodIn_r _ [115, 116, 117, 118] (by decide +kernel) (by decide +kernel)
set_option maxRecDepth 20000 in
theorem gX6_shift_J6_bitCount_0f7a4 : GoodIn wsX6_shift (va_wsS RX6 148 yJ6_bitCount_0f7a4 wsJ6_bitCount_0f7a4) := goodIn_app (goodIn_of _ (by decide +kernel)) ggX6_shift_J6_bitCount_0f7a4
set_option maxRecDepth 20000 in
theorem ggX6_shift_X6_foulTogether : GoodIn wsX6_shift wsX6_foulTogether := goodIn_r _ [122, 7, 48, 12, 123, 124, 125, 126, 127, 128, 129, 130, 131, 132, 133, 137, 138, 139, 140, 141, 142, 143, 144] (by decide +kernel) (by decide +kernel)
set_option maxRecDepth 20000 in
theorem gX6_shift_X6_foulTogether : GoodIn wsX6_shift (wsV RX6 172 RX6 yX6_foulTogether wsX6_foulTogether) := goodIn_app (goodIn_of _ (by decide +kernel)) ggX6_shift_X6_foulTogether
set_option maxRecDepth 20000 in
theorem ggX6_shift_X6_isGallery : GoodIn wsX6_shift wsX6_isGallery := goodIn_r _ [52, 7, 48, 123, 124, 125, 126, 127, 128, 129, 130, 131, 132, 133, 137, 138, 139, 140, 141, 142] (by decide +kernel) (by decide +kernel)
set_option maxRecDepth 20000 in
theorem gX6_shift_X6_isGallery : GoodIn wsX6_shift (wsV RX6 100 RX6 yX6_isGallery wsX6_isGallery) := goodIn_app (goodIn_of _ (by decide +kernel)) ggX6_shift_X6_isGallery
theorem dX6_shift_0 : decode cX6_shift 0 = .ok (.aload_n 0, 1) := by decide +kernel
theorem dX6_shift_1 : decode cX6_shift 1 = .ok (.iconst 0, 1) := by decide +kernel
theorem dX6_shift_2 : decode cX6_shift 2 = .ok (.putfield 67, 3) := by decide +kernel
theorem dX6_shift_5 : decode cX6_shift 5 = .ok (.iload_n 1, 1) := by decide +kernel
theorem dX6_shift_6 : decode cX6_shift 6 = .ok (.invokestatic 71, 3) := by decide +kernel
theorem dX6_shift_9 : decode cX6_shift 9 = .ok (.ifCond .ne 5, 3) := by decide +kernel
theorem dX6_shift_12 : decode cX6_shift 12 = .ok (.iconst (-1), 1) := by decide +kernel
theorem dX6_shift_13 : decode cX6_shift 13 = .ok (.ireturn, 1) := by decide +kernel
theorem dX6_shift_14 : decode cX6_shift 14 = .ok (.iload_n 2, 1) := by decide +kernel
theorem dX6_shift_15 : decode cX6_shift 15 = .ok (.invokestatic 75, 3) := by decide +kernel
theorem dX6_shift_18 : decode cX6_shift 18 = .ok (.ifCond .eq 23, 3) := by decide +kernel
theorem dX6_shift_21 : decode cX6_shift 21 = .ok (.iload 4, 2) := by decide +kernel
theorem dX6_shift_23 : decode cX6_shift 23 = .ok (.ifCond .lt 18, 3) := by decide +kernel
theorem dX6_shift_26 : decode cX6_shift 26 = .ok (.iload 4, 2) := by decide +kernel
theorem dX6_shift_28 : decode cX6_shift 28 = .ok (.bipush 20, 2) := by decide +kernel
theorem dX6_shift_30 : decode cX6_shift 30 = .ok (.if_icmp .gt 11, 3) := by decide +kernel
theorem dX6_shift_33 : decode cX6_shift 33 = .ok (.iload 5, 2) := by decide +kernel
theorem dX6_shift_35 : decode cX6_shift 35 = .ok (.invokestatic 153, 3) := by decide +kernel
theorem dX6_shift_38 : decode cX6_shift 38 = .ok (.ifCond .ne 6, 3) := by decide +kernel
theorem dX6_shift_41 : decode cX6_shift 41 = .ok (.bipush (-2), 2) := by decide +kernel
theorem dX6_shift_43 : decode cX6_shift 43 = .ok (.ireturn, 1) := by decide +kernel
theorem dX6_shift_44 : decode cX6_shift 44 = .ok (.aload_n 0, 1) := by decide +kernel
theorem dX6_shift_45 : decode cX6_shift 45 = .ok (.aload_n 0, 1) := by decide +kernel
theorem dX6_shift_46 : decode cX6_shift 46 = .ok (.getfield 13, 3) := by decide +kernel
theorem dX6_shift_49 : decode cX6_shift 49 = .ok (.iload_n 1, 1) := by decide +kernel
theorem dX6_shift_50 : decode cX6_shift 50 = .ok (.aaload, 1) := by decide +kernel
theorem dX6_shift_51 : decode cX6_shift 51 = .ok (.iload_n 2, 1) := by decide +kernel
theorem dX6_shift_52 : decode cX6_shift 52 = .ok (.iload_n 3, 1) := by decide +kernel
theorem dX6_shift_53 : decode cX6_shift 53 = .ok (.iload 4, 2) := by decide +kernel
theorem dX6_shift_55 : decode cX6_shift 55 = .ok (.invokevirtual 156, 3) := by decide +kernel
theorem dX6_shift_58 : decode cX6_shift 58 = .ok (.istore 6, 2) := by decide +kernel
theorem dX6_shift_60 : decode cX6_shift 60 = .ok (.iload 6, 2) := by decide +kernel
theorem dX6_shift_62 : decode cX6_shift 62 = .ok (.ifCond .eq 6, 3) := by decide +kernel
theorem dX6_shift_65 : decode cX6_shift 65 = .ok (.iload 6, 2) := by decide +kernel
theorem dX6_shift_67 : decode cX6_shift 67 = .ok (.ireturn, 1) := by decide +kernel
theorem dX6_shift_68 : decode cX6_shift 68 = .ok (.aload_n 0, 1) := by decide +kernel
theorem dX6_shift_69 : decode cX6_shift 69 = .ok (.getfield 45, 3) := by decide +kernel
theorem dX6_shift_72 : decode cX6_shift 72 = .ok (.iconst 0, 1) := by decide +kernel
theorem dX6_shift_73 : decode cX6_shift 73 = .ok (.aaload, 1) := by decide +kernel
theorem dX6_shift_74 : decode cX6_shift 74 = .ok (.astore 7, 2) := by decide +kernel
theorem dX6_shift_76 : decode cX6_shift 76 = .ok (.aload 7, 2) := by decide +kernel
theorem dX6_shift_78 : decode cX6_shift 78 = .ok (.aload_n 0, 1) := by decide +kernel
theorem dX6_shift_79 : decode cX6_shift 79 = .ok (.getfield 27, 3) := by decide +kernel
theorem dX6_shift_82 : decode cX6_shift 82 = .ok (.invokevirtual 160, 3) := by decide +kernel
theorem dX6_shift_85 : decode cX6_shift 85 = .ok (.iconst 0, 1) := by decide +kernel
theorem dX6_shift_86 : decode cX6_shift 86 = .ok (.istore 8, 2) := by decide +kernel
theorem dX6_shift_88 : decode cX6_shift 88 = .ok (.bipush (-9), 2) := by decide +kernel
theorem dX6_shift_90 : decode cX6_shift 90 = .ok (.istore 9, 2) := by decide +kernel
theorem dX6_shift_92 : decode cX6_shift 92 = .ok (.iconst 0, 1) := by decide +kernel
theorem dX6_shift_93 : decode cX6_shift 93 = .ok (.istore 10, 2) := by decide +kernel
theorem dX6_shift_95 : decode cX6_shift 95 = .ok (.iload 10, 2) := by decide +kernel
theorem dX6_shift_97 : decode cX6_shift 97 = .ok (.aload_n 0, 1) := by decide +kernel
theorem dX6_shift_98 : decode cX6_shift 98 = .ok (.getfield 41, 3) := by decide +kernel
theorem dX6_shift_101 : decode cX6_shift 101 = .ok (.getfield 164, 3) := by decide +kernel
theorem dX6_shift_104 : decode cX6_shift 104 = .ok (.if_icmp .ge 70, 3) := by decide +kernel
theorem dX6_shift_107 : decode cX6_shift 107 = .ok (.aload_n 0, 1) := by decide +kernel
theorem dX6_shift_108 : decode cX6_shift 108 = .ok (.getfield 20, 3) := by decide +kernel
theorem dX6_shift_111 : decode cX6_shift 111 = .ok (.aload 7, 2) := by decide +kernel
theorem dX6_shift_113 : decode cX6_shift 113 = .ok (.aload_n 0, 1) := by decide +kernel
theorem dX6_shift_114 : decode cX6_shift 114 = .ok (.getfield 20, 3) := by decide +kernel
theorem dX6_shift_117 : decode cX6_shift 117 = .ok (.getfield 121, 3) := by decide +kernel
theorem dX6_shift_120 : decode cX6_shift 120 = .ok (.aload_n 0, 1) := by decide +kernel
theorem dX6_shift_121 : decode cX6_shift 121 = .ok (.getfield 41, 3) := by decide +kernel
theorem dX6_shift_124 : decode cX6_shift 124 = .ok (.getfield 167, 3) := by decide +kernel
theorem dX6_shift_127 : decode cX6_shift 127 = .ok (.iload 10, 2) := by decide +kernel
theorem dX6_shift_129 : decode cX6_shift 129 = .ok (.iaload, 1) := by decide +kernel
theorem dX6_shift_130 : decode cX6_shift 130 = .ok (.aload_n 0, 1) := by decide +kernel
theorem dX6_shift_131 : decode cX6_shift 131 = .ok (.getfield 41, 3) := by decide +kernel
theorem dX6_shift_134 : decode cX6_shift 134 = .ok (.getfield 169, 3) := by decide +kernel
theorem dX6_shift_137 : decode cX6_shift 137 = .ok (.iload 10, 2) := by decide +kernel
theorem dX6_shift_139 : decode cX6_shift 139 = .ok (.iaload, 1) := by decide +kernel
theorem dX6_shift_140 : decode cX6_shift 140 = .ok (.invokevirtual 133, 3) := by decide +kernel
theorem dX6_shift_143 : decode cX6_shift 143 = .ok (.istore 11, 2) := by decide +kernel
theorem dX6_shift_145 : decode cX6_shift 145 = .ok (.iload 11, 2) := by decide +kernel
theorem dX6_shift_147 : decode cX6_shift 147 = .ok (.ifCond .eq 14, 3) := by decide +kernel
theorem dX6_shift_150 : decode cX6_shift 150 = .ok (.iload 9, 2) := by decide +kernel
theorem dX6_shift_152 : decode cX6_shift 152 = .ok (.bipush (-9), 2) := by decide +kernel
theorem dX6_shift_154 : decode cX6_shift 154 = .ok (.if_icmp .ne 7, 3) := by decide +kernel
theorem dX6_shift_157 : decode cX6_shift 157 = .ok (.iload 10, 2) := by decide +kernel
theorem dX6_shift_159 : decode cX6_shift 159 = .ok (.istore 9, 2) := by decide +kernel
theorem dX6_shift_161 : decode cX6_shift 161 = .ok (.iload 8, 2) := by decide +kernel
theorem dX6_shift_163 : decode cX6_shift 163 = .ok (.iload 11, 2) := by decide +kernel
theorem dX6_shift_165 : decode cX6_shift 165 = .ok (.ior, 1) := by decide +kernel
theorem dX6_shift_166 : decode cX6_shift 166 = .ok (.istore 8, 2) := by decide +kernel
theorem dX6_shift_168 : decode cX6_shift 168 = .ok (.iinc 10 1, 3) := by decide +kernel
theorem dX6_shift_171 : decode cX6_shift 171 = .ok (.goto (-76), 3) := by decide +kernel
theorem dX6_shift_174 : decode cX6_shift 174 = .ok (.iload 5, 2) := by decide +kernel
theorem dX6_shift_176 : decode cX6_shift 176 = .ok (.tableswitch 54 0 3 #[32, 38, 41, 47], 32) := by decide +kernel
theorem dX6_shift_208 : decode cX6_shift 208 = .ok (.iload 8, 2) := by decide +kernel
theorem dX6_shift_210 : decode cX6_shift 210 = .ok (.invokestatic 148, 3) := by decide +kernel
theorem dX6_shift_213 : decode cX6_shift 213 = .ok (.ireturn, 1) := by decide +kernel
theorem dX6_shift_214 : decode cX6_shift 214 = .ok (.iload 9, 2) := by decide +kernel
theorem dX6_shift_216 : decode cX6_shift 216 = .ok (.ireturn, 1) := by decide +kernel
theorem dX6_shift_217 : decode cX6_shift 217 = .ok (.aload 7, 2) := by decide +kernel
theorem dX6_shift_219 : decode cX6_shift 219 = .ok (.getfield 115, 3) := by decide +kernel
theorem dX6_shift_222 : decode cX6_shift 222 = .ok (.ireturn, 1) := by decide +kernel
theorem dX6_shift_223 : decode cX6_shift 223 = .ok (.aload_n 0, 1) := by decide +kernel
theorem dX6_shift_224 : decode cX6_shift 224 = .ok (.aload 7, 2) := by decide +kernel
theorem dX6_shift_226 : decode cX6_shift 226 = .ok (.invokevirtual 172, 3) := by decide +kernel
theorem dX6_shift_229 : decode cX6_shift 229 = .ok (.ireturn, 1) := by decide +kernel
theorem dX6_shift_230 : decode cX6_shift 230 = .ok (.aload_n 0, 1) := by decide +kernel
theorem dX6_shift_231 : decode cX6_shift 231 = .ok (.iload 5, 2) := by decide +kernel
theorem dX6_shift_233 : decode cX6_shift 233 = .ok (.bipush 10, 2) := by decide +kernel
theorem dX6_shift_235 : decode cX6_shift 235 = .ok (.isub, 1) := by decide +kernel
theorem dX6_shift_236 : decode cX6_shift 236 = .ok (.invokevirtual 100, 3) := by decide +kernel
theorem dX6_shift_239 : decode cX6_shift 239 = .ok (.ifCond .eq 17, 3) := by decide +kernel
theorem dX6_shift_242 : decode cX6_shift 242 = .ok (.aload 7, 2) := by decide +kernel
theorem dX6_shift_244 : decode cX6_shift 244 = .ok (.getfield 106, 3) := by decide +kernel
theorem dX6_shift_247 : decode cX6_shift 247 = .ok (.iload 5, 2) := by decide +kernel
theorem dX6_shift_249 : decode cX6_shift 249 = .ok (.bipush 10, 2) := by decide +kernel
theorem dX6_shift_251 : decode cX6_shift 251 = .ok (.isub, 1) := by decide +kernel
theorem dX6_shift_252 : decode cX6_shift 252 = .ok (.iaload, 1) := by decide +kernel
theorem dX6_shift_253 : decode cX6_shift 253 = .ok (.goto 5, 3) := by decide +kernel
theorem dX6_shift_256 : decode cX6_shift 256 = .ok (.bipush (-9), 2) := by decide +kernel
theorem dX6_shift_258 : decode cX6_shift 258 = .ok (.ireturn, 1) := by decide +kernel
set_option maxRecDepth 20000 in
theorem ggX6_order_X6_isSheet : GoodIn wsX6_order wsX6_isSheet := goodIn_r _ [12] (by decide +kernel) (by decide +kernel)
set_option maxRecDepth 20000 in
theorem gX6_order_X6_isSheet : GoodIn wsX6_order (va_wsS RX6 71 yX6_isSheet wsX6_isSheet) := goodIn_app (goodIn_of _ (by decide +kernel)) ggX6_order_X6_isSheet
set_option maxRecDepth 20000 in
theorem ggX6_order_X6_isLane : GoodIn wsX6_order wsX6_isLane := goodIn_r _ [15] (by decide +kernel) (by decide +kernel)
set_option maxRecDepth 20000 in
theorem gX6_order_X6_isLane : GoodIn wsX6_order (va_wsS RX6 75 yX6_isLane wsX6_isLane) := goodIn_app (goodIn_of _ (by decide +kernel)) ggX6_order_X6_isLane
set_option maxRecDepth 20000 in
theorem ggX6_order_X6_takePairs : GoodIn wsX6_order wsX6_takePairs := goodIn_r _ [19, 20, 3, 21, 22, 4, 23, 24, 25, 26, 27, 28, 29, 30, 31, 32, 33, 34, 35, 36, 37, 11, 38, 1, 39, 40, 41, 42, 7, 43, 44, 45, 46, 47, 48, 49, 50, 51, 52, 125, 126, 127, 128, 111, 112, 113, 114, 115, 116, 117, 118, 119, 120, 121, 122, 123, 124, 129, 130, 131, 132, 133, 134] (by decide +kernel) (by decide +kernel)
set_option maxRecDepth 20000 in
theorem gX6_order_X6_takePairs : GoodIn wsX6_order (wsV RX6 156 RX6 yX6_takePairs wsX6_takePairs) := goodIn_app (goodIn_of _ (by decide +kernel)) ggX6_order_X6_takePairs
set_option maxRecDepth 20000 in
theorem ggX6_order_X0_becomeLike : GoodIn wsX6_order wsX0_becomeLike := goodIn_r _ [57, 58, 59, 60, 61, 62, 63, 135, 136] (by decide +kernel) (by decide +kernel)
set_option maxRecDepth 20000 in
theorem gX6_order_X0_becomeLike : GoodIn wsX6_order (wsV RX6 160 RX0 yX0_becomeLike wsX0_becomeLike) := goodIn_app (goodIn_of _ (by decide +kernel)) ggX6_order_X0_becomeLike
set_option maxRecDepth 20000 in
theorem ggX6_order_X6_endsOrder : GoodIn wsX6_order wsX6_endsOrder := goodIn_r _ [66, 4, 67, 21, 22, 53, 54, 55, 56, 57, 58, 59, 60, 61, 62, 63, 68, 69, 70, 71, 72, 73, 74, 75, 76, 77, 78, 79, 80, 81, 82, 83, 84, 85, 86, 87, 88, 89, 90, 91, 92, 93, 94, 95, 96, 97, 98, 99, 100, 101, 102, 103, 104, 105, 106, 107, 108, 109, 11, 110, 64, 65, 122, 123, 124, 129, 130, 131, 132, 133, 134, 135, 136] (by decide +kernel) (by decide +kernel)
set_option maxRecDepth 20000 in
theorem gX6_order_X6_endsOrder : GoodIn wsX6_order (va_wsS RX6 176 yX6_endsOrder wsX6_endsOrder) := goodIn_app (goodIn_of _ (by decide +kernel)) ggX6_order_X6_endsOrder
theorem dX6_order_0 : decode cX6_order 0 = .ok (.aload_n 0, 1) := by decide +kernel
theorem dX6_order_1 : decode cX6_order 1 = .ok (.iconst 0, 1) := by decide +kernel
theorem dX6_order_2 : decode cX6_order 2 = .ok (.putfield 67, 3) := by decide +kernel
theorem dX6_order_5 : decode cX6_order 5 = .ok (.iload_n 1, 1) := by decide +kernel
theorem dX6_order_6 : decode cX6_order 6 = .ok (.invokestatic 71, 3) := by decide +kernel
theorem dX6_order_9 : decode cX6_order 9 = .ok (.ifCond .ne 5, 3) := by decide +kernel
theorem dX6_order_12 : decode cX6_order 12 = .ok (.iconst (-1), 1) := by decide +kernel
theorem dX6_order_13 : decode cX6_order 13 = .ok (.ireturn, 1) := by decide +kernel
theorem dX6_order_14 : decode cX6_order 14 = .ok (.iload_n 2, 1) := by decide +kernel
theorem dX6_order_15 : decode cX6_order 15 = .ok (.invokestatic 75, 3) := by decide +kernel
theorem dX6_order_18 : decode cX6_order 18 = .ok (.ifCond .eq 27, 3) := by decide +kernel
theorem dX6_order_21 : decode cX6_order 21 = .ok (.iload 4, 2) := by decide +kernel
theorem dX6_order_23 : decode cX6_order 23 = .ok (.ifCond .lt 22, 3) := by decide +kernel
theorem dX6_order_26 : decode cX6_order 26 = .ok (.iload 4, 2) := by decide +kernel
theorem dX6_order_28 : decode cX6_order 28 = .ok (.bipush 6, 2) := by decide +kernel
theorem dX6_order_30 : decode cX6_order 30 = .ok (.if_icmp .gt 15, 3) := by decide +kernel
theorem dX6_order_33 : decode cX6_order 33 = .ok (.iload 5, 2) := by decide +kernel
theorem dX6_order_35 : decode cX6_order 35 = .ok (.ifCond .lt 10, 3) := by decide +kernel
theorem dX6_order_38 : decode cX6_order 38 = .ok (.iload 5, 2) := by decide +kernel
theorem dX6_order_40 : decode cX6_order 40 = .ok (.bipush 6, 2) := by decide +kernel
theorem dX6_order_42 : decode cX6_order 42 = .ok (.if_icmp .lt 6, 3) := by decide +kernel
theorem dX6_order_45 : decode cX6_order 45 = .ok (.bipush (-2), 2) := by decide +kernel
theorem dX6_order_47 : decode cX6_order 47 = .ok (.ireturn, 1) := by decide +kernel
theorem dX6_order_48 : decode cX6_order 48 = .ok (.aload_n 0, 1) := by decide +kernel
theorem dX6_order_49 : decode cX6_order 49 = .ok (.aload_n 0, 1) := by decide +kernel
theorem dX6_order_50 : decode cX6_order 50 = .ok (.getfield 13, 3) := by decide +kernel
theorem dX6_order_53 : decode cX6_order 53 = .ok (.iload_n 1, 1) := by decide +kernel
theorem dX6_order_54 : decode cX6_order 54 = .ok (.aaload, 1) := by decide +kernel
theorem dX6_order_55 : decode cX6_order 55 = .ok (.iload_n 2, 1) := by decide +kernel
theorem dX6_order_56 : decode cX6_order 56 = .ok (.iload_n 3, 1) := by decide +kernel
theorem dX6_order_57 : decode cX6_order 57 = .ok (.iload 4, 2) := by decide +kernel
theorem dX6_order_59 : decode cX6_order 59 = .ok (.invokevirtual 156, 3) := by decide +kernel
theorem dX6_order_62 : decode cX6_order 62 = .ok (.istore 6, 2) := by decide +kernel
theorem dX6_order_64 : decode cX6_order 64 = .ok (.iload 6, 2) := by decide +kernel
theorem dX6_order_66 : decode cX6_order 66 = .ok (.ifCond .eq 6, 3) := by decide +kernel
theorem dX6_order_69 : decode cX6_order 69 = .ok (.iload 6, 2) := by decide +kernel
theorem dX6_order_71 : decode cX6_order 71 = .ok (.ireturn, 1) := by decide +kernel
theorem dX6_order_72 : decode cX6_order 72 = .ok (.iload 5, 2) := by decide +kernel
theorem dX6_order_74 : decode cX6_order 74 = .ok (.aload_n 0, 1) := by decide +kernel
theorem dX6_order_75 : decode cX6_order 75 = .ok (.getfield 41, 3) := by decide +kernel
theorem dX6_order_78 : decode cX6_order 78 = .ok (.getfield 164, 3) := by decide +kernel
theorem dX6_order_81 : decode cX6_order 81 = .ok (.if_icmp .lt 6, 3) := by decide +kernel
theorem dX6_order_84 : decode cX6_order 84 = .ok (.bipush (-9), 2) := by decide +kernel
theorem dX6_order_86 : decode cX6_order 86 = .ok (.ireturn, 1) := by decide +kernel
theorem dX6_order_87 : decode cX6_order 87 = .ok (.aload_n 0, 1) := by decide +kernel
theorem dX6_order_88 : decode cX6_order 88 = .ok (.getfield 45, 3) := by decide +kernel
theorem dX6_order_91 : decode cX6_order 91 = .ok (.iconst 0, 1) := by decide +kernel
theorem dX6_order_92 : decode cX6_order 92 = .ok (.aaload, 1) := by decide +kernel
theorem dX6_order_93 : decode cX6_order 93 = .ok (.aload_n 0, 1) := by decide +kernel
theorem dX6_order_94 : decode cX6_order 94 = .ok (.getfield 27, 3) := by decide +kernel
theorem dX6_order_97 : decode cX6_order 97 = .ok (.invokevirtual 160, 3) := by decide +kernel
theorem dX6_order_100 : decode cX6_order 100 = .ok (.aload_n 0, 1) := by decide +kernel
theorem dX6_order_101 : decode cX6_order 101 = .ok (.getfield 20, 3) := by decide +kernel
theorem dX6_order_104 : decode cX6_order 104 = .ok (.aload_n 0, 1) := by decide +kernel
theorem dX6_order_105 : decode cX6_order 105 = .ok (.getfield 41, 3) := by decide +kernel
theorem dX6_order_108 : decode cX6_order 108 = .ok (.aload_n 0, 1) := by decide +kernel
theorem dX6_order_109 : decode cX6_order 109 = .ok (.getfield 45, 3) := by decide +kernel
theorem dX6_order_112 : decode cX6_order 112 = .ok (.aload_n 0, 1) := by decide +kernel
theorem dX6_order_113 : decode cX6_order 113 = .ok (.getfield 49, 3) := by decide +kernel
theorem dX6_order_116 : decode cX6_order 116 = .ok (.iconst 0, 1) := by decide +kernel
theorem dX6_order_117 : decode cX6_order 117 = .ok (.iconst 0, 1) := by decide +kernel
theorem dX6_order_118 : decode cX6_order 118 = .ok (.invokestatic 176, 3) := by decide +kernel
theorem dX6_order_121 : decode cX6_order 121 = .ok (.ifCond .eq 13, 3) := by decide +kernel
theorem dX6_order_124 : decode cX6_order 124 = .ok (.aload_n 0, 1) := by decide +kernel
theorem dX6_order_125 : decode cX6_order 125 = .ok (.getfield 49, 3) := by decide +kernel
theorem dX6_order_128 : decode cX6_order 128 = .ok (.iload 5, 2) := by decide +kernel
theorem dX6_order_130 : decode cX6_order 130 = .ok (.iaload, 1) := by decide +kernel
theorem dX6_order_131 : decode cX6_order 131 = .ok (.goto 5, 3) := by decide +kernel
theorem dX6_order_134 : decode cX6_order 134 = .ok (.bipush (-9), 2) := by decide +kernel
theorem dX6_order_136 : decode cX6_order 136 = .ok (.ireturn, 1) := by decide +kernel
set_option maxRecDepth 20000 in
theorem ggX6_shut_X6_isSheet : GoodIn wsX6_shut wsX6_isSheet := goodIn_r _ [8] (by decide +kernel) (by decide +kernel)
set_option maxRecDepth 20000 in
theorem gX6_shut_X6_isSheet : GoodIn wsX6_shut (va_wsS RX6 71 yX6_isSheet wsX6_isSheet) := goodIn_app (goodIn_of _ (by decide +kernel)) ggX6_shut_X6_isSheet
set_option maxRecDepth 20000 in
theorem ggX6_shut_X6_isLane : GoodIn wsX6_shut wsX6_isLane := goodIn_r _ [11] (by decide +kernel) (by decide +kernel)
set_option maxRecDepth 20000 in
theorem gX6_shut_X6_isLane : GoodIn wsX6_shut (va_wsS RX6 75 yX6_isLane wsX6_isLane) := goodIn_app (goodIn_of _ (by decide +kernel)) ggX6_shut_X6_isLane
set_option maxRecDepth 20000 in
theorem ggX6_shut_X6_takePairs : GoodIn wsX6_shut wsX6_takePairs := goodIn_r _ [15, 16, 17, 18, 19, 20, 21, 22, 23, 24, 25, 26, 27, 28, 29, 30, 31, 32, 33, 34, 35, 7, 36, 1, 37, 38, 39, 40, 3, 4, 41, 42, 43, 44, 45, 46, 47, 48, 49, 134, 135, 136, 137, 117, 118, 119, 120, 121, 122, 123, 124, 125, 126, 127, 138, 139, 140, 128, 129, 130, 131, 132, 133] (by decide +kernel) (by decide +kernel)
set_option maxRecDepth 20000 in
theorem gX6_shut_X6_takePairs : GoodIn wsX6_shut (wsV RX6 156 RX6 yX6_takePairs wsX6_takePairs) := goodIn_app (goodIn_of _ (by decide +kernel)) ggX6_shut_X6_takePairs
set_option maxRecDepth 20000 in
theorem ggX6_shut_X6_dropsWithDoors : GoodIn wsX6_shut wsX6_dropsWithDoors := goodIn_r _ [53, 54, 55, 17, 20, 3, 18, 19, 56, 57, 58, 59, 60, 61, 62, 63, 64, 65, 66, 67, 68, 69, 70, 71, 72, 73, 74, 75, 76, 77, 78, 79, 80, 81, 82, 83, 84, 85, 86, 87, 88, 89, 90, 91, 92, 93, 94, 95, 96, 97, 98, 99, 100, 101, 102, 103, 104, 105, 106, 107, 108, 7, 109, 110, 111, 112, 113, 114, 115, 116, 117, 118, 119, 120, 121, 122, 123, 124, 125, 126, 127, 138, 139, 140, 141, 142, 128, 129, 130, 131, 132, 133] (by decide +kernel) (by decide +kernel)
set_option maxRecDepth 20000 in
theorem gX6_shut_X6_dropsWithDoors : GoodIn wsX6_shut (wsV RX6 180 RX6 yX6_dropsWithDoors wsX6_dropsWithDoors) := goodIn_app (goodIn_of _ (by decide +kernel)) ggX6_shut_X6_dropsWithDoors
set_option maxRecDepth 20000 in
theorem ggX6_shut_J6_bitCount_0f7a4 : GoodIn wsX6_shut wsJ6_bitCount_0f7a4 := goodIn_r _ [113, 114, 115, 116] (by decide +kernel) (by decide +kernel)
set_option maxRecDepth 20000 in
theorem gX6_shut_J6_bitCount_0f7a4 : GoodIn wsX6_shut (va_wsS RX6 148 yJ6_bitCount_0f7a4 wsJ6_bitCount_0f7a4) := goodIn_app (goodIn_of _ (by decide +kernel)) ggX6_shut_J6_bitCount_0f7a4
theorem dX6_shut_0 : decode cX6_shut 0 = .ok (.aload_n 0, 1) := by decide +kernel
theorem dX6_shut_1 : decode cX6_shut 1 = .ok (.iconst 0, 1) := by decide +kernel
theorem dX6_shut_2 : decode cX6_shut 2 = .ok (.putfield 67, 3) := by decide +kernel
theorem dX6_shut_5 : decode cX6_shut 5 = .ok (.iload_n 1, 1) := by decide +kernel
theorem dX6_shut_6 : decode cX6_shut 6 = .ok (.invokestatic 71, 3) := by decide +kernel
theorem dX6_shut_9 : decode cX6_shut 9 = .ok (.ifCond .ne 5, 3) := by decide +kernel
theorem dX6_shut_12 : decode cX6_shut 12 = .ok (.iconst (-1), 1) := by decide +kernel
theorem dX6_shut_13 : decode cX6_shut 13 = .ok (.ireturn, 1) := by decide +kernel
theorem dX6_shut_14 : decode cX6_shut 14 = .ok (.iload_n 2, 1) := by decide +kernel
theorem dX6_shut_15 : decode cX6_shut 15 = .ok (.invokestatic 75, 3) := by decide +kernel
theorem dX6_shut_18 : decode cX6_shut 18 = .ok (.ifCond .eq 26, 3) := by decide +kernel
theorem dX6_shut_21 : decode cX6_shut 21 = .ok (.iload 4, 2) := by decide +kernel
theorem dX6_shut_23 : decode cX6_shut 23 = .ok (.ifCond .lt 21, 3) := by decide +kernel
theorem dX6_shut_26 : decode cX6_shut 26 = .ok (.iload 4, 2) := by decide +kernel
theorem dX6_shut_28 : decode cX6_shut 28 = .ok (.bipush 20, 2) := by decide +kernel
theorem dX6_shut_30 : decode cX6_shut 30 = .ok (.if_icmp .gt 14, 3) := by decide +kernel
theorem dX6_shut_33 : decode cX6_shut 33 = .ok (.iload 5, 2) := by decide +kernel
theorem dX6_shut_35 : decode cX6_shut 35 = .ok (.ifCond .lt 9, 3) := by decide +kernel
theorem dX6_shut_38 : decode cX6_shut 38 = .ok (.iload 5, 2) := by decide +kernel
theorem dX6_shut_40 : decode cX6_shut 40 = .ok (.iconst 1, 1) := by decide +kernel
theorem dX6_shut_41 : decode cX6_shut 41 = .ok (.if_icmp .le 6, 3) := by decide +kernel
theorem dX6_shut_44 : decode cX6_shut 44 = .ok (.bipush (-2), 2) := by decide +kernel
theorem dX6_shut_46 : decode cX6_shut 46 = .ok (.ireturn, 1) := by decide +kernel
theorem dX6_shut_47 : decode cX6_shut 47 = .ok (.aload_n 0, 1) := by decide +kernel
theorem dX6_shut_48 : decode cX6_shut 48 = .ok (.aload_n 0, 1) := by decide +kernel
theorem dX6_shut_49 : decode cX6_shut 49 = .ok (.getfield 13, 3) := by decide +kernel
theorem dX6_shut_52 : decode cX6_shut 52 = .ok (.iload_n 1, 1) := by decide +kernel
theorem dX6_shut_53 : decode cX6_shut 53 = .ok (.aaload, 1) := by decide +kernel
theorem dX6_shut_54 : decode cX6_shut 54 = .ok (.iload_n 2, 1) := by decide +kernel
theorem dX6_shut_55 : decode cX6_shut 55 = .ok (.iload_n 3, 1) := by decide +kernel
theorem dX6_shut_56 : decode cX6_shut 56 = .ok (.iload 4, 2) := by decide +kernel
theorem dX6_shut_58 : decode cX6_shut 58 = .ok (.invokevirtual 156, 3) := by decide +kernel
theorem dX6_shut_61 : decode cX6_shut 61 = .ok (.istore 6, 2) := by decide +kernel
theorem dX6_shut_63 : decode cX6_shut 63 = .ok (.iload 6, 2) := by decide +kernel
theorem dX6_shut_65 : decode cX6_shut 65 = .ok (.ifCond .eq 6, 3) := by decide +kernel
theorem dX6_shut_68 : decode cX6_shut 68 = .ok (.iload 6, 2) := by decide +kernel
theorem dX6_shut_70 : decode cX6_shut 70 = .ok (.ireturn, 1) := by decide +kernel
theorem dX6_shut_71 : decode cX6_shut 71 = .ok (.iconst 0, 1) := by decide +kernel
theorem dX6_shut_72 : decode cX6_shut 72 = .ok (.istore 7, 2) := by decide +kernel
theorem dX6_shut_74 : decode cX6_shut 74 = .ok (.aload_n 0, 1) := by decide +kernel
theorem dX6_shut_75 : decode cX6_shut 75 = .ok (.iconst 0, 1) := by decide +kernel
theorem dX6_shut_76 : decode cX6_shut 76 = .ok (.invokevirtual 180, 3) := by decide +kernel
theorem dX6_shut_79 : decode cX6_shut 79 = .ok (.istore 8, 2) := by decide +kernel
theorem dX6_shut_81 : decode cX6_shut 81 = .ok (.iconst 1, 1) := by decide +kernel
theorem dX6_shut_82 : decode cX6_shut 82 = .ok (.istore 9, 2) := by decide +kernel
theorem dX6_shut_84 : decode cX6_shut 84 = .ok (.iload 9, 2) := by decide +kernel
theorem dX6_shut_86 : decode cX6_shut 86 = .ok (.iconst 1, 1) := by decide +kernel
theorem dX6_shut_87 : decode cX6_shut 87 = .ok (.aload_n 0, 1) := by decide +kernel
theorem dX6_shut_88 : decode cX6_shut 88 = .ok (.getfield 20, 3) := by decide +kernel
theorem dX6_shut_91 : decode cX6_shut 91 = .ok (.getfield 97, 3) := by decide +kernel
theorem dX6_shut_94 : decode cX6_shut 94 = .ok (.iconst 1, 1) := by decide +kernel
theorem dX6_shut_95 : decode cX6_shut 95 = .ok (.isub, 1) := by decide +kernel
theorem dX6_shut_96 : decode cX6_shut 96 = .ok (.ishl, 1) := by decide +kernel
theorem dX6_shut_97 : decode cX6_shut 97 = .ok (.if_icmp .ge 52, 3) := by decide +kernel
theorem dX6_shut_100 : decode cX6_shut 100 = .ok (.aload_n 0, 1) := by decide +kernel
theorem dX6_shut_101 : decode cX6_shut 101 = .ok (.iload 9, 2) := by decide +kernel
theorem dX6_shut_103 : decode cX6_shut 103 = .ok (.invokevirtual 180, 3) := by decide +kernel
theorem dX6_shut_106 : decode cX6_shut 106 = .ok (.istore 10, 2) := by decide +kernel
theorem dX6_shut_108 : decode cX6_shut 108 = .ok (.iload 10, 2) := by decide +kernel
theorem dX6_shut_110 : decode cX6_shut 110 = .ok (.iload 8, 2) := by decide +kernel
theorem dX6_shut_112 : decode cX6_shut 112 = .ok (.if_icmp .lt 23, 3) := by decide +kernel
theorem dX6_shut_115 : decode cX6_shut 115 = .ok (.iload 10, 2) := by decide +kernel
theorem dX6_shut_117 : decode cX6_shut 117 = .ok (.iload 8, 2) := by decide +kernel
theorem dX6_shut_119 : decode cX6_shut 119 = .ok (.if_icmp .ne 24, 3) := by decide +kernel
theorem dX6_shut_122 : decode cX6_shut 122 = .ok (.iload 9, 2) := by decide +kernel
theorem dX6_shut_124 : decode cX6_shut 124 = .ok (.invokestatic 148, 3) := by decide +kernel
theorem dX6_shut_127 : decode cX6_shut 127 = .ok (.iload 7, 2) := by decide +kernel
theorem dX6_shut_129 : decode cX6_shut 129 = .ok (.invokestatic 148, 3) := by decide +kernel
theorem dX6_shut_132 : decode cX6_shut 132 = .ok (.if_icmp .ge 11, 3) := by decide +kernel
theorem dX6_shut_135 : decode cX6_shut 135 = .ok (.iload 9, 2) := by decide +kernel
theorem dX6_shut_137 : decode cX6_shut 137 = .ok (.istore 7, 2) := by decide +kernel
theorem dX6_shut_139 : decode cX6_shut 139 = .ok (.iload 10, 2) := by decide +kernel
theorem dX6_shut_141 : decode cX6_shut 141 = .ok (.istore 8, 2) := by decide +kernel
theorem dX6_shut_143 : decode cX6_shut 143 = .ok (.iinc 9 1, 3) := by decide +kernel
theorem dX6_shut_146 : decode cX6_shut 146 = .ok (.goto (-62), 3) := by decide +kernel
theorem dX6_shut_149 : decode cX6_shut 149 = .ok (.iload 5, 2) := by decide +kernel
theorem dX6_shut_151 : decode cX6_shut 151 = .ok (.ifCond .ne 8, 3) := by decide +kernel
theorem dX6_shut_154 : decode cX6_shut 154 = .ok (.iload 7, 2) := by decide +kernel
theorem dX6_shut_156 : decode cX6_shut 156 = .ok (.goto 5, 3) := by decide +kernel
theorem dX6_shut_159 : decode cX6_shut 159 = .ok (.iload 8, 2) := by decide +kernel
theorem dX6_shut_161 : decode cX6_shut 161 = .ok (.ireturn, 1) := by decide +kernel
set_option maxRecDepth 20000 in
theorem ggX6_rests_X6_hasMine : GoodIn wsX6_rests wsX6_hasMine := goodIn_r _ [9, 3, 10, 33, 34, 35, 36, 37, 38, 39, 40, 41, 42, 43, 44, 45, 46, 47, 48, 49] (by decide +kernel) (by decide +kernel)
set_option maxRecDepth 20000 in
theorem gX6_rests_X6_hasMine : GoodIn wsX6_rests (wsV RX6 137 RX6 yX6_hasMine wsX6_hasMine) := goodIn_app (goodIn_of _ (by decide +kernel)) ggX6_rests_X6_hasMine
set_option maxRecDepth 20000 in
theorem ggX6_rests_X0_becomeLike : GoodIn wsX6_rests wsX0_becomeLike := goodIn_r _ [15, 16, 17, 18, 19, 20, 21, 50, 51] (by decide +kernel) (by decide +kernel)
set_option maxRecDepth 20000 in
theorem gX6_rests_X0_becomeLike : GoodIn wsX6_rests (wsV RX6 160 RX0 yX0_becomeLike wsX0_becomeLike) := goodIn_app (goodIn_of _ (by decide +kernel)) ggX6_rests_X0_becomeLike
set_option maxRecDepth 20000 in
theorem ggX6_rests_X2_passAir : GoodIn wsX6_rests wsX2_passAir := goodIn_r _ [26, 27, 28, 29, 30, 31, 32, 44, 45, 46, 47, 48, 49, 50, 51] (by decide +kernel) (by decide +kernel)
set_option maxRecDepth 20000 in
theorem gX6_rests_X2_passAir : GoodIn wsX6_rests (wsV RX6 183 RX2 yX2_passAir wsX2_passAir) := goodIn_app (goodIn_of _ (by decide +kernel)) ggX6_rests_X2_passAir
theorem dX6_rests_0 : decode cX6_rests 0 = .ok (.aload_n 0, 1) := by decide +kernel
theorem dX6_rests_1 : decode cX6_rests 1 = .ok (.invokevirtual 137, 3) := by decide +kernel
theorem dX6_rests_4 : decode cX6_rests 4 = .ok (.ifCond .ne 6, 3) := by decide +kernel
theorem dX6_rests_7 : decode cX6_rests 7 = .ok (.bipush (-3), 2) := by decide +kernel
theorem dX6_rests_9 : decode cX6_rests 9 = .ok (.ireturn, 1) := by decide +kernel
theorem dX6_rests_10 : decode cX6_rests 10 = .ok (.aload_n 0, 1) := by decide +kernel
theorem dX6_rests_11 : decode cX6_rests 11 = .ok (.getfield 45, 3) := by decide +kernel
theorem dX6_rests_14 : decode cX6_rests 14 = .ok (.iconst 0, 1) := by decide +kernel
theorem dX6_rests_15 : decode cX6_rests 15 = .ok (.aaload, 1) := by decide +kernel
theorem dX6_rests_16 : decode cX6_rests 16 = .ok (.astore_n 1, 1) := by decide +kernel
theorem dX6_rests_17 : decode cX6_rests 17 = .ok (.aload_n 1, 1) := by decide +kernel
theorem dX6_rests_18 : decode cX6_rests 18 = .ok (.aload_n 0, 1) := by decide +kernel
theorem dX6_rests_19 : decode cX6_rests 19 = .ok (.getfield 27, 3) := by decide +kernel
theorem dX6_rests_22 : decode cX6_rests 22 = .ok (.invokevirtual 160, 3) := by decide +kernel
theorem dX6_rests_25 : decode cX6_rests 25 = .ok (.iconst 0, 1) := by decide +kernel
theorem dX6_rests_26 : decode cX6_rests 26 = .ok (.istore_n 2, 1) := by decide +kernel
theorem dX6_rests_27 : decode cX6_rests 27 = .ok (.iload_n 2, 1) := by decide +kernel
theorem dX6_rests_28 : decode cX6_rests 28 = .ok (.bipush 60, 2) := by decide +kernel
theorem dX6_rests_30 : decode cX6_rests 30 = .ok (.if_icmp .gt 29, 3) := by decide +kernel
theorem dX6_rests_33 : decode cX6_rests 33 = .ok (.aload_n 0, 1) := by decide +kernel
theorem dX6_rests_34 : decode cX6_rests 34 = .ok (.getfield 20, 3) := by decide +kernel
theorem dX6_rests_37 : decode cX6_rests 37 = .ok (.aload_n 1, 1) := by decide +kernel
theorem dX6_rests_38 : decode cX6_rests 38 = .ok (.aload_n 0, 1) := by decide +kernel
theorem dX6_rests_39 : decode cX6_rests 39 = .ok (.getfield 20, 3) := by decide +kernel
theorem dX6_rests_42 : decode cX6_rests 42 = .ok (.getfield 121, 3) := by decide +kernel
theorem dX6_rests_45 : decode cX6_rests 45 = .ok (.invokevirtual 183, 3) := by decide +kernel
theorem dX6_rests_48 : decode cX6_rests 48 = .ok (.ifCond .ne 5, 3) := by decide +kernel
theorem dX6_rests_51 : decode cX6_rests 51 = .ok (.iload_n 2, 1) := by decide +kernel
theorem dX6_rests_52 : decode cX6_rests 52 = .ok (.ireturn, 1) := by decide +kernel
theorem dX6_rests_53 : decode cX6_rests 53 = .ok (.iinc 2 1, 3) := by decide +kernel
theorem dX6_rests_56 : decode cX6_rests 56 = .ok (.goto (-29), 3) := by decide +kernel
theorem dX6_rests_59 : decode cX6_rests 59 = .ok (.bipush (-9), 2) := by decide +kernel
theorem dX6_rests_61 : decode cX6_rests 61 = .ok (.ireturn, 1) := by decide +kernel
set_option maxRecDepth 20000 in
theorem ggX6_clears_X6_isGallery : GoodIn wsX6_clears wsX6_isGallery := goodIn_r _ [10, 4, 11, 37, 38, 39, 40, 41, 42, 43, 44, 45, 46, 47, 50, 51, 52, 53, 54, 55] (by decide +kernel) (by decide +kernel)
set_option maxRecDepth 20000 in
theorem gX6_clears_X6_isGallery : GoodIn wsX6_clears (wsV RX6 100 RX6 yX6_isGallery wsX6_isGallery) := goodIn_app (goodIn_of _ (by decide +kernel)) ggX6_clears_X6_isGallery
set_option maxRecDepth 20000 in
theorem ggX6_clears_X6_isFoul : GoodIn wsX6_clears wsX6_isFoul := goodIn_r _ [14] (by decide +kernel) (by decide +kernel)
set_option maxRecDepth 20000 in
theorem gX6_clears_X6_isFoul : GoodIn wsX6_clears (va_wsS RX6 130 yX6_isFoul wsX6_isFoul) := goodIn_app (goodIn_of _ (by decide +kernel)) ggX6_clears_X6_isFoul
set_option maxRecDepth 20000 in
theorem ggX6_clears_X0_becomeLike : GoodIn wsX6_clears wsX0_becomeLike := goodIn_r _ [19, 20, 21, 22, 23, 24, 25, 48, 49] (by decide +kernel) (by decide +kernel)
set_option maxRecDepth 20000 in
theorem gX6_clears_X0_becomeLike : GoodIn wsX6_clears (wsV RX6 160 RX0 yX0_becomeLike wsX0_becomeLike) := goodIn_app (goodIn_of _ (by decide +kernel)) ggX6_clears_X0_becomeLike
set_option maxRecDepth 20000 in
theorem ggX6_clears_X2_passAir : GoodIn wsX6_clears wsX2_passAir := goodIn_r _ [30, 31, 32, 33, 34, 35, 36, 50, 51, 52, 53, 54, 55, 48, 49] (by decide +kernel) (by decide +kernel)
set_option maxRecDepth 20000 in
theorem gX6_clears_X2_passAir : GoodIn wsX6_clears (wsV RX6 183 RX2 yX2_passAir wsX2_passAir) := goodIn_app (goodIn_of _ (by decide +kernel)) ggX6_clears_X2_passAir
theorem dX6_clears_0 : decode cX6_clears 0 = .ok (.aload_n 0, 1) := by decide +kernel
theorem dX6_clears_1 : decode cX6_clears 1 = .ok (.iload_n 1, 1) := by decide +kernel
theorem dX6_clears_2 : decode cX6_clears 2 = .ok (.invokevirtual 100, 3) := by decide +kernel
theorem dX6_clears_5 : decode cX6_clears 5 = .ok (.ifCond .ne 5, 3) := by decide +kernel
theorem dX6_clears_8 : decode cX6_clears 8 = .ok (.iconst (-1), 1) := by decide +kernel
theorem dX6_clears_9 : decode cX6_clears 9 = .ok (.ireturn, 1) := by decide +kernel
theorem dX6_clears_10 : decode cX6_clears 10 = .ok (.iload_n 2, 1) := by decide +kernel
theorem dX6_clears_11 : decode cX6_clears 11 = .ok (.invokestatic 130, 3) := by decide +kernel
theorem dX6_clears_14 : decode cX6_clears 14 = .ok (.ifCond .ne 6, 3) := by decide +kernel
theorem dX6_clears_17 : decode cX6_clears 17 = .ok (.bipush (-2), 2) := by decide +kernel
theorem dX6_clears_19 : decode cX6_clears 19 = .ok (.ireturn, 1) := by decide +kernel
theorem dX6_clears_20 : decode cX6_clears 20 = .ok (.aload_n 0, 1) := by decide +kernel
theorem dX6_clears_21 : decode cX6_clears 21 = .ok (.getfield 45, 3) := by decide +kernel
theorem dX6_clears_24 : decode cX6_clears 24 = .ok (.iconst 0, 1) := by decide +kernel
theorem dX6_clears_25 : decode cX6_clears 25 = .ok (.aaload, 1) := by decide +kernel
theorem dX6_clears_26 : decode cX6_clears 26 = .ok (.astore_n 3, 1) := by decide +kernel
theorem dX6_clears_27 : decode cX6_clears 27 = .ok (.aload_n 3, 1) := by decide +kernel
theorem dX6_clears_28 : decode cX6_clears 28 = .ok (.aload_n 0, 1) := by decide +kernel
theorem dX6_clears_29 : decode cX6_clears 29 = .ok (.getfield 27, 3) := by decide +kernel
theorem dX6_clears_32 : decode cX6_clears 32 = .ok (.invokevirtual 160, 3) := by decide +kernel
theorem dX6_clears_35 : decode cX6_clears 35 = .ok (.iconst 0, 1) := by decide +kernel
theorem dX6_clears_36 : decode cX6_clears 36 = .ok (.istore 4, 2) := by decide +kernel
theorem dX6_clears_38 : decode cX6_clears 38 = .ok (.iload 4, 2) := by decide +kernel
theorem dX6_clears_40 : decode cX6_clears 40 = .ok (.bipush 60, 2) := by decide +kernel
theorem dX6_clears_42 : decode cX6_clears 42 = .ok (.if_icmp .gt 38, 3) := by decide +kernel
theorem dX6_clears_45 : decode cX6_clears 45 = .ok (.aload_n 3, 1) := by decide +kernel
theorem dX6_clears_46 : decode cX6_clears 46 = .ok (.getfield 106, 3) := by decide +kernel
theorem dX6_clears_49 : decode cX6_clears 49 = .ok (.iload_n 1, 1) := by decide +kernel
theorem dX6_clears_50 : decode cX6_clears 50 = .ok (.iaload, 1) := by decide +kernel
theorem dX6_clears_51 : decode cX6_clears 51 = .ok (.iload_n 2, 1) := by decide +kernel
theorem dX6_clears_52 : decode cX6_clears 52 = .ok (.if_icmp .gt 6, 3) := by decide +kernel
theorem dX6_clears_55 : decode cX6_clears 55 = .ok (.iload 4, 2) := by decide +kernel
theorem dX6_clears_57 : decode cX6_clears 57 = .ok (.ireturn, 1) := by decide +kernel
theorem dX6_clears_58 : decode cX6_clears 58 = .ok (.aload_n 0, 1) := by decide +kernel
theorem dX6_clears_59 : decode cX6_clears 59 = .ok (.getfield 20, 3) := by decide +kernel
theorem dX6_clears_62 : decode cX6_clears 62 = .ok (.aload_n 3, 1) := by decide +kernel
theorem dX6_clears_63 : decode cX6_clears 63 = .ok (.aload_n 0, 1) := by decide +kernel
theorem dX6_clears_64 : decode cX6_clears 64 = .ok (.getfield 20, 3) := by decide +kernel
theorem dX6_clears_67 : decode cX6_clears 67 = .ok (.getfield 121, 3) := by decide +kernel
theorem dX6_clears_70 : decode cX6_clears 70 = .ok (.invokevirtual 183, 3) := by decide +kernel
theorem dX6_clears_73 : decode cX6_clears 73 = .ok (.pop, 1) := by decide +kernel
theorem dX6_clears_74 : decode cX6_clears 74 = .ok (.iinc 4 1, 3) := by decide +kernel
theorem dX6_clears_77 : decode cX6_clears 77 = .ok (.goto (-39), 3) := by decide +kernel
theorem dX6_clears_80 : decode cX6_clears 80 = .ok (.bipush (-9), 2) := by decide +kernel
theorem dX6_clears_82 : decode cX6_clears 82 = .ok (.ireturn, 1) := by decide +kernel
set_option maxRecDepth 20000 in
theorem ggX6_perches_X6_hasMine : GoodIn wsX6_perches wsX6_hasMine := goodIn_r _ [11, 1, 2, 38, 39, 40, 41, 42, 43, 44, 45, 46, 47, 48, 49, 50, 51, 52, 53, 54] (by decide +kernel) (by decide +kernel)
set_option maxRecDepth 20000 in
theorem gX6_perches_X6_hasMine : GoodIn wsX6_perches (wsV RX6 137 RX6 yX6_hasMine wsX6_hasMine) := goodIn_app (goodIn_of _ (by decide +kernel)) ggX6_perches_X6_hasMine
set_option maxRecDepth 20000 in
theorem ggX6_perches_X6_seatFrom : GoodIn wsX6_perches wsX6_seatFrom := goodIn_r _ [14, 2, 4, 15, 16, 17, 18, 19, 20, 21, 22, 23, 24, 25, 26, 27, 28, 29, 30, 31, 32, 33, 34, 35, 36, 10, 37, 12, 13, 49, 50, 51, 52, 53, 54, 55, 56, 57, 58, 59] (by decide +kernel) (by decide +kernel)
set_option maxRecDepth 20000 in
theorem gX6_perches_X6_seatFrom : GoodIn wsX6_perches (va_wsS RX6 189 yX6_seatFrom wsX6_seatFrom) := goodIn_app (goodIn_of _ (by decide +kernel)) ggX6_perches_X6_seatFrom
theorem dX6_perches_0 : decode cX6_perches 0 = .ok (.iload_n 1, 1) := by decide +kernel
theorem dX6_perches_1 : decode cX6_perches 1 = .ok (.iconst (-1), 1) := by decide +kernel
theorem dX6_perches_2 : decode cX6_perches 2 = .ok (.if_icmp .lt 9, 3) := by decide +kernel
theorem dX6_perches_5 : decode cX6_perches 5 = .ok (.iload_n 1, 1) := by decide +kernel
theorem dX6_perches_6 : decode cX6_perches 6 = .ok (.bipush 6, 2) := by decide +kernel
theorem dX6_perches_8 : decode cX6_perches 8 = .ok (.if_icmp .lt 6, 3) := by decide +kernel
theorem dX6_perches_11 : decode cX6_perches 11 = .ok (.bipush (-2), 2) := by decide +kernel
theorem dX6_perches_13 : decode cX6_perches 13 = .ok (.ireturn, 1) := by decide +kernel
theorem dX6_perches_14 : decode cX6_perches 14 = .ok (.aload_n 0, 1) := by decide +kernel
theorem dX6_perches_15 : decode cX6_perches 15 = .ok (.invokevirtual 137, 3) := by decide +kernel
theorem dX6_perches_18 : decode cX6_perches 18 = .ok (.ifCond .ne 6, 3) := by decide +kernel
theorem dX6_perches_21 : decode cX6_perches 21 = .ok (.bipush (-3), 2) := by decide +kernel
theorem dX6_perches_23 : decode cX6_perches 23 = .ok (.ireturn, 1) := by decide +kernel
theorem dX6_perches_24 : decode cX6_perches 24 = .ok (.iload_n 1, 1) := by decide +kernel
theorem dX6_perches_25 : decode cX6_perches 25 = .ok (.aload_n 0, 1) := by decide +kernel
theorem dX6_perches_26 : decode cX6_perches 26 = .ok (.getfield 20, 3) := by decide +kernel
theorem dX6_perches_29 : decode cX6_perches 29 = .ok (.getfield 97, 3) := by decide +kernel
theorem dX6_perches_32 : decode cX6_perches 32 = .ok (.if_icmp .lt 6, 3) := by decide +kernel
theorem dX6_perches_35 : decode cX6_perches 35 = .ok (.bipush (-9), 2) := by decide +kernel
theorem dX6_perches_37 : decode cX6_perches 37 = .ok (.ireturn, 1) := by decide +kernel
theorem dX6_perches_38 : decode cX6_perches 38 = .ok (.aload_n 0, 1) := by decide +kernel
theorem dX6_perches_39 : decode cX6_perches 39 = .ok (.getfield 56, 3) := by decide +kernel
theorem dX6_perches_42 : decode cX6_perches 42 = .ok (.iconst (-1), 1) := by decide +kernel
theorem dX6_perches_43 : decode cX6_perches 43 = .ok (.putfield 186, 3) := by decide +kernel
theorem dX6_perches_46 : decode cX6_perches 46 = .ok (.aload_n 0, 1) := by decide +kernel
theorem dX6_perches_47 : decode cX6_perches 47 = .ok (.getfield 20, 3) := by decide +kernel
theorem dX6_perches_50 : decode cX6_perches 50 = .ok (.aload_n 0, 1) := by decide +kernel
theorem dX6_perches_51 : decode cX6_perches 51 = .ok (.getfield 27, 3) := by decide +kernel
theorem dX6_perches_54 : decode cX6_perches 54 = .ok (.aload_n 0, 1) := by decide +kernel
theorem dX6_perches_55 : decode cX6_perches 55 = .ok (.getfield 56, 3) := by decide +kernel
theorem dX6_perches_58 : decode cX6_perches 58 = .ok (.iconst 0, 1) := by decide +kernel
theorem dX6_perches_59 : decode cX6_perches 59 = .ok (.iconst 0, 1) := by decide +kernel
theorem dX6_perches_60 : decode cX6_perches 60 = .ok (.iconst 0, 1) := by decide +kernel
theorem dX6_perches_61 : decode cX6_perches 61 = .ok (.invokestatic 189, 3) := by decide +kernel
theorem dX6_perches_64 : decode cX6_perches 64 = .ok (.iload_n 1, 1) := by decide +kernel
theorem dX6_perches_65 : decode cX6_perches 65 = .ok (.iconst (-1), 1) := by decide +kernel
theorem dX6_perches_66 : decode cX6_perches 66 = .ok (.if_icmp .ne 13, 3) := by decide +kernel
theorem dX6_perches_69 : decode cX6_perches 69 = .ok (.aload_n 0, 1) := by decide +kernel
theorem dX6_perches_70 : decode cX6_perches 70 = .ok (.getfield 56, 3) := by decide +kernel
theorem dX6_perches_73 : decode cX6_perches 73 = .ok (.getfield 186, 3) := by decide +kernel
theorem dX6_perches_76 : decode cX6_perches 76 = .ok (.goto 12, 3) := by decide +kernel
theorem dX6_perches_79 : decode cX6_perches 79 = .ok (.aload_n 0, 1) := by decide +kernel
theorem dX6_perches_80 : decode cX6_perches 80 = .ok (.getfield 56, 3) := by decide +kernel
