theorem dX7_init_0 : decode cX7_init 0 = .ok (.aload_n 0, 1) := by decide +kernel
theorem dX7_init_1 : decode cX7_init 1 = .ok (.invokespecial 1, 3) := by decide +kernel
theorem dX7_init_4 : decode cX7_init 4 = .ok (.aload_n 0, 1) := by decide +kernel
theorem dX7_init_5 : decode cX7_init 5 = .ok (.iconst 4, 1) := by decide +kernel
theorem dX7_init_6 : decode cX7_init 6 = .ok (.newarray .int, 2) := by decide +kernel
theorem dX7_init_8 : decode cX7_init 8 = .ok (.dup, 1) := by decide +kernel
theorem dX7_init_9 : decode cX7_init 9 = .ok (.iconst 0, 1) := by decide +kernel
theorem dX7_init_10 : decode cX7_init 10 = .ok (.bipush (-9), 2) := by decide +kernel
theorem dX7_init_12 : decode cX7_init 12 = .ok (.iastore, 1) := by decide +kernel
theorem dX7_init_13 : decode cX7_init 13 = .ok (.dup, 1) := by decide +kernel
theorem dX7_init_14 : decode cX7_init 14 = .ok (.iconst 1, 1) := by decide +kernel
theorem dX7_init_15 : decode cX7_init 15 = .ok (.bipush (-9), 2) := by decide +kernel
theorem dX7_init_17 : decode cX7_init 17 = .ok (.iastore, 1) := by decide +kernel
theorem dX7_init_18 : decode cX7_init 18 = .ok (.dup, 1) := by decide +kernel
theorem dX7_init_19 : decode cX7_init 19 = .ok (.iconst 2, 1) := by decide +kernel
theorem dX7_init_20 : decode cX7_init 20 = .ok (.bipush (-9), 2) := by decide +kernel
theorem dX7_init_22 : decode cX7_init 22 = .ok (.iastore, 1) := by decide +kernel
theorem dX7_init_23 : decode cX7_init 23 = .ok (.dup, 1) := by decide +kernel
theorem dX7_init_24 : decode cX7_init 24 = .ok (.iconst 3, 1) := by decide +kernel
theorem dX7_init_25 : decode cX7_init 25 = .ok (.bipush (-9), 2) := by decide +kernel
theorem dX7_init_27 : decode cX7_init 27 = .ok (.iastore, 1) := by decide +kernel
theorem dX7_init_28 : decode cX7_init 28 = .ok (.putfield 9, 3) := by decide +kernel
theorem dX7_init_31 : decode cX7_init 31 = .ok (.aload_n 0, 1) := by decide +kernel
theorem dX7_init_32 : decode cX7_init 32 = .ok (.iconst 4, 1) := by decide +kernel
theorem dX7_init_33 : decode cX7_init 33 = .ok (.newarray .int, 2) := by decide +kernel
theorem dX7_init_35 : decode cX7_init 35 = .ok (.putfield 13, 3) := by decide +kernel
theorem dX7_init_38 : decode cX7_init 38 = .ok (.aload_n 0, 1) := by decide +kernel
theorem dX7_init_39 : decode cX7_init 39 = .ok (.sipush 240, 3) := by decide +kernel
theorem dX7_init_42 : decode cX7_init 42 = .ok (.newarray .int, 2) := by decide +kernel
theorem dX7_init_44 : decode cX7_init 44 = .ok (.putfield 16, 3) := by decide +kernel
theorem dX7_init_47 : decode cX7_init 47 = .ok (.aload_n 0, 1) := by decide +kernel
theorem dX7_init_48 : decode cX7_init 48 = .ok (.iconst 4, 1) := by decide +kernel
theorem dX7_init_49 : decode cX7_init 49 = .ok (.newarray .int, 2) := by decide +kernel
theorem dX7_init_51 : decode cX7_init 51 = .ok (.putfield 19, 3) := by decide +kernel
theorem dX7_init_54 : decode cX7_init 54 = .ok (.aload_n 0, 1) := by decide +kernel
theorem dX7_init_55 : decode cX7_init 55 = .ok (.bipush 6, 2) := by decide +kernel
theorem dX7_init_57 : decode cX7_init 57 = .ok (.newarray .int, 2) := by decide +kernel
theorem dX7_init_59 : decode cX7_init 59 = .ok (.putfield 22, 3) := by decide +kernel
theorem dX7_init_62 : decode cX7_init 62 = .ok (.aload_n 0, 1) := by decide +kernel
theorem dX7_init_63 : decode cX7_init 63 = .ok (.bipush 6, 2) := by decide +kernel
theorem dX7_init_65 : decode cX7_init 65 = .ok (.newarray .int, 2) := by decide +kernel
theorem dX7_init_67 : decode cX7_init 67 = .ok (.putfield 25, 3) := by decide +kernel
theorem dX7_init_70 : decode cX7_init 70 = .ok (.aload_n 0, 1) := by decide +kernel
theorem dX7_init_71 : decode cX7_init 71 = .ok (.bipush 6, 2) := by decide +kernel
theorem dX7_init_73 : decode cX7_init 73 = .ok (.newarray .int, 2) := by decide +kernel
theorem dX7_init_75 : decode cX7_init 75 = .ok (.putfield 28, 3) := by decide +kernel
theorem dX7_init_78 : decode cX7_init 78 = .ok (.aload_n 0, 1) := by decide +kernel
theorem dX7_init_79 : decode cX7_init 79 = .ok (.iconst 4, 1) := by decide +kernel
theorem dX7_init_80 : decode cX7_init 80 = .ok (.newarray .int, 2) := by decide +kernel
theorem dX7_init_82 : decode cX7_init 82 = .ok (.putfield 31, 3) := by decide +kernel
theorem dX7_init_85 : decode cX7_init 85 = .ok (.aload_n 0, 1) := by decide +kernel
theorem dX7_init_86 : decode cX7_init 86 = .ok (.bipush 24, 2) := by decide +kernel
theorem dX7_init_88 : decode cX7_init 88 = .ok (.newarray .int, 2) := by decide +kernel
theorem dX7_init_90 : decode cX7_init 90 = .ok (.putfield 34, 3) := by decide +kernel
theorem dX7_init_93 : decode cX7_init 93 = .ok (.aload_n 0, 1) := by decide +kernel
theorem dX7_init_94 : decode cX7_init 94 = .ok (.bipush 6, 2) := by decide +kernel
theorem dX7_init_96 : decode cX7_init 96 = .ok (.newarray .int, 2) := by decide +kernel
theorem dX7_init_98 : decode cX7_init 98 = .ok (.putfield 37, 3) := by decide +kernel
theorem dX7_init_101 : decode cX7_init 101 = .ok (.aload_n 0, 1) := by decide +kernel
theorem dX7_init_102 : decode cX7_init 102 = .ok (.bipush 6, 2) := by decide +kernel
theorem dX7_init_104 : decode cX7_init 104 = .ok (.newarray .int, 2) := by decide +kernel
theorem dX7_init_106 : decode cX7_init 106 = .ok (.putfield 40, 3) := by decide +kernel
theorem dX7_init_109 : decode cX7_init 109 = .ok (.aload_n 0, 1) := by decide +kernel
theorem dX7_init_110 : decode cX7_init 110 = .ok (.bipush 6, 2) := by decide +kernel
theorem dX7_init_112 : decode cX7_init 112 = .ok (.newarray .int, 2) := by decide +kernel
theorem dX7_init_114 : decode cX7_init 114 = .ok (.putfield 43, 3) := by decide +kernel
theorem dX7_init_117 : decode cX7_init 117 = .ok (.aload_n 0, 1) := by decide +kernel
theorem dX7_init_118 : decode cX7_init 118 = .ok (.bipush 8, 2) := by decide +kernel
theorem dX7_init_120 : decode cX7_init 120 = .ok (.newarray .int, 2) := by decide +kernel
theorem dX7_init_122 : decode cX7_init 122 = .ok (.putfield 46, 3) := by decide +kernel
theorem dX7_init_125 : decode cX7_init 125 = .ok (.aload_n 0, 1) := by decide +kernel
theorem dX7_init_126 : decode cX7_init 126 = .ok (.bipush 8, 2) := by decide +kernel
theorem dX7_init_128 : decode cX7_init 128 = .ok (.newarray .int, 2) := by decide +kernel
theorem dX7_init_130 : decode cX7_init 130 = .ok (.putfield 49, 3) := by decide +kernel
theorem dX7_init_133 : decode cX7_init 133 = .ok (.aload_n 0, 1) := by decide +kernel
theorem dX7_init_134 : decode cX7_init 134 = .ok (.bipush 8, 2) := by decide +kernel
theorem dX7_init_136 : decode cX7_init 136 = .ok (.newarray .int, 2) := by decide +kernel
theorem dX7_init_138 : decode cX7_init 138 = .ok (.putfield 52, 3) := by decide +kernel
theorem dX7_init_141 : decode cX7_init 141 = .ok (.return_, 1) := by decide +kernel
theorem dX7_fails_0 : decode cX7_fails 0 = .ok (.aload_n 0, 1) := by decide +kernel
theorem dX7_fails_1 : decode cX7_fails 1 = .ok (.iload_n 1, 1) := by decide +kernel
theorem dX7_fails_2 : decode cX7_fails 2 = .ok (.putfield 55, 3) := by decide +kernel
theorem dX7_fails_5 : decode cX7_fails 5 = .ok (.bipush (-10), 2) := by decide +kernel
theorem dX7_fails_7 : decode cX7_fails 7 = .ok (.iload_n 1, 1) := by decide +kernel
theorem dX7_fails_8 : decode cX7_fails 8 = .ok (.isub, 1) := by decide +kernel
theorem dX7_fails_9 : decode cX7_fails 9 = .ok (.ireturn, 1) := by decide +kernel
theorem dX7_lost_0 : decode cX7_lost 0 = .ok (.aload_n 0, 1) := by decide +kernel
theorem dX7_lost_1 : decode cX7_lost 1 = .ok (.iload_n 1, 1) := by decide +kernel
theorem dX7_lost_2 : decode cX7_lost 2 = .ok (.putfield 55, 3) := by decide +kernel
theorem dX7_lost_5 : decode cX7_lost 5 = .ok (.ldc2_w 59, 3) := by decide +kernel
theorem dX7_lost_8 : decode cX7_lost 8 = .ok (.lreturn, 1) := by decide +kernel
theorem dX7_within_0 : decode cX7_within 0 = .ok (.iload_n 0, 1) := by decide +kernel
theorem dX7_within_1 : decode cX7_within 1 = .ok (.iload_n 1, 1) := by decide +kernel
theorem dX7_within_2 : decode cX7_within 2 = .ok (.if_icmp .lt 12, 3) := by decide +kernel
theorem dX7_within_5 : decode cX7_within 5 = .ok (.iload_n 0, 1) := by decide +kernel
theorem dX7_within_6 : decode cX7_within 6 = .ok (.iload_n 2, 1) := by decide +kernel
theorem dX7_within_7 : decode cX7_within 7 = .ok (.if_icmp .gt 7, 3) := by decide +kernel
theorem dX7_within_10 : decode cX7_within 10 = .ok (.iconst 1, 1) := by decide +kernel
theorem dX7_within_11 : decode cX7_within 11 = .ok (.goto 4, 3) := by decide +kernel
theorem dX7_within_14 : decode cX7_within 14 = .ok (.iconst 0, 1) := by decide +kernel
theorem dX7_within_15 : decode cX7_within 15 = .ok (.ireturn, 1) := by decide +kernel
set_option maxRecDepth 20000 in
theorem ggX7_isSheet_X7_within : GoodIn wsX7_isSheet wsX7_within := goodIn_r _ [4] (by decide +kernel) (by decide +kernel)
set_option maxRecDepth 20000 in
theorem gX7_isSheet_X7_within : GoodIn wsX7_isSheet (va_wsS RX7 61 yX7_within wsX7_within) := goodIn_app (goodIn_of _ (by decide +kernel)) ggX7_isSheet_X7_within
theorem dX7_isSheet_0 : decode cX7_isSheet 0 = .ok (.iload_n 0, 1) := by decide +kernel
theorem dX7_isSheet_1 : decode cX7_isSheet 1 = .ok (.iconst 0, 1) := by decide +kernel
theorem dX7_isSheet_2 : decode cX7_isSheet 2 = .ok (.iconst 3, 1) := by decide +kernel
theorem dX7_isSheet_3 : decode cX7_isSheet 3 = .ok (.invokestatic 61, 3) := by decide +kernel
theorem dX7_isSheet_6 : decode cX7_isSheet 6 = .ok (.ireturn, 1) := by decide +kernel
set_option maxRecDepth 20000 in
theorem ggX7_isSort_X7_within : GoodIn wsX7_isSort wsX7_within := goodIn_r _ [4] (by decide +kernel) (by decide +kernel)
set_option maxRecDepth 20000 in
theorem gX7_isSort_X7_within : GoodIn wsX7_isSort (va_wsS RX7 61 yX7_within wsX7_within) := goodIn_app (goodIn_of _ (by decide +kernel)) ggX7_isSort_X7_within
theorem dX7_isSort_0 : decode cX7_isSort 0 = .ok (.iload_n 0, 1) := by decide +kernel
theorem dX7_isSort_1 : decode cX7_isSort 1 = .ok (.iconst 0, 1) := by decide +kernel
theorem dX7_isSort_2 : decode cX7_isSort 2 = .ok (.iconst 2, 1) := by decide +kernel
theorem dX7_isSort_3 : decode cX7_isSort 3 = .ok (.invokestatic 61, 3) := by decide +kernel
theorem dX7_isSort_6 : decode cX7_isSort 6 = .ok (.ireturn, 1) := by decide +kernel
theorem dX7_against_0 : decode cX7_against 0 = .ok (.aload_n 0, 1) := by decide +kernel
theorem dX7_against_1 : decode cX7_against 1 = .ok (.getfield 9, 3) := by decide +kernel
theorem dX7_against_4 : decode cX7_against 4 = .ok (.iload_n 1, 1) := by decide +kernel
theorem dX7_against_5 : decode cX7_against 5 = .ok (.iaload, 1) := by decide +kernel
theorem dX7_against_6 : decode cX7_against 6 = .ok (.bipush (-9), 2) := by decide +kernel
theorem dX7_against_8 : decode cX7_against 8 = .ok (.if_icmp .eq 15, 3) := by decide +kernel
theorem dX7_against_11 : decode cX7_against 11 = .ok (.aload_n 0, 1) := by decide +kernel
theorem dX7_against_12 : decode cX7_against 12 = .ok (.getfield 9, 3) := by decide +kernel
theorem dX7_against_15 : decode cX7_against 15 = .ok (.iload_n 1, 1) := by decide +kernel
theorem dX7_against_16 : decode cX7_against 16 = .ok (.iaload, 1) := by decide +kernel
theorem dX7_against_17 : decode cX7_against 17 = .ok (.iload_n 2, 1) := by decide +kernel
theorem dX7_against_18 : decode cX7_against 18 = .ok (.if_icmp .eq 5, 3) := by decide +kernel
theorem dX7_against_21 : decode cX7_against 21 = .ok (.iconst 2, 1) := by decide +kernel
theorem dX7_against_22 : decode cX7_against 22 = .ok (.ireturn, 1) := by decide +kernel
theorem dX7_against_23 : decode cX7_against 23 = .ok (.aload_n 0, 1) := by decide +kernel
theorem dX7_against_24 : decode cX7_against 24 = .ok (.getfield 9, 3) := by decide +kernel
theorem dX7_against_27 : decode cX7_against 27 = .ok (.iload_n 1, 1) := by decide +kernel
theorem dX7_against_28 : decode cX7_against 28 = .ok (.iaload, 1) := by decide +kernel
theorem dX7_against_29 : decode cX7_against 29 = .ok (.bipush (-9), 2) := by decide +kernel
theorem dX7_against_31 : decode cX7_against 31 = .ok (.if_icmp .ne 5, 3) := by decide +kernel
theorem dX7_against_34 : decode cX7_against 34 = .ok (.iconst 1, 1) := by decide +kernel
theorem dX7_against_35 : decode cX7_against 35 = .ok (.ireturn, 1) := by decide +kernel
theorem dX7_against_36 : decode cX7_against 36 = .ok (.iload 4, 2) := by decide +kernel
theorem dX7_against_38 : decode cX7_against 38 = .ok (.ifCond .ge 5, 3) := by decide +kernel
theorem dX7_against_41 : decode cX7_against 41 = .ok (.iconst 4, 1) := by decide +kernel
theorem dX7_against_42 : decode cX7_against 42 = .ok (.ireturn, 1) := by decide +kernel
theorem dX7_against_43 : decode cX7_against 43 = .ok (.iload_n 3, 1) := by decide +kernel
theorem dX7_against_44 : decode cX7_against 44 = .ok (.ifCond .lt 26, 3) := by decide +kernel
theorem dX7_against_47 : decode cX7_against 47 = .ok (.iload_n 3, 1) := by decide +kernel
theorem dX7_against_48 : decode cX7_against 48 = .ok (.aload_n 0, 1) := by decide +kernel
theorem dX7_against_49 : decode cX7_against 49 = .ok (.getfield 13, 3) := by decide +kernel
theorem dX7_against_52 : decode cX7_against 52 = .ok (.iload_n 1, 1) := by decide +kernel
theorem dX7_against_53 : decode cX7_against 53 = .ok (.iaload, 1) := by decide +kernel
theorem dX7_against_54 : decode cX7_against 54 = .ok (.if_icmp .gt 16, 3) := by decide +kernel
theorem dX7_against_57 : decode cX7_against 57 = .ok (.iload 4, 2) := by decide +kernel
theorem dX7_against_59 : decode cX7_against 59 = .ok (.aload_n 0, 1) := by decide +kernel
theorem dX7_against_60 : decode cX7_against 60 = .ok (.getfield 13, 3) := by decide +kernel
theorem dX7_against_63 : decode cX7_against 63 = .ok (.iload_n 1, 1) := by decide +kernel
theorem dX7_against_64 : decode cX7_against 64 = .ok (.iaload, 1) := by decide +kernel
theorem dX7_against_65 : decode cX7_against 65 = .ok (.iload_n 3, 1) := by decide +kernel
theorem dX7_against_66 : decode cX7_against 66 = .ok (.isub, 1) := by decide +kernel
theorem dX7_against_67 : decode cX7_against 67 = .ok (.if_icmp .le 7, 3) := by decide +kernel
theorem dX7_against_70 : decode cX7_against 70 = .ok (.iconst 3, 1) := by decide +kernel
theorem dX7_against_71 : decode cX7_against 71 = .ok (.goto 4, 3) := by decide +kernel
theorem dX7_against_74 : decode cX7_against 74 = .ok (.iconst 0, 1) := by decide +kernel
theorem dX7_against_75 : decode cX7_against 75 = .ok (.ireturn, 1) := by decide +kernel
theorem dX7_isGallery_0 : decode cX7_isGallery 0 = .ok (.iload_n 1, 1) := by decide +kernel
theorem dX7_isGallery_1 : decode cX7_isGallery 1 = .ok (.ifCond .lt 15, 3) := by decide +kernel
theorem dX7_isGallery_4 : decode cX7_isGallery 4 = .ok (.iload_n 1, 1) := by decide +kernel
theorem dX7_isGallery_5 : decode cX7_isGallery 5 = .ok (.aload_n 0, 1) := by decide +kernel
theorem dX7_isGallery_6 : decode cX7_isGallery 6 = .ok (.getfield 65, 3) := by decide +kernel
theorem dX7_isGallery_9 : decode cX7_isGallery 9 = .ok (.if_icmp .ge 7, 3) := by decide +kernel
theorem dX7_isGallery_12 : decode cX7_isGallery 12 = .ok (.iconst 1, 1) := by decide +kernel
theorem dX7_isGallery_13 : decode cX7_isGallery 13 = .ok (.goto 4, 3) := by decide +kernel
theorem dX7_isGallery_16 : decode cX7_isGallery 16 = .ok (.iconst 0, 1) := by decide +kernel
theorem dX7_isGallery_17 : decode cX7_isGallery 17 = .ok (.ireturn, 1) := by decide +kernel
theorem dX7_isWord_0 : decode cX7_isWord 0 = .ok (.iload_n 1, 1) := by decide +kernel
theorem dX7_isWord_1 : decode cX7_isWord 1 = .ok (.ifCond .lt 15, 3) := by decide +kernel
theorem dX7_isWord_4 : decode cX7_isWord 4 = .ok (.iload_n 1, 1) := by decide +kernel
theorem dX7_isWord_5 : decode cX7_isWord 5 = .ok (.aload_n 0, 1) := by decide +kernel
theorem dX7_isWord_6 : decode cX7_isWord 6 = .ok (.getfield 68, 3) := by decide +kernel
theorem dX7_isWord_9 : decode cX7_isWord 9 = .ok (.if_icmp .ge 7, 3) := by decide +kernel
theorem dX7_isWord_12 : decode cX7_isWord 12 = .ok (.iconst 1, 1) := by decide +kernel
theorem dX7_isWord_13 : decode cX7_isWord 13 = .ok (.goto 4, 3) := by decide +kernel
theorem dX7_isWord_16 : decode cX7_isWord 16 = .ok (.iconst 0, 1) := by decide +kernel
theorem dX7_isWord_17 : decode cX7_isWord 17 = .ok (.ireturn, 1) := by decide +kernel
theorem dX7_isOf_0 : decode cX7_isOf 0 = .ok (.iload_n 0, 1) := by decide +kernel
theorem dX7_isOf_1 : decode cX7_isOf 1 = .ok (.iload_n 1, 1) := by decide +kernel
theorem dX7_isOf_2 : decode cX7_isOf 2 = .ok (.ishr, 1) := by decide +kernel
theorem dX7_isOf_3 : decode cX7_isOf 3 = .ok (.iconst 1, 1) := by decide +kernel
theorem dX7_isOf_4 : decode cX7_isOf 4 = .ok (.iand, 1) := by decide +kernel
theorem dX7_isOf_5 : decode cX7_isOf 5 = .ok (.iconst 1, 1) := by decide +kernel
theorem dX7_isOf_6 : decode cX7_isOf 6 = .ok (.if_icmp .ne 7, 3) := by decide +kernel
theorem dX7_isOf_9 : decode cX7_isOf 9 = .ok (.iconst 1, 1) := by decide +kernel
theorem dX7_isOf_10 : decode cX7_isOf 10 = .ok (.goto 4, 3) := by decide +kernel
theorem dX7_isOf_13 : decode cX7_isOf 13 = .ok (.iconst 0, 1) := by decide +kernel
theorem dX7_isOf_14 : decode cX7_isOf 14 = .ok (.ireturn, 1) := by decide +kernel
set_option maxRecDepth 20000 in
theorem ggX7_digit_X7_within : GoodIn wsX7_digit wsX7_within := goodIn_r _ [6] (by decide +kernel) (by decide +kernel)
set_option maxRecDepth 20000 in
theorem gX7_digit_X7_within : GoodIn wsX7_digit (va_wsS RX7 61 yX7_within wsX7_within) := goodIn_app (goodIn_of _ (by decide +kernel)) ggX7_digit_X7_within
theorem dX7_digit_0 : decode cX7_digit 0 = .ok (.aload_n 0, 1) := by decide +kernel
theorem dX7_digit_1 : decode cX7_digit 1 = .ok (.getfield 71, 3) := by decide +kernel
theorem dX7_digit_4 : decode cX7_digit 4 = .ok (.iload_n 1, 1) := by decide +kernel
theorem dX7_digit_5 : decode cX7_digit 5 = .ok (.if_icmp .ge 26, 3) := by decide +kernel
theorem dX7_digit_8 : decode cX7_digit 8 = .ok (.aload_n 0, 1) := by decide +kernel
theorem dX7_digit_9 : decode cX7_digit 9 = .ok (.getfield 16, 3) := by decide +kernel
theorem dX7_digit_12 : decode cX7_digit 12 = .ok (.aload_n 0, 1) := by decide +kernel
theorem dX7_digit_13 : decode cX7_digit 13 = .ok (.getfield 71, 3) := by decide +kernel
theorem dX7_digit_16 : decode cX7_digit 16 = .ok (.iaload, 1) := by decide +kernel
theorem dX7_digit_17 : decode cX7_digit 17 = .ok (.bipush 48, 2) := by decide +kernel
theorem dX7_digit_19 : decode cX7_digit 19 = .ok (.iload_n 2, 1) := by decide +kernel
theorem dX7_digit_20 : decode cX7_digit 20 = .ok (.iadd, 1) := by decide +kernel
theorem dX7_digit_21 : decode cX7_digit 21 = .ok (.bipush 48, 2) := by decide +kernel
theorem dX7_digit_23 : decode cX7_digit 23 = .ok (.iload_n 3, 1) := by decide +kernel
theorem dX7_digit_24 : decode cX7_digit 24 = .ok (.iadd, 1) := by decide +kernel
theorem dX7_digit_25 : decode cX7_digit 25 = .ok (.invokestatic 61, 3) := by decide +kernel
theorem dX7_digit_28 : decode cX7_digit 28 = .ok (.ifCond .ne 6, 3) := by decide +kernel
theorem dX7_digit_31 : decode cX7_digit 31 = .ok (.bipush (-9), 2) := by decide +kernel
theorem dX7_digit_33 : decode cX7_digit 33 = .ok (.ireturn, 1) := by decide +kernel
theorem dX7_digit_34 : decode cX7_digit 34 = .ok (.aload_n 0, 1) := by decide +kernel
theorem dX7_digit_35 : decode cX7_digit 35 = .ok (.dup, 1) := by decide +kernel
theorem dX7_digit_36 : decode cX7_digit 36 = .ok (.getfield 71, 3) := by decide +kernel
theorem dX7_digit_39 : decode cX7_digit 39 = .ok (.iconst 1, 1) := by decide +kernel
theorem dX7_digit_40 : decode cX7_digit 40 = .ok (.iadd, 1) := by decide +kernel
theorem dX7_digit_41 : decode cX7_digit 41 = .ok (.putfield 71, 3) := by decide +kernel
theorem dX7_digit_44 : decode cX7_digit 44 = .ok (.aload_n 0, 1) := by decide +kernel
theorem dX7_digit_45 : decode cX7_digit 45 = .ok (.getfield 16, 3) := by decide +kernel
theorem dX7_digit_48 : decode cX7_digit 48 = .ok (.aload_n 0, 1) := by decide +kernel
theorem dX7_digit_49 : decode cX7_digit 49 = .ok (.getfield 71, 3) := by decide +kernel
theorem dX7_digit_52 : decode cX7_digit 52 = .ok (.iconst 1, 1) := by decide +kernel
theorem dX7_digit_53 : decode cX7_digit 53 = .ok (.isub, 1) := by decide +kernel
theorem dX7_digit_54 : decode cX7_digit 54 = .ok (.iaload, 1) := by decide +kernel
theorem dX7_digit_55 : decode cX7_digit 55 = .ok (.bipush 48, 2) := by decide +kernel
theorem dX7_digit_57 : decode cX7_digit 57 = .ok (.isub, 1) := by decide +kernel
theorem dX7_digit_58 : decode cX7_digit 58 = .ok (.ireturn, 1) := by decide +kernel
theorem dX7_isSign_0 : decode cX7_isSign 0 = .ok (.aload_n 0, 1) := by decide +kernel
theorem dX7_isSign_1 : decode cX7_isSign 1 = .ok (.getfield 71, 3) := by decide +kernel
theorem dX7_isSign_4 : decode cX7_isSign 4 = .ok (.iload_n 1, 1) := by decide +kernel
theorem dX7_isSign_5 : decode cX7_isSign 5 = .ok (.if_icmp .ge 16, 3) := by decide +kernel
theorem dX7_isSign_8 : decode cX7_isSign 8 = .ok (.aload_n 0, 1) := by decide +kernel
theorem dX7_isSign_9 : decode cX7_isSign 9 = .ok (.getfield 16, 3) := by decide +kernel
theorem dX7_isSign_12 : decode cX7_isSign 12 = .ok (.aload_n 0, 1) := by decide +kernel
theorem dX7_isSign_13 : decode cX7_isSign 13 = .ok (.getfield 71, 3) := by decide +kernel
theorem dX7_isSign_16 : decode cX7_isSign 16 = .ok (.iaload, 1) := by decide +kernel
theorem dX7_isSign_17 : decode cX7_isSign 17 = .ok (.iload_n 2, 1) := by decide +kernel
theorem dX7_isSign_18 : decode cX7_isSign 18 = .ok (.if_icmp .eq 5, 3) := by decide +kernel
theorem dX7_isSign_21 : decode cX7_isSign 21 = .ok (.iconst 0, 1) := by decide +kernel
theorem dX7_isSign_22 : decode cX7_isSign 22 = .ok (.ireturn, 1) := by decide +kernel
theorem dX7_isSign_23 : decode cX7_isSign 23 = .ok (.aload_n 0, 1) := by decide +kernel
theorem dX7_isSign_24 : decode cX7_isSign 24 = .ok (.dup, 1) := by decide +kernel
theorem dX7_isSign_25 : decode cX7_isSign 25 = .ok (.getfield 71, 3) := by decide +kernel
theorem dX7_isSign_28 : decode cX7_isSign 28 = .ok (.iconst 1, 1) := by decide +kernel
theorem dX7_isSign_29 : decode cX7_isSign 29 = .ok (.iadd, 1) := by decide +kernel
theorem dX7_isSign_30 : decode cX7_isSign 30 = .ok (.putfield 71, 3) := by decide +kernel
theorem dX7_isSign_33 : decode cX7_isSign 33 = .ok (.iconst 1, 1) := by decide +kernel
theorem dX7_isSign_34 : decode cX7_isSign 34 = .ok (.ireturn, 1) := by decide +kernel
set_option maxRecDepth 20000 in
theorem ggX7_mine_X7_isSheet : GoodIn wsX7_mine wsX7_isSheet := goodIn_r _ [7, 8, 9, 6, 10] (by decide +kernel) (by decide +kernel)
set_option maxRecDepth 20000 in
theorem gX7_mine_X7_isSheet : GoodIn wsX7_mine (va_wsS RX7 74 yX7_isSheet wsX7_isSheet) := goodIn_app (goodIn_of _ (by decide +kernel)) ggX7_mine_X7_isSheet
set_option maxRecDepth 20000 in
theorem ggX7_mine_X7_isSort : GoodIn wsX7_mine wsX7_isSort := goodIn_r _ [13, 8, 9, 6, 10] (by decide +kernel) (by decide +kernel)
set_option maxRecDepth 20000 in
theorem gX7_mine_X7_isSort : GoodIn wsX7_mine (va_wsS RX7 78 yX7_isSort wsX7_isSort) := goodIn_app (goodIn_of _ (by decide +kernel)) ggX7_mine_X7_isSort
set_option maxRecDepth 20000 in
theorem ggX7_mine_X7_against : GoodIn wsX7_mine wsX7_against := goodIn_r _ [17, 18, 19, 62, 63, 64, 65, 66, 67, 68, 69, 70, 71, 72, 73, 74, 75, 76, 77, 78, 79, 80, 81, 82, 83, 84, 85, 86, 87, 88, 89, 90] (by decide +kernel) (by decide +kernel)
set_option maxRecDepth 20000 in
theorem gX7_mine_X7_against : GoodIn wsX7_mine (wsV RX7 81 RX7 yX7_against wsX7_against) := goodIn_app (goodIn_of _ (by decide +kernel)) ggX7_mine_X7_against
set_option maxRecDepth 20000 in
theorem ggX7_mine_X7_fails : GoodIn wsX7_mine wsX7_fails := goodIn_r _ [23, 1, 62, 63, 64, 65, 66, 67, 68, 69, 70, 71, 72, 73, 74, 75, 76, 77, 78, 79, 80, 81, 82, 83, 84, 85, 86, 87, 88, 89, 90] (by decide +kernel) (by decide +kernel)
set_option maxRecDepth 20000 in
theorem gX7_mine_X7_fails : GoodIn wsX7_mine (wsV RX7 85 RX7 yX7_fails wsX7_fails) := goodIn_app (goodIn_of _ (by decide +kernel)) ggX7_mine_X7_fails
set_option maxRecDepth 20000 in
theorem ggX7_mine_X7_readMine : GoodIn wsX7_mine wsX7_readMine := goodIn_r _ [27, 28, 2, 29, 30, 31, 6, 32, 33, 34, 35, 36, 37, 38, 39, 40, 41, 42, 43, 8, 9, 10, 44, 45, 46, 47, 48, 62, 63, 64, 65, 66, 67, 68, 69, 70, 71, 72, 73, 74, 75, 76, 77, 78, 79, 80, 81, 82, 83, 84, 85, 86, 87, 88, 89, 90] (by decide +kernel) (by decide +kernel)
set_option maxRecDepth 20000 in
theorem gX7_mine_X7_readMine : GoodIn wsX7_mine (wsV RX7 89 RX7 yX7_readMine wsX7_readMine) := goodIn_app (goodIn_of _ (by decide +kernel)) ggX7_mine_X7_readMine
set_option maxRecDepth 20000 in
theorem ggX7_mine_X7_takeMine : GoodIn wsX7_mine wsX7_takeMine := goodIn_r _ [52, 38, 53, 54, 39, 28, 3, 55, 56, 48, 57, 58, 59, 60, 61, 62, 63, 64, 65, 66, 67, 68, 69, 70, 71, 72, 73, 74, 75, 76, 77, 78, 79, 80, 81, 82, 83, 84, 85, 86, 87, 88, 89, 90] (by decide +kernel) (by decide +kernel)
set_option maxRecDepth 20000 in
theorem gX7_mine_X7_takeMine : GoodIn wsX7_mine (wsV RX7 92 RX7 yX7_takeMine wsX7_takeMine) := goodIn_app (goodIn_of _ (by decide +kernel)) ggX7_mine_X7_takeMine
theorem dX7_mine_0 : decode cX7_mine 0 = .ok (.aload_n 0, 1) := by decide +kernel
theorem dX7_mine_1 : decode cX7_mine 1 = .ok (.iconst 0, 1) := by decide +kernel
theorem dX7_mine_2 : decode cX7_mine 2 = .ok (.putfield 55, 3) := by decide +kernel
theorem dX7_mine_5 : decode cX7_mine 5 = .ok (.iload_n 1, 1) := by decide +kernel
theorem dX7_mine_6 : decode cX7_mine 6 = .ok (.invokestatic 74, 3) := by decide +kernel
theorem dX7_mine_9 : decode cX7_mine 9 = .ok (.ifCond .ne 5, 3) := by decide +kernel
theorem dX7_mine_12 : decode cX7_mine 12 = .ok (.iconst (-1), 1) := by decide +kernel
theorem dX7_mine_13 : decode cX7_mine 13 = .ok (.ireturn, 1) := by decide +kernel
theorem dX7_mine_14 : decode cX7_mine 14 = .ok (.iload_n 2, 1) := by decide +kernel
theorem dX7_mine_15 : decode cX7_mine 15 = .ok (.invokestatic 78, 3) := by decide +kernel
theorem dX7_mine_18 : decode cX7_mine 18 = .ok (.ifCond .ne 6, 3) := by decide +kernel
theorem dX7_mine_21 : decode cX7_mine 21 = .ok (.bipush (-2), 2) := by decide +kernel
theorem dX7_mine_23 : decode cX7_mine 23 = .ok (.ireturn, 1) := by decide +kernel
theorem dX7_mine_24 : decode cX7_mine 24 = .ok (.aload_n 0, 1) := by decide +kernel
theorem dX7_mine_25 : decode cX7_mine 25 = .ok (.iload_n 1, 1) := by decide +kernel
theorem dX7_mine_26 : decode cX7_mine 26 = .ok (.iload_n 2, 1) := by decide +kernel
theorem dX7_mine_27 : decode cX7_mine 27 = .ok (.iload_n 3, 1) := by decide +kernel
theorem dX7_mine_28 : decode cX7_mine 28 = .ok (.iload 4, 2) := by decide +kernel
theorem dX7_mine_30 : decode cX7_mine 30 = .ok (.invokevirtual 81, 3) := by decide +kernel
theorem dX7_mine_33 : decode cX7_mine 33 = .ok (.istore 5, 2) := by decide +kernel
theorem dX7_mine_35 : decode cX7_mine 35 = .ok (.iload 5, 2) := by decide +kernel
theorem dX7_mine_37 : decode cX7_mine 37 = .ok (.ifCond .eq 10, 3) := by decide +kernel
theorem dX7_mine_40 : decode cX7_mine 40 = .ok (.aload_n 0, 1) := by decide +kernel
theorem dX7_mine_41 : decode cX7_mine 41 = .ok (.iload 5, 2) := by decide +kernel
theorem dX7_mine_43 : decode cX7_mine 43 = .ok (.invokevirtual 85, 3) := by decide +kernel
theorem dX7_mine_46 : decode cX7_mine 46 = .ok (.ireturn, 1) := by decide +kernel
theorem dX7_mine_47 : decode cX7_mine 47 = .ok (.bipush 60, 2) := by decide +kernel
theorem dX7_mine_49 : decode cX7_mine 49 = .ok (.iload_n 1, 1) := by decide +kernel
theorem dX7_mine_50 : decode cX7_mine 50 = .ok (.imul, 1) := by decide +kernel
theorem dX7_mine_51 : decode cX7_mine 51 = .ok (.iload_n 3, 1) := by decide +kernel
theorem dX7_mine_52 : decode cX7_mine 52 = .ok (.iadd, 1) := by decide +kernel
theorem dX7_mine_53 : decode cX7_mine 53 = .ok (.istore 6, 2) := by decide +kernel
theorem dX7_mine_55 : decode cX7_mine 55 = .ok (.aload_n 0, 1) := by decide +kernel
theorem dX7_mine_56 : decode cX7_mine 56 = .ok (.iload 6, 2) := by decide +kernel
theorem dX7_mine_58 : decode cX7_mine 58 = .ok (.putfield 71, 3) := by decide +kernel
theorem dX7_mine_61 : decode cX7_mine 61 = .ok (.aload_n 0, 1) := by decide +kernel
theorem dX7_mine_62 : decode cX7_mine 62 = .ok (.iload 6, 2) := by decide +kernel
theorem dX7_mine_64 : decode cX7_mine 64 = .ok (.iload 4, 2) := by decide +kernel
theorem dX7_mine_66 : decode cX7_mine 66 = .ok (.iadd, 1) := by decide +kernel
theorem dX7_mine_67 : decode cX7_mine 67 = .ok (.invokevirtual 89, 3) := by decide +kernel
theorem dX7_mine_70 : decode cX7_mine 70 = .ok (.ifCond .ne 14, 3) := by decide +kernel
theorem dX7_mine_73 : decode cX7_mine 73 = .ok (.bipush (-100), 2) := by decide +kernel
theorem dX7_mine_75 : decode cX7_mine 75 = .ok (.aload_n 0, 1) := by decide +kernel
theorem dX7_mine_76 : decode cX7_mine 76 = .ok (.getfield 71, 3) := by decide +kernel
theorem dX7_mine_79 : decode cX7_mine 79 = .ok (.iload 6, 2) := by decide +kernel
theorem dX7_mine_81 : decode cX7_mine 81 = .ok (.isub, 1) := by decide +kernel
theorem dX7_mine_82 : decode cX7_mine 82 = .ok (.isub, 1) := by decide +kernel
theorem dX7_mine_83 : decode cX7_mine 83 = .ok (.ireturn, 1) := by decide +kernel
theorem dX7_mine_84 : decode cX7_mine 84 = .ok (.aload_n 0, 1) := by decide +kernel
theorem dX7_mine_85 : decode cX7_mine 85 = .ok (.invokevirtual 92, 3) := by decide +kernel
theorem dX7_mine_88 : decode cX7_mine 88 = .ok (.aload_n 0, 1) := by decide +kernel
theorem dX7_mine_89 : decode cX7_mine 89 = .ok (.getfield 65, 3) := by decide +kernel
theorem dX7_mine_92 : decode cX7_mine 92 = .ok (.ireturn, 1) := by decide +kernel
theorem dX7_takeMine_0 : decode cX7_takeMine 0 = .ok (.aload_n 0, 1) := by decide +kernel
theorem dX7_takeMine_1 : decode cX7_takeMine 1 = .ok (.aload_n 0, 1) := by decide +kernel
theorem dX7_takeMine_2 : decode cX7_takeMine 2 = .ok (.getfield 95, 3) := by decide +kernel
theorem dX7_takeMine_5 : decode cX7_takeMine 5 = .ok (.putfield 68, 3) := by decide +kernel
theorem dX7_takeMine_8 : decode cX7_takeMine 8 = .ok (.iconst 0, 1) := by decide +kernel
theorem dX7_takeMine_9 : decode cX7_takeMine 9 = .ok (.istore_n 1, 1) := by decide +kernel
theorem dX7_takeMine_10 : decode cX7_takeMine 10 = .ok (.iload_n 1, 1) := by decide +kernel
theorem dX7_takeMine_11 : decode cX7_takeMine 11 = .ok (.aload_n 0, 1) := by decide +kernel
theorem dX7_takeMine_12 : decode cX7_takeMine 12 = .ok (.getfield 68, 3) := by decide +kernel
theorem dX7_takeMine_15 : decode cX7_takeMine 15 = .ok (.if_icmp .ge 21, 3) := by decide +kernel
theorem dX7_takeMine_18 : decode cX7_takeMine 18 = .ok (.aload_n 0, 1) := by decide +kernel
theorem dX7_takeMine_19 : decode cX7_takeMine 19 = .ok (.getfield 19, 3) := by decide +kernel
theorem dX7_takeMine_22 : decode cX7_takeMine 22 = .ok (.iload_n 1, 1) := by decide +kernel
theorem dX7_takeMine_23 : decode cX7_takeMine 23 = .ok (.aload_n 0, 1) := by decide +kernel
theorem dX7_takeMine_24 : decode cX7_takeMine 24 = .ok (.getfield 31, 3) := by decide +kernel
theorem dX7_takeMine_27 : decode cX7_takeMine 27 = .ok (.iload_n 1, 1) := by decide +kernel
theorem dX7_takeMine_28 : decode cX7_takeMine 28 = .ok (.iaload, 1) := by decide +kernel
theorem dX7_takeMine_29 : decode cX7_takeMine 29 = .ok (.iastore, 1) := by decide +kernel
theorem dX7_takeMine_30 : decode cX7_takeMine 30 = .ok (.iinc 1 1, 3) := by decide +kernel
theorem dX7_takeMine_33 : decode cX7_takeMine 33 = .ok (.goto (-23), 3) := by decide +kernel
theorem dX7_takeMine_36 : decode cX7_takeMine 36 = .ok (.aload_n 0, 1) := by decide +kernel
theorem dX7_takeMine_37 : decode cX7_takeMine 37 = .ok (.aload_n 0, 1) := by decide +kernel
theorem dX7_takeMine_38 : decode cX7_takeMine 38 = .ok (.getfield 98, 3) := by decide +kernel
theorem dX7_takeMine_41 : decode cX7_takeMine 41 = .ok (.putfield 65, 3) := by decide +kernel
theorem dX7_takeMine_44 : decode cX7_takeMine 44 = .ok (.aload_n 0, 1) := by decide +kernel
theorem dX7_takeMine_45 : decode cX7_takeMine 45 = .ok (.iconst 0, 1) := by decide +kernel
theorem dX7_takeMine_46 : decode cX7_takeMine 46 = .ok (.putfield 101, 3) := by decide +kernel
theorem dX7_takeMine_49 : decode cX7_takeMine 49 = .ok (.iconst 0, 1) := by decide +kernel
theorem dX7_takeMine_50 : decode cX7_takeMine 50 = .ok (.istore_n 1, 1) := by decide +kernel
theorem dX7_takeMine_51 : decode cX7_takeMine 51 = .ok (.iload_n 1, 1) := by decide +kernel
theorem dX7_takeMine_52 : decode cX7_takeMine 52 = .ok (.aload_n 0, 1) := by decide +kernel
theorem dX7_takeMine_53 : decode cX7_takeMine 53 = .ok (.getfield 65, 3) := by decide +kernel
theorem dX7_takeMine_56 : decode cX7_takeMine 56 = .ok (.if_icmp .ge 95, 3) := by decide +kernel
theorem dX7_takeMine_59 : decode cX7_takeMine 59 = .ok (.aload_n 0, 1) := by decide +kernel
theorem dX7_takeMine_60 : decode cX7_takeMine 60 = .ok (.getfield 22, 3) := by decide +kernel
theorem dX7_takeMine_63 : decode cX7_takeMine 63 = .ok (.iload_n 1, 1) := by decide +kernel
theorem dX7_takeMine_64 : decode cX7_takeMine 64 = .ok (.aload_n 0, 1) := by decide +kernel
theorem dX7_takeMine_65 : decode cX7_takeMine 65 = .ok (.getfield 34, 3) := by decide +kernel
theorem dX7_takeMine_68 : decode cX7_takeMine 68 = .ok (.iconst 4, 1) := by decide +kernel
theorem dX7_takeMine_69 : decode cX7_takeMine 69 = .ok (.iload_n 1, 1) := by decide +kernel
theorem dX7_takeMine_70 : decode cX7_takeMine 70 = .ok (.imul, 1) := by decide +kernel
theorem dX7_takeMine_71 : decode cX7_takeMine 71 = .ok (.iaload, 1) := by decide +kernel
theorem dX7_takeMine_72 : decode cX7_takeMine 72 = .ok (.iastore, 1) := by decide +kernel
theorem dX7_takeMine_73 : decode cX7_takeMine 73 = .ok (.aload_n 0, 1) := by decide +kernel
theorem dX7_takeMine_74 : decode cX7_takeMine 74 = .ok (.getfield 25, 3) := by decide +kernel
theorem dX7_takeMine_77 : decode cX7_takeMine 77 = .ok (.iload_n 1, 1) := by decide +kernel
theorem dX7_takeMine_78 : decode cX7_takeMine 78 = .ok (.aload_n 0, 1) := by decide +kernel
theorem dX7_takeMine_79 : decode cX7_takeMine 79 = .ok (.getfield 34, 3) := by decide +kernel
theorem dX7_takeMine_82 : decode cX7_takeMine 82 = .ok (.iconst 4, 1) := by decide +kernel
theorem dX7_takeMine_83 : decode cX7_takeMine 83 = .ok (.iload_n 1, 1) := by decide +kernel
theorem dX7_takeMine_84 : decode cX7_takeMine 84 = .ok (.imul, 1) := by decide +kernel
theorem dX7_takeMine_85 : decode cX7_takeMine 85 = .ok (.iconst 1, 1) := by decide +kernel
theorem dX7_takeMine_86 : decode cX7_takeMine 86 = .ok (.iadd, 1) := by decide +kernel
theorem dX7_takeMine_87 : decode cX7_takeMine 87 = .ok (.iaload, 1) := by decide +kernel
theorem dX7_takeMine_88 : decode cX7_takeMine 88 = .ok (.iastore, 1) := by decide +kernel
theorem dX7_takeMine_89 : decode cX7_takeMine 89 = .ok (.aload_n 0, 1) := by decide +kernel
theorem dX7_takeMine_90 : decode cX7_takeMine 90 = .ok (.getfield 28, 3) := by decide +kernel
theorem dX7_takeMine_93 : decode cX7_takeMine 93 = .ok (.iload_n 1, 1) := by decide +kernel
theorem dX7_takeMine_94 : decode cX7_takeMine 94 = .ok (.aload_n 0, 1) := by decide +kernel
theorem dX7_takeMine_95 : decode cX7_takeMine 95 = .ok (.getfield 34, 3) := by decide +kernel
theorem dX7_takeMine_98 : decode cX7_takeMine 98 = .ok (.iconst 4, 1) := by decide +kernel
theorem dX7_takeMine_99 : decode cX7_takeMine 99 = .ok (.iload_n 1, 1) := by decide +kernel
theorem dX7_takeMine_100 : decode cX7_takeMine 100 = .ok (.imul, 1) := by decide +kernel
theorem dX7_takeMine_101 : decode cX7_takeMine 101 = .ok (.iconst 2, 1) := by decide +kernel
theorem dX7_takeMine_102 : decode cX7_takeMine 102 = .ok (.iadd, 1) := by decide +kernel
theorem dX7_takeMine_103 : decode cX7_takeMine 103 = .ok (.iaload, 1) := by decide +kernel
theorem dX7_takeMine_104 : decode cX7_takeMine 104 = .ok (.iastore, 1) := by decide +kernel
theorem dX7_takeMine_105 : decode cX7_takeMine 105 = .ok (.aload_n 0, 1) := by decide +kernel
theorem dX7_takeMine_106 : decode cX7_takeMine 106 = .ok (.dup, 1) := by decide +kernel
theorem dX7_takeMine_107 : decode cX7_takeMine 107 = .ok (.getfield 101, 3) := by decide +kernel
theorem dX7_takeMine_110 : decode cX7_takeMine 110 = .ok (.aload_n 0, 1) := by decide +kernel
theorem dX7_takeMine_111 : decode cX7_takeMine 111 = .ok (.getfield 34, 3) := by decide +kernel
theorem dX7_takeMine_114 : decode cX7_takeMine 114 = .ok (.iconst 4, 1) := by decide +kernel
theorem dX7_takeMine_115 : decode cX7_takeMine 115 = .ok (.iload_n 1, 1) := by decide +kernel
theorem dX7_takeMine_116 : decode cX7_takeMine 116 = .ok (.imul, 1) := by decide +kernel
theorem dX7_takeMine_117 : decode cX7_takeMine 117 = .ok (.iconst 3, 1) := by decide +kernel
theorem dX7_takeMine_118 : decode cX7_takeMine 118 = .ok (.iadd, 1) := by decide +kernel
theorem dX7_takeMine_119 : decode cX7_takeMine 119 = .ok (.iaload, 1) := by decide +kernel
theorem dX7_takeMine_120 : decode cX7_takeMine 120 = .ok (.iconst 1, 1) := by decide +kernel
theorem dX7_takeMine_121 : decode cX7_takeMine 121 = .ok (.if_icmp .ne 19, 3) := by decide +kernel
theorem dX7_takeMine_124 : decode cX7_takeMine 124 = .ok (.iload_n 1, 1) := by decide +kernel
theorem dX7_takeMine_125 : decode cX7_takeMine 125 = .ok (.aload_n 0, 1) := by decide +kernel
theorem dX7_takeMine_126 : decode cX7_takeMine 126 = .ok (.getfield 65, 3) := by decide +kernel
theorem dX7_takeMine_129 : decode cX7_takeMine 129 = .ok (.iconst 1, 1) := by decide +kernel
theorem dX7_takeMine_130 : decode cX7_takeMine 130 = .ok (.isub, 1) := by decide +kernel
theorem dX7_takeMine_131 : decode cX7_takeMine 131 = .ok (.if_icmp .ge 9, 3) := by decide +kernel
theorem dX7_takeMine_134 : decode cX7_takeMine 134 = .ok (.iconst 1, 1) := by decide +kernel
theorem dX7_takeMine_135 : decode cX7_takeMine 135 = .ok (.iload_n 1, 1) := by decide +kernel
theorem dX7_takeMine_136 : decode cX7_takeMine 136 = .ok (.ishl, 1) := by decide +kernel
theorem dX7_takeMine_137 : decode cX7_takeMine 137 = .ok (.goto 4, 3) := by decide +kernel
theorem dX7_takeMine_140 : decode cX7_takeMine 140 = .ok (.iconst 0, 1) := by decide +kernel
theorem dX7_takeMine_141 : decode cX7_takeMine 141 = .ok (.ior, 1) := by decide +kernel
theorem dX7_takeMine_142 : decode cX7_takeMine 142 = .ok (.putfield 101, 3) := by decide +kernel
theorem dX7_takeMine_145 : decode cX7_takeMine 145 = .ok (.iinc 1 1, 3) := by decide +kernel
theorem dX7_takeMine_148 : decode cX7_takeMine 148 = .ok (.goto (-97), 3) := by decide +kernel
theorem dX7_takeMine_151 : decode cX7_takeMine 151 = .ok (.aload_n 0, 1) := by decide +kernel
theorem dX7_takeMine_152 : decode cX7_takeMine 152 = .ok (.iconst 0, 1) := by decide +kernel
theorem dX7_takeMine_153 : decode cX7_takeMine 153 = .ok (.putfield 104, 3) := by decide +kernel
theorem dX7_takeMine_156 : decode cX7_takeMine 156 = .ok (.aload_n 0, 1) := by decide +kernel
theorem dX7_takeMine_157 : decode cX7_takeMine 157 = .ok (.iconst 0, 1) := by decide +kernel
theorem dX7_takeMine_158 : decode cX7_takeMine 158 = .ok (.putfield 107, 3) := by decide +kernel
theorem dX7_takeMine_161 : decode cX7_takeMine 161 = .ok (.aload_n 0, 1) := by decide +kernel
theorem dX7_takeMine_162 : decode cX7_takeMine 162 = .ok (.iconst 0, 1) := by decide +kernel
theorem dX7_takeMine_163 : decode cX7_takeMine 163 = .ok (.putfield 110, 3) := by decide +kernel
theorem dX7_takeMine_166 : decode cX7_takeMine 166 = .ok (.return_, 1) := by decide +kernel
set_option maxRecDepth 20000 in
theorem ggX7_readMine_X7_isSign : GoodIn wsX7_readMine wsX7_isSign := goodIn_r _ [7, 2, 8, 27, 28, 29, 30, 31, 32, 33, 34, 35, 36, 37, 38, 39, 40, 41, 42, 43, 44, 45, 46, 47, 48, 49, 50, 51, 52, 53, 54, 55] (by decide +kernel) (by decide +kernel)
set_option maxRecDepth 20000 in
theorem gX7_readMine_X7_isSign : GoodIn wsX7_readMine (wsV RX7 113 RX7 yX7_isSign wsX7_isSign) := goodIn_app (goodIn_of _ (by decide +kernel)) ggX7_readMine_X7_isSign
set_option maxRecDepth 20000 in
theorem ggX7_readMine_X7_readTheWords : GoodIn wsX7_readMine wsX7_readTheWords := goodIn_r _ [12, 13, 14, 15, 16, 17, 6, 18, 2, 8, 19, 20, 21, 27, 28, 29, 30, 31, 32, 33, 34, 35, 36, 37, 38, 39, 40, 41, 42, 43, 44, 45, 46, 47, 48, 49, 50, 51, 52, 53, 54, 55] (by decide +kernel) (by decide +kernel)
set_option maxRecDepth 20000 in
theorem gX7_readMine_X7_readTheWords : GoodIn wsX7_readMine (wsV RX7 117 RX7 yX7_readTheWords wsX7_readTheWords) := goodIn_app (goodIn_of _ (by decide +kernel)) ggX7_readMine_X7_readTheWords
set_option maxRecDepth 20000 in
theorem ggX7_readMine_X7_readGallery : GoodIn wsX7_readMine wsX7_readGallery := goodIn_r _ [25, 2, 8, 1, 26, 15, 16, 17, 6, 18, 19, 20, 21, 27, 28, 29, 30, 31, 32, 33, 34, 35, 36, 37, 38, 39, 40, 41, 42, 43, 44, 45, 46, 47, 48, 49, 50, 51, 52, 53, 54, 55] (by decide +kernel) (by decide +kernel)
set_option maxRecDepth 20000 in
theorem gX7_readMine_X7_readGallery : GoodIn wsX7_readMine (wsV RX7 120 RX7 yX7_readGallery wsX7_readGallery) := goodIn_app (goodIn_of _ (by decide +kernel)) ggX7_readMine_X7_readGallery
theorem dX7_readMine_0 : decode cX7_readMine 0 = .ok (.aload_n 0, 1) := by decide +kernel
theorem dX7_readMine_1 : decode cX7_readMine 1 = .ok (.iconst 0, 1) := by decide +kernel
theorem dX7_readMine_2 : decode cX7_readMine 2 = .ok (.putfield 98, 3) := by decide +kernel
theorem dX7_readMine_5 : decode cX7_readMine 5 = .ok (.aload_n 0, 1) := by decide +kernel
theorem dX7_readMine_6 : decode cX7_readMine 6 = .ok (.iload_n 1, 1) := by decide +kernel
theorem dX7_readMine_7 : decode cX7_readMine 7 = .ok (.bipush 109, 2) := by decide +kernel
theorem dX7_readMine_9 : decode cX7_readMine 9 = .ok (.invokevirtual 113, 3) := by decide +kernel
theorem dX7_readMine_12 : decode cX7_readMine 12 = .ok (.ifCond .eq 11, 3) := by decide +kernel
theorem dX7_readMine_15 : decode cX7_readMine 15 = .ok (.aload_n 0, 1) := by decide +kernel
theorem dX7_readMine_16 : decode cX7_readMine 16 = .ok (.iload_n 1, 1) := by decide +kernel
theorem dX7_readMine_17 : decode cX7_readMine 17 = .ok (.invokevirtual 117, 3) := by decide +kernel
theorem dX7_readMine_20 : decode cX7_readMine 20 = .ok (.ifCond .ne 5, 3) := by decide +kernel
theorem dX7_readMine_23 : decode cX7_readMine 23 = .ok (.iconst 0, 1) := by decide +kernel
theorem dX7_readMine_24 : decode cX7_readMine 24 = .ok (.ireturn, 1) := by decide +kernel
theorem dX7_readMine_25 : decode cX7_readMine 25 = .ok (.aload_n 0, 1) := by decide +kernel
theorem dX7_readMine_26 : decode cX7_readMine 26 = .ok (.getfield 98, 3) := by decide +kernel
theorem dX7_readMine_29 : decode cX7_readMine 29 = .ok (.iconst 2, 1) := by decide +kernel
theorem dX7_readMine_30 : decode cX7_readMine 30 = .ok (.if_icmp .lt 20, 3) := by decide +kernel
theorem dX7_readMine_33 : decode cX7_readMine 33 = .ok (.aload_n 0, 1) := by decide +kernel
theorem dX7_readMine_34 : decode cX7_readMine 34 = .ok (.getfield 98, 3) := by decide +kernel
theorem dX7_readMine_37 : decode cX7_readMine 37 = .ok (.bipush 6, 2) := by decide +kernel
theorem dX7_readMine_39 : decode cX7_readMine 39 = .ok (.if_icmp .ge 31, 3) := by decide +kernel
theorem dX7_readMine_42 : decode cX7_readMine 42 = .ok (.aload_n 0, 1) := by decide +kernel
theorem dX7_readMine_43 : decode cX7_readMine 43 = .ok (.getfield 71, 3) := by decide +kernel
theorem dX7_readMine_46 : decode cX7_readMine 46 = .ok (.iload_n 1, 1) := by decide +kernel
theorem dX7_readMine_47 : decode cX7_readMine 47 = .ok (.if_icmp .ge 23, 3) := by decide +kernel
theorem dX7_readMine_50 : decode cX7_readMine 50 = .ok (.aload_n 0, 1) := by decide +kernel
theorem dX7_readMine_51 : decode cX7_readMine 51 = .ok (.iload_n 1, 1) := by decide +kernel
theorem dX7_readMine_52 : decode cX7_readMine 52 = .ok (.bipush 59, 2) := by decide +kernel
theorem dX7_readMine_54 : decode cX7_readMine 54 = .ok (.invokevirtual 113, 3) := by decide +kernel
theorem dX7_readMine_57 : decode cX7_readMine 57 = .ok (.ifCond .eq 11, 3) := by decide +kernel
theorem dX7_readMine_60 : decode cX7_readMine 60 = .ok (.aload_n 0, 1) := by decide +kernel
theorem dX7_readMine_61 : decode cX7_readMine 61 = .ok (.iload_n 1, 1) := by decide +kernel
theorem dX7_readMine_62 : decode cX7_readMine 62 = .ok (.invokevirtual 120, 3) := by decide +kernel
theorem dX7_readMine_65 : decode cX7_readMine 65 = .ok (.ifCond .ne (-40), 3) := by decide +kernel
theorem dX7_readMine_68 : decode cX7_readMine 68 = .ok (.iconst 0, 1) := by decide +kernel
theorem dX7_readMine_69 : decode cX7_readMine 69 = .ok (.ireturn, 1) := by decide +kernel
theorem dX7_readMine_70 : decode cX7_readMine 70 = .ok (.aload_n 0, 1) := by decide +kernel
theorem dX7_readMine_71 : decode cX7_readMine 71 = .ok (.getfield 71, 3) := by decide +kernel
theorem dX7_readMine_74 : decode cX7_readMine 74 = .ok (.iload_n 1, 1) := by decide +kernel
theorem dX7_readMine_75 : decode cX7_readMine 75 = .ok (.if_icmp .ne 7, 3) := by decide +kernel
theorem dX7_readMine_78 : decode cX7_readMine 78 = .ok (.iconst 1, 1) := by decide +kernel
theorem dX7_readMine_79 : decode cX7_readMine 79 = .ok (.goto 4, 3) := by decide +kernel
theorem dX7_readMine_82 : decode cX7_readMine 82 = .ok (.iconst 0, 1) := by decide +kernel
theorem dX7_readMine_83 : decode cX7_readMine 83 = .ok (.ireturn, 1) := by decide +kernel
set_option maxRecDepth 20000 in
theorem ggX7_readTheWords_X7_digit : GoodIn wsX7_readTheWords wsX7_digit := goodIn_r _ [7, 8, 9, 10, 11, 6, 12, 13, 14, 15, 16, 17, 18, 19, 20, 21, 22, 23, 24, 25, 26, 27, 28, 29, 30, 31, 32, 33, 34, 35, 36, 37, 38, 39, 40, 41] (by decide +kernel) (by decide +kernel)
set_option maxRecDepth 20000 in
theorem gX7_readTheWords_X7_digit : GoodIn wsX7_readTheWords (wsV RX7 123 RX7 yX7_digit wsX7_digit) := goodIn_app (goodIn_of _ (by decide +kernel)) ggX7_readTheWords_X7_digit
theorem dX7_readTheWords_0 : decode cX7_readTheWords 0 = .ok (.aload_n 0, 1) := by decide +kernel
theorem dX7_readTheWords_1 : decode cX7_readTheWords 1 = .ok (.iconst 0, 1) := by decide +kernel
theorem dX7_readTheWords_2 : decode cX7_readTheWords 2 = .ok (.putfield 95, 3) := by decide +kernel
theorem dX7_readTheWords_5 : decode cX7_readTheWords 5 = .ok (.aload_n 0, 1) := by decide +kernel
theorem dX7_readTheWords_6 : decode cX7_readTheWords 6 = .ok (.getfield 95, 3) := by decide +kernel
theorem dX7_readTheWords_9 : decode cX7_readTheWords 9 = .ok (.iconst 4, 1) := by decide +kernel
theorem dX7_readTheWords_10 : decode cX7_readTheWords 10 = .ok (.if_icmp .ge 54, 3) := by decide +kernel
theorem dX7_readTheWords_13 : decode cX7_readTheWords 13 = .ok (.aload_n 0, 1) := by decide +kernel
theorem dX7_readTheWords_14 : decode cX7_readTheWords 14 = .ok (.iload_n 1, 1) := by decide +kernel
theorem dX7_readTheWords_15 : decode cX7_readTheWords 15 = .ok (.iconst 0, 1) := by decide +kernel
theorem dX7_readTheWords_16 : decode cX7_readTheWords 16 = .ok (.bipush 9, 2) := by decide +kernel
theorem dX7_readTheWords_18 : decode cX7_readTheWords 18 = .ok (.invokevirtual 123, 3) := by decide +kernel
theorem dX7_readTheWords_21 : decode cX7_readTheWords 21 = .ok (.istore_n 2, 1) := by decide +kernel
theorem dX7_readTheWords_22 : decode cX7_readTheWords 22 = .ok (.iload_n 2, 1) := by decide +kernel
theorem dX7_readTheWords_23 : decode cX7_readTheWords 23 = .ok (.bipush (-9), 2) := by decide +kernel
theorem dX7_readTheWords_25 : decode cX7_readTheWords 25 = .ok (.if_icmp .ne 16, 3) := by decide +kernel
theorem dX7_readTheWords_28 : decode cX7_readTheWords 28 = .ok (.aload_n 0, 1) := by decide +kernel
theorem dX7_readTheWords_29 : decode cX7_readTheWords 29 = .ok (.getfield 95, 3) := by decide +kernel
theorem dX7_readTheWords_32 : decode cX7_readTheWords 32 = .ok (.ifCond .le 7, 3) := by decide +kernel
theorem dX7_readTheWords_35 : decode cX7_readTheWords 35 = .ok (.iconst 1, 1) := by decide +kernel
theorem dX7_readTheWords_36 : decode cX7_readTheWords 36 = .ok (.goto 4, 3) := by decide +kernel
theorem dX7_readTheWords_39 : decode cX7_readTheWords 39 = .ok (.iconst 0, 1) := by decide +kernel
theorem dX7_readTheWords_40 : decode cX7_readTheWords 40 = .ok (.ireturn, 1) := by decide +kernel
theorem dX7_readTheWords_41 : decode cX7_readTheWords 41 = .ok (.aload_n 0, 1) := by decide +kernel
theorem dX7_readTheWords_42 : decode cX7_readTheWords 42 = .ok (.getfield 31, 3) := by decide +kernel
theorem dX7_readTheWords_45 : decode cX7_readTheWords 45 = .ok (.aload_n 0, 1) := by decide +kernel
theorem dX7_readTheWords_46 : decode cX7_readTheWords 46 = .ok (.getfield 95, 3) := by decide +kernel
theorem dX7_readTheWords_49 : decode cX7_readTheWords 49 = .ok (.iload_n 2, 1) := by decide +kernel
theorem dX7_readTheWords_50 : decode cX7_readTheWords 50 = .ok (.iastore, 1) := by decide +kernel
theorem dX7_readTheWords_51 : decode cX7_readTheWords 51 = .ok (.aload_n 0, 1) := by decide +kernel
theorem dX7_readTheWords_52 : decode cX7_readTheWords 52 = .ok (.dup, 1) := by decide +kernel
theorem dX7_readTheWords_53 : decode cX7_readTheWords 53 = .ok (.getfield 95, 3) := by decide +kernel
theorem dX7_readTheWords_56 : decode cX7_readTheWords 56 = .ok (.iconst 1, 1) := by decide +kernel
theorem dX7_readTheWords_57 : decode cX7_readTheWords 57 = .ok (.iadd, 1) := by decide +kernel
theorem dX7_readTheWords_58 : decode cX7_readTheWords 58 = .ok (.putfield 95, 3) := by decide +kernel
theorem dX7_readTheWords_61 : decode cX7_readTheWords 61 = .ok (.goto (-56), 3) := by decide +kernel
theorem dX7_readTheWords_64 : decode cX7_readTheWords 64 = .ok (.iconst 1, 1) := by decide +kernel
theorem dX7_readTheWords_65 : decode cX7_readTheWords 65 = .ok (.ireturn, 1) := by decide +kernel
set_option maxRecDepth 20000 in
theorem ggX7_readGallery_X7_digit : GoodIn wsX7_readGallery wsX7_digit := goodIn_r _ [9, 1, 2, 10, 11, 8, 12, 13, 14, 15, 16, 17, 18, 19, 20, 21, 22, 23, 24, 25, 26, 27, 28, 29, 30, 31, 32, 33, 34, 35, 36, 37, 38, 39, 40, 41] (by decide +kernel) (by decide +kernel)
set_option maxRecDepth 20000 in
theorem gX7_readGallery_X7_digit : GoodIn wsX7_readGallery (wsV RX7 123 RX7 yX7_digit wsX7_digit) := goodIn_app (goodIn_of _ (by decide +kernel)) ggX7_readGallery_X7_digit
theorem dX7_readGallery_0 : decode cX7_readGallery 0 = .ok (.aload_n 0, 1) := by decide +kernel
theorem dX7_readGallery_1 : decode cX7_readGallery 1 = .ok (.getfield 71, 3) := by decide +kernel
theorem dX7_readGallery_4 : decode cX7_readGallery 4 = .ok (.iload_n 1, 1) := by decide +kernel
theorem dX7_readGallery_5 : decode cX7_readGallery 5 = .ok (.if_icmp .ge 15, 3) := by decide +kernel
theorem dX7_readGallery_8 : decode cX7_readGallery 8 = .ok (.aload_n 0, 1) := by decide +kernel
theorem dX7_readGallery_9 : decode cX7_readGallery 9 = .ok (.getfield 16, 3) := by decide +kernel
theorem dX7_readGallery_12 : decode cX7_readGallery 12 = .ok (.aload_n 0, 1) := by decide +kernel
theorem dX7_readGallery_13 : decode cX7_readGallery 13 = .ok (.getfield 71, 3) := by decide +kernel
theorem dX7_readGallery_16 : decode cX7_readGallery 16 = .ok (.iaload, 1) := by decide +kernel
theorem dX7_readGallery_17 : decode cX7_readGallery 17 = .ok (.goto 4, 3) := by decide +kernel
theorem dX7_readGallery_20 : decode cX7_readGallery 20 = .ok (.iconst 0, 1) := by decide +kernel
theorem dX7_readGallery_21 : decode cX7_readGallery 21 = .ok (.istore_n 2, 1) := by decide +kernel
theorem dX7_readGallery_22 : decode cX7_readGallery 22 = .ok (.iconst 4, 1) := by decide +kernel
theorem dX7_readGallery_23 : decode cX7_readGallery 23 = .ok (.aload_n 0, 1) := by decide +kernel
theorem dX7_readGallery_24 : decode cX7_readGallery 24 = .ok (.getfield 98, 3) := by decide +kernel
theorem dX7_readGallery_27 : decode cX7_readGallery 27 = .ok (.imul, 1) := by decide +kernel
theorem dX7_readGallery_28 : decode cX7_readGallery 28 = .ok (.istore_n 3, 1) := by decide +kernel
theorem dX7_readGallery_29 : decode cX7_readGallery 29 = .ok (.aload_n 0, 1) := by decide +kernel
theorem dX7_readGallery_30 : decode cX7_readGallery 30 = .ok (.getfield 34, 3) := by decide +kernel
theorem dX7_readGallery_33 : decode cX7_readGallery 33 = .ok (.iload_n 3, 1) := by decide +kernel
theorem dX7_readGallery_34 : decode cX7_readGallery 34 = .ok (.iload_n 2, 1) := by decide +kernel
theorem dX7_readGallery_35 : decode cX7_readGallery 35 = .ok (.bipush 103, 2) := by decide +kernel
theorem dX7_readGallery_37 : decode cX7_readGallery 37 = .ok (.if_icmp .ne 7, 3) := by decide +kernel
theorem dX7_readGallery_40 : decode cX7_readGallery 40 = .ok (.iconst 0, 1) := by decide +kernel
theorem dX7_readGallery_41 : decode cX7_readGallery 41 = .ok (.goto 25, 3) := by decide +kernel
theorem dX7_readGallery_44 : decode cX7_readGallery 44 = .ok (.iload_n 2, 1) := by decide +kernel
theorem dX7_readGallery_45 : decode cX7_readGallery 45 = .ok (.bipush 110, 2) := by decide +kernel
theorem dX7_readGallery_47 : decode cX7_readGallery 47 = .ok (.if_icmp .ne 7, 3) := by decide +kernel
theorem dX7_readGallery_50 : decode cX7_readGallery 50 = .ok (.iconst 1, 1) := by decide +kernel
theorem dX7_readGallery_51 : decode cX7_readGallery 51 = .ok (.goto 15, 3) := by decide +kernel
theorem dX7_readGallery_54 : decode cX7_readGallery 54 = .ok (.iload_n 2, 1) := by decide +kernel
theorem dX7_readGallery_55 : decode cX7_readGallery 55 = .ok (.bipush 98, 2) := by decide +kernel
theorem dX7_readGallery_57 : decode cX7_readGallery 57 = .ok (.if_icmp .ne 7, 3) := by decide +kernel
theorem dX7_readGallery_60 : decode cX7_readGallery 60 = .ok (.iconst 2, 1) := by decide +kernel
theorem dX7_readGallery_61 : decode cX7_readGallery 61 = .ok (.goto 5, 3) := by decide +kernel
theorem dX7_readGallery_64 : decode cX7_readGallery 64 = .ok (.bipush (-9), 2) := by decide +kernel
theorem dX7_readGallery_66 : decode cX7_readGallery 66 = .ok (.iastore, 1) := by decide +kernel
theorem dX7_readGallery_67 : decode cX7_readGallery 67 = .ok (.aload_n 0, 1) := by decide +kernel
theorem dX7_readGallery_68 : decode cX7_readGallery 68 = .ok (.getfield 34, 3) := by decide +kernel
theorem dX7_readGallery_71 : decode cX7_readGallery 71 = .ok (.iload_n 3, 1) := by decide +kernel
theorem dX7_readGallery_72 : decode cX7_readGallery 72 = .ok (.iaload, 1) := by decide +kernel
theorem dX7_readGallery_73 : decode cX7_readGallery 73 = .ok (.bipush (-9), 2) := by decide +kernel
theorem dX7_readGallery_75 : decode cX7_readGallery 75 = .ok (.if_icmp .ne 5, 3) := by decide +kernel
theorem dX7_readGallery_78 : decode cX7_readGallery 78 = .ok (.iconst 0, 1) := by decide +kernel
theorem dX7_readGallery_79 : decode cX7_readGallery 79 = .ok (.ireturn, 1) := by decide +kernel
theorem dX7_readGallery_80 : decode cX7_readGallery 80 = .ok (.aload_n 0, 1) := by decide +kernel
theorem dX7_readGallery_81 : decode cX7_readGallery 81 = .ok (.dup, 1) := by decide +kernel
theorem dX7_readGallery_82 : decode cX7_readGallery 82 = .ok (.getfield 71, 3) := by decide +kernel
theorem dX7_readGallery_85 : decode cX7_readGallery 85 = .ok (.iconst 1, 1) := by decide +kernel
theorem dX7_readGallery_86 : decode cX7_readGallery 86 = .ok (.iadd, 1) := by decide +kernel
theorem dX7_readGallery_87 : decode cX7_readGallery 87 = .ok (.putfield 71, 3) := by decide +kernel
theorem dX7_readGallery_90 : decode cX7_readGallery 90 = .ok (.aload_n 0, 1) := by decide +kernel
theorem dX7_readGallery_91 : decode cX7_readGallery 91 = .ok (.getfield 34, 3) := by decide +kernel
theorem dX7_readGallery_94 : decode cX7_readGallery 94 = .ok (.iload_n 3, 1) := by decide +kernel
theorem dX7_readGallery_95 : decode cX7_readGallery 95 = .ok (.iconst 1, 1) := by decide +kernel
theorem dX7_readGallery_96 : decode cX7_readGallery 96 = .ok (.iadd, 1) := by decide +kernel
theorem dX7_readGallery_97 : decode cX7_readGallery 97 = .ok (.aload_n 0, 1) := by decide +kernel
theorem dX7_readGallery_98 : decode cX7_readGallery 98 = .ok (.iload_n 1, 1) := by decide +kernel
theorem dX7_readGallery_99 : decode cX7_readGallery 99 = .ok (.iconst 0, 1) := by decide +kernel
theorem dX7_readGallery_100 : decode cX7_readGallery 100 = .ok (.bipush 9, 2) := by decide +kernel
theorem dX7_readGallery_102 : decode cX7_readGallery 102 = .ok (.invokevirtual 123, 3) := by decide +kernel
theorem dX7_readGallery_105 : decode cX7_readGallery 105 = .ok (.iastore, 1) := by decide +kernel
theorem dX7_readGallery_106 : decode cX7_readGallery 106 = .ok (.aload_n 0, 1) := by decide +kernel
theorem dX7_readGallery_107 : decode cX7_readGallery 107 = .ok (.getfield 34, 3) := by decide +kernel
theorem dX7_readGallery_110 : decode cX7_readGallery 110 = .ok (.iload_n 3, 1) := by decide +kernel
theorem dX7_readGallery_111 : decode cX7_readGallery 111 = .ok (.iconst 1, 1) := by decide +kernel
theorem dX7_readGallery_112 : decode cX7_readGallery 112 = .ok (.iadd, 1) := by decide +kernel
theorem dX7_readGallery_113 : decode cX7_readGallery 113 = .ok (.iaload, 1) := by decide +kernel
theorem dX7_readGallery_114 : decode cX7_readGallery 114 = .ok (.bipush (-9), 2) := by decide +kernel
theorem dX7_readGallery_116 : decode cX7_readGallery 116 = .ok (.if_icmp .ne 5, 3) := by decide +kernel
theorem dX7_readGallery_119 : decode cX7_readGallery 119 = .ok (.iconst 0, 1) := by decide +kernel
theorem dX7_readGallery_120 : decode cX7_readGallery 120 = .ok (.ireturn, 1) := by decide +kernel
theorem dX7_readGallery_121 : decode cX7_readGallery 121 = .ok (.aload_n 0, 1) := by decide +kernel
theorem dX7_readGallery_122 : decode cX7_readGallery 122 = .ok (.getfield 34, 3) := by decide +kernel
theorem dX7_readGallery_125 : decode cX7_readGallery 125 = .ok (.iload_n 3, 1) := by decide +kernel
theorem dX7_readGallery_126 : decode cX7_readGallery 126 = .ok (.iconst 2, 1) := by decide +kernel
theorem dX7_readGallery_127 : decode cX7_readGallery 127 = .ok (.iadd, 1) := by decide +kernel
theorem dX7_readGallery_128 : decode cX7_readGallery 128 = .ok (.aload_n 0, 1) := by decide +kernel
theorem dX7_readGallery_129 : decode cX7_readGallery 129 = .ok (.iload_n 1, 1) := by decide +kernel
theorem dX7_readGallery_130 : decode cX7_readGallery 130 = .ok (.iconst 1, 1) := by decide +kernel
theorem dX7_readGallery_131 : decode cX7_readGallery 131 = .ok (.bipush 9, 2) := by decide +kernel
theorem dX7_readGallery_133 : decode cX7_readGallery 133 = .ok (.invokevirtual 123, 3) := by decide +kernel
theorem dX7_readGallery_136 : decode cX7_readGallery 136 = .ok (.iastore, 1) := by decide +kernel
theorem dX7_readGallery_137 : decode cX7_readGallery 137 = .ok (.aload_n 0, 1) := by decide +kernel
theorem dX7_readGallery_138 : decode cX7_readGallery 138 = .ok (.getfield 34, 3) := by decide +kernel
theorem dX7_readGallery_141 : decode cX7_readGallery 141 = .ok (.iload_n 3, 1) := by decide +kernel
theorem dX7_readGallery_142 : decode cX7_readGallery 142 = .ok (.iconst 2, 1) := by decide +kernel
theorem dX7_readGallery_143 : decode cX7_readGallery 143 = .ok (.iadd, 1) := by decide +kernel
theorem dX7_readGallery_144 : decode cX7_readGallery 144 = .ok (.iaload, 1) := by decide +kernel
theorem dX7_readGallery_145 : decode cX7_readGallery 145 = .ok (.bipush (-9), 2) := by decide +kernel
theorem dX7_readGallery_147 : decode cX7_readGallery 147 = .ok (.if_icmp .ne 5, 3) := by decide +kernel
theorem dX7_readGallery_150 : decode cX7_readGallery 150 = .ok (.iconst 0, 1) := by decide +kernel
theorem dX7_readGallery_151 : decode cX7_readGallery 151 = .ok (.ireturn, 1) := by decide +kernel
theorem dX7_readGallery_152 : decode cX7_readGallery 152 = .ok (.aload_n 0, 1) := by decide +kernel
theorem dX7_readGallery_153 : decode cX7_readGallery 153 = .ok (.getfield 34, 3) := by decide +kernel
theorem dX7_readGallery_156 : decode cX7_readGallery 156 = .ok (.iload_n 3, 1) := by decide +kernel
theorem dX7_readGallery_157 : decode cX7_readGallery 157 = .ok (.iconst 3, 1) := by decide +kernel
theorem dX7_readGallery_158 : decode cX7_readGallery 158 = .ok (.iadd, 1) := by decide +kernel
theorem dX7_readGallery_159 : decode cX7_readGallery 159 = .ok (.aload_n 0, 1) := by decide +kernel
theorem dX7_readGallery_160 : decode cX7_readGallery 160 = .ok (.iload_n 1, 1) := by decide +kernel
theorem dX7_readGallery_161 : decode cX7_readGallery 161 = .ok (.iconst 0, 1) := by decide +kernel
theorem dX7_readGallery_162 : decode cX7_readGallery 162 = .ok (.iconst 1, 1) := by decide +kernel
theorem dX7_readGallery_163 : decode cX7_readGallery 163 = .ok (.invokevirtual 123, 3) := by decide +kernel
theorem dX7_readGallery_166 : decode cX7_readGallery 166 = .ok (.iastore, 1) := by decide +kernel
theorem dX7_readGallery_167 : decode cX7_readGallery 167 = .ok (.aload_n 0, 1) := by decide +kernel
theorem dX7_readGallery_168 : decode cX7_readGallery 168 = .ok (.dup, 1) := by decide +kernel
theorem dX7_readGallery_169 : decode cX7_readGallery 169 = .ok (.getfield 98, 3) := by decide +kernel
theorem dX7_readGallery_172 : decode cX7_readGallery 172 = .ok (.iconst 1, 1) := by decide +kernel
theorem dX7_readGallery_173 : decode cX7_readGallery 173 = .ok (.iadd, 1) := by decide +kernel
theorem dX7_readGallery_174 : decode cX7_readGallery 174 = .ok (.putfield 98, 3) := by decide +kernel
theorem dX7_readGallery_177 : decode cX7_readGallery 177 = .ok (.aload_n 0, 1) := by decide +kernel
theorem dX7_readGallery_178 : decode cX7_readGallery 178 = .ok (.getfield 34, 3) := by decide +kernel
theorem dX7_readGallery_181 : decode cX7_readGallery 181 = .ok (.iload_n 3, 1) := by decide +kernel
theorem dX7_readGallery_182 : decode cX7_readGallery 182 = .ok (.iconst 3, 1) := by decide +kernel
theorem dX7_readGallery_183 : decode cX7_readGallery 183 = .ok (.iadd, 1) := by decide +kernel
theorem dX7_readGallery_184 : decode cX7_readGallery 184 = .ok (.iaload, 1) := by decide +kernel
theorem dX7_readGallery_185 : decode cX7_readGallery 185 = .ok (.bipush (-9), 2) := by decide +kernel
theorem dX7_readGallery_187 : decode cX7_readGallery 187 = .ok (.if_icmp .eq 7, 3) := by decide +kernel
theorem dX7_readGallery_190 : decode cX7_readGallery 190 = .ok (.iconst 1, 1) := by decide +kernel
theorem dX7_readGallery_191 : decode cX7_readGallery 191 = .ok (.goto 4, 3) := by decide +kernel
theorem dX7_readGallery_194 : decode cX7_readGallery 194 = .ok (.iconst 0, 1) := by decide +kernel
theorem dX7_readGallery_195 : decode cX7_readGallery 195 = .ok (.ireturn, 1) := by decide +kernel
theorem dX7_bearsBy_0 : decode cX7_bearsBy 0 = .ok (.iload_n 0, 1) := by decide +kernel
theorem dX7_bearsBy_1 : decode cX7_bearsBy 1 = .ok (.ifCond .ne 7, 3) := by decide +kernel
theorem dX7_bearsBy_4 : decode cX7_bearsBy 4 = .ok (.iload_n 1, 1) := by decide +kernel
theorem dX7_bearsBy_5 : decode cX7_bearsBy 5 = .ok (.goto 17, 3) := by decide +kernel
theorem dX7_bearsBy_8 : decode cX7_bearsBy 8 = .ok (.iload_n 0, 1) := by decide +kernel
theorem dX7_bearsBy_9 : decode cX7_bearsBy 9 = .ok (.iconst 1, 1) := by decide +kernel
theorem dX7_bearsBy_10 : decode cX7_bearsBy 10 = .ok (.if_icmp .ne 9, 3) := by decide +kernel
theorem dX7_bearsBy_13 : decode cX7_bearsBy 13 = .ok (.iload_n 1, 1) := by decide +kernel
theorem dX7_bearsBy_14 : decode cX7_bearsBy 14 = .ok (.iconst 1, 1) := by decide +kernel
theorem dX7_bearsBy_15 : decode cX7_bearsBy 15 = .ok (.isub, 1) := by decide +kernel
theorem dX7_bearsBy_16 : decode cX7_bearsBy 16 = .ok (.goto 6, 3) := by decide +kernel
theorem dX7_bearsBy_19 : decode cX7_bearsBy 19 = .ok (.iconst 2, 1) := by decide +kernel
theorem dX7_bearsBy_20 : decode cX7_bearsBy 20 = .ok (.iload_n 1, 1) := by decide +kernel
theorem dX7_bearsBy_21 : decode cX7_bearsBy 21 = .ok (.imul, 1) := by decide +kernel
theorem dX7_bearsBy_22 : decode cX7_bearsBy 22 = .ok (.ireturn, 1) := by decide +kernel
set_option maxRecDepth 20000 in
theorem ggX7_bearsOf_X7_bearsBy : GoodIn wsX7_bearsOf wsX7_bearsBy := goodIn_r _ [6] (by decide +kernel) (by decide +kernel)
set_option maxRecDepth 20000 in
theorem gX7_bearsOf_X7_bearsBy : GoodIn wsX7_bearsOf (va_wsS RX7 127 yX7_bearsBy wsX7_bearsBy) := goodIn_app (goodIn_of _ (by decide +kernel)) ggX7_bearsOf_X7_bearsBy
theorem dX7_bearsOf_0 : decode cX7_bearsOf 0 = .ok (.aload_n 0, 1) := by decide +kernel
theorem dX7_bearsOf_1 : decode cX7_bearsOf 1 = .ok (.getfield 22, 3) := by decide +kernel
theorem dX7_bearsOf_4 : decode cX7_bearsOf 4 = .ok (.iload_n 1, 1) := by decide +kernel
theorem dX7_bearsOf_5 : decode cX7_bearsOf 5 = .ok (.iaload, 1) := by decide +kernel
theorem dX7_bearsOf_6 : decode cX7_bearsOf 6 = .ok (.aload_n 0, 1) := by decide +kernel
theorem dX7_bearsOf_7 : decode cX7_bearsOf 7 = .ok (.getfield 28, 3) := by decide +kernel
theorem dX7_bearsOf_10 : decode cX7_bearsOf 10 = .ok (.iload_n 1, 1) := by decide +kernel
theorem dX7_bearsOf_11 : decode cX7_bearsOf 11 = .ok (.iaload, 1) := by decide +kernel
theorem dX7_bearsOf_12 : decode cX7_bearsOf 12 = .ok (.invokestatic 127, 3) := by decide +kernel
theorem dX7_bearsOf_15 : decode cX7_bearsOf 15 = .ok (.ireturn, 1) := by decide +kernel
theorem dX7_isDoor_0 : decode cX7_isDoor 0 = .ok (.iload_n 1, 1) := by decide +kernel
theorem dX7_isDoor_1 : decode cX7_isDoor 1 = .ok (.ifCond .lt 17, 3) := by decide +kernel
theorem dX7_isDoor_4 : decode cX7_isDoor 4 = .ok (.iload_n 1, 1) := by decide +kernel
theorem dX7_isDoor_5 : decode cX7_isDoor 5 = .ok (.aload_n 0, 1) := by decide +kernel
theorem dX7_isDoor_6 : decode cX7_isDoor 6 = .ok (.getfield 65, 3) := by decide +kernel
theorem dX7_isDoor_9 : decode cX7_isDoor 9 = .ok (.iconst 1, 1) := by decide +kernel
theorem dX7_isDoor_10 : decode cX7_isDoor 10 = .ok (.isub, 1) := by decide +kernel
theorem dX7_isDoor_11 : decode cX7_isDoor 11 = .ok (.if_icmp .ge 7, 3) := by decide +kernel
theorem dX7_isDoor_14 : decode cX7_isDoor 14 = .ok (.iconst 1, 1) := by decide +kernel
theorem dX7_isDoor_15 : decode cX7_isDoor 15 = .ok (.goto 4, 3) := by decide +kernel
theorem dX7_isDoor_18 : decode cX7_isDoor 18 = .ok (.iconst 0, 1) := by decide +kernel
theorem dX7_isDoor_19 : decode cX7_isDoor 19 = .ok (.ireturn, 1) := by decide +kernel
set_option maxRecDepth 20000 in
theorem ggX7_ofGallery_X7_isGallery : GoodIn wsX7_ofGallery wsX7_isGallery := goodIn_r _ [10, 11, 23, 24, 25, 26, 27, 28, 29, 30, 31, 32, 33, 34, 35, 36, 37, 38, 39, 40, 41, 42, 43, 44, 45, 46, 47, 48, 49, 50, 51] (by decide +kernel) (by decide +kernel)
set_option maxRecDepth 20000 in
theorem gX7_ofGallery_X7_isGallery : GoodIn wsX7_ofGallery (wsV RX7 131 RX7 yX7_isGallery wsX7_isGallery) := goodIn_app (goodIn_of _ (by decide +kernel)) ggX7_ofGallery_X7_isGallery
set_option maxRecDepth 20000 in
theorem ggX7_ofGallery_X7_bearsOf : GoodIn wsX7_ofGallery wsX7_bearsOf := goodIn_r _ [15, 1, 3, 16, 17, 9, 18, 23, 24, 25, 26, 27, 28, 29, 30, 31, 32, 33, 34, 35, 36, 37, 38, 39, 40, 41, 42, 43, 44, 45, 46, 47, 48, 49, 50, 51] (by decide +kernel) (by decide +kernel)
set_option maxRecDepth 20000 in
theorem gX7_ofGallery_X7_bearsOf : GoodIn wsX7_ofGallery (wsV RX7 134 RX7 yX7_bearsOf wsX7_bearsOf) := goodIn_app (goodIn_of _ (by decide +kernel)) ggX7_ofGallery_X7_bearsOf
set_option maxRecDepth 20000 in
theorem ggX7_ofGallery_X7_isDoor : GoodIn wsX7_ofGallery wsX7_isDoor := goodIn_r _ [22, 11, 23, 24, 25, 26, 27, 28, 29, 30, 31, 32, 33, 34, 35, 36, 37, 38, 39, 40, 41, 42, 43, 44, 45, 46, 47, 48, 49, 50, 51] (by decide +kernel) (by decide +kernel)
set_option maxRecDepth 20000 in
theorem gX7_ofGallery_X7_isDoor : GoodIn wsX7_ofGallery (wsV RX7 137 RX7 yX7_isDoor wsX7_isDoor) := goodIn_app (goodIn_of _ (by decide +kernel)) ggX7_ofGallery_X7_isDoor
theorem dX7_ofGallery_0 : decode cX7_ofGallery 0 = .ok (.aload_n 0, 1) := by decide +kernel
theorem dX7_ofGallery_1 : decode cX7_ofGallery 1 = .ok (.iload_n 1, 1) := by decide +kernel
theorem dX7_ofGallery_2 : decode cX7_ofGallery 2 = .ok (.invokevirtual 131, 3) := by decide +kernel
theorem dX7_ofGallery_5 : decode cX7_ofGallery 5 = .ok (.ifCond .ne 5, 3) := by decide +kernel
theorem dX7_ofGallery_8 : decode cX7_ofGallery 8 = .ok (.iconst (-1), 1) := by decide +kernel
theorem dX7_ofGallery_9 : decode cX7_ofGallery 9 = .ok (.ireturn, 1) := by decide +kernel
theorem dX7_ofGallery_10 : decode cX7_ofGallery 10 = .ok (.iload_n 2, 1) := by decide +kernel
theorem dX7_ofGallery_11 : decode cX7_ofGallery 11 = .ok (.tableswitch 95 0 5 #[37, 44, 51, 58, 64, 73], 37) := by decide +kernel
theorem dX7_ofGallery_48 : decode cX7_ofGallery 48 = .ok (.aload_n 0, 1) := by decide +kernel
theorem dX7_ofGallery_49 : decode cX7_ofGallery 49 = .ok (.getfield 22, 3) := by decide +kernel
theorem dX7_ofGallery_52 : decode cX7_ofGallery 52 = .ok (.iload_n 1, 1) := by decide +kernel
theorem dX7_ofGallery_53 : decode cX7_ofGallery 53 = .ok (.iaload, 1) := by decide +kernel
theorem dX7_ofGallery_54 : decode cX7_ofGallery 54 = .ok (.ireturn, 1) := by decide +kernel
theorem dX7_ofGallery_55 : decode cX7_ofGallery 55 = .ok (.aload_n 0, 1) := by decide +kernel
theorem dX7_ofGallery_56 : decode cX7_ofGallery 56 = .ok (.getfield 25, 3) := by decide +kernel
theorem dX7_ofGallery_59 : decode cX7_ofGallery 59 = .ok (.iload_n 1, 1) := by decide +kernel
theorem dX7_ofGallery_60 : decode cX7_ofGallery 60 = .ok (.iaload, 1) := by decide +kernel
theorem dX7_ofGallery_61 : decode cX7_ofGallery 61 = .ok (.ireturn, 1) := by decide +kernel
theorem dX7_ofGallery_62 : decode cX7_ofGallery 62 = .ok (.aload_n 0, 1) := by decide +kernel
theorem dX7_ofGallery_63 : decode cX7_ofGallery 63 = .ok (.getfield 28, 3) := by decide +kernel
theorem dX7_ofGallery_66 : decode cX7_ofGallery 66 = .ok (.iload_n 1, 1) := by decide +kernel
theorem dX7_ofGallery_67 : decode cX7_ofGallery 67 = .ok (.iaload, 1) := by decide +kernel
theorem dX7_ofGallery_68 : decode cX7_ofGallery 68 = .ok (.ireturn, 1) := by decide +kernel
theorem dX7_ofGallery_69 : decode cX7_ofGallery 69 = .ok (.aload_n 0, 1) := by decide +kernel
theorem dX7_ofGallery_70 : decode cX7_ofGallery 70 = .ok (.iload_n 1, 1) := by decide +kernel
theorem dX7_ofGallery_71 : decode cX7_ofGallery 71 = .ok (.invokevirtual 134, 3) := by decide +kernel
theorem dX7_ofGallery_74 : decode cX7_ofGallery 74 = .ok (.ireturn, 1) := by decide +kernel
theorem dX7_ofGallery_75 : decode cX7_ofGallery 75 = .ok (.aload_n 0, 1) := by decide +kernel
theorem dX7_ofGallery_76 : decode cX7_ofGallery 76 = .ok (.getfield 107, 3) := by decide +kernel
theorem dX7_ofGallery_79 : decode cX7_ofGallery 79 = .ok (.iload_n 1, 1) := by decide +kernel
theorem dX7_ofGallery_80 : decode cX7_ofGallery 80 = .ok (.ishr, 1) := by decide +kernel
theorem dX7_ofGallery_81 : decode cX7_ofGallery 81 = .ok (.iconst 1, 1) := by decide +kernel
theorem dX7_ofGallery_82 : decode cX7_ofGallery 82 = .ok (.iand, 1) := by decide +kernel
theorem dX7_ofGallery_83 : decode cX7_ofGallery 83 = .ok (.ireturn, 1) := by decide +kernel
theorem dX7_ofGallery_84 : decode cX7_ofGallery 84 = .ok (.aload_n 0, 1) := by decide +kernel
theorem dX7_ofGallery_85 : decode cX7_ofGallery 85 = .ok (.iload_n 1, 1) := by decide +kernel
theorem dX7_ofGallery_86 : decode cX7_ofGallery 86 = .ok (.invokevirtual 137, 3) := by decide +kernel
theorem dX7_ofGallery_89 : decode cX7_ofGallery 89 = .ok (.ifCond .eq 14, 3) := by decide +kernel
theorem dX7_ofGallery_92 : decode cX7_ofGallery 92 = .ok (.aload_n 0, 1) := by decide +kernel
theorem dX7_ofGallery_93 : decode cX7_ofGallery 93 = .ok (.getfield 101, 3) := by decide +kernel
theorem dX7_ofGallery_96 : decode cX7_ofGallery 96 = .ok (.iload_n 1, 1) := by decide +kernel
theorem dX7_ofGallery_97 : decode cX7_ofGallery 97 = .ok (.ishr, 1) := by decide +kernel
theorem dX7_ofGallery_98 : decode cX7_ofGallery 98 = .ok (.iconst 1, 1) := by decide +kernel
theorem dX7_ofGallery_99 : decode cX7_ofGallery 99 = .ok (.iand, 1) := by decide +kernel
theorem dX7_ofGallery_100 : decode cX7_ofGallery 100 = .ok (.goto 5, 3) := by decide +kernel
theorem dX7_ofGallery_103 : decode cX7_ofGallery 103 = .ok (.bipush (-9), 2) := by decide +kernel
theorem dX7_ofGallery_105 : decode cX7_ofGallery 105 = .ok (.ireturn, 1) := by decide +kernel
theorem dX7_ofGallery_106 : decode cX7_ofGallery 106 = .ok (.bipush (-2), 2) := by decide +kernel
theorem dX7_ofGallery_108 : decode cX7_ofGallery 108 = .ok (.ireturn, 1) := by decide +kernel
set_option maxRecDepth 20000 in
theorem ggX7_bad_X7_isWord : GoodIn wsX7_bad wsX7_isWord := goodIn_r _ [6, 7, 8, 9, 10, 11, 12, 13, 14, 15, 16, 17, 18, 19, 20, 21, 22, 23, 24, 25, 26, 27, 28, 29, 30, 31, 32, 33, 34, 35, 36] (by decide +kernel) (by decide +kernel)
set_option maxRecDepth 20000 in
theorem gX7_bad_X7_isWord : GoodIn wsX7_bad (wsV RX7 140 RX7 yX7_isWord wsX7_isWord) := goodIn_app (goodIn_of _ (by decide +kernel)) ggX7_bad_X7_isWord
theorem dX7_bad_0 : decode cX7_bad 0 = .ok (.aload_n 0, 1) := by decide +kernel
theorem dX7_bad_1 : decode cX7_bad 1 = .ok (.iload_n 1, 1) := by decide +kernel
theorem dX7_bad_2 : decode cX7_bad 2 = .ok (.invokevirtual 140, 3) := by decide +kernel
theorem dX7_bad_5 : decode cX7_bad 5 = .ok (.ifCond .eq 12, 3) := by decide +kernel
theorem dX7_bad_8 : decode cX7_bad 8 = .ok (.aload_n 0, 1) := by decide +kernel
theorem dX7_bad_9 : decode cX7_bad 9 = .ok (.getfield 19, 3) := by decide +kernel
theorem dX7_bad_12 : decode cX7_bad 12 = .ok (.iload_n 1, 1) := by decide +kernel
theorem dX7_bad_13 : decode cX7_bad 13 = .ok (.iaload, 1) := by decide +kernel
theorem dX7_bad_14 : decode cX7_bad 14 = .ok (.goto 4, 3) := by decide +kernel
theorem dX7_bad_17 : decode cX7_bad 17 = .ok (.iconst (-1), 1) := by decide +kernel
theorem dX7_bad_18 : decode cX7_bad 18 = .ok (.ireturn, 1) := by decide +kernel
set_option maxRecDepth 20000 in
theorem ggX7_foul_X7_isGallery : GoodIn wsX7_foul wsX7_isGallery := goodIn_r _ [6, 7, 11, 12, 13, 14, 15, 16, 17, 18, 19, 20, 21, 22, 23, 24, 25, 26, 27, 28, 29, 30, 31, 32, 33, 34, 35, 36, 37, 38, 39] (by decide +kernel) (by decide +kernel)
set_option maxRecDepth 20000 in
theorem gX7_foul_X7_isGallery : GoodIn wsX7_foul (wsV RX7 131 RX7 yX7_isGallery wsX7_isGallery) := goodIn_app (goodIn_of _ (by decide +kernel)) ggX7_foul_X7_isGallery
set_option maxRecDepth 20000 in
theorem ggX7_foul_X7_within : GoodIn wsX7_foul wsX7_within := goodIn_r _ [10] (by decide +kernel) (by decide +kernel)
set_option maxRecDepth 20000 in
theorem gX7_foul_X7_within : GoodIn wsX7_foul (va_wsS RX7 61 yX7_within wsX7_within) := goodIn_app (goodIn_of _ (by decide +kernel)) ggX7_foul_X7_within
theorem dX7_foul_0 : decode cX7_foul 0 = .ok (.aload_n 0, 1) := by decide +kernel
theorem dX7_foul_1 : decode cX7_foul 1 = .ok (.iload_n 1, 1) := by decide +kernel
theorem dX7_foul_2 : decode cX7_foul 2 = .ok (.invokevirtual 131, 3) := by decide +kernel
theorem dX7_foul_5 : decode cX7_foul 5 = .ok (.ifCond .ne 5, 3) := by decide +kernel
theorem dX7_foul_8 : decode cX7_foul 8 = .ok (.iconst (-1), 1) := by decide +kernel
theorem dX7_foul_9 : decode cX7_foul 9 = .ok (.ireturn, 1) := by decide +kernel
theorem dX7_foul_10 : decode cX7_foul 10 = .ok (.iload_n 2, 1) := by decide +kernel
theorem dX7_foul_11 : decode cX7_foul 11 = .ok (.iconst 0, 1) := by decide +kernel
theorem dX7_foul_12 : decode cX7_foul 12 = .ok (.bipush 40, 2) := by decide +kernel
theorem dX7_foul_14 : decode cX7_foul 14 = .ok (.invokestatic 61, 3) := by decide +kernel
theorem dX7_foul_17 : decode cX7_foul 17 = .ok (.ifCond .ne 6, 3) := by decide +kernel
theorem dX7_foul_20 : decode cX7_foul 20 = .ok (.bipush (-2), 2) := by decide +kernel
theorem dX7_foul_22 : decode cX7_foul 22 = .ok (.ireturn, 1) := by decide +kernel
theorem dX7_foul_23 : decode cX7_foul 23 = .ok (.aload_n 0, 1) := by decide +kernel
theorem dX7_foul_24 : decode cX7_foul 24 = .ok (.getfield 25, 3) := by decide +kernel
theorem dX7_foul_27 : decode cX7_foul 27 = .ok (.iload_n 1, 1) := by decide +kernel
theorem dX7_foul_28 : decode cX7_foul 28 = .ok (.iaload, 1) := by decide +kernel
theorem dX7_foul_29 : decode cX7_foul 29 = .ok (.istore_n 3, 1) := by decide +kernel
theorem dX7_foul_30 : decode cX7_foul 30 = .ok (.aload_n 0, 1) := by decide +kernel
theorem dX7_foul_31 : decode cX7_foul 31 = .ok (.getfield 25, 3) := by decide +kernel
theorem dX7_foul_34 : decode cX7_foul 34 = .ok (.iload_n 1, 1) := by decide +kernel
theorem dX7_foul_35 : decode cX7_foul 35 = .ok (.iload_n 2, 1) := by decide +kernel
theorem dX7_foul_36 : decode cX7_foul 36 = .ok (.iastore, 1) := by decide +kernel
theorem dX7_foul_37 : decode cX7_foul 37 = .ok (.iload_n 3, 1) := by decide +kernel
theorem dX7_foul_38 : decode cX7_foul 38 = .ok (.ireturn, 1) := by decide +kernel
set_option maxRecDepth 20000 in
theorem ggX7_breed_X7_isGallery : GoodIn wsX7_breed wsX7_isGallery := goodIn_r _ [6, 7, 11, 12, 13, 14, 15, 16, 17, 18, 19, 20, 21, 22, 23, 24, 25, 26, 27, 28, 29, 30, 31, 32, 33, 34, 35, 36, 37, 38, 39] (by decide +kernel) (by decide +kernel)
set_option maxRecDepth 20000 in
theorem gX7_breed_X7_isGallery : GoodIn wsX7_breed (wsV RX7 131 RX7 yX7_isGallery wsX7_isGallery) := goodIn_app (goodIn_of _ (by decide +kernel)) ggX7_breed_X7_isGallery
set_option maxRecDepth 20000 in
theorem ggX7_breed_X7_within : GoodIn wsX7_breed wsX7_within := goodIn_r _ [10] (by decide +kernel) (by decide +kernel)
set_option maxRecDepth 20000 in
theorem gX7_breed_X7_within : GoodIn wsX7_breed (va_wsS RX7 61 yX7_within wsX7_within) := goodIn_app (goodIn_of _ (by decide +kernel)) ggX7_breed_X7_within
theorem dX7_breed_0 : decode cX7_breed 0 = .ok (.aload_n 0, 1) := by decide +kernel
theorem dX7_breed_1 : decode cX7_breed 1 = .ok (.iload_n 1, 1) := by decide +kernel
theorem dX7_breed_2 : decode cX7_breed 2 = .ok (.invokevirtual 131, 3) := by decide +kernel
theorem dX7_breed_5 : decode cX7_breed 5 = .ok (.ifCond .ne 5, 3) := by decide +kernel
theorem dX7_breed_8 : decode cX7_breed 8 = .ok (.iconst (-1), 1) := by decide +kernel
theorem dX7_breed_9 : decode cX7_breed 9 = .ok (.ireturn, 1) := by decide +kernel
theorem dX7_breed_10 : decode cX7_breed 10 = .ok (.iload_n 2, 1) := by decide +kernel
theorem dX7_breed_11 : decode cX7_breed 11 = .ok (.iconst 1, 1) := by decide +kernel
theorem dX7_breed_12 : decode cX7_breed 12 = .ok (.bipush 9, 2) := by decide +kernel
theorem dX7_breed_14 : decode cX7_breed 14 = .ok (.invokestatic 61, 3) := by decide +kernel
theorem dX7_breed_17 : decode cX7_breed 17 = .ok (.ifCond .ne 6, 3) := by decide +kernel
theorem dX7_breed_20 : decode cX7_breed 20 = .ok (.bipush (-2), 2) := by decide +kernel
theorem dX7_breed_22 : decode cX7_breed 22 = .ok (.ireturn, 1) := by decide +kernel
theorem dX7_breed_23 : decode cX7_breed 23 = .ok (.aload_n 0, 1) := by decide +kernel
theorem dX7_breed_24 : decode cX7_breed 24 = .ok (.getfield 28, 3) := by decide +kernel
theorem dX7_breed_27 : decode cX7_breed 27 = .ok (.iload_n 1, 1) := by decide +kernel
theorem dX7_breed_28 : decode cX7_breed 28 = .ok (.iaload, 1) := by decide +kernel
theorem dX7_breed_29 : decode cX7_breed 29 = .ok (.istore_n 3, 1) := by decide +kernel
theorem dX7_breed_30 : decode cX7_breed 30 = .ok (.aload_n 0, 1) := by decide +kernel
theorem dX7_breed_31 : decode cX7_breed 31 = .ok (.getfield 28, 3) := by decide +kernel
theorem dX7_breed_34 : decode cX7_breed 34 = .ok (.iload_n 1, 1) := by decide +kernel
theorem dX7_breed_35 : decode cX7_breed 35 = .ok (.iload_n 2, 1) := by decide +kernel
theorem dX7_breed_36 : decode cX7_breed 36 = .ok (.iastore, 1) := by decide +kernel
theorem dX7_breed_37 : decode cX7_breed 37 = .ok (.iload_n 3, 1) := by decide +kernel
theorem dX7_breed_38 : decode cX7_breed 38 = .ok (.ireturn, 1) := by decide +kernel
set_option maxRecDepth 20000 in
theorem ggX7_door_X7_isDoor : GoodIn wsX7_door wsX7_isDoor := goodIn_r _ [6, 7, 11, 12, 13, 14, 15, 16, 17, 18, 19, 20, 21, 22, 23, 24, 25, 26, 27, 28, 29, 30, 31, 32, 33, 34, 35, 36, 37, 38, 39] (by decide +kernel) (by decide +kernel)
set_option maxRecDepth 20000 in
theorem gX7_door_X7_isDoor : GoodIn wsX7_door (wsV RX7 137 RX7 yX7_isDoor wsX7_isDoor) := goodIn_app (goodIn_of _ (by decide +kernel)) ggX7_door_X7_isDoor
set_option maxRecDepth 20000 in
theorem ggX7_door_X7_within : GoodIn wsX7_door wsX7_within := goodIn_r _ [10] (by decide +kernel) (by decide +kernel)
set_option maxRecDepth 20000 in
theorem gX7_door_X7_within : GoodIn wsX7_door (va_wsS RX7 61 yX7_within wsX7_within) := goodIn_app (goodIn_of _ (by decide +kernel)) ggX7_door_X7_within
theorem dX7_door_0 : decode cX7_door 0 = .ok (.aload_n 0, 1) := by decide +kernel
theorem dX7_door_1 : decode cX7_door 1 = .ok (.iload_n 1, 1) := by decide +kernel
theorem dX7_door_2 : decode cX7_door 2 = .ok (.invokevirtual 137, 3) := by decide +kernel
theorem dX7_door_5 : decode cX7_door 5 = .ok (.ifCond .ne 5, 3) := by decide +kernel
theorem dX7_door_8 : decode cX7_door 8 = .ok (.iconst (-1), 1) := by decide +kernel
theorem dX7_door_9 : decode cX7_door 9 = .ok (.ireturn, 1) := by decide +kernel
theorem dX7_door_10 : decode cX7_door 10 = .ok (.iload_n 2, 1) := by decide +kernel
theorem dX7_door_11 : decode cX7_door 11 = .ok (.iconst 0, 1) := by decide +kernel
theorem dX7_door_12 : decode cX7_door 12 = .ok (.iconst 1, 1) := by decide +kernel
theorem dX7_door_13 : decode cX7_door 13 = .ok (.invokestatic 61, 3) := by decide +kernel
theorem dX7_door_16 : decode cX7_door 16 = .ok (.ifCond .ne 6, 3) := by decide +kernel
theorem dX7_door_19 : decode cX7_door 19 = .ok (.bipush (-2), 2) := by decide +kernel
theorem dX7_door_21 : decode cX7_door 21 = .ok (.ireturn, 1) := by decide +kernel
theorem dX7_door_22 : decode cX7_door 22 = .ok (.aload_n 0, 1) := by decide +kernel
theorem dX7_door_23 : decode cX7_door 23 = .ok (.getfield 101, 3) := by decide +kernel
theorem dX7_door_26 : decode cX7_door 26 = .ok (.iload_n 1, 1) := by decide +kernel
theorem dX7_door_27 : decode cX7_door 27 = .ok (.ishr, 1) := by decide +kernel
theorem dX7_door_28 : decode cX7_door 28 = .ok (.iconst 1, 1) := by decide +kernel
theorem dX7_door_29 : decode cX7_door 29 = .ok (.iand, 1) := by decide +kernel
theorem dX7_door_30 : decode cX7_door 30 = .ok (.istore_n 3, 1) := by decide +kernel
theorem dX7_door_31 : decode cX7_door 31 = .ok (.aload_n 0, 1) := by decide +kernel
theorem dX7_door_32 : decode cX7_door 32 = .ok (.aload_n 0, 1) := by decide +kernel
theorem dX7_door_33 : decode cX7_door 33 = .ok (.getfield 101, 3) := by decide +kernel
theorem dX7_door_36 : decode cX7_door 36 = .ok (.iconst 1, 1) := by decide +kernel
theorem dX7_door_37 : decode cX7_door 37 = .ok (.iload_n 1, 1) := by decide +kernel
theorem dX7_door_38 : decode cX7_door 38 = .ok (.ishl, 1) := by decide +kernel
theorem dX7_door_39 : decode cX7_door 39 = .ok (.iconst (-1), 1) := by decide +kernel
theorem dX7_door_40 : decode cX7_door 40 = .ok (.ixor, 1) := by decide +kernel
theorem dX7_door_41 : decode cX7_door 41 = .ok (.iand, 1) := by decide +kernel
theorem dX7_door_42 : decode cX7_door 42 = .ok (.iload_n 2, 1) := by decide +kernel
theorem dX7_door_43 : decode cX7_door 43 = .ok (.iload_n 1, 1) := by decide +kernel
theorem dX7_door_44 : decode cX7_door 44 = .ok (.ishl, 1) := by decide +kernel
theorem dX7_door_45 : decode cX7_door 45 = .ok (.ior, 1) := by decide +kernel
theorem dX7_door_46 : decode cX7_door 46 = .ok (.putfield 101, 3) := by decide +kernel
theorem dX7_door_49 : decode cX7_door 49 = .ok (.iload_n 3, 1) := by decide +kernel
theorem dX7_door_50 : decode cX7_door 50 = .ok (.ireturn, 1) := by decide +kernel
set_option maxRecDepth 20000 in
theorem ggX7_pass_X7_isOf : GoodIn wsX7_pass wsX7_isOf := goodIn_r _ [7] (by decide +kernel) (by decide +kernel)
set_option maxRecDepth 20000 in
theorem gX7_pass_X7_isOf : GoodIn wsX7_pass (va_wsS RX7 143 yX7_isOf wsX7_isOf) := goodIn_app (goodIn_of _ (by decide +kernel)) ggX7_pass_X7_isOf
theorem dX7_pass_0 : decode cX7_pass 0 = .ok (.iconst 0, 1) := by decide +kernel
theorem dX7_pass_1 : decode cX7_pass 1 = .ok (.istore_n 1, 1) := by decide +kernel
theorem dX7_pass_2 : decode cX7_pass 2 = .ok (.iconst 0, 1) := by decide +kernel
theorem dX7_pass_3 : decode cX7_pass 3 = .ok (.istore_n 2, 1) := by decide +kernel
theorem dX7_pass_4 : decode cX7_pass 4 = .ok (.iload_n 2, 1) := by decide +kernel
theorem dX7_pass_5 : decode cX7_pass 5 = .ok (.aload_n 0, 1) := by decide +kernel
theorem dX7_pass_6 : decode cX7_pass 6 = .ok (.getfield 65, 3) := by decide +kernel
theorem dX7_pass_9 : decode cX7_pass 9 = .ok (.iconst 1, 1) := by decide +kernel
theorem dX7_pass_10 : decode cX7_pass 10 = .ok (.isub, 1) := by decide +kernel
theorem dX7_pass_11 : decode cX7_pass 11 = .ok (.if_icmp .ge 84, 3) := by decide +kernel
theorem dX7_pass_14 : decode cX7_pass 14 = .ok (.aload_n 0, 1) := by decide +kernel
theorem dX7_pass_15 : decode cX7_pass 15 = .ok (.getfield 25, 3) := by decide +kernel
theorem dX7_pass_18 : decode cX7_pass 18 = .ok (.iload_n 2, 1) := by decide +kernel
theorem dX7_pass_19 : decode cX7_pass 19 = .ok (.iaload, 1) := by decide +kernel
theorem dX7_pass_20 : decode cX7_pass 20 = .ok (.aload_n 0, 1) := by decide +kernel
theorem dX7_pass_21 : decode cX7_pass 21 = .ok (.getfield 25, 3) := by decide +kernel
theorem dX7_pass_24 : decode cX7_pass 24 = .ok (.iload_n 2, 1) := by decide +kernel
theorem dX7_pass_25 : decode cX7_pass 25 = .ok (.iconst 1, 1) := by decide +kernel
theorem dX7_pass_26 : decode cX7_pass 26 = .ok (.iadd, 1) := by decide +kernel
theorem dX7_pass_27 : decode cX7_pass 27 = .ok (.iaload, 1) := by decide +kernel
theorem dX7_pass_28 : decode cX7_pass 28 = .ok (.isub, 1) := by decide +kernel
theorem dX7_pass_29 : decode cX7_pass 29 = .ok (.istore_n 3, 1) := by decide +kernel
theorem dX7_pass_30 : decode cX7_pass 30 = .ok (.aload_n 0, 1) := by decide +kernel
theorem dX7_pass_31 : decode cX7_pass 31 = .ok (.getfield 101, 3) := by decide +kernel
theorem dX7_pass_34 : decode cX7_pass 34 = .ok (.iload_n 2, 1) := by decide +kernel
theorem dX7_pass_35 : decode cX7_pass 35 = .ok (.invokestatic 143, 3) := by decide +kernel
theorem dX7_pass_38 : decode cX7_pass 38 = .ok (.ifCond .eq 51, 3) := by decide +kernel
theorem dX7_pass_41 : decode cX7_pass 41 = .ok (.iload_n 3, 1) := by decide +kernel
theorem dX7_pass_42 : decode cX7_pass 42 = .ok (.iconst 1, 1) := by decide +kernel
theorem dX7_pass_43 : decode cX7_pass 43 = .ok (.if_icmp .gt 8, 3) := by decide +kernel
theorem dX7_pass_46 : decode cX7_pass 46 = .ok (.iload_n 3, 1) := by decide +kernel
theorem dX7_pass_47 : decode cX7_pass 47 = .ok (.iconst (-1), 1) := by decide +kernel
theorem dX7_pass_48 : decode cX7_pass 48 = .ok (.if_icmp .ge 41, 3) := by decide +kernel
theorem dX7_pass_51 : decode cX7_pass 51 = .ok (.iload_n 3, 1) := by decide +kernel
theorem dX7_pass_52 : decode cX7_pass 52 = .ok (.ifCond .le 7, 3) := by decide +kernel
theorem dX7_pass_55 : decode cX7_pass 55 = .ok (.iconst 1, 1) := by decide +kernel
theorem dX7_pass_56 : decode cX7_pass 56 = .ok (.goto 4, 3) := by decide +kernel
theorem dX7_pass_59 : decode cX7_pass 59 = .ok (.iconst (-1), 1) := by decide +kernel
theorem dX7_pass_60 : decode cX7_pass 60 = .ok (.istore 4, 2) := by decide +kernel
theorem dX7_pass_62 : decode cX7_pass 62 = .ok (.aload_n 0, 1) := by decide +kernel
