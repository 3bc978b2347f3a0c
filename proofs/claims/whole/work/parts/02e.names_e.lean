theorem dX6_isDoor_17 : decode cX6_isDoor 17 = .ok (.iconst 1, 1) := by decide +kernel
theorem dX6_isDoor_18 : decode cX6_isDoor 18 = .ok (.goto 4, 3) := by decide +kernel
theorem dX6_isDoor_21 : decode cX6_isDoor 21 = .ok (.iconst 0, 1) := by decide +kernel
theorem dX6_isDoor_22 : decode cX6_isDoor 22 = .ok (.ireturn, 1) := by decide +kernel
theorem dX6_isSheet_0 : decode cX6_isSheet 0 = .ok (.iload_n 0, 1) := by decide +kernel
theorem dX6_isSheet_1 : decode cX6_isSheet 1 = .ok (.ifCond .lt 12, 3) := by decide +kernel
theorem dX6_isSheet_4 : decode cX6_isSheet 4 = .ok (.iload_n 0, 1) := by decide +kernel
theorem dX6_isSheet_5 : decode cX6_isSheet 5 = .ok (.iconst 4, 1) := by decide +kernel
theorem dX6_isSheet_6 : decode cX6_isSheet 6 = .ok (.if_icmp .ge 7, 3) := by decide +kernel
theorem dX6_isSheet_9 : decode cX6_isSheet 9 = .ok (.iconst 1, 1) := by decide +kernel
theorem dX6_isSheet_10 : decode cX6_isSheet 10 = .ok (.goto 4, 3) := by decide +kernel
theorem dX6_isSheet_13 : decode cX6_isSheet 13 = .ok (.iconst 0, 1) := by decide +kernel
theorem dX6_isSheet_14 : decode cX6_isSheet 14 = .ok (.ireturn, 1) := by decide +kernel
theorem dX6_isLane_0 : decode cX6_isLane 0 = .ok (.iload_n 0, 1) := by decide +kernel
theorem dX6_isLane_1 : decode cX6_isLane 1 = .ok (.ifCond .lt 12, 3) := by decide +kernel
theorem dX6_isLane_4 : decode cX6_isLane 4 = .ok (.iload_n 0, 1) := by decide +kernel
theorem dX6_isLane_5 : decode cX6_isLane 5 = .ok (.iconst 3, 1) := by decide +kernel
theorem dX6_isLane_6 : decode cX6_isLane 6 = .ok (.if_icmp .ge 7, 3) := by decide +kernel
theorem dX6_isLane_9 : decode cX6_isLane 9 = .ok (.iconst 1, 1) := by decide +kernel
theorem dX6_isLane_10 : decode cX6_isLane 10 = .ok (.goto 4, 3) := by decide +kernel
theorem dX6_isLane_13 : decode cX6_isLane 13 = .ok (.iconst 0, 1) := by decide +kernel
theorem dX6_isLane_14 : decode cX6_isLane 14 = .ok (.ireturn, 1) := by decide +kernel
theorem dX6_isFoul_0 : decode cX6_isFoul 0 = .ok (.iload_n 0, 1) := by decide +kernel
theorem dX6_isFoul_1 : decode cX6_isFoul 1 = .ok (.ifCond .lt 13, 3) := by decide +kernel
theorem dX6_isFoul_4 : decode cX6_isFoul 4 = .ok (.iload_n 0, 1) := by decide +kernel
theorem dX6_isFoul_5 : decode cX6_isFoul 5 = .ok (.bipush 40, 2) := by decide +kernel
theorem dX6_isFoul_7 : decode cX6_isFoul 7 = .ok (.if_icmp .gt 7, 3) := by decide +kernel
theorem dX6_isFoul_10 : decode cX6_isFoul 10 = .ok (.iconst 1, 1) := by decide +kernel
theorem dX6_isFoul_11 : decode cX6_isFoul 11 = .ok (.goto 4, 3) := by decide +kernel
theorem dX6_isFoul_14 : decode cX6_isFoul 14 = .ok (.iconst 0, 1) := by decide +kernel
theorem dX6_isFoul_15 : decode cX6_isFoul 15 = .ok (.ireturn, 1) := by decide +kernel
theorem dX6_isOfShift_0 : decode cX6_isOfShift 0 = .ok (.iload_n 0, 1) := by decide +kernel
theorem dX6_isOfShift_1 : decode cX6_isOfShift 1 = .ok (.ifCond .lt 8, 3) := by decide +kernel
theorem dX6_isOfShift_4 : decode cX6_isOfShift 4 = .ok (.iload_n 0, 1) := by decide +kernel
theorem dX6_isOfShift_5 : decode cX6_isOfShift 5 = .ok (.iconst 3, 1) := by decide +kernel
theorem dX6_isOfShift_6 : decode cX6_isOfShift 6 = .ok (.if_icmp .le 15, 3) := by decide +kernel
theorem dX6_isOfShift_9 : decode cX6_isOfShift 9 = .ok (.iload_n 0, 1) := by decide +kernel
theorem dX6_isOfShift_10 : decode cX6_isOfShift 10 = .ok (.bipush 10, 2) := by decide +kernel
theorem dX6_isOfShift_12 : decode cX6_isOfShift 12 = .ok (.if_icmp .lt 13, 3) := by decide +kernel
theorem dX6_isOfShift_15 : decode cX6_isOfShift 15 = .ok (.iload_n 0, 1) := by decide +kernel
theorem dX6_isOfShift_16 : decode cX6_isOfShift 16 = .ok (.bipush 16, 2) := by decide +kernel
theorem dX6_isOfShift_18 : decode cX6_isOfShift 18 = .ok (.if_icmp .ge 7, 3) := by decide +kernel
theorem dX6_isOfShift_21 : decode cX6_isOfShift 21 = .ok (.iconst 1, 1) := by decide +kernel
theorem dX6_isOfShift_22 : decode cX6_isOfShift 22 = .ok (.goto 4, 3) := by decide +kernel
theorem dX6_isOfShift_25 : decode cX6_isOfShift 25 = .ok (.iconst 0, 1) := by decide +kernel
theorem dX6_isOfShift_26 : decode cX6_isOfShift 26 = .ok (.ireturn, 1) := by decide +kernel
theorem dX6_faulted_0 : decode cX6_faulted 0 = .ok (.aload_n 0, 1) := by decide +kernel
theorem dX6_faulted_1 : decode cX6_faulted 1 = .ok (.iload_n 1, 1) := by decide +kernel
theorem dX6_faulted_2 : decode cX6_faulted 2 = .ok (.putfield 67, 3) := by decide +kernel
theorem dX6_faulted_5 : decode cX6_faulted 5 = .ok (.bipush (-10), 2) := by decide +kernel
theorem dX6_faulted_7 : decode cX6_faulted 7 = .ok (.iload_n 1, 1) := by decide +kernel
theorem dX6_faulted_8 : decode cX6_faulted 8 = .ok (.isub, 1) := by decide +kernel
theorem dX6_faulted_9 : decode cX6_faulted 9 = .ok (.ireturn, 1) := by decide +kernel
set_option maxRecDepth 20000 in
theorem ggX6_firstFaultOfText_X6_wordsOfText : GoodIn wsX6_firstFaultOfText wsX6_wordsOfText := goodIn_r _ [4, 5, 6, 3, 7] (by decide +kernel) (by decide +kernel)
set_option maxRecDepth 20000 in
theorem gX6_firstFaultOfText_X6_wordsOfText : GoodIn wsX6_firstFaultOfText (va_wsS RX6 263 yX6_wordsOfText wsX6_wordsOfText) := goodIn_app (goodIn_of _ (by decide +kernel)) ggX6_firstFaultOfText_X6_wordsOfText
set_option maxRecDepth 20000 in
theorem ggX6_firstFaultOfText_X6_fitsGallery : GoodIn wsX6_firstFaultOfText wsX6_fitsGallery := goodIn_r _ [10, 11, 12, 3, 13, 5, 6, 7] (by decide +kernel) (by decide +kernel)
set_option maxRecDepth 20000 in
theorem gX6_firstFaultOfText_X6_fitsGallery : GoodIn wsX6_firstFaultOfText (va_wsS RX6 266 yX6_fitsGallery wsX6_fitsGallery) := goodIn_app (goodIn_of _ (by decide +kernel)) ggX6_firstFaultOfText_X6_fitsGallery
theorem dX6_firstFaultOfText_0 : decode cX6_firstFaultOfText 0 = .ok (.iload_n 2, 1) := by decide +kernel
theorem dX6_firstFaultOfText_1 : decode cX6_firstFaultOfText 1 = .ok (.ifCond .eq 11, 3) := by decide +kernel
theorem dX6_firstFaultOfText_4 : decode cX6_firstFaultOfText 4 = .ok (.aload_n 0, 1) := by decide +kernel
theorem dX6_firstFaultOfText_5 : decode cX6_firstFaultOfText 5 = .ok (.iload_n 1, 1) := by decide +kernel
theorem dX6_firstFaultOfText_6 : decode cX6_firstFaultOfText 6 = .ok (.iaload, 1) := by decide +kernel
theorem dX6_firstFaultOfText_7 : decode cX6_firstFaultOfText 7 = .ok (.bipush 109, 2) := by decide +kernel
theorem dX6_firstFaultOfText_9 : decode cX6_firstFaultOfText 9 = .ok (.if_icmp .eq 5, 3) := by decide +kernel
theorem dX6_firstFaultOfText_12 : decode cX6_firstFaultOfText 12 = .ok (.iconst 0, 1) := by decide +kernel
theorem dX6_firstFaultOfText_13 : decode cX6_firstFaultOfText 13 = .ok (.ireturn, 1) := by decide +kernel
theorem dX6_firstFaultOfText_14 : decode cX6_firstFaultOfText 14 = .ok (.aload_n 0, 1) := by decide +kernel
theorem dX6_firstFaultOfText_15 : decode cX6_firstFaultOfText 15 = .ok (.iload_n 1, 1) := by decide +kernel
theorem dX6_firstFaultOfText_16 : decode cX6_firstFaultOfText 16 = .ok (.iload_n 2, 1) := by decide +kernel
theorem dX6_firstFaultOfText_17 : decode cX6_firstFaultOfText 17 = .ok (.invokestatic 263, 3) := by decide +kernel
theorem dX6_firstFaultOfText_20 : decode cX6_firstFaultOfText 20 = .ok (.istore_n 3, 1) := by decide +kernel
theorem dX6_firstFaultOfText_21 : decode cX6_firstFaultOfText 21 = .ok (.iload_n 3, 1) := by decide +kernel
theorem dX6_firstFaultOfText_22 : decode cX6_firstFaultOfText 22 = .ok (.ifCond .ne 5, 3) := by decide +kernel
theorem dX6_firstFaultOfText_25 : decode cX6_firstFaultOfText 25 = .ok (.iconst 1, 1) := by decide +kernel
theorem dX6_firstFaultOfText_26 : decode cX6_firstFaultOfText 26 = .ok (.ireturn, 1) := by decide +kernel
theorem dX6_firstFaultOfText_27 : decode cX6_firstFaultOfText 27 = .ok (.iconst 1, 1) := by decide +kernel
theorem dX6_firstFaultOfText_28 : decode cX6_firstFaultOfText 28 = .ok (.iload_n 3, 1) := by decide +kernel
theorem dX6_firstFaultOfText_29 : decode cX6_firstFaultOfText 29 = .ok (.iadd, 1) := by decide +kernel
theorem dX6_firstFaultOfText_30 : decode cX6_firstFaultOfText 30 = .ok (.istore 4, 2) := by decide +kernel
theorem dX6_firstFaultOfText_32 : decode cX6_firstFaultOfText 32 = .ok (.iconst 0, 1) := by decide +kernel
theorem dX6_firstFaultOfText_33 : decode cX6_firstFaultOfText 33 = .ok (.istore 5, 2) := by decide +kernel
theorem dX6_firstFaultOfText_35 : decode cX6_firstFaultOfText 35 = .ok (.iload 5, 2) := by decide +kernel
theorem dX6_firstFaultOfText_37 : decode cX6_firstFaultOfText 37 = .ok (.bipush 6, 2) := by decide +kernel
theorem dX6_firstFaultOfText_39 : decode cX6_firstFaultOfText 39 = .ok (.if_icmp .ge 65, 3) := by decide +kernel
theorem dX6_firstFaultOfText_42 : decode cX6_firstFaultOfText 42 = .ok (.iload 4, 2) := by decide +kernel
theorem dX6_firstFaultOfText_44 : decode cX6_firstFaultOfText 44 = .ok (.iload_n 2, 1) := by decide +kernel
theorem dX6_firstFaultOfText_45 : decode cX6_firstFaultOfText 45 = .ok (.if_icmp .ne 12, 3) := by decide +kernel
theorem dX6_firstFaultOfText_48 : decode cX6_firstFaultOfText 48 = .ok (.iload 5, 2) := by decide +kernel
theorem dX6_firstFaultOfText_50 : decode cX6_firstFaultOfText 50 = .ok (.iconst 2, 1) := by decide +kernel
theorem dX6_firstFaultOfText_51 : decode cX6_firstFaultOfText 51 = .ok (.if_icmp .lt 6, 3) := by decide +kernel
theorem dX6_firstFaultOfText_54 : decode cX6_firstFaultOfText 54 = .ok (.bipush (-9), 2) := by decide +kernel
theorem dX6_firstFaultOfText_56 : decode cX6_firstFaultOfText 56 = .ok (.ireturn, 1) := by decide +kernel
theorem dX6_firstFaultOfText_57 : decode cX6_firstFaultOfText 57 = .ok (.iconst 0, 1) := by decide +kernel
theorem dX6_firstFaultOfText_58 : decode cX6_firstFaultOfText 58 = .ok (.istore 6, 2) := by decide +kernel
theorem dX6_firstFaultOfText_60 : decode cX6_firstFaultOfText 60 = .ok (.iload 6, 2) := by decide +kernel
theorem dX6_firstFaultOfText_62 : decode cX6_firstFaultOfText 62 = .ok (.iconst 5, 1) := by decide +kernel
theorem dX6_firstFaultOfText_63 : decode cX6_firstFaultOfText 63 = .ok (.if_icmp .ge 35, 3) := by decide +kernel
theorem dX6_firstFaultOfText_66 : decode cX6_firstFaultOfText 66 = .ok (.iload 4, 2) := by decide +kernel
theorem dX6_firstFaultOfText_68 : decode cX6_firstFaultOfText 68 = .ok (.iload_n 2, 1) := by decide +kernel
theorem dX6_firstFaultOfText_69 : decode cX6_firstFaultOfText 69 = .ok (.if_icmp .eq 17, 3) := by decide +kernel
theorem dX6_firstFaultOfText_72 : decode cX6_firstFaultOfText 72 = .ok (.iload 6, 2) := by decide +kernel
theorem dX6_firstFaultOfText_74 : decode cX6_firstFaultOfText 74 = .ok (.aload_n 0, 1) := by decide +kernel
theorem dX6_firstFaultOfText_75 : decode cX6_firstFaultOfText 75 = .ok (.iload_n 1, 1) := by decide +kernel
theorem dX6_firstFaultOfText_76 : decode cX6_firstFaultOfText 76 = .ok (.iload 4, 2) := by decide +kernel
theorem dX6_firstFaultOfText_78 : decode cX6_firstFaultOfText 78 = .ok (.iadd, 1) := by decide +kernel
theorem dX6_firstFaultOfText_79 : decode cX6_firstFaultOfText 79 = .ok (.iaload, 1) := by decide +kernel
theorem dX6_firstFaultOfText_80 : decode cX6_firstFaultOfText 80 = .ok (.invokestatic 266, 3) := by decide +kernel
theorem dX6_firstFaultOfText_83 : decode cX6_firstFaultOfText 83 = .ok (.ifCond .ne 6, 3) := by decide +kernel
theorem dX6_firstFaultOfText_86 : decode cX6_firstFaultOfText 86 = .ok (.iload 4, 2) := by decide +kernel
theorem dX6_firstFaultOfText_88 : decode cX6_firstFaultOfText 88 = .ok (.ireturn, 1) := by decide +kernel
theorem dX6_firstFaultOfText_89 : decode cX6_firstFaultOfText 89 = .ok (.iinc 4 1, 3) := by decide +kernel
theorem dX6_firstFaultOfText_92 : decode cX6_firstFaultOfText 92 = .ok (.iinc 6 1, 3) := by decide +kernel
theorem dX6_firstFaultOfText_95 : decode cX6_firstFaultOfText 95 = .ok (.goto (-35), 3) := by decide +kernel
theorem dX6_firstFaultOfText_98 : decode cX6_firstFaultOfText 98 = .ok (.iinc 5 1, 3) := by decide +kernel
theorem dX6_firstFaultOfText_101 : decode cX6_firstFaultOfText 101 = .ok (.goto (-66), 3) := by decide +kernel
theorem dX6_firstFaultOfText_104 : decode cX6_firstFaultOfText 104 = .ok (.iload 4, 2) := by decide +kernel
theorem dX6_firstFaultOfText_106 : decode cX6_firstFaultOfText 106 = .ok (.iload_n 2, 1) := by decide +kernel
theorem dX6_firstFaultOfText_107 : decode cX6_firstFaultOfText 107 = .ok (.if_icmp .ne 8, 3) := by decide +kernel
theorem dX6_firstFaultOfText_110 : decode cX6_firstFaultOfText 110 = .ok (.bipush (-9), 2) := by decide +kernel
theorem dX6_firstFaultOfText_112 : decode cX6_firstFaultOfText 112 = .ok (.goto 5, 3) := by decide +kernel
theorem dX6_firstFaultOfText_115 : decode cX6_firstFaultOfText 115 = .ok (.iload 4, 2) := by decide +kernel
theorem dX6_firstFaultOfText_117 : decode cX6_firstFaultOfText 117 = .ok (.ireturn, 1) := by decide +kernel
set_option maxRecDepth 20000 in
theorem ggX6_wordsOfText_X6_isDigit : GoodIn wsX6_wordsOfText wsX6_isDigit := goodIn_r _ [4] (by decide +kernel) (by decide +kernel)
set_option maxRecDepth 20000 in
theorem gX6_wordsOfText_X6_isDigit : GoodIn wsX6_wordsOfText (va_wsS RX6 269 yX6_isDigit wsX6_isDigit) := goodIn_app (goodIn_of _ (by decide +kernel)) ggX6_wordsOfText_X6_isDigit
theorem dX6_wordsOfText_0 : decode cX6_wordsOfText 0 = .ok (.iconst 0, 1) := by decide +kernel
theorem dX6_wordsOfText_1 : decode cX6_wordsOfText 1 = .ok (.istore_n 3, 1) := by decide +kernel
theorem dX6_wordsOfText_2 : decode cX6_wordsOfText 2 = .ok (.iload_n 3, 1) := by decide +kernel
theorem dX6_wordsOfText_3 : decode cX6_wordsOfText 3 = .ok (.iconst 4, 1) := by decide +kernel
theorem dX6_wordsOfText_4 : decode cX6_wordsOfText 4 = .ok (.if_icmp .ge 32, 3) := by decide +kernel
theorem dX6_wordsOfText_7 : decode cX6_wordsOfText 7 = .ok (.iconst 1, 1) := by decide +kernel
theorem dX6_wordsOfText_8 : decode cX6_wordsOfText 8 = .ok (.iload_n 3, 1) := by decide +kernel
theorem dX6_wordsOfText_9 : decode cX6_wordsOfText 9 = .ok (.iadd, 1) := by decide +kernel
theorem dX6_wordsOfText_10 : decode cX6_wordsOfText 10 = .ok (.iload_n 2, 1) := by decide +kernel
theorem dX6_wordsOfText_11 : decode cX6_wordsOfText 11 = .ok (.if_icmp .ge 25, 3) := by decide +kernel
theorem dX6_wordsOfText_14 : decode cX6_wordsOfText 14 = .ok (.aload_n 0, 1) := by decide +kernel
theorem dX6_wordsOfText_15 : decode cX6_wordsOfText 15 = .ok (.iload_n 1, 1) := by decide +kernel
theorem dX6_wordsOfText_16 : decode cX6_wordsOfText 16 = .ok (.iconst 1, 1) := by decide +kernel
theorem dX6_wordsOfText_17 : decode cX6_wordsOfText 17 = .ok (.iadd, 1) := by decide +kernel
theorem dX6_wordsOfText_18 : decode cX6_wordsOfText 18 = .ok (.iload_n 3, 1) := by decide +kernel
theorem dX6_wordsOfText_19 : decode cX6_wordsOfText 19 = .ok (.iadd, 1) := by decide +kernel
theorem dX6_wordsOfText_20 : decode cX6_wordsOfText 20 = .ok (.iaload, 1) := by decide +kernel
theorem dX6_wordsOfText_21 : decode cX6_wordsOfText 21 = .ok (.iconst 0, 1) := by decide +kernel
theorem dX6_wordsOfText_22 : decode cX6_wordsOfText 22 = .ok (.bipush 9, 2) := by decide +kernel
theorem dX6_wordsOfText_24 : decode cX6_wordsOfText 24 = .ok (.invokestatic 269, 3) := by decide +kernel
theorem dX6_wordsOfText_27 : decode cX6_wordsOfText 27 = .ok (.ifCond .eq 9, 3) := by decide +kernel
theorem dX6_wordsOfText_30 : decode cX6_wordsOfText 30 = .ok (.iinc 3 1, 3) := by decide +kernel
theorem dX6_wordsOfText_33 : decode cX6_wordsOfText 33 = .ok (.goto (-31), 3) := by decide +kernel
theorem dX6_wordsOfText_36 : decode cX6_wordsOfText 36 = .ok (.iload_n 3, 1) := by decide +kernel
theorem dX6_wordsOfText_37 : decode cX6_wordsOfText 37 = .ok (.ireturn, 1) := by decide +kernel
set_option maxRecDepth 20000 in
theorem ggX6_fitsGallery_X6_kindOfLetter : GoodIn wsX6_fitsGallery wsX6_kindOfLetter := goodIn_r _ [4] (by decide +kernel) (by decide +kernel)
set_option maxRecDepth 20000 in
theorem gX6_fitsGallery_X6_kindOfLetter : GoodIn wsX6_fitsGallery (va_wsS RX6 273 yX6_kindOfLetter wsX6_kindOfLetter) := goodIn_app (goodIn_of _ (by decide +kernel)) ggX6_fitsGallery_X6_kindOfLetter
set_option maxRecDepth 20000 in
theorem ggX6_fitsGallery_X6_isDigit : GoodIn wsX6_fitsGallery wsX6_isDigit := goodIn_r _ [7] (by decide +kernel) (by decide +kernel)
set_option maxRecDepth 20000 in
theorem gX6_fitsGallery_X6_isDigit : GoodIn wsX6_fitsGallery (va_wsS RX6 269 yX6_isDigit wsX6_isDigit) := goodIn_app (goodIn_of _ (by decide +kernel)) ggX6_fitsGallery_X6_isDigit
theorem dX6_fitsGallery_0 : decode cX6_fitsGallery 0 = .ok (.iload_n 0, 1) := by decide +kernel
theorem dX6_fitsGallery_1 : decode cX6_fitsGallery 1 = .ok (.tableswitch 74 0 3 #[31, 43, 58, 66], 31) := by decide +kernel
theorem dX6_fitsGallery_32 : decode cX6_fitsGallery 32 = .ok (.iload_n 1, 1) := by decide +kernel
theorem dX6_fitsGallery_33 : decode cX6_fitsGallery 33 = .ok (.bipush 59, 2) := by decide +kernel
theorem dX6_fitsGallery_35 : decode cX6_fitsGallery 35 = .ok (.if_icmp .ne 7, 3) := by decide +kernel
theorem dX6_fitsGallery_38 : decode cX6_fitsGallery 38 = .ok (.iconst 1, 1) := by decide +kernel
theorem dX6_fitsGallery_39 : decode cX6_fitsGallery 39 = .ok (.goto 4, 3) := by decide +kernel
theorem dX6_fitsGallery_42 : decode cX6_fitsGallery 42 = .ok (.iconst 0, 1) := by decide +kernel
theorem dX6_fitsGallery_43 : decode cX6_fitsGallery 43 = .ok (.ireturn, 1) := by decide +kernel
theorem dX6_fitsGallery_44 : decode cX6_fitsGallery 44 = .ok (.iload_n 1, 1) := by decide +kernel
theorem dX6_fitsGallery_45 : decode cX6_fitsGallery 45 = .ok (.invokestatic 273, 3) := by decide +kernel
theorem dX6_fitsGallery_48 : decode cX6_fitsGallery 48 = .ok (.bipush (-9), 2) := by decide +kernel
theorem dX6_fitsGallery_50 : decode cX6_fitsGallery 50 = .ok (.if_icmp .eq 7, 3) := by decide +kernel
theorem dX6_fitsGallery_53 : decode cX6_fitsGallery 53 = .ok (.iconst 1, 1) := by decide +kernel
theorem dX6_fitsGallery_54 : decode cX6_fitsGallery 54 = .ok (.goto 4, 3) := by decide +kernel
theorem dX6_fitsGallery_57 : decode cX6_fitsGallery 57 = .ok (.iconst 0, 1) := by decide +kernel
theorem dX6_fitsGallery_58 : decode cX6_fitsGallery 58 = .ok (.ireturn, 1) := by decide +kernel
theorem dX6_fitsGallery_59 : decode cX6_fitsGallery 59 = .ok (.iload_n 1, 1) := by decide +kernel
theorem dX6_fitsGallery_60 : decode cX6_fitsGallery 60 = .ok (.iconst 0, 1) := by decide +kernel
theorem dX6_fitsGallery_61 : decode cX6_fitsGallery 61 = .ok (.bipush 9, 2) := by decide +kernel
theorem dX6_fitsGallery_63 : decode cX6_fitsGallery 63 = .ok (.invokestatic 269, 3) := by decide +kernel
theorem dX6_fitsGallery_66 : decode cX6_fitsGallery 66 = .ok (.ireturn, 1) := by decide +kernel
theorem dX6_fitsGallery_67 : decode cX6_fitsGallery 67 = .ok (.iload_n 1, 1) := by decide +kernel
theorem dX6_fitsGallery_68 : decode cX6_fitsGallery 68 = .ok (.iconst 1, 1) := by decide +kernel
theorem dX6_fitsGallery_69 : decode cX6_fitsGallery 69 = .ok (.bipush 9, 2) := by decide +kernel
theorem dX6_fitsGallery_71 : decode cX6_fitsGallery 71 = .ok (.invokestatic 269, 3) := by decide +kernel
theorem dX6_fitsGallery_74 : decode cX6_fitsGallery 74 = .ok (.ireturn, 1) := by decide +kernel
theorem dX6_fitsGallery_75 : decode cX6_fitsGallery 75 = .ok (.iload_n 1, 1) := by decide +kernel
theorem dX6_fitsGallery_76 : decode cX6_fitsGallery 76 = .ok (.iconst 0, 1) := by decide +kernel
theorem dX6_fitsGallery_77 : decode cX6_fitsGallery 77 = .ok (.iconst 1, 1) := by decide +kernel
theorem dX6_fitsGallery_78 : decode cX6_fitsGallery 78 = .ok (.invokestatic 269, 3) := by decide +kernel
theorem dX6_fitsGallery_81 : decode cX6_fitsGallery 81 = .ok (.ireturn, 1) := by decide +kernel
theorem dX6_isDigit_0 : decode cX6_isDigit 0 = .ok (.iload_n 0, 1) := by decide +kernel
theorem dX6_isDigit_1 : decode cX6_isDigit 1 = .ok (.bipush 48, 2) := by decide +kernel
theorem dX6_isDigit_3 : decode cX6_isDigit 3 = .ok (.iload_n 1, 1) := by decide +kernel
theorem dX6_isDigit_4 : decode cX6_isDigit 4 = .ok (.iadd, 1) := by decide +kernel
theorem dX6_isDigit_5 : decode cX6_isDigit 5 = .ok (.if_icmp .lt 15, 3) := by decide +kernel
theorem dX6_isDigit_8 : decode cX6_isDigit 8 = .ok (.iload_n 0, 1) := by decide +kernel
theorem dX6_isDigit_9 : decode cX6_isDigit 9 = .ok (.bipush 48, 2) := by decide +kernel
theorem dX6_isDigit_11 : decode cX6_isDigit 11 = .ok (.iload_n 2, 1) := by decide +kernel
theorem dX6_isDigit_12 : decode cX6_isDigit 12 = .ok (.iadd, 1) := by decide +kernel
theorem dX6_isDigit_13 : decode cX6_isDigit 13 = .ok (.if_icmp .gt 7, 3) := by decide +kernel
theorem dX6_isDigit_16 : decode cX6_isDigit 16 = .ok (.iconst 1, 1) := by decide +kernel
theorem dX6_isDigit_17 : decode cX6_isDigit 17 = .ok (.goto 4, 3) := by decide +kernel
theorem dX6_isDigit_20 : decode cX6_isDigit 20 = .ok (.iconst 0, 1) := by decide +kernel
theorem dX6_isDigit_21 : decode cX6_isDigit 21 = .ok (.ireturn, 1) := by decide +kernel
theorem dX6_kindOfLetter_0 : decode cX6_kindOfLetter 0 = .ok (.iload_n 0, 1) := by decide +kernel
theorem dX6_kindOfLetter_1 : decode cX6_kindOfLetter 1 = .ok (.lookupswitch 41 #[(98, 39), (103, 35), (110, 37)], 35) := by decide +kernel
theorem dX6_kindOfLetter_36 : decode cX6_kindOfLetter 36 = .ok (.iconst 0, 1) := by decide +kernel
theorem dX6_kindOfLetter_37 : decode cX6_kindOfLetter 37 = .ok (.ireturn, 1) := by decide +kernel
theorem dX6_kindOfLetter_38 : decode cX6_kindOfLetter 38 = .ok (.iconst 1, 1) := by decide +kernel
theorem dX6_kindOfLetter_39 : decode cX6_kindOfLetter 39 = .ok (.ireturn, 1) := by decide +kernel
theorem dX6_kindOfLetter_40 : decode cX6_kindOfLetter 40 = .ok (.iconst 2, 1) := by decide +kernel
theorem dX6_kindOfLetter_41 : decode cX6_kindOfLetter 41 = .ok (.ireturn, 1) := by decide +kernel
theorem dX6_kindOfLetter_42 : decode cX6_kindOfLetter 42 = .ok (.bipush (-9), 2) := by decide +kernel
theorem dX6_kindOfLetter_44 : decode cX6_kindOfLetter 44 = .ok (.ireturn, 1) := by decide +kernel
set_option maxRecDepth 20000 in
theorem ggX6_makeAnew_X6_wordsOfText : GoodIn wsX6_makeAnew wsX6_wordsOfText := goodIn_r _ [21, 22, 23, 20, 24] (by decide +kernel) (by decide +kernel)
set_option maxRecDepth 20000 in
theorem gX6_makeAnew_X6_wordsOfText : GoodIn wsX6_makeAnew (va_wsS RX6 263 yX6_wordsOfText wsX6_wordsOfText) := goodIn_app (goodIn_of _ (by decide +kernel)) ggX6_makeAnew_X6_wordsOfText
set_option maxRecDepth 20000 in
theorem ggX6_makeAnew_X6_kindOfLetter : GoodIn wsX6_makeAnew wsX6_kindOfLetter := goodIn_r _ [27] (by decide +kernel) (by decide +kernel)
set_option maxRecDepth 20000 in
theorem gX6_makeAnew_X6_kindOfLetter : GoodIn wsX6_makeAnew (va_wsS RX6 273 yX6_kindOfLetter wsX6_kindOfLetter) := goodIn_app (goodIn_of _ (by decide +kernel)) ggX6_makeAnew_X6_kindOfLetter
set_option maxRecDepth 20000 in
theorem ggX6_makeAnew_X6_isDoor : GoodIn wsX6_makeAnew wsX6_isDoor := goodIn_r _ [31, 1, 8, 32, 33, 34, 35, 36, 37, 38, 39, 40, 41, 42, 43, 44, 45, 46, 47, 48] (by decide +kernel) (by decide +kernel)
set_option maxRecDepth 20000 in
theorem gX6_makeAnew_X6_isDoor : GoodIn wsX6_makeAnew (wsV RX6 118 RX6 yX6_isDoor wsX6_isDoor) := goodIn_app (goodIn_of _ (by decide +kernel)) ggX6_makeAnew_X6_isDoor
theorem dX6_makeAnew_0 : decode cX6_makeAnew 0 = .ok (.aload_n 0, 1) := by decide +kernel
theorem dX6_makeAnew_1 : decode cX6_makeAnew 1 = .ok (.getfield 20, 3) := by decide +kernel
theorem dX6_makeAnew_4 : decode cX6_makeAnew 4 = .ok (.aload_n 1, 1) := by decide +kernel
theorem dX6_makeAnew_5 : decode cX6_makeAnew 5 = .ok (.iload_n 2, 1) := by decide +kernel
theorem dX6_makeAnew_6 : decode cX6_makeAnew 6 = .ok (.iload_n 3, 1) := by decide +kernel
theorem dX6_makeAnew_7 : decode cX6_makeAnew 7 = .ok (.invokestatic 263, 3) := by decide +kernel
theorem dX6_makeAnew_10 : decode cX6_makeAnew 10 = .ok (.putfield 196, 3) := by decide +kernel
theorem dX6_makeAnew_13 : decode cX6_makeAnew 13 = .ok (.iconst 0, 1) := by decide +kernel
theorem dX6_makeAnew_14 : decode cX6_makeAnew 14 = .ok (.istore 4, 2) := by decide +kernel
theorem dX6_makeAnew_16 : decode cX6_makeAnew 16 = .ok (.iload 4, 2) := by decide +kernel
theorem dX6_makeAnew_18 : decode cX6_makeAnew 18 = .ok (.aload_n 0, 1) := by decide +kernel
theorem dX6_makeAnew_19 : decode cX6_makeAnew 19 = .ok (.getfield 20, 3) := by decide +kernel
theorem dX6_makeAnew_22 : decode cX6_makeAnew 22 = .ok (.getfield 196, 3) := by decide +kernel
theorem dX6_makeAnew_25 : decode cX6_makeAnew 25 = .ok (.if_icmp .ge 30, 3) := by decide +kernel
theorem dX6_makeAnew_28 : decode cX6_makeAnew 28 = .ok (.aload_n 0, 1) := by decide +kernel
theorem dX6_makeAnew_29 : decode cX6_makeAnew 29 = .ok (.getfield 20, 3) := by decide +kernel
theorem dX6_makeAnew_32 : decode cX6_makeAnew 32 = .ok (.getfield 127, 3) := by decide +kernel
theorem dX6_makeAnew_35 : decode cX6_makeAnew 35 = .ok (.iload 4, 2) := by decide +kernel
theorem dX6_makeAnew_37 : decode cX6_makeAnew 37 = .ok (.aload_n 1, 1) := by decide +kernel
theorem dX6_makeAnew_38 : decode cX6_makeAnew 38 = .ok (.iload_n 2, 1) := by decide +kernel
theorem dX6_makeAnew_39 : decode cX6_makeAnew 39 = .ok (.iconst 1, 1) := by decide +kernel
theorem dX6_makeAnew_40 : decode cX6_makeAnew 40 = .ok (.iadd, 1) := by decide +kernel
theorem dX6_makeAnew_41 : decode cX6_makeAnew 41 = .ok (.iload 4, 2) := by decide +kernel
theorem dX6_makeAnew_43 : decode cX6_makeAnew 43 = .ok (.iadd, 1) := by decide +kernel
theorem dX6_makeAnew_44 : decode cX6_makeAnew 44 = .ok (.iaload, 1) := by decide +kernel
theorem dX6_makeAnew_45 : decode cX6_makeAnew 45 = .ok (.bipush 48, 2) := by decide +kernel
theorem dX6_makeAnew_47 : decode cX6_makeAnew 47 = .ok (.isub, 1) := by decide +kernel
theorem dX6_makeAnew_48 : decode cX6_makeAnew 48 = .ok (.iastore, 1) := by decide +kernel
theorem dX6_makeAnew_49 : decode cX6_makeAnew 49 = .ok (.iinc 4 1, 3) := by decide +kernel
theorem dX6_makeAnew_52 : decode cX6_makeAnew 52 = .ok (.goto (-36), 3) := by decide +kernel
theorem dX6_makeAnew_55 : decode cX6_makeAnew 55 = .ok (.iconst 1, 1) := by decide +kernel
theorem dX6_makeAnew_56 : decode cX6_makeAnew 56 = .ok (.aload_n 0, 1) := by decide +kernel
theorem dX6_makeAnew_57 : decode cX6_makeAnew 57 = .ok (.getfield 20, 3) := by decide +kernel
theorem dX6_makeAnew_60 : decode cX6_makeAnew 60 = .ok (.getfield 196, 3) := by decide +kernel
theorem dX6_makeAnew_63 : decode cX6_makeAnew 63 = .ok (.iadd, 1) := by decide +kernel
theorem dX6_makeAnew_64 : decode cX6_makeAnew 64 = .ok (.istore 4, 2) := by decide +kernel
theorem dX6_makeAnew_66 : decode cX6_makeAnew 66 = .ok (.aload_n 0, 1) := by decide +kernel
theorem dX6_makeAnew_67 : decode cX6_makeAnew 67 = .ok (.getfield 20, 3) := by decide +kernel
theorem dX6_makeAnew_70 : decode cX6_makeAnew 70 = .ok (.iload_n 3, 1) := by decide +kernel
theorem dX6_makeAnew_71 : decode cX6_makeAnew 71 = .ok (.iload 4, 2) := by decide +kernel
theorem dX6_makeAnew_73 : decode cX6_makeAnew 73 = .ok (.isub, 1) := by decide +kernel
theorem dX6_makeAnew_74 : decode cX6_makeAnew 74 = .ok (.iconst 5, 1) := by decide +kernel
theorem dX6_makeAnew_75 : decode cX6_makeAnew 75 = .ok (.idiv, 1) := by decide +kernel
theorem dX6_makeAnew_76 : decode cX6_makeAnew 76 = .ok (.bipush 6, 2) := by decide +kernel
theorem dX6_makeAnew_78 : decode cX6_makeAnew 78 = .ok (.invokestatic 276, 3) := by decide +kernel
theorem dX6_makeAnew_81 : decode cX6_makeAnew 81 = .ok (.putfield 97, 3) := by decide +kernel
theorem dX6_makeAnew_84 : decode cX6_makeAnew 84 = .ok (.aload_n 0, 1) := by decide +kernel
theorem dX6_makeAnew_85 : decode cX6_makeAnew 85 = .ok (.getfield 20, 3) := by decide +kernel
theorem dX6_makeAnew_88 : decode cX6_makeAnew 88 = .ok (.iconst 0, 1) := by decide +kernel
theorem dX6_makeAnew_89 : decode cX6_makeAnew 89 = .ok (.putfield 121, 3) := by decide +kernel
theorem dX6_makeAnew_92 : decode cX6_makeAnew 92 = .ok (.iconst 0, 1) := by decide +kernel
theorem dX6_makeAnew_93 : decode cX6_makeAnew 93 = .ok (.istore 5, 2) := by decide +kernel
theorem dX6_makeAnew_95 : decode cX6_makeAnew 95 = .ok (.iload 5, 2) := by decide +kernel
theorem dX6_makeAnew_97 : decode cX6_makeAnew 97 = .ok (.aload_n 0, 1) := by decide +kernel
theorem dX6_makeAnew_98 : decode cX6_makeAnew 98 = .ok (.getfield 20, 3) := by decide +kernel
theorem dX6_makeAnew_101 : decode cX6_makeAnew 101 = .ok (.getfield 97, 3) := by decide +kernel
theorem dX6_makeAnew_104 : decode cX6_makeAnew 104 = .ok (.if_icmp .ge 110, 3) := by decide +kernel
theorem dX6_makeAnew_107 : decode cX6_makeAnew 107 = .ok (.iload_n 2, 1) := by decide +kernel
theorem dX6_makeAnew_108 : decode cX6_makeAnew 108 = .ok (.iload 4, 2) := by decide +kernel
theorem dX6_makeAnew_110 : decode cX6_makeAnew 110 = .ok (.iadd, 1) := by decide +kernel
theorem dX6_makeAnew_111 : decode cX6_makeAnew 111 = .ok (.iconst 5, 1) := by decide +kernel
theorem dX6_makeAnew_112 : decode cX6_makeAnew 112 = .ok (.iload 5, 2) := by decide +kernel
theorem dX6_makeAnew_114 : decode cX6_makeAnew 114 = .ok (.imul, 1) := by decide +kernel
theorem dX6_makeAnew_115 : decode cX6_makeAnew 115 = .ok (.iadd, 1) := by decide +kernel
theorem dX6_makeAnew_116 : decode cX6_makeAnew 116 = .ok (.istore 6, 2) := by decide +kernel
theorem dX6_makeAnew_118 : decode cX6_makeAnew 118 = .ok (.aload_n 0, 1) := by decide +kernel
theorem dX6_makeAnew_119 : decode cX6_makeAnew 119 = .ok (.getfield 20, 3) := by decide +kernel
theorem dX6_makeAnew_122 : decode cX6_makeAnew 122 = .ok (.getfield 103, 3) := by decide +kernel
theorem dX6_makeAnew_125 : decode cX6_makeAnew 125 = .ok (.iload 5, 2) := by decide +kernel
theorem dX6_makeAnew_127 : decode cX6_makeAnew 127 = .ok (.aload_n 1, 1) := by decide +kernel
theorem dX6_makeAnew_128 : decode cX6_makeAnew 128 = .ok (.iload 6, 2) := by decide +kernel
theorem dX6_makeAnew_130 : decode cX6_makeAnew 130 = .ok (.iconst 1, 1) := by decide +kernel
theorem dX6_makeAnew_131 : decode cX6_makeAnew 131 = .ok (.iadd, 1) := by decide +kernel
theorem dX6_makeAnew_132 : decode cX6_makeAnew 132 = .ok (.iaload, 1) := by decide +kernel
theorem dX6_makeAnew_133 : decode cX6_makeAnew 133 = .ok (.invokestatic 273, 3) := by decide +kernel
theorem dX6_makeAnew_136 : decode cX6_makeAnew 136 = .ok (.iastore, 1) := by decide +kernel
theorem dX6_makeAnew_137 : decode cX6_makeAnew 137 = .ok (.aload_n 0, 1) := by decide +kernel
theorem dX6_makeAnew_138 : decode cX6_makeAnew 138 = .ok (.getfield 27, 3) := by decide +kernel
theorem dX6_makeAnew_141 : decode cX6_makeAnew 141 = .ok (.getfield 106, 3) := by decide +kernel
theorem dX6_makeAnew_144 : decode cX6_makeAnew 144 = .ok (.iload 5, 2) := by decide +kernel
theorem dX6_makeAnew_146 : decode cX6_makeAnew 146 = .ok (.aload_n 1, 1) := by decide +kernel
theorem dX6_makeAnew_147 : decode cX6_makeAnew 147 = .ok (.iload 6, 2) := by decide +kernel
theorem dX6_makeAnew_149 : decode cX6_makeAnew 149 = .ok (.iconst 2, 1) := by decide +kernel
theorem dX6_makeAnew_150 : decode cX6_makeAnew 150 = .ok (.iadd, 1) := by decide +kernel
theorem dX6_makeAnew_151 : decode cX6_makeAnew 151 = .ok (.iaload, 1) := by decide +kernel
theorem dX6_makeAnew_152 : decode cX6_makeAnew 152 = .ok (.bipush 48, 2) := by decide +kernel
theorem dX6_makeAnew_154 : decode cX6_makeAnew 154 = .ok (.isub, 1) := by decide +kernel
theorem dX6_makeAnew_155 : decode cX6_makeAnew 155 = .ok (.iastore, 1) := by decide +kernel
theorem dX6_makeAnew_156 : decode cX6_makeAnew 156 = .ok (.aload_n 0, 1) := by decide +kernel
theorem dX6_makeAnew_157 : decode cX6_makeAnew 157 = .ok (.getfield 20, 3) := by decide +kernel
theorem dX6_makeAnew_160 : decode cX6_makeAnew 160 = .ok (.getfield 109, 3) := by decide +kernel
theorem dX6_makeAnew_163 : decode cX6_makeAnew 163 = .ok (.iload 5, 2) := by decide +kernel
theorem dX6_makeAnew_165 : decode cX6_makeAnew 165 = .ok (.aload_n 1, 1) := by decide +kernel
theorem dX6_makeAnew_166 : decode cX6_makeAnew 166 = .ok (.iload 6, 2) := by decide +kernel
theorem dX6_makeAnew_168 : decode cX6_makeAnew 168 = .ok (.iconst 3, 1) := by decide +kernel
theorem dX6_makeAnew_169 : decode cX6_makeAnew 169 = .ok (.iadd, 1) := by decide +kernel
theorem dX6_makeAnew_170 : decode cX6_makeAnew 170 = .ok (.iaload, 1) := by decide +kernel
theorem dX6_makeAnew_171 : decode cX6_makeAnew 171 = .ok (.bipush 48, 2) := by decide +kernel
theorem dX6_makeAnew_173 : decode cX6_makeAnew 173 = .ok (.isub, 1) := by decide +kernel
theorem dX6_makeAnew_174 : decode cX6_makeAnew 174 = .ok (.iastore, 1) := by decide +kernel
theorem dX6_makeAnew_175 : decode cX6_makeAnew 175 = .ok (.aload_n 0, 1) := by decide +kernel
theorem dX6_makeAnew_176 : decode cX6_makeAnew 176 = .ok (.iload 5, 2) := by decide +kernel
theorem dX6_makeAnew_178 : decode cX6_makeAnew 178 = .ok (.invokevirtual 118, 3) := by decide +kernel
theorem dX6_makeAnew_181 : decode cX6_makeAnew 181 = .ok (.ifCond .eq 27, 3) := by decide +kernel
theorem dX6_makeAnew_184 : decode cX6_makeAnew 184 = .ok (.aload_n 0, 1) := by decide +kernel
theorem dX6_makeAnew_185 : decode cX6_makeAnew 185 = .ok (.getfield 20, 3) := by decide +kernel
theorem dX6_makeAnew_188 : decode cX6_makeAnew 188 = .ok (.dup, 1) := by decide +kernel
theorem dX6_makeAnew_189 : decode cX6_makeAnew 189 = .ok (.getfield 121, 3) := by decide +kernel
theorem dX6_makeAnew_192 : decode cX6_makeAnew 192 = .ok (.aload_n 1, 1) := by decide +kernel
theorem dX6_makeAnew_193 : decode cX6_makeAnew 193 = .ok (.iload 6, 2) := by decide +kernel
theorem dX6_makeAnew_195 : decode cX6_makeAnew 195 = .ok (.iconst 4, 1) := by decide +kernel
theorem dX6_makeAnew_196 : decode cX6_makeAnew 196 = .ok (.iadd, 1) := by decide +kernel
theorem dX6_makeAnew_197 : decode cX6_makeAnew 197 = .ok (.iaload, 1) := by decide +kernel
theorem dX6_makeAnew_198 : decode cX6_makeAnew 198 = .ok (.bipush 48, 2) := by decide +kernel
theorem dX6_makeAnew_200 : decode cX6_makeAnew 200 = .ok (.isub, 1) := by decide +kernel
theorem dX6_makeAnew_201 : decode cX6_makeAnew 201 = .ok (.iload 5, 2) := by decide +kernel
theorem dX6_makeAnew_203 : decode cX6_makeAnew 203 = .ok (.ishl, 1) := by decide +kernel
theorem dX6_makeAnew_204 : decode cX6_makeAnew 204 = .ok (.ior, 1) := by decide +kernel
theorem dX6_makeAnew_205 : decode cX6_makeAnew 205 = .ok (.putfield 121, 3) := by decide +kernel
theorem dX6_makeAnew_208 : decode cX6_makeAnew 208 = .ok (.iinc 5 1, 3) := by decide +kernel
theorem dX6_makeAnew_211 : decode cX6_makeAnew 211 = .ok (.goto (-116), 3) := by decide +kernel
theorem dX6_makeAnew_214 : decode cX6_makeAnew 214 = .ok (.aload_n 0, 1) := by decide +kernel
theorem dX6_makeAnew_215 : decode cX6_makeAnew 215 = .ok (.getfield 27, 3) := by decide +kernel
theorem dX6_makeAnew_218 : decode cX6_makeAnew 218 = .ok (.iconst 0, 1) := by decide +kernel
theorem dX6_makeAnew_219 : decode cX6_makeAnew 219 = .ok (.putfield 115, 3) := by decide +kernel
theorem dX6_makeAnew_222 : decode cX6_makeAnew 222 = .ok (.aload_n 0, 1) := by decide +kernel
theorem dX6_makeAnew_223 : decode cX6_makeAnew 223 = .ok (.iconst 0, 1) := by decide +kernel
theorem dX6_makeAnew_224 : decode cX6_makeAnew 224 = .ok (.putfield 60, 3) := by decide +kernel
theorem dX6_makeAnew_227 : decode cX6_makeAnew 227 = .ok (.aload_n 0, 1) := by decide +kernel
theorem dX6_makeAnew_228 : decode cX6_makeAnew 228 = .ok (.getfield 34, 3) := by decide +kernel
theorem dX6_makeAnew_231 : decode cX6_makeAnew 231 = .ok (.iconst 0, 1) := by decide +kernel
theorem dX6_makeAnew_232 : decode cX6_makeAnew 232 = .ok (.putfield 206, 3) := by decide +kernel
theorem dX6_makeAnew_235 : decode cX6_makeAnew 235 = .ok (.return_, 1) := by decide +kernel
set_option maxRecDepth 20000 in
theorem ggX6_takePairs_X5_faultOfCells : GoodIn wsX6_takePairs wsX5_faultOfCells := goodIn_r _ [10, 11, 12, 13, 14, 15, 9, 16, 17, 39, 40, 41, 42] (by decide +kernel) (by decide +kernel)
set_option maxRecDepth 20000 in
theorem gX6_takePairs_X5_faultOfCells : GoodIn wsX6_takePairs (wsV RX6 78 RX5 yX5_faultOfCells wsX5_faultOfCells) := goodIn_app (goodIn_of _ (by decide +kernel)) ggX6_takePairs_X5_faultOfCells
set_option maxRecDepth 20000 in
theorem ggX6_takePairs_X6_faulted : GoodIn wsX6_takePairs wsX6_faulted := goodIn_r _ [22, 23, 43, 44, 45, 46, 47, 48, 49, 50, 51, 52, 53] (by decide +kernel) (by decide +kernel)
set_option maxRecDepth 20000 in
theorem gX6_takePairs_X6_faulted : GoodIn wsX6_takePairs (wsV RX6 82 RX6 yX6_faulted wsX6_faulted) := goodIn_app (goodIn_of _ (by decide +kernel)) ggX6_takePairs_X6_faulted
set_option maxRecDepth 20000 in
theorem ggX6_takePairs_X6_hasMine : GoodIn wsX6_takePairs wsX6_hasMine := goodIn_r _ [27, 28, 29, 43, 44, 45, 46, 47, 48, 49, 50, 51, 52, 53, 57, 58, 59, 60, 61, 62] (by decide +kernel) (by decide +kernel)
set_option maxRecDepth 20000 in
theorem gX6_takePairs_X6_hasMine : GoodIn wsX6_takePairs (wsV RX6 137 RX6 yX6_hasMine wsX6_hasMine) := goodIn_app (goodIn_of _ (by decide +kernel)) ggX6_takePairs_X6_hasMine
set_option maxRecDepth 20000 in
theorem ggX6_takePairs_X6_isGallery : GoodIn wsX6_takePairs wsX6_isGallery := goodIn_r _ [33, 28, 29, 43, 44, 45, 46, 47, 48, 49, 50, 51, 52, 53, 57, 58, 59, 60, 61, 62] (by decide +kernel) (by decide +kernel)
set_option maxRecDepth 20000 in
theorem gX6_takePairs_X6_isGallery : GoodIn wsX6_takePairs (wsV RX6 100 RX6 yX6_isGallery wsX6_isGallery) := goodIn_app (goodIn_of _ (by decide +kernel)) ggX6_takePairs_X6_isGallery
set_option maxRecDepth 20000 in
theorem ggX6_takePairs_X6_isWord : GoodIn wsX6_takePairs wsX6_isWord := goodIn_r _ [37, 28, 38, 43, 44, 45, 46, 47, 48, 49, 50, 51, 52, 53, 57, 58, 59, 60, 61, 62] (by decide +kernel) (by decide +kernel)
set_option maxRecDepth 20000 in
theorem gX6_takePairs_X6_isWord : GoodIn wsX6_takePairs (wsV RX6 124 RX6 yX6_isWord wsX6_isWord) := goodIn_app (goodIn_of _ (by decide +kernel)) ggX6_takePairs_X6_isWord
theorem dX6_takePairs_0 : decode cX6_takePairs 0 = .ok (.aload_n 1, 1) := by decide +kernel
theorem dX6_takePairs_1 : decode cX6_takePairs 1 = .ok (.iload_n 2, 1) := by decide +kernel
theorem dX6_takePairs_2 : decode cX6_takePairs 2 = .ok (.iload_n 3, 1) := by decide +kernel
theorem dX6_takePairs_3 : decode cX6_takePairs 3 = .ok (.iconst 2, 1) := by decide +kernel
theorem dX6_takePairs_4 : decode cX6_takePairs 4 = .ok (.iload 4, 2) := by decide +kernel
theorem dX6_takePairs_6 : decode cX6_takePairs 6 = .ok (.imul, 1) := by decide +kernel
theorem dX6_takePairs_7 : decode cX6_takePairs 7 = .ok (.invokevirtual 78, 3) := by decide +kernel
theorem dX6_takePairs_10 : decode cX6_takePairs 10 = .ok (.istore 5, 2) := by decide +kernel
theorem dX6_takePairs_12 : decode cX6_takePairs 12 = .ok (.iload 5, 2) := by decide +kernel
theorem dX6_takePairs_14 : decode cX6_takePairs 14 = .ok (.ifCond .eq 10, 3) := by decide +kernel
theorem dX6_takePairs_17 : decode cX6_takePairs 17 = .ok (.aload_n 0, 1) := by decide +kernel
theorem dX6_takePairs_18 : decode cX6_takePairs 18 = .ok (.iload 5, 2) := by decide +kernel
theorem dX6_takePairs_20 : decode cX6_takePairs 20 = .ok (.invokevirtual 82, 3) := by decide +kernel
theorem dX6_takePairs_23 : decode cX6_takePairs 23 = .ok (.ireturn, 1) := by decide +kernel
theorem dX6_takePairs_24 : decode cX6_takePairs 24 = .ok (.aload_n 0, 1) := by decide +kernel
theorem dX6_takePairs_25 : decode cX6_takePairs 25 = .ok (.invokevirtual 137, 3) := by decide +kernel
theorem dX6_takePairs_28 : decode cX6_takePairs 28 = .ok (.ifCond .ne 6, 3) := by decide +kernel
theorem dX6_takePairs_31 : decode cX6_takePairs 31 = .ok (.bipush (-3), 2) := by decide +kernel
theorem dX6_takePairs_33 : decode cX6_takePairs 33 = .ok (.ireturn, 1) := by decide +kernel
theorem dX6_takePairs_34 : decode cX6_takePairs 34 = .ok (.iconst 0, 1) := by decide +kernel
theorem dX6_takePairs_35 : decode cX6_takePairs 35 = .ok (.istore 6, 2) := by decide +kernel
theorem dX6_takePairs_37 : decode cX6_takePairs 37 = .ok (.iload 6, 2) := by decide +kernel
theorem dX6_takePairs_39 : decode cX6_takePairs 39 = .ok (.iload 4, 2) := by decide +kernel
theorem dX6_takePairs_41 : decode cX6_takePairs 41 = .ok (.if_icmp .ge 81, 3) := by decide +kernel
theorem dX6_takePairs_44 : decode cX6_takePairs 44 = .ok (.aload_n 1, 1) := by decide +kernel
theorem dX6_takePairs_45 : decode cX6_takePairs 45 = .ok (.getfield 86, 3) := by decide +kernel
theorem dX6_takePairs_48 : decode cX6_takePairs 48 = .ok (.iload_n 3, 1) := by decide +kernel
theorem dX6_takePairs_49 : decode cX6_takePairs 49 = .ok (.iconst 2, 1) := by decide +kernel
theorem dX6_takePairs_50 : decode cX6_takePairs 50 = .ok (.iload 6, 2) := by decide +kernel
theorem dX6_takePairs_52 : decode cX6_takePairs 52 = .ok (.imul, 1) := by decide +kernel
theorem dX6_takePairs_53 : decode cX6_takePairs 53 = .ok (.iadd, 1) := by decide +kernel
theorem dX6_takePairs_54 : decode cX6_takePairs 54 = .ok (.iaload, 1) := by decide +kernel
theorem dX6_takePairs_55 : decode cX6_takePairs 55 = .ok (.istore 7, 2) := by decide +kernel
theorem dX6_takePairs_57 : decode cX6_takePairs 57 = .ok (.aload_n 1, 1) := by decide +kernel
theorem dX6_takePairs_58 : decode cX6_takePairs 58 = .ok (.getfield 86, 3) := by decide +kernel
theorem dX6_takePairs_61 : decode cX6_takePairs 61 = .ok (.iload_n 3, 1) := by decide +kernel
theorem dX6_takePairs_62 : decode cX6_takePairs 62 = .ok (.iconst 2, 1) := by decide +kernel
theorem dX6_takePairs_63 : decode cX6_takePairs 63 = .ok (.iload 6, 2) := by decide +kernel
theorem dX6_takePairs_65 : decode cX6_takePairs 65 = .ok (.imul, 1) := by decide +kernel
theorem dX6_takePairs_66 : decode cX6_takePairs 66 = .ok (.iadd, 1) := by decide +kernel
theorem dX6_takePairs_67 : decode cX6_takePairs 67 = .ok (.iconst 1, 1) := by decide +kernel
theorem dX6_takePairs_68 : decode cX6_takePairs 68 = .ok (.iadd, 1) := by decide +kernel
theorem dX6_takePairs_69 : decode cX6_takePairs 69 = .ok (.iaload, 1) := by decide +kernel
theorem dX6_takePairs_70 : decode cX6_takePairs 70 = .ok (.istore 8, 2) := by decide +kernel
theorem dX6_takePairs_72 : decode cX6_takePairs 72 = .ok (.aload_n 0, 1) := by decide +kernel
theorem dX6_takePairs_73 : decode cX6_takePairs 73 = .ok (.iload 7, 2) := by decide +kernel
theorem dX6_takePairs_75 : decode cX6_takePairs 75 = .ok (.invokevirtual 100, 3) := by decide +kernel
theorem dX6_takePairs_78 : decode cX6_takePairs 78 = .ok (.ifCond .eq 12, 3) := by decide +kernel
theorem dX6_takePairs_81 : decode cX6_takePairs 81 = .ok (.aload_n 0, 1) := by decide +kernel
theorem dX6_takePairs_82 : decode cX6_takePairs 82 = .ok (.iload 8, 2) := by decide +kernel
theorem dX6_takePairs_84 : decode cX6_takePairs 84 = .ok (.invokevirtual 124, 3) := by decide +kernel
theorem dX6_takePairs_87 : decode cX6_takePairs 87 = .ok (.ifCond .ne 5, 3) := by decide +kernel
theorem dX6_takePairs_90 : decode cX6_takePairs 90 = .ok (.iconst (-1), 1) := by decide +kernel
theorem dX6_takePairs_91 : decode cX6_takePairs 91 = .ok (.ireturn, 1) := by decide +kernel
theorem dX6_takePairs_92 : decode cX6_takePairs 92 = .ok (.aload_n 0, 1) := by decide +kernel
theorem dX6_takePairs_93 : decode cX6_takePairs 93 = .ok (.getfield 41, 3) := by decide +kernel
theorem dX6_takePairs_96 : decode cX6_takePairs 96 = .ok (.getfield 167, 3) := by decide +kernel
theorem dX6_takePairs_99 : decode cX6_takePairs 99 = .ok (.iload 6, 2) := by decide +kernel
theorem dX6_takePairs_101 : decode cX6_takePairs 101 = .ok (.iload 7, 2) := by decide +kernel
theorem dX6_takePairs_103 : decode cX6_takePairs 103 = .ok (.iastore, 1) := by decide +kernel
theorem dX6_takePairs_104 : decode cX6_takePairs 104 = .ok (.aload_n 0, 1) := by decide +kernel
theorem dX6_takePairs_105 : decode cX6_takePairs 105 = .ok (.getfield 41, 3) := by decide +kernel
theorem dX6_takePairs_108 : decode cX6_takePairs 108 = .ok (.getfield 169, 3) := by decide +kernel
theorem dX6_takePairs_111 : decode cX6_takePairs 111 = .ok (.iload 6, 2) := by decide +kernel
theorem dX6_takePairs_113 : decode cX6_takePairs 113 = .ok (.iload 8, 2) := by decide +kernel
theorem dX6_takePairs_115 : decode cX6_takePairs 115 = .ok (.iastore, 1) := by decide +kernel
theorem dX6_takePairs_116 : decode cX6_takePairs 116 = .ok (.iinc 6 1, 3) := by decide +kernel
theorem dX6_takePairs_119 : decode cX6_takePairs 119 = .ok (.goto (-82), 3) := by decide +kernel
theorem dX6_takePairs_122 : decode cX6_takePairs 122 = .ok (.aload_n 0, 1) := by decide +kernel
theorem dX6_takePairs_123 : decode cX6_takePairs 123 = .ok (.getfield 41, 3) := by decide +kernel
theorem dX6_takePairs_126 : decode cX6_takePairs 126 = .ok (.iload 4, 2) := by decide +kernel
theorem dX6_takePairs_128 : decode cX6_takePairs 128 = .ok (.putfield 164, 3) := by decide +kernel
theorem dX6_takePairs_131 : decode cX6_takePairs 131 = .ok (.iconst 0, 1) := by decide +kernel
theorem dX6_takePairs_132 : decode cX6_takePairs 132 = .ok (.ireturn, 1) := by decide +kernel
set_option maxRecDepth 20000 in
theorem ggX6_dropsWithDoors_X0_becomeLike : GoodIn wsX6_dropsWithDoors wsX0_becomeLike := goodIn_r _ [12, 13, 14, 15, 16, 17, 18, 84, 85] (by decide +kernel) (by decide +kernel)
set_option maxRecDepth 20000 in
theorem gX6_dropsWithDoors_X0_becomeLike : GoodIn wsX6_dropsWithDoors (wsV RX6 160 RX0 yX0_becomeLike wsX0_becomeLike) := goodIn_app (goodIn_of _ (by decide +kernel)) ggX6_dropsWithDoors_X0_becomeLike
set_option maxRecDepth 20000 in
theorem ggX6_dropsWithDoors_X2_breathe : GoodIn wsX6_dropsWithDoors wsX2_breathe := goodIn_r _ [23, 24, 25, 26, 27, 28, 29, 30, 31, 32, 33, 34, 35, 22, 36, 37, 38, 39, 40, 41, 42, 43, 44, 45, 46, 47, 48, 49, 50, 51, 52, 11, 53, 18, 54, 55, 56, 57, 58, 59, 60, 61, 62, 84, 85, 86, 87, 88, 89, 90, 91] (by decide +kernel) (by decide +kernel)
set_option maxRecDepth 20000 in
theorem gX6_dropsWithDoors_X2_breathe : GoodIn wsX6_dropsWithDoors (wsV RX6 133 RX2 yX2_breathe wsX2_breathe) := goodIn_app (goodIn_of _ (by decide +kernel)) ggX6_dropsWithDoors_X2_breathe
set_option maxRecDepth 20000 in
theorem ggX6_dropsWithDoors_J6_bitCount_0f7a4 : GoodIn wsX6_dropsWithDoors wsJ6_bitCount_0f7a4 := goodIn_r _ [66, 67, 68, 69] (by decide +kernel) (by decide +kernel)
set_option maxRecDepth 20000 in
theorem gX6_dropsWithDoors_J6_bitCount_0f7a4 : GoodIn wsX6_dropsWithDoors (va_wsS RX6 148 yJ6_bitCount_0f7a4 wsJ6_bitCount_0f7a4) := goodIn_app (goodIn_of _ (by decide +kernel)) ggX6_dropsWithDoors_J6_bitCount_0f7a4
theorem dX6_dropsWithDoors_0 : decode cX6_dropsWithDoors 0 = .ok (.aload_n 0, 1) := by decide +kernel
theorem dX6_dropsWithDoors_1 : decode cX6_dropsWithDoors 1 = .ok (.getfield 45, 3) := by decide +kernel
theorem dX6_dropsWithDoors_4 : decode cX6_dropsWithDoors 4 = .ok (.iconst 0, 1) := by decide +kernel
theorem dX6_dropsWithDoors_5 : decode cX6_dropsWithDoors 5 = .ok (.aaload, 1) := by decide +kernel
theorem dX6_dropsWithDoors_6 : decode cX6_dropsWithDoors 6 = .ok (.astore_n 2, 1) := by decide +kernel
theorem dX6_dropsWithDoors_7 : decode cX6_dropsWithDoors 7 = .ok (.aload_n 2, 1) := by decide +kernel
theorem dX6_dropsWithDoors_8 : decode cX6_dropsWithDoors 8 = .ok (.aload_n 0, 1) := by decide +kernel
theorem dX6_dropsWithDoors_9 : decode cX6_dropsWithDoors 9 = .ok (.getfield 27, 3) := by decide +kernel
theorem dX6_dropsWithDoors_12 : decode cX6_dropsWithDoors 12 = .ok (.invokevirtual 160, 3) := by decide +kernel
theorem dX6_dropsWithDoors_15 : decode cX6_dropsWithDoors 15 = .ok (.iconst 0, 1) := by decide +kernel
theorem dX6_dropsWithDoors_16 : decode cX6_dropsWithDoors 16 = .ok (.istore_n 3, 1) := by decide +kernel
theorem dX6_dropsWithDoors_17 : decode cX6_dropsWithDoors 17 = .ok (.iconst 0, 1) := by decide +kernel
theorem dX6_dropsWithDoors_18 : decode cX6_dropsWithDoors 18 = .ok (.istore 4, 2) := by decide +kernel
theorem dX6_dropsWithDoors_20 : decode cX6_dropsWithDoors 20 = .ok (.iload 4, 2) := by decide +kernel
theorem dX6_dropsWithDoors_22 : decode cX6_dropsWithDoors 22 = .ok (.aload_n 0, 1) := by decide +kernel
theorem dX6_dropsWithDoors_23 : decode cX6_dropsWithDoors 23 = .ok (.getfield 41, 3) := by decide +kernel
theorem dX6_dropsWithDoors_26 : decode cX6_dropsWithDoors 26 = .ok (.getfield 164, 3) := by decide +kernel
theorem dX6_dropsWithDoors_29 : decode cX6_dropsWithDoors 29 = .ok (.if_icmp .ge 41, 3) := by decide +kernel
theorem dX6_dropsWithDoors_32 : decode cX6_dropsWithDoors 32 = .ok (.iload_n 3, 1) := by decide +kernel
theorem dX6_dropsWithDoors_33 : decode cX6_dropsWithDoors 33 = .ok (.aload_n 0, 1) := by decide +kernel
theorem dX6_dropsWithDoors_34 : decode cX6_dropsWithDoors 34 = .ok (.getfield 20, 3) := by decide +kernel
theorem dX6_dropsWithDoors_37 : decode cX6_dropsWithDoors 37 = .ok (.aload_n 2, 1) := by decide +kernel
theorem dX6_dropsWithDoors_38 : decode cX6_dropsWithDoors 38 = .ok (.iload_n 1, 1) := by decide +kernel
theorem dX6_dropsWithDoors_39 : decode cX6_dropsWithDoors 39 = .ok (.aload_n 0, 1) := by decide +kernel
theorem dX6_dropsWithDoors_40 : decode cX6_dropsWithDoors 40 = .ok (.getfield 41, 3) := by decide +kernel
theorem dX6_dropsWithDoors_43 : decode cX6_dropsWithDoors 43 = .ok (.getfield 167, 3) := by decide +kernel
theorem dX6_dropsWithDoors_46 : decode cX6_dropsWithDoors 46 = .ok (.iload 4, 2) := by decide +kernel
theorem dX6_dropsWithDoors_48 : decode cX6_dropsWithDoors 48 = .ok (.iaload, 1) := by decide +kernel
theorem dX6_dropsWithDoors_49 : decode cX6_dropsWithDoors 49 = .ok (.aload_n 0, 1) := by decide +kernel
theorem dX6_dropsWithDoors_50 : decode cX6_dropsWithDoors 50 = .ok (.getfield 41, 3) := by decide +kernel
theorem dX6_dropsWithDoors_53 : decode cX6_dropsWithDoors 53 = .ok (.getfield 169, 3) := by decide +kernel
theorem dX6_dropsWithDoors_56 : decode cX6_dropsWithDoors 56 = .ok (.iload 4, 2) := by decide +kernel
theorem dX6_dropsWithDoors_58 : decode cX6_dropsWithDoors 58 = .ok (.iaload, 1) := by decide +kernel
theorem dX6_dropsWithDoors_59 : decode cX6_dropsWithDoors 59 = .ok (.invokevirtual 133, 3) := by decide +kernel
theorem dX6_dropsWithDoors_62 : decode cX6_dropsWithDoors 62 = .ok (.ior, 1) := by decide +kernel
theorem dX6_dropsWithDoors_63 : decode cX6_dropsWithDoors 63 = .ok (.istore_n 3, 1) := by decide +kernel
theorem dX6_dropsWithDoors_64 : decode cX6_dropsWithDoors 64 = .ok (.iinc 4 1, 3) := by decide +kernel
theorem dX6_dropsWithDoors_67 : decode cX6_dropsWithDoors 67 = .ok (.goto (-47), 3) := by decide +kernel
theorem dX6_dropsWithDoors_70 : decode cX6_dropsWithDoors 70 = .ok (.iload_n 3, 1) := by decide +kernel
theorem dX6_dropsWithDoors_71 : decode cX6_dropsWithDoors 71 = .ok (.invokestatic 148, 3) := by decide +kernel
theorem dX6_dropsWithDoors_74 : decode cX6_dropsWithDoors 74 = .ok (.ireturn, 1) := by decide +kernel
set_option maxRecDepth 20000 in
theorem ggX6_airBehind_X0_becomeLike : GoodIn wsX6_airBehind wsX0_becomeLike := goodIn_r _ [9, 10, 11, 12, 13, 14, 15, 77, 78] (by decide +kernel) (by decide +kernel)
set_option maxRecDepth 20000 in
theorem gX6_airBehind_X0_becomeLike : GoodIn wsX6_airBehind (wsV RX6 160 RX0 yX0_becomeLike wsX0_becomeLike) := goodIn_app (goodIn_of _ (by decide +kernel)) ggX6_airBehind_X0_becomeLike
set_option maxRecDepth 20000 in
theorem ggX6_airBehind_X2_breathe : GoodIn wsX6_airBehind wsX2_breathe := goodIn_r _ [20, 21, 22, 23, 24, 25, 26, 27, 28, 29, 30, 31, 32, 19, 33, 34, 35, 36, 37, 38, 39, 40, 41, 42, 43, 44, 45, 46, 47, 48, 49, 8, 50, 15, 51, 52, 53, 54, 55, 56, 57, 58, 59, 77, 78, 71, 72, 73, 74, 75, 76] (by decide +kernel) (by decide +kernel)
set_option maxRecDepth 20000 in
theorem gX6_airBehind_X2_breathe : GoodIn wsX6_airBehind (wsV RX6 133 RX2 yX2_breathe wsX2_breathe) := goodIn_app (goodIn_of _ (by decide +kernel)) ggX6_airBehind_X2_breathe
theorem dX6_airBehind_0 : decode cX6_airBehind 0 = .ok (.aload_n 0, 1) := by decide +kernel
theorem dX6_airBehind_1 : decode cX6_airBehind 1 = .ok (.getfield 45, 3) := by decide +kernel
theorem dX6_airBehind_4 : decode cX6_airBehind 4 = .ok (.iconst 0, 1) := by decide +kernel
theorem dX6_airBehind_5 : decode cX6_airBehind 5 = .ok (.aaload, 1) := by decide +kernel
theorem dX6_airBehind_6 : decode cX6_airBehind 6 = .ok (.astore_n 3, 1) := by decide +kernel
theorem dX6_airBehind_7 : decode cX6_airBehind 7 = .ok (.aload_n 3, 1) := by decide +kernel
theorem dX6_airBehind_8 : decode cX6_airBehind 8 = .ok (.aload_n 0, 1) := by decide +kernel
theorem dX6_airBehind_9 : decode cX6_airBehind 9 = .ok (.getfield 27, 3) := by decide +kernel
theorem dX6_airBehind_12 : decode cX6_airBehind 12 = .ok (.invokevirtual 160, 3) := by decide +kernel
theorem dX6_airBehind_15 : decode cX6_airBehind 15 = .ok (.aload_n 0, 1) := by decide +kernel
theorem dX6_airBehind_16 : decode cX6_airBehind 16 = .ok (.getfield 20, 3) := by decide +kernel
theorem dX6_airBehind_19 : decode cX6_airBehind 19 = .ok (.aload_n 3, 1) := by decide +kernel
theorem dX6_airBehind_20 : decode cX6_airBehind 20 = .ok (.aload_n 0, 1) := by decide +kernel
theorem dX6_airBehind_21 : decode cX6_airBehind 21 = .ok (.getfield 20, 3) := by decide +kernel
theorem dX6_airBehind_24 : decode cX6_airBehind 24 = .ok (.getfield 121, 3) := by decide +kernel
theorem dX6_airBehind_27 : decode cX6_airBehind 27 = .ok (.iload_n 1, 1) := by decide +kernel
theorem dX6_airBehind_28 : decode cX6_airBehind 28 = .ok (.iload_n 2, 1) := by decide +kernel
theorem dX6_airBehind_29 : decode cX6_airBehind 29 = .ok (.invokevirtual 133, 3) := by decide +kernel
theorem dX6_airBehind_32 : decode cX6_airBehind 32 = .ok (.pop, 1) := by decide +kernel
theorem dX6_airBehind_33 : decode cX6_airBehind 33 = .ok (.aload_n 3, 1) := by decide +kernel
theorem dX6_airBehind_34 : decode cX6_airBehind 34 = .ok (.areturn, 1) := by decide +kernel
theorem dX6_foulTogether_0 : decode cX6_foulTogether 0 = .ok (.iconst 0, 1) := by decide +kernel
theorem dX6_foulTogether_1 : decode cX6_foulTogether 1 = .ok (.istore_n 2, 1) := by decide +kernel
theorem dX6_foulTogether_2 : decode cX6_foulTogether 2 = .ok (.iconst 0, 1) := by decide +kernel
theorem dX6_foulTogether_3 : decode cX6_foulTogether 3 = .ok (.istore_n 3, 1) := by decide +kernel
theorem dX6_foulTogether_4 : decode cX6_foulTogether 4 = .ok (.iload_n 3, 1) := by decide +kernel
theorem dX6_foulTogether_5 : decode cX6_foulTogether 5 = .ok (.aload_n 0, 1) := by decide +kernel
theorem dX6_foulTogether_6 : decode cX6_foulTogether 6 = .ok (.getfield 20, 3) := by decide +kernel
theorem dX6_foulTogether_9 : decode cX6_foulTogether 9 = .ok (.getfield 97, 3) := by decide +kernel
theorem dX6_foulTogether_12 : decode cX6_foulTogether 12 = .ok (.if_icmp .ge 18, 3) := by decide +kernel
theorem dX6_foulTogether_15 : decode cX6_foulTogether 15 = .ok (.iload_n 2, 1) := by decide +kernel
theorem dX6_foulTogether_16 : decode cX6_foulTogether 16 = .ok (.aload_n 1, 1) := by decide +kernel
theorem dX6_foulTogether_17 : decode cX6_foulTogether 17 = .ok (.getfield 106, 3) := by decide +kernel
theorem dX6_foulTogether_20 : decode cX6_foulTogether 20 = .ok (.iload_n 3, 1) := by decide +kernel
theorem dX6_foulTogether_21 : decode cX6_foulTogether 21 = .ok (.iaload, 1) := by decide +kernel
theorem dX6_foulTogether_22 : decode cX6_foulTogether 22 = .ok (.iadd, 1) := by decide +kernel
theorem dX6_foulTogether_23 : decode cX6_foulTogether 23 = .ok (.istore_n 2, 1) := by decide +kernel
theorem dX6_foulTogether_24 : decode cX6_foulTogether 24 = .ok (.iinc 3 1, 3) := by decide +kernel
theorem dX6_foulTogether_27 : decode cX6_foulTogether 27 = .ok (.goto (-23), 3) := by decide +kernel
theorem dX6_foulTogether_30 : decode cX6_foulTogether 30 = .ok (.iload_n 2, 1) := by decide +kernel
theorem dX6_foulTogether_31 : decode cX6_foulTogether 31 = .ok (.ireturn, 1) := by decide +kernel
theorem dX6_isAsTold_0 : decode cX6_isAsTold 0 = .ok (.iconst 0, 1) := by decide +kernel
theorem dX6_isAsTold_1 : decode cX6_isAsTold 1 = .ok (.istore 4, 2) := by decide +kernel
theorem dX6_isAsTold_3 : decode cX6_isAsTold 3 = .ok (.iload 4, 2) := by decide +kernel
theorem dX6_isAsTold_5 : decode cX6_isAsTold 5 = .ok (.aload_n 0, 1) := by decide +kernel
theorem dX6_isAsTold_6 : decode cX6_isAsTold 6 = .ok (.getfield 20, 3) := by decide +kernel
theorem dX6_isAsTold_9 : decode cX6_isAsTold 9 = .ok (.getfield 97, 3) := by decide +kernel
theorem dX6_isAsTold_12 : decode cX6_isAsTold 12 = .ok (.if_icmp .ge 27, 3) := by decide +kernel
theorem dX6_isAsTold_15 : decode cX6_isAsTold 15 = .ok (.aload_n 1, 1) := by decide +kernel
theorem dX6_isAsTold_16 : decode cX6_isAsTold 16 = .ok (.iload_n 2, 1) := by decide +kernel
theorem dX6_isAsTold_17 : decode cX6_isAsTold 17 = .ok (.iload 4, 2) := by decide +kernel
theorem dX6_isAsTold_19 : decode cX6_isAsTold 19 = .ok (.iadd, 1) := by decide +kernel
theorem dX6_isAsTold_20 : decode cX6_isAsTold 20 = .ok (.iaload, 1) := by decide +kernel
theorem dX6_isAsTold_21 : decode cX6_isAsTold 21 = .ok (.aload_n 3, 1) := by decide +kernel
theorem dX6_isAsTold_22 : decode cX6_isAsTold 22 = .ok (.getfield 106, 3) := by decide +kernel
theorem dX6_isAsTold_25 : decode cX6_isAsTold 25 = .ok (.iload 4, 2) := by decide +kernel
theorem dX6_isAsTold_27 : decode cX6_isAsTold 27 = .ok (.iaload, 1) := by decide +kernel
theorem dX6_isAsTold_28 : decode cX6_isAsTold 28 = .ok (.if_icmp .eq 5, 3) := by decide +kernel
theorem dX6_isAsTold_31 : decode cX6_isAsTold 31 = .ok (.iconst 0, 1) := by decide +kernel
theorem dX6_isAsTold_32 : decode cX6_isAsTold 32 = .ok (.ireturn, 1) := by decide +kernel
theorem dX6_isAsTold_33 : decode cX6_isAsTold 33 = .ok (.iinc 4 1, 3) := by decide +kernel
theorem dX6_isAsTold_36 : decode cX6_isAsTold 36 = .ok (.goto (-33), 3) := by decide +kernel
theorem dX6_isAsTold_39 : decode cX6_isAsTold 39 = .ok (.iconst 1, 1) := by decide +kernel
theorem dX6_isAsTold_40 : decode cX6_isAsTold 40 = .ok (.ireturn, 1) := by decide +kernel
set_option maxRecDepth 20000 in
theorem ggX6_endsOrder_X0_becomeLike : GoodIn wsX6_endsOrder wsX0_becomeLike := goodIn_r _ [9, 10, 11, 12, 13, 14, 15, 71, 72] (by decide +kernel) (by decide +kernel)
set_option maxRecDepth 20000 in
theorem gX6_endsOrder_X0_becomeLike : GoodIn wsX6_endsOrder (wsV RX6 160 RX0 yX0_becomeLike wsX0_becomeLike) := goodIn_app (goodIn_of _ (by decide +kernel)) ggX6_endsOrder_X0_becomeLike
set_option maxRecDepth 20000 in
theorem ggX6_endsOrder_X2_breathe : GoodIn wsX6_endsOrder wsX2_breathe := goodIn_r _ [20, 21, 22, 23, 24, 25, 26, 27, 28, 29, 30, 31, 32, 19, 33, 34, 35, 36, 37, 38, 39, 40, 41, 42, 43, 44, 45, 46, 47, 48, 49, 8, 50, 15, 51, 52, 53, 54, 55, 56, 57, 58, 59, 71, 72, 65, 66, 67, 68, 69, 70] (by decide +kernel) (by decide +kernel)
set_option maxRecDepth 20000 in
theorem gX6_endsOrder_X2_breathe : GoodIn wsX6_endsOrder (wsV RX6 133 RX2 yX2_breathe wsX2_breathe) := goodIn_app (goodIn_of _ (by decide +kernel)) ggX6_endsOrder_X2_breathe
set_option maxRecDepth 20000 in
theorem ggX6_endsOrder_X6_endsOrder : GoodIn wsX6_endsOrder wsX6_endsOrder := goodIn_r _ [0, 1, 2, 3, 4, 5, 6, 7, 8, 9, 10, 11, 12, 13, 14, 15, 16, 17, 18, 19, 20, 21, 22, 23, 24, 25, 26, 27, 28, 29, 30, 31, 32, 33, 34, 35, 36, 37, 38, 39, 40, 41, 42, 43, 44, 45, 46, 47, 48, 49, 50, 51, 52, 53, 54, 55, 56, 57, 58, 59, 60, 61, 62, 63, 64, 65, 66, 67, 68, 69, 70, 71, 72] (by decide +kernel) (by decide +kernel)
set_option maxRecDepth 20000 in
theorem gX6_endsOrder_X6_endsOrder : GoodIn wsX6_endsOrder (va_wsS RX6 176 yX6_endsOrder wsX6_endsOrder) := goodIn_app (goodIn_of _ (by decide +kernel)) ggX6_endsOrder_X6_endsOrder
theorem dX6_endsOrder_0 : decode cX6_endsOrder 0 = .ok (.iload 4, 2) := by decide +kernel
theorem dX6_endsOrder_2 : decode cX6_endsOrder 2 = .ok (.aload_n 1, 1) := by decide +kernel
theorem dX6_endsOrder_3 : decode cX6_endsOrder 3 = .ok (.getfield 164, 3) := by decide +kernel
theorem dX6_endsOrder_6 : decode cX6_endsOrder 6 = .ok (.if_icmp .ge 10, 3) := by decide +kernel
theorem dX6_endsOrder_9 : decode cX6_endsOrder 9 = .ok (.iload 4, 2) := by decide +kernel
theorem dX6_endsOrder_11 : decode cX6_endsOrder 11 = .ok (.bipush 6, 2) := by decide +kernel
theorem dX6_endsOrder_13 : decode cX6_endsOrder 13 = .ok (.if_icmp .lt 5, 3) := by decide +kernel
theorem dX6_endsOrder_16 : decode cX6_endsOrder 16 = .ok (.iconst 1, 1) := by decide +kernel
theorem dX6_endsOrder_17 : decode cX6_endsOrder 17 = .ok (.ireturn, 1) := by decide +kernel
theorem dX6_endsOrder_18 : decode cX6_endsOrder 18 = .ok (.iconst 0, 1) := by decide +kernel
theorem dX6_endsOrder_19 : decode cX6_endsOrder 19 = .ok (.istore 6, 2) := by decide +kernel
theorem dX6_endsOrder_21 : decode cX6_endsOrder 21 = .ok (.iload 6, 2) := by decide +kernel
theorem dX6_endsOrder_23 : decode cX6_endsOrder 23 = .ok (.aload_n 1, 1) := by decide +kernel
theorem dX6_endsOrder_24 : decode cX6_endsOrder 24 = .ok (.getfield 164, 3) := by decide +kernel
theorem dX6_endsOrder_27 : decode cX6_endsOrder 27 = .ok (.if_icmp .ge 92, 3) := by decide +kernel
theorem dX6_endsOrder_30 : decode cX6_endsOrder 30 = .ok (.iload 5, 2) := by decide +kernel
theorem dX6_endsOrder_32 : decode cX6_endsOrder 32 = .ok (.iload 6, 2) := by decide +kernel
theorem dX6_endsOrder_34 : decode cX6_endsOrder 34 = .ok (.ishr, 1) := by decide +kernel
theorem dX6_endsOrder_35 : decode cX6_endsOrder 35 = .ok (.iconst 1, 1) := by decide +kernel
theorem dX6_endsOrder_36 : decode cX6_endsOrder 36 = .ok (.iand, 1) := by decide +kernel
theorem dX6_endsOrder_37 : decode cX6_endsOrder 37 = .ok (.ifCond .ne 76, 3) := by decide +kernel
theorem dX6_endsOrder_40 : decode cX6_endsOrder 40 = .ok (.aload_n 2, 1) := by decide +kernel
theorem dX6_endsOrder_41 : decode cX6_endsOrder 41 = .ok (.iload 4, 2) := by decide +kernel
theorem dX6_endsOrder_43 : decode cX6_endsOrder 43 = .ok (.iconst 1, 1) := by decide +kernel
theorem dX6_endsOrder_44 : decode cX6_endsOrder 44 = .ok (.iadd, 1) := by decide +kernel
theorem dX6_endsOrder_45 : decode cX6_endsOrder 45 = .ok (.aaload, 1) := by decide +kernel
theorem dX6_endsOrder_46 : decode cX6_endsOrder 46 = .ok (.astore 7, 2) := by decide +kernel
theorem dX6_endsOrder_48 : decode cX6_endsOrder 48 = .ok (.aload 7, 2) := by decide +kernel
theorem dX6_endsOrder_50 : decode cX6_endsOrder 50 = .ok (.aload_n 2, 1) := by decide +kernel
theorem dX6_endsOrder_51 : decode cX6_endsOrder 51 = .ok (.iload 4, 2) := by decide +kernel
theorem dX6_endsOrder_53 : decode cX6_endsOrder 53 = .ok (.aaload, 1) := by decide +kernel
theorem dX6_endsOrder_54 : decode cX6_endsOrder 54 = .ok (.invokevirtual 160, 3) := by decide +kernel
theorem dX6_endsOrder_57 : decode cX6_endsOrder 57 = .ok (.aload_n 3, 1) := by decide +kernel
theorem dX6_endsOrder_58 : decode cX6_endsOrder 58 = .ok (.iload 4, 2) := by decide +kernel
theorem dX6_endsOrder_60 : decode cX6_endsOrder 60 = .ok (.iload 6, 2) := by decide +kernel
theorem dX6_endsOrder_62 : decode cX6_endsOrder 62 = .ok (.iastore, 1) := by decide +kernel
theorem dX6_endsOrder_63 : decode cX6_endsOrder 63 = .ok (.aload_n 0, 1) := by decide +kernel
theorem dX6_endsOrder_64 : decode cX6_endsOrder 64 = .ok (.aload 7, 2) := by decide +kernel
theorem dX6_endsOrder_66 : decode cX6_endsOrder 66 = .ok (.aload_n 0, 1) := by decide +kernel
theorem dX6_endsOrder_67 : decode cX6_endsOrder 67 = .ok (.getfield 121, 3) := by decide +kernel
theorem dX6_endsOrder_70 : decode cX6_endsOrder 70 = .ok (.aload_n 1, 1) := by decide +kernel
theorem dX6_endsOrder_71 : decode cX6_endsOrder 71 = .ok (.getfield 167, 3) := by decide +kernel
theorem dX6_endsOrder_74 : decode cX6_endsOrder 74 = .ok (.iload 6, 2) := by decide +kernel
theorem dX6_endsOrder_76 : decode cX6_endsOrder 76 = .ok (.iaload, 1) := by decide +kernel
theorem dX6_endsOrder_77 : decode cX6_endsOrder 77 = .ok (.aload_n 1, 1) := by decide +kernel
theorem dX6_endsOrder_78 : decode cX6_endsOrder 78 = .ok (.getfield 169, 3) := by decide +kernel
theorem dX6_endsOrder_81 : decode cX6_endsOrder 81 = .ok (.iload 6, 2) := by decide +kernel
theorem dX6_endsOrder_83 : decode cX6_endsOrder 83 = .ok (.iaload, 1) := by decide +kernel
theorem dX6_endsOrder_84 : decode cX6_endsOrder 84 = .ok (.invokevirtual 133, 3) := by decide +kernel
theorem dX6_endsOrder_87 : decode cX6_endsOrder 87 = .ok (.ifCond .ne 26, 3) := by decide +kernel
theorem dX6_endsOrder_90 : decode cX6_endsOrder 90 = .ok (.aload_n 0, 1) := by decide +kernel
theorem dX6_endsOrder_91 : decode cX6_endsOrder 91 = .ok (.aload_n 1, 1) := by decide +kernel
theorem dX6_endsOrder_92 : decode cX6_endsOrder 92 = .ok (.aload_n 2, 1) := by decide +kernel
theorem dX6_endsOrder_93 : decode cX6_endsOrder 93 = .ok (.aload_n 3, 1) := by decide +kernel
theorem dX6_endsOrder_94 : decode cX6_endsOrder 94 = .ok (.iload 4, 2) := by decide +kernel
theorem dX6_endsOrder_96 : decode cX6_endsOrder 96 = .ok (.iconst 1, 1) := by decide +kernel
theorem dX6_endsOrder_97 : decode cX6_endsOrder 97 = .ok (.iadd, 1) := by decide +kernel
theorem dX6_endsOrder_98 : decode cX6_endsOrder 98 = .ok (.iload 5, 2) := by decide +kernel
theorem dX6_endsOrder_100 : decode cX6_endsOrder 100 = .ok (.iconst 1, 1) := by decide +kernel
theorem dX6_endsOrder_101 : decode cX6_endsOrder 101 = .ok (.iload 6, 2) := by decide +kernel
theorem dX6_endsOrder_103 : decode cX6_endsOrder 103 = .ok (.ishl, 1) := by decide +kernel
theorem dX6_endsOrder_104 : decode cX6_endsOrder 104 = .ok (.ior, 1) := by decide +kernel
theorem dX6_endsOrder_105 : decode cX6_endsOrder 105 = .ok (.invokestatic 176, 3) := by decide +kernel
theorem dX6_endsOrder_108 : decode cX6_endsOrder 108 = .ok (.ifCond .eq 5, 3) := by decide +kernel
theorem dX6_endsOrder_111 : decode cX6_endsOrder 111 = .ok (.iconst 1, 1) := by decide +kernel
theorem dX6_endsOrder_112 : decode cX6_endsOrder 112 = .ok (.ireturn, 1) := by decide +kernel
theorem dX6_endsOrder_113 : decode cX6_endsOrder 113 = .ok (.iinc 6 1, 3) := by decide +kernel
theorem dX6_endsOrder_116 : decode cX6_endsOrder 116 = .ok (.goto (-95), 3) := by decide +kernel
theorem dX6_endsOrder_119 : decode cX6_endsOrder 119 = .ok (.iconst 0, 1) := by decide +kernel
theorem dX6_endsOrder_120 : decode cX6_endsOrder 120 = .ok (.ireturn, 1) := by decide +kernel
set_option maxRecDepth 20000 in
theorem ggX6_seatFrom_X4_keep : GoodIn wsX6_seatFrom wsX4_keep := goodIn_r _ [9, 10, 11, 12, 13, 14, 15, 16, 35, 36, 37] (by decide +kernel) (by decide +kernel)
set_option maxRecDepth 20000 in
theorem gX6_seatFrom_X4_keep : GoodIn wsX6_seatFrom (wsV RX6 281 RX4 yX4_keep wsX4_keep) := goodIn_app (goodIn_of _ (by decide +kernel)) ggX6_seatFrom_X4_keep
set_option maxRecDepth 20000 in
theorem ggX6_seatFrom_X2_bears : GoodIn wsX6_seatFrom wsX2_bears := goodIn_r _ [21, 22, 23, 24, 25, 26, 29, 30, 31, 32, 33, 34] (by decide +kernel) (by decide +kernel)
set_option maxRecDepth 20000 in
theorem gX6_seatFrom_X2_bears : GoodIn wsX6_seatFrom (wsV RX6 112 RX2 yX2_bears wsX2_bears) := goodIn_app (goodIn_of _ (by decide +kernel)) ggX6_seatFrom_X2_bears
set_option maxRecDepth 20000 in
theorem ggX6_seatFrom_X6_seatFrom : GoodIn wsX6_seatFrom wsX6_seatFrom := goodIn_r _ [0, 1, 2, 3, 4, 5, 6, 7, 8, 9, 10, 11, 12, 13, 14, 15, 16, 17, 18, 19, 20, 21, 22, 23, 24, 25, 26, 27, 28, 29, 30, 31, 32, 33, 34, 35, 36, 37, 38, 39] (by decide +kernel) (by decide +kernel)
set_option maxRecDepth 20000 in
theorem gX6_seatFrom_X6_seatFrom : GoodIn wsX6_seatFrom (va_wsS RX6 189 yX6_seatFrom wsX6_seatFrom) := goodIn_app (goodIn_of _ (by decide +kernel)) ggX6_seatFrom_X6_seatFrom
theorem dX6_seatFrom_0 : decode cX6_seatFrom 0 = .ok (.iload 5, 2) := by decide +kernel
theorem dX6_seatFrom_2 : decode cX6_seatFrom 2 = .ok (.aload_n 0, 1) := by decide +kernel
theorem dX6_seatFrom_3 : decode cX6_seatFrom 3 = .ok (.getfield 97, 3) := by decide +kernel
theorem dX6_seatFrom_6 : decode cX6_seatFrom 6 = .ok (.iadd, 1) := by decide +kernel
theorem dX6_seatFrom_7 : decode cX6_seatFrom 7 = .ok (.iload_n 3, 1) := by decide +kernel
theorem dX6_seatFrom_8 : decode cX6_seatFrom 8 = .ok (.isub, 1) := by decide +kernel
theorem dX6_seatFrom_9 : decode cX6_seatFrom 9 = .ok (.aload_n 2, 1) := by decide +kernel
theorem dX6_seatFrom_10 : decode cX6_seatFrom 10 = .ok (.getfield 186, 3) := by decide +kernel
theorem dX6_seatFrom_13 : decode cX6_seatFrom 13 = .ok (.if_icmp .gt 4, 3) := by decide +kernel
theorem dX6_seatFrom_16 : decode cX6_seatFrom 16 = .ok (.return_, 1) := by decide +kernel
theorem dX6_seatFrom_17 : decode cX6_seatFrom 17 = .ok (.iload_n 3, 1) := by decide +kernel
theorem dX6_seatFrom_18 : decode cX6_seatFrom 18 = .ok (.aload_n 0, 1) := by decide +kernel
theorem dX6_seatFrom_19 : decode cX6_seatFrom 19 = .ok (.getfield 97, 3) := by decide +kernel
theorem dX6_seatFrom_22 : decode cX6_seatFrom 22 = .ok (.if_icmp .ge 9, 3) := by decide +kernel
theorem dX6_seatFrom_25 : decode cX6_seatFrom 25 = .ok (.iload_n 3, 1) := by decide +kernel
theorem dX6_seatFrom_26 : decode cX6_seatFrom 26 = .ok (.bipush 6, 2) := by decide +kernel
theorem dX6_seatFrom_28 : decode cX6_seatFrom 28 = .ok (.if_icmp .lt 10, 3) := by decide +kernel
theorem dX6_seatFrom_31 : decode cX6_seatFrom 31 = .ok (.aload_n 2, 1) := by decide +kernel
theorem dX6_seatFrom_32 : decode cX6_seatFrom 32 = .ok (.iload 5, 2) := by decide +kernel
theorem dX6_seatFrom_34 : decode cX6_seatFrom 34 = .ok (.invokevirtual 281, 3) := by decide +kernel
theorem dX6_seatFrom_37 : decode cX6_seatFrom 37 = .ok (.return_, 1) := by decide +kernel
theorem dX6_seatFrom_38 : decode cX6_seatFrom 38 = .ok (.iconst 0, 1) := by decide +kernel
theorem dX6_seatFrom_39 : decode cX6_seatFrom 39 = .ok (.istore 6, 2) := by decide +kernel
theorem dX6_seatFrom_41 : decode cX6_seatFrom 41 = .ok (.iload 6, 2) := by decide +kernel
theorem dX6_seatFrom_43 : decode cX6_seatFrom 43 = .ok (.aload_n 0, 1) := by decide +kernel
theorem dX6_seatFrom_44 : decode cX6_seatFrom 44 = .ok (.getfield 97, 3) := by decide +kernel
theorem dX6_seatFrom_47 : decode cX6_seatFrom 47 = .ok (.if_icmp .ge 70, 3) := by decide +kernel
theorem dX6_seatFrom_50 : decode cX6_seatFrom 50 = .ok (.iload 4, 2) := by decide +kernel
theorem dX6_seatFrom_52 : decode cX6_seatFrom 52 = .ok (.iload 6, 2) := by decide +kernel
theorem dX6_seatFrom_54 : decode cX6_seatFrom 54 = .ok (.ishr, 1) := by decide +kernel
theorem dX6_seatFrom_55 : decode cX6_seatFrom 55 = .ok (.iconst 1, 1) := by decide +kernel
theorem dX6_seatFrom_56 : decode cX6_seatFrom 56 = .ok (.iand, 1) := by decide +kernel
theorem dX6_seatFrom_57 : decode cX6_seatFrom 57 = .ok (.ifCond .ne 54, 3) := by decide +kernel
theorem dX6_seatFrom_60 : decode cX6_seatFrom 60 = .ok (.aload_n 2, 1) := by decide +kernel
theorem dX6_seatFrom_61 : decode cX6_seatFrom 61 = .ok (.getfield 285, 3) := by decide +kernel
theorem dX6_seatFrom_64 : decode cX6_seatFrom 64 = .ok (.iload_n 3, 1) := by decide +kernel
theorem dX6_seatFrom_65 : decode cX6_seatFrom 65 = .ok (.iload 6, 2) := by decide +kernel
theorem dX6_seatFrom_67 : decode cX6_seatFrom 67 = .ok (.iastore, 1) := by decide +kernel
theorem dX6_seatFrom_68 : decode cX6_seatFrom 68 = .ok (.aload_n 1, 1) := by decide +kernel
theorem dX6_seatFrom_69 : decode cX6_seatFrom 69 = .ok (.getfield 106, 3) := by decide +kernel
theorem dX6_seatFrom_72 : decode cX6_seatFrom 72 = .ok (.iload_n 3, 1) := by decide +kernel
theorem dX6_seatFrom_73 : decode cX6_seatFrom 73 = .ok (.iaload, 1) := by decide +kernel
theorem dX6_seatFrom_74 : decode cX6_seatFrom 74 = .ok (.aload_n 0, 1) := by decide +kernel
theorem dX6_seatFrom_75 : decode cX6_seatFrom 75 = .ok (.iload 6, 2) := by decide +kernel
theorem dX6_seatFrom_77 : decode cX6_seatFrom 77 = .ok (.invokevirtual 112, 3) := by decide +kernel
theorem dX6_seatFrom_80 : decode cX6_seatFrom 80 = .ok (.if_icmp .gt 7, 3) := by decide +kernel
theorem dX6_seatFrom_83 : decode cX6_seatFrom 83 = .ok (.iconst 1, 1) := by decide +kernel
theorem dX6_seatFrom_84 : decode cX6_seatFrom 84 = .ok (.goto 4, 3) := by decide +kernel
theorem dX6_seatFrom_87 : decode cX6_seatFrom 87 = .ok (.iconst 0, 1) := by decide +kernel
theorem dX6_seatFrom_88 : decode cX6_seatFrom 88 = .ok (.istore 7, 2) := by decide +kernel
theorem dX6_seatFrom_90 : decode cX6_seatFrom 90 = .ok (.aload_n 0, 1) := by decide +kernel
theorem dX6_seatFrom_91 : decode cX6_seatFrom 91 = .ok (.aload_n 1, 1) := by decide +kernel
theorem dX6_seatFrom_92 : decode cX6_seatFrom 92 = .ok (.aload_n 2, 1) := by decide +kernel
theorem dX6_seatFrom_93 : decode cX6_seatFrom 93 = .ok (.iload_n 3, 1) := by decide +kernel
theorem dX6_seatFrom_94 : decode cX6_seatFrom 94 = .ok (.iconst 1, 1) := by decide +kernel
theorem dX6_seatFrom_95 : decode cX6_seatFrom 95 = .ok (.iadd, 1) := by decide +kernel
theorem dX6_seatFrom_96 : decode cX6_seatFrom 96 = .ok (.iload 4, 2) := by decide +kernel
theorem dX6_seatFrom_98 : decode cX6_seatFrom 98 = .ok (.iconst 1, 1) := by decide +kernel
theorem dX6_seatFrom_99 : decode cX6_seatFrom 99 = .ok (.iload 6, 2) := by decide +kernel
theorem dX6_seatFrom_101 : decode cX6_seatFrom 101 = .ok (.ishl, 1) := by decide +kernel
theorem dX6_seatFrom_102 : decode cX6_seatFrom 102 = .ok (.ior, 1) := by decide +kernel
theorem dX6_seatFrom_103 : decode cX6_seatFrom 103 = .ok (.iload 5, 2) := by decide +kernel
theorem dX6_seatFrom_105 : decode cX6_seatFrom 105 = .ok (.iload 7, 2) := by decide +kernel
theorem dX6_seatFrom_107 : decode cX6_seatFrom 107 = .ok (.iadd, 1) := by decide +kernel
theorem dX6_seatFrom_108 : decode cX6_seatFrom 108 = .ok (.invokestatic 189, 3) := by decide +kernel
theorem dX6_seatFrom_111 : decode cX6_seatFrom 111 = .ok (.iinc 6 1, 3) := by decide +kernel
theorem dX6_seatFrom_114 : decode cX6_seatFrom 114 = .ok (.goto (-73), 3) := by decide +kernel
theorem dX6_seatFrom_117 : decode cX6_seatFrom 117 = .ok (.return_, 1) := by decide +kernel
theorem dX6_bearing_0 : decode cX6_bearing 0 = .ok (.iload_n 0, 1) := by decide +kernel
theorem dX6_bearing_1 : decode cX6_bearing 1 = .ok (.lookupswitch 35 #[(1, 31), (2, 27)], 27) := by decide +kernel
theorem dX6_bearing_28 : decode cX6_bearing 28 = .ok (.iconst 2, 1) := by decide +kernel
theorem dX6_bearing_29 : decode cX6_bearing 29 = .ok (.iload_n 1, 1) := by decide +kernel
theorem dX6_bearing_30 : decode cX6_bearing 30 = .ok (.imul, 1) := by decide +kernel
theorem dX6_bearing_31 : decode cX6_bearing 31 = .ok (.ireturn, 1) := by decide +kernel
theorem dX6_bearing_32 : decode cX6_bearing 32 = .ok (.iload_n 1, 1) := by decide +kernel
theorem dX6_bearing_33 : decode cX6_bearing 33 = .ok (.iconst 1, 1) := by decide +kernel
theorem dX6_bearing_34 : decode cX6_bearing 34 = .ok (.isub, 1) := by decide +kernel
theorem dX6_bearing_35 : decode cX6_bearing 35 = .ok (.ireturn, 1) := by decide +kernel
theorem dX6_bearing_36 : decode cX6_bearing 36 = .ok (.iload_n 1, 1) := by decide +kernel
theorem dX6_bearing_37 : decode cX6_bearing 37 = .ok (.ireturn, 1) := by decide +kernel
theorem dX6_cutToLane_0 : decode cX6_cutToLane 0 = .ok (.iload_n 1, 1) := by decide +kernel
theorem dX6_cutToLane_1 : decode cX6_cutToLane 1 = .ok (.lookupswitch 33 #[(0, 27), (1, 30)], 27) := by decide +kernel
theorem dX6_cutToLane_28 : decode cX6_cutToLane 28 = .ok (.iload_n 0, 1) := by decide +kernel
theorem dX6_cutToLane_29 : decode cX6_cutToLane 29 = .ok (.i2b, 1) := by decide +kernel
theorem dX6_cutToLane_30 : decode cX6_cutToLane 30 = .ok (.ireturn, 1) := by decide +kernel
theorem dX6_cutToLane_31 : decode cX6_cutToLane 31 = .ok (.iload_n 0, 1) := by decide +kernel
theorem dX6_cutToLane_32 : decode cX6_cutToLane 32 = .ok (.i2s, 1) := by decide +kernel
theorem dX6_cutToLane_33 : decode cX6_cutToLane 33 = .ok (.ireturn, 1) := by decide +kernel
theorem dX6_cutToLane_34 : decode cX6_cutToLane 34 = .ok (.iload_n 0, 1) := by decide +kernel
theorem dX6_cutToLane_35 : decode cX6_cutToLane 35 = .ok (.ireturn, 1) := by decide +kernel
theorem dX6_commonDivisor_0 : decode cX6_commonDivisor 0 = .ok (.iload_n 1, 1) := by decide +kernel
theorem dX6_commonDivisor_1 : decode cX6_commonDivisor 1 = .ok (.istore_n 2, 1) := by decide +kernel
theorem dX6_commonDivisor_2 : decode cX6_commonDivisor 2 = .ok (.iload_n 2, 1) := by decide +kernel
theorem dX6_commonDivisor_3 : decode cX6_commonDivisor 3 = .ok (.iconst 1, 1) := by decide +kernel
theorem dX6_commonDivisor_4 : decode cX6_commonDivisor 4 = .ok (.if_icmp .le 23, 3) := by decide +kernel
theorem dX6_commonDivisor_7 : decode cX6_commonDivisor 7 = .ok (.iload_n 0, 1) := by decide +kernel
theorem dX6_commonDivisor_8 : decode cX6_commonDivisor 8 = .ok (.iload_n 2, 1) := by decide +kernel
theorem dX6_commonDivisor_9 : decode cX6_commonDivisor 9 = .ok (.irem, 1) := by decide +kernel
theorem dX6_commonDivisor_10 : decode cX6_commonDivisor 10 = .ok (.ifCond .ne 11, 3) := by decide +kernel
theorem dX6_commonDivisor_13 : decode cX6_commonDivisor 13 = .ok (.iload_n 1, 1) := by decide +kernel
theorem dX6_commonDivisor_14 : decode cX6_commonDivisor 14 = .ok (.iload_n 2, 1) := by decide +kernel
theorem dX6_commonDivisor_15 : decode cX6_commonDivisor 15 = .ok (.irem, 1) := by decide +kernel
theorem dX6_commonDivisor_16 : decode cX6_commonDivisor 16 = .ok (.ifCond .ne 5, 3) := by decide +kernel
theorem dX6_commonDivisor_19 : decode cX6_commonDivisor 19 = .ok (.iload_n 2, 1) := by decide +kernel
theorem dX6_commonDivisor_20 : decode cX6_commonDivisor 20 = .ok (.ireturn, 1) := by decide +kernel
theorem dX6_commonDivisor_21 : decode cX6_commonDivisor 21 = .ok (.iinc 2 (-1), 3) := by decide +kernel
theorem dX6_commonDivisor_24 : decode cX6_commonDivisor 24 = .ok (.goto (-22), 3) := by decide +kernel
theorem dX6_commonDivisor_27 : decode cX6_commonDivisor 27 = .ok (.iconst 1, 1) := by decide +kernel
theorem dX6_commonDivisor_28 : decode cX6_commonDivisor 28 = .ok (.ireturn, 1) := by decide +kernel
theorem dX6_leave_0 : decode cX6_leave 0 = .ok (.aload_n 0, 1) := by decide +kernel
theorem dX6_leave_1 : decode cX6_leave 1 = .ok (.bipush 31, 2) := by decide +kernel
theorem dX6_leave_3 : decode cX6_leave 3 = .ok (.aload_n 0, 1) := by decide +kernel
theorem dX6_leave_4 : decode cX6_leave 4 = .ok (.getfield 64, 3) := by decide +kernel
theorem dX6_leave_7 : decode cX6_leave 7 = .ok (.imul, 1) := by decide +kernel
theorem dX6_leave_8 : decode cX6_leave 8 = .ok (.iload_n 1, 1) := by decide +kernel
theorem dX6_leave_9 : decode cX6_leave 9 = .ok (.iadd, 1) := by decide +kernel
theorem dX6_leave_10 : decode cX6_leave 10 = .ok (.putfield 64, 3) := by decide +kernel
theorem dX6_leave_13 : decode cX6_leave 13 = .ok (.return_, 1) := by decide +kernel
set_option maxRecDepth 20000 in
theorem ggX6_greyBody_X6_leave : GoodIn wsX6_greyBody wsX6_leave := goodIn_r _ [7, 8, 9, 10, 11, 12, 13, 14, 15, 16, 17, 18, 19] (by decide +kernel) (by decide +kernel)
set_option maxRecDepth 20000 in
theorem gX6_greyBody_X6_leave : GoodIn wsX6_greyBody (wsV RX6 288 RX6 yX6_leave wsX6_leave) := goodIn_app (goodIn_of _ (by decide +kernel)) ggX6_greyBody_X6_leave
theorem dX6_greyBody_0 : decode cX6_greyBody 0 = .ok (.aload_n 0, 1) := by decide +kernel
theorem dX6_greyBody_1 : decode cX6_greyBody 1 = .ok (.iconst 1, 1) := by decide +kernel
theorem dX6_greyBody_2 : decode cX6_greyBody 2 = .ok (.invokevirtual 288, 3) := by decide +kernel
theorem dX6_greyBody_5 : decode cX6_greyBody 5 = .ok (.aload_n 0, 1) := by decide +kernel
theorem dX6_greyBody_6 : decode cX6_greyBody 6 = .ok (.getfield 20, 3) := by decide +kernel
theorem dX6_greyBody_9 : decode cX6_greyBody 9 = .ok (.getfield 109, 3) := by decide +kernel
theorem dX6_greyBody_12 : decode cX6_greyBody 12 = .ok (.iload_n 1, 1) := by decide +kernel
theorem dX6_greyBody_13 : decode cX6_greyBody 13 = .ok (.iaload, 1) := by decide +kernel
theorem dX6_greyBody_14 : decode cX6_greyBody 14 = .ok (.ireturn, 1) := by decide +kernel
set_option maxRecDepth 20000 in
theorem ggX6_greenBody_X6_leave : GoodIn wsX6_greenBody wsX6_leave := goodIn_r _ [5, 6, 13, 14, 15, 16, 17, 18, 19, 20, 21, 22, 23] (by decide +kernel) (by decide +kernel)
set_option maxRecDepth 20000 in
theorem gX6_greenBody_X6_leave : GoodIn wsX6_greenBody (wsV RX6 288 RX6 yX6_leave wsX6_leave) := goodIn_app (goodIn_of _ (by decide +kernel)) ggX6_greenBody_X6_leave
set_option maxRecDepth 20000 in
theorem ggX6_greenBody_X6_greyBody : GoodIn wsX6_greenBody wsX6_greyBody := goodIn_r _ [10, 11, 12, 1, 2, 3, 4, 5, 6, 13, 14, 15, 16, 17, 18, 19, 20, 21, 22, 23, 24, 25, 26, 27, 28, 29] (by decide +kernel) (by decide +kernel)
set_option maxRecDepth 20000 in
theorem gX6_greenBody_X6_greyBody : GoodIn wsX6_greenBody (wsV RX6 253 RX6 yX6_greyBody wsX6_greyBody) := goodIn_app (goodIn_of _ (by decide +kernel)) ggX6_greenBody_X6_greyBody
theorem dX6_greenBody_0 : decode cX6_greenBody 0 = .ok (.aload_n 0, 1) := by decide +kernel
theorem dX6_greenBody_1 : decode cX6_greenBody 1 = .ok (.iconst 2, 1) := by decide +kernel
theorem dX6_greenBody_2 : decode cX6_greenBody 2 = .ok (.invokevirtual 288, 3) := by decide +kernel
theorem dX6_greenBody_5 : decode cX6_greenBody 5 = .ok (.aload_n 0, 1) := by decide +kernel
theorem dX6_greenBody_6 : decode cX6_greenBody 6 = .ok (.iload_n 1, 1) := by decide +kernel
theorem dX6_greenBody_7 : decode cX6_greenBody 7 = .ok (.invokevirtual 253, 3) := by decide +kernel
theorem dX6_greenBody_10 : decode cX6_greenBody 10 = .ok (.bipush 100, 2) := by decide +kernel
theorem dX6_greenBody_12 : decode cX6_greenBody 12 = .ok (.iadd, 1) := by decide +kernel
theorem dX6_greenBody_13 : decode cX6_greenBody 13 = .ok (.ireturn, 1) := by decide +kernel
set_option maxRecDepth 20000 in
theorem ggX6_brightBody_X6_leave : GoodIn wsX6_brightBody wsX6_leave := goodIn_r _ [5, 6, 17, 18, 19, 20, 21, 22, 23, 24, 25, 26, 27] (by decide +kernel) (by decide +kernel)
set_option maxRecDepth 20000 in
theorem gX6_brightBody_X6_leave : GoodIn wsX6_brightBody (wsV RX6 288 RX6 yX6_leave wsX6_leave) := goodIn_app (goodIn_of _ (by decide +kernel)) ggX6_brightBody_X6_leave
set_option maxRecDepth 20000 in
theorem ggX6_brightBody_X6_greenBody : GoodIn wsX6_brightBody wsX6_greenBody := goodIn_r _ [10, 1, 2, 3, 4, 5, 6, 11, 12, 13, 14, 15, 16, 17, 18, 19, 20, 21, 22, 23, 24, 25, 26, 27, 28, 29, 30, 31, 32, 33] (by decide +kernel) (by decide +kernel)
set_option maxRecDepth 20000 in
theorem gX6_brightBody_X6_greenBody : GoodIn wsX6_brightBody (wsV RX6 250 RX6 yX6_greenBody wsX6_greenBody) := goodIn_app (goodIn_of _ (by decide +kernel)) ggX6_brightBody_X6_greenBody
set_option maxRecDepth 20000 in
theorem ggX6_brightBody_X6_greyBody : GoodIn wsX6_brightBody wsX6_greyBody := goodIn_r _ [14, 15, 16, 1, 2, 3, 4, 5, 6, 17, 18, 19, 20, 21, 22, 23, 24, 25, 26, 27, 28, 29, 30, 31, 32, 33] (by decide +kernel) (by decide +kernel)
set_option maxRecDepth 20000 in
theorem gX6_brightBody_X6_greyBody : GoodIn wsX6_brightBody (wsV RX6 253 RX6 yX6_greyBody wsX6_greyBody) := goodIn_app (goodIn_of _ (by decide +kernel)) ggX6_brightBody_X6_greyBody
theorem dX6_brightBody_0 : decode cX6_brightBody 0 = .ok (.aload_n 0, 1) := by decide +kernel
theorem dX6_brightBody_1 : decode cX6_brightBody 1 = .ok (.iconst 3, 1) := by decide +kernel
theorem dX6_brightBody_2 : decode cX6_brightBody 2 = .ok (.invokevirtual 288, 3) := by decide +kernel
theorem dX6_brightBody_5 : decode cX6_brightBody 5 = .ok (.aload_n 0, 1) := by decide +kernel
theorem dX6_brightBody_6 : decode cX6_brightBody 6 = .ok (.iload_n 1, 1) := by decide +kernel
theorem dX6_brightBody_7 : decode cX6_brightBody 7 = .ok (.invokevirtual 250, 3) := by decide +kernel
theorem dX6_brightBody_10 : decode cX6_brightBody 10 = .ok (.aload_n 0, 1) := by decide +kernel
theorem dX6_brightBody_11 : decode cX6_brightBody 11 = .ok (.iload_n 1, 1) := by decide +kernel
theorem dX6_brightBody_12 : decode cX6_brightBody 12 = .ok (.invokevirtual 253, 3) := by decide +kernel
theorem dX6_brightBody_15 : decode cX6_brightBody 15 = .ok (.iadd, 1) := by decide +kernel
theorem dX6_brightBody_16 : decode cX6_brightBody 16 = .ok (.ireturn, 1) := by decide +kernel
set_option maxRecDepth 20000 in
theorem ggX6_lentSignature_X6_leave : GoodIn wsX6_lentSignature wsX6_leave := goodIn_r _ [5, 6, 7, 8, 9, 10, 11, 12, 13, 14, 15, 16, 17] (by decide +kernel) (by decide +kernel)
set_option maxRecDepth 20000 in
theorem gX6_lentSignature_X6_leave : GoodIn wsX6_lentSignature (wsV RX6 288 RX6 yX6_leave wsX6_leave) := goodIn_app (goodIn_of _ (by decide +kernel)) ggX6_lentSignature_X6_leave
theorem dX6_lentSignature_0 : decode cX6_lentSignature 0 = .ok (.aload_n 0, 1) := by decide +kernel
theorem dX6_lentSignature_1 : decode cX6_lentSignature 1 = .ok (.iconst 4, 1) := by decide +kernel
theorem dX6_lentSignature_2 : decode cX6_lentSignature 2 = .ok (.invokevirtual 288, 3) := by decide +kernel
theorem dX6_lentSignature_5 : decode cX6_lentSignature 5 = .ok (.iload_n 1, 1) := by decide +kernel
theorem dX6_lentSignature_6 : decode cX6_lentSignature 6 = .ok (.ireturn, 1) := by decide +kernel
set_option maxRecDepth 20000 in
theorem ggX6_brightSignature_X6_leave : GoodIn wsX6_brightSignature wsX6_leave := goodIn_r _ [5, 6, 7, 8, 9, 10, 11, 12, 13, 14, 15, 16, 17] (by decide +kernel) (by decide +kernel)
set_option maxRecDepth 20000 in
theorem gX6_brightSignature_X6_leave : GoodIn wsX6_brightSignature (wsV RX6 288 RX6 yX6_leave wsX6_leave) := goodIn_app (goodIn_of _ (by decide +kernel)) ggX6_brightSignature_X6_leave
theorem dX6_brightSignature_0 : decode cX6_brightSignature 0 = .ok (.aload_n 0, 1) := by decide +kernel
theorem dX6_brightSignature_1 : decode cX6_brightSignature 1 = .ok (.iconst 5, 1) := by decide +kernel
theorem dX6_brightSignature_2 : decode cX6_brightSignature 2 = .ok (.invokevirtual 288, 3) := by decide +kernel
theorem dX6_brightSignature_5 : decode cX6_brightSignature 5 = .ok (.bipush 50, 2) := by decide +kernel
theorem dX6_brightSignature_7 : decode cX6_brightSignature 7 = .ok (.ireturn, 1) := by decide +kernel
