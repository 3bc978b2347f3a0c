theorem inlX0 : ∀ w ∈ wsX00, w ∈ wsL_law := fun _ h => List.mem_append_left _ (List.mem_append_left _ (List.mem_append_left _ (List.mem_append_left _ (List.mem_append_left _ (List.mem_append_right _ h)))))
theorem inX0 : ∀ w ∈ wsX00, w ∈ lw_tbl := fun w h => wsL_law_in w (inlX0 w h)
theorem inlX1 : ∀ w ∈ wsX10, w ∈ wsL_law := fun _ h => List.mem_append_left _ (List.mem_append_left _ (List.mem_append_left _ (List.mem_append_right _ h)))
theorem inX1 : ∀ w ∈ wsX10, w ∈ lw_tbl := fun w h => wsL_law_in w (inlX1 w h)
theorem inlX2 : ∀ w ∈ wsX20, w ∈ wsL_law := fun _ h => List.mem_append_left _ (List.mem_append_left _ (List.mem_append_left _ (List.mem_append_left _ (List.mem_append_left _ (List.mem_append_left _ (List.mem_append_right _ h))))))
theorem inX2 : ∀ w ∈ wsX20, w ∈ lw_tbl := fun w h => wsL_law_in w (inlX2 w h)
theorem inlX3 : ∀ w ∈ wsX30, w ∈ wsL_law := fun _ h => List.mem_append_left _ (List.mem_append_left _ (List.mem_append_left _ (List.mem_append_left _ (List.mem_append_right _ h))))
theorem inX3 : ∀ w ∈ wsX30, w ∈ lw_tbl := fun w h => wsL_law_in w (inlX3 w h)
theorem inlX4 : ∀ w ∈ wsX40, w ∈ wsL_law := fun _ h => List.mem_append_left _ (List.mem_append_left _ (List.mem_append_right _ h))
theorem inX4 : ∀ w ∈ wsX40, w ∈ lw_tbl := fun w h => wsL_law_in w (inlX4 w h)
theorem inlX5 : ∀ w ∈ wsX50, w ∈ wsL_law := fun _ h => List.mem_append_left _ (List.mem_append_right _ h)
theorem inX5 : ∀ w ∈ wsX50, w ∈ lw_tbl := fun w h => wsL_law_in w (inlX5 w h)
theorem inlX6 : ∀ w ∈ wsX60, w ∈ wsL_law := fun _ h => List.mem_append_left _ (List.mem_append_left _ (List.mem_append_left _ (List.mem_append_left _ (List.mem_append_left _ (List.mem_append_left _ (List.mem_append_left _ (List.mem_append_left _ (List.mem_append_right _ h))))))))
theorem inX6 : ∀ w ∈ wsX60, w ∈ lw_tbl := fun w h => wsL_law_in w (inlX6 w h)
theorem inlX7 : ∀ w ∈ wsX70, w ∈ wsL_law := fun _ h => List.mem_append_left _ (List.mem_append_left _ (List.mem_append_left _ (List.mem_append_left _ (List.mem_append_left _ (List.mem_append_left _ (List.mem_append_left _ (List.mem_append_right _ h)))))))
theorem inX7 : ∀ w ∈ wsX70, w ∈ lw_tbl := fun w h => wsL_law_in w (inlX7 w h)
theorem inJ6 : ∀ w ∈ wsJ60, w ∈ lw_tbl := by decide +kernel
theorem inJ9 : ∀ w ∈ wsJ90, w ∈ lw_tbl := by decide +kernel
theorem inJ10 : ∀ w ∈ wsJ100, w ∈ lw_tbl := by decide +kernel
theorem dX0_init_0 : decode cX0_init 0 = .ok (.aload_n 0, 1) := by decide +kernel
theorem dX0_init_1 : decode cX0_init 1 = .ok (.invokespecial 3, 3) := by decide +kernel
theorem dX0_init_4 : decode cX0_init 4 = .ok (.aload_n 0, 1) := by decide +kernel
theorem dX0_init_5 : decode cX0_init 5 = .ok (.bipush 6, 2) := by decide +kernel
theorem dX0_init_7 : decode cX0_init 7 = .ok (.newarray .int, 2) := by decide +kernel
theorem dX0_init_9 : decode cX0_init 9 = .ok (.putfield 9, 3) := by decide +kernel
theorem dX0_init_12 : decode cX0_init 12 = .ok (.aload_n 0, 1) := by decide +kernel
theorem dX0_init_13 : decode cX0_init 13 = .ok (.iconst 0, 1) := by decide +kernel
theorem dX0_init_14 : decode cX0_init 14 = .ok (.putfield 15, 3) := by decide +kernel
theorem dX0_init_17 : decode cX0_init 17 = .ok (.return_, 1) := by decide +kernel
theorem dX0_isDown_0 : decode cX0_isDown 0 = .ok (.aload_n 0, 1) := by decide +kernel
theorem dX0_isDown_1 : decode cX0_isDown 1 = .ok (.getfield 15, 3) := by decide +kernel
theorem dX0_isDown_4 : decode cX0_isDown 4 = .ok (.iload_n 1, 1) := by decide +kernel
theorem dX0_isDown_5 : decode cX0_isDown 5 = .ok (.ishr, 1) := by decide +kernel
theorem dX0_isDown_6 : decode cX0_isDown 6 = .ok (.iconst 1, 1) := by decide +kernel
theorem dX0_isDown_7 : decode cX0_isDown 7 = .ok (.iand, 1) := by decide +kernel
theorem dX0_isDown_8 : decode cX0_isDown 8 = .ok (.iconst 1, 1) := by decide +kernel
theorem dX0_isDown_9 : decode cX0_isDown 9 = .ok (.if_icmp .ne 7, 3) := by decide +kernel
theorem dX0_isDown_12 : decode cX0_isDown 12 = .ok (.iconst 1, 1) := by decide +kernel
theorem dX0_isDown_13 : decode cX0_isDown 13 = .ok (.goto 4, 3) := by decide +kernel
theorem dX0_isDown_16 : decode cX0_isDown 16 = .ok (.iconst 0, 1) := by decide +kernel
theorem dX0_isDown_17 : decode cX0_isDown 17 = .ok (.ireturn, 1) := by decide +kernel
theorem dX0_becomeLike_0 : decode cX0_becomeLike 0 = .ok (.aload_n 1, 1) := by decide +kernel
theorem dX0_becomeLike_1 : decode cX0_becomeLike 1 = .ok (.getfield 9, 3) := by decide +kernel
theorem dX0_becomeLike_4 : decode cX0_becomeLike 4 = .ok (.iconst 0, 1) := by decide +kernel
theorem dX0_becomeLike_5 : decode cX0_becomeLike 5 = .ok (.aload_n 0, 1) := by decide +kernel
theorem dX0_becomeLike_6 : decode cX0_becomeLike 6 = .ok (.getfield 9, 3) := by decide +kernel
theorem dX0_becomeLike_9 : decode cX0_becomeLike 9 = .ok (.iconst 0, 1) := by decide +kernel
theorem dX0_becomeLike_10 : decode cX0_becomeLike 10 = .ok (.bipush 6, 2) := by decide +kernel
theorem dX0_becomeLike_12 : decode cX0_becomeLike 12 = .ok (.invokestatic 19, 3) := by decide +kernel
theorem dX0_becomeLike_15 : decode cX0_becomeLike 15 = .ok (.aload_n 0, 1) := by decide +kernel
theorem dX0_becomeLike_16 : decode cX0_becomeLike 16 = .ok (.aload_n 1, 1) := by decide +kernel
theorem dX0_becomeLike_17 : decode cX0_becomeLike 17 = .ok (.getfield 15, 3) := by decide +kernel
theorem dX0_becomeLike_20 : decode cX0_becomeLike 20 = .ok (.putfield 15, 3) := by decide +kernel
theorem dX0_becomeLike_23 : decode cX0_becomeLike 23 = .ok (.return_, 1) := by decide +kernel
theorem dX1_init_0 : decode cX1_init 0 = .ok (.aload_n 0, 1) := by decide +kernel
theorem dX1_init_1 : decode cX1_init 1 = .ok (.invokespecial 3, 3) := by decide +kernel
theorem dX1_init_4 : decode cX1_init 4 = .ok (.aload_n 0, 1) := by decide +kernel
theorem dX1_init_5 : decode cX1_init 5 = .ok (.iconst 0, 1) := by decide +kernel
theorem dX1_init_6 : decode cX1_init 6 = .ok (.putfield 9, 3) := by decide +kernel
theorem dX1_init_9 : decode cX1_init 9 = .ok (.aload_n 0, 1) := by decide +kernel
theorem dX1_init_10 : decode cX1_init 10 = .ok (.bipush 20, 2) := by decide +kernel
theorem dX1_init_12 : decode cX1_init 12 = .ok (.newarray .int, 2) := by decide +kernel
theorem dX1_init_14 : decode cX1_init 14 = .ok (.putfield 15, 3) := by decide +kernel
theorem dX1_init_17 : decode cX1_init 17 = .ok (.aload_n 0, 1) := by decide +kernel
theorem dX1_init_18 : decode cX1_init 18 = .ok (.bipush 20, 2) := by decide +kernel
theorem dX1_init_20 : decode cX1_init 20 = .ok (.newarray .int, 2) := by decide +kernel
theorem dX1_init_22 : decode cX1_init 22 = .ok (.putfield 19, 3) := by decide +kernel
theorem dX1_init_25 : decode cX1_init 25 = .ok (.return_, 1) := by decide +kernel
theorem dX2_init_0 : decode cX2_init 0 = .ok (.aload_n 0, 1) := by decide +kernel
theorem dX2_init_1 : decode cX2_init 1 = .ok (.invokespecial 3, 3) := by decide +kernel
theorem dX2_init_4 : decode cX2_init 4 = .ok (.aload_n 0, 1) := by decide +kernel
theorem dX2_init_5 : decode cX2_init 5 = .ok (.iconst 0, 1) := by decide +kernel
theorem dX2_init_6 : decode cX2_init 6 = .ok (.putfield 9, 3) := by decide +kernel
theorem dX2_init_9 : decode cX2_init 9 = .ok (.aload_n 0, 1) := by decide +kernel
theorem dX2_init_10 : decode cX2_init 10 = .ok (.iconst 0, 1) := by decide +kernel
theorem dX2_init_11 : decode cX2_init 11 = .ok (.putfield 15, 3) := by decide +kernel
theorem dX2_init_14 : decode cX2_init 14 = .ok (.aload_n 0, 1) := by decide +kernel
theorem dX2_init_15 : decode cX2_init 15 = .ok (.iconst 4, 1) := by decide +kernel
theorem dX2_init_16 : decode cX2_init 16 = .ok (.newarray .int, 2) := by decide +kernel
theorem dX2_init_18 : decode cX2_init 18 = .ok (.putfield 18, 3) := by decide +kernel
theorem dX2_init_21 : decode cX2_init 21 = .ok (.aload_n 0, 1) := by decide +kernel
theorem dX2_init_22 : decode cX2_init 22 = .ok (.bipush 6, 2) := by decide +kernel
theorem dX2_init_24 : decode cX2_init 24 = .ok (.newarray .int, 2) := by decide +kernel
theorem dX2_init_26 : decode cX2_init 26 = .ok (.putfield 22, 3) := by decide +kernel
theorem dX2_init_29 : decode cX2_init 29 = .ok (.aload_n 0, 1) := by decide +kernel
theorem dX2_init_30 : decode cX2_init 30 = .ok (.bipush 6, 2) := by decide +kernel
theorem dX2_init_32 : decode cX2_init 32 = .ok (.newarray .int, 2) := by decide +kernel
theorem dX2_init_34 : decode cX2_init 34 = .ok (.putfield 25, 3) := by decide +kernel
theorem dX2_init_37 : decode cX2_init 37 = .ok (.aload_n 0, 1) := by decide +kernel
theorem dX2_init_38 : decode cX2_init 38 = .ok (.iconst 0, 1) := by decide +kernel
theorem dX2_init_39 : decode cX2_init 39 = .ok (.putfield 28, 3) := by decide +kernel
theorem dX2_init_42 : decode cX2_init 42 = .ok (.return_, 1) := by decide +kernel
set_option maxRecDepth 20000 in
theorem ggX2_bears_X6_bearing : GoodIn wsX2_bears wsX6_bearing := goodIn_r _ [5] (by decide +kernel) (by decide +kernel)
set_option maxRecDepth 20000 in
theorem gX2_bears_X6_bearing_n31 : GoodIn wsX2_bears (wsX6_bearing) := ggX2_bears_X6_bearing
theorem dX2_bears_0 : decode cX2_bears 0 = .ok (.aload_n 0, 1) := by decide +kernel
theorem dX2_bears_1 : decode cX2_bears 1 = .ok (.getfield 22, 3) := by decide +kernel
theorem dX2_bears_4 : decode cX2_bears 4 = .ok (.iload_n 1, 1) := by decide +kernel
theorem dX2_bears_5 : decode cX2_bears 5 = .ok (.iaload, 1) := by decide +kernel
theorem dX2_bears_6 : decode cX2_bears 6 = .ok (.aload_n 0, 1) := by decide +kernel
theorem dX2_bears_7 : decode cX2_bears 7 = .ok (.getfield 25, 3) := by decide +kernel
theorem dX2_bears_10 : decode cX2_bears 10 = .ok (.iload_n 1, 1) := by decide +kernel
theorem dX2_bears_11 : decode cX2_bears 11 = .ok (.iaload, 1) := by decide +kernel
theorem dX2_bears_12 : decode cX2_bears 12 = .ok (.invokestatic 31, 3) := by decide +kernel
theorem dX2_bears_15 : decode cX2_bears 15 = .ok (.ireturn, 1) := by decide +kernel
set_option maxRecDepth 20000 in
theorem ggX2_breathe_X2_breatheHushed : GoodIn wsX2_breathe wsX2_breatheHushed := goodIn_r _ [14, 15, 16, 17, 13, 18, 19, 1, 20, 21, 5, 22, 23, 24, 25, 26, 27, 28, 29, 30, 31, 32, 33, 34, 35, 36, 37, 38, 39, 40, 41, 42, 45, 46, 47, 48, 49, 50, 43, 44] (by decide +kernel) (by decide +kernel)
set_option maxRecDepth 20000 in
theorem gX2_breathe_X2_breatheHushed : GoodIn wsX2_breathe (wsV RX2 48 RX2 yX2_breatheHushed wsX2_breatheHushed) := goodIn_app (goodIn_of _ (by decide +kernel)) ggX2_breathe_X2_breatheHushed
theorem dX2_breathe_0 : decode cX2_breathe 0 = .ok (.aload_n 1, 1) := by decide +kernel
theorem dX2_breathe_1 : decode cX2_breathe 1 = .ok (.getfield 35, 3) := by decide +kernel
theorem dX2_breathe_4 : decode cX2_breathe 4 = .ok (.iload_n 3, 1) := by decide +kernel
theorem dX2_breathe_5 : decode cX2_breathe 5 = .ok (.iconst 0, 1) := by decide +kernel
theorem dX2_breathe_6 : decode cX2_breathe 6 = .ok (.bipush 40, 2) := by decide +kernel
theorem dX2_breathe_8 : decode cX2_breathe 8 = .ok (.aload_n 1, 1) := by decide +kernel
theorem dX2_breathe_9 : decode cX2_breathe 9 = .ok (.getfield 35, 3) := by decide +kernel
theorem dX2_breathe_12 : decode cX2_breathe 12 = .ok (.iload_n 3, 1) := by decide +kernel
theorem dX2_breathe_13 : decode cX2_breathe 13 = .ok (.iaload, 1) := by decide +kernel
theorem dX2_breathe_14 : decode cX2_breathe 14 = .ok (.aload_n 0, 1) := by decide +kernel
theorem dX2_breathe_15 : decode cX2_breathe 15 = .ok (.getfield 18, 3) := by decide +kernel
theorem dX2_breathe_18 : decode cX2_breathe 18 = .ok (.iload 4, 2) := by decide +kernel
theorem dX2_breathe_20 : decode cX2_breathe 20 = .ok (.iaload, 1) := by decide +kernel
theorem dX2_breathe_21 : decode cX2_breathe 21 = .ok (.iadd, 1) := by decide +kernel
theorem dX2_breathe_22 : decode cX2_breathe 22 = .ok (.iconst 4, 1) := by decide +kernel
theorem dX2_breathe_23 : decode cX2_breathe 23 = .ok (.isub, 1) := by decide +kernel
theorem dX2_breathe_24 : decode cX2_breathe 24 = .ok (.invokestatic 40, 3) := by decide +kernel
theorem dX2_breathe_27 : decode cX2_breathe 27 = .ok (.invokestatic 45, 3) := by decide +kernel
theorem dX2_breathe_30 : decode cX2_breathe 30 = .ok (.iastore, 1) := by decide +kernel
theorem dX2_breathe_31 : decode cX2_breathe 31 = .ok (.aload_n 0, 1) := by decide +kernel
theorem dX2_breathe_32 : decode cX2_breathe 32 = .ok (.aload_n 1, 1) := by decide +kernel
theorem dX2_breathe_33 : decode cX2_breathe 33 = .ok (.iload_n 2, 1) := by decide +kernel
theorem dX2_breathe_34 : decode cX2_breathe 34 = .ok (.invokevirtual 48, 3) := by decide +kernel
theorem dX2_breathe_37 : decode cX2_breathe 37 = .ok (.ireturn, 1) := by decide +kernel
set_option maxRecDepth 20000 in
theorem ggX2_breatheHushed_X2_passAir : GoodIn wsX2_breatheHushed wsX2_passAir := goodIn_r _ [5, 6, 7, 8, 9, 10, 11, 32, 33, 34, 35, 36, 37, 38, 39] (by decide +kernel) (by decide +kernel)
set_option maxRecDepth 20000 in
theorem gX2_breatheHushed_X2_passAir : GoodIn wsX2_breatheHushed (wsV RX2 52 RX2 yX2_passAir wsX2_passAir) := goodIn_app (goodIn_of _ (by decide +kernel)) ggX2_breatheHushed_X2_passAir
set_option maxRecDepth 20000 in
theorem ggX2_breatheHushed_X2_dropBirds : GoodIn wsX2_breatheHushed wsX2_dropBirds := goodIn_r _ [15, 6, 7, 16, 17, 18, 19, 20, 21, 22, 23, 24, 25, 4, 26, 27, 28, 29, 30, 31, 32, 33, 34, 35, 36, 37, 38, 39] (by decide +kernel) (by decide +kernel)
set_option maxRecDepth 20000 in
theorem gX2_breatheHushed_X2_dropBirds : GoodIn wsX2_breatheHushed (wsV RX2 55 RX2 yX2_dropBirds wsX2_dropBirds) := goodIn_app (goodIn_of _ (by decide +kernel)) ggX2_breatheHushed_X2_dropBirds
theorem dX2_breatheHushed_0 : decode cX2_breatheHushed 0 = .ok (.aload_n 0, 1) := by decide +kernel
theorem dX2_breatheHushed_1 : decode cX2_breatheHushed 1 = .ok (.aload_n 1, 1) := by decide +kernel
theorem dX2_breatheHushed_2 : decode cX2_breatheHushed 2 = .ok (.iload_n 2, 1) := by decide +kernel
theorem dX2_breatheHushed_3 : decode cX2_breatheHushed 3 = .ok (.invokevirtual 52, 3) := by decide +kernel
theorem dX2_breatheHushed_6 : decode cX2_breatheHushed 6 = .ok (.pop, 1) := by decide +kernel
theorem dX2_breatheHushed_7 : decode cX2_breatheHushed 7 = .ok (.aload_n 0, 1) := by decide +kernel
theorem dX2_breatheHushed_8 : decode cX2_breatheHushed 8 = .ok (.aload_n 1, 1) := by decide +kernel
theorem dX2_breatheHushed_9 : decode cX2_breatheHushed 9 = .ok (.invokevirtual 55, 3) := by decide +kernel
theorem dX2_breatheHushed_12 : decode cX2_breatheHushed 12 = .ok (.ireturn, 1) := by decide +kernel
theorem dX2_passAir_0 : decode cX2_passAir 0 = .ok (.iconst 0, 1) := by decide +kernel
theorem dX2_passAir_1 : decode cX2_passAir 1 = .ok (.istore_n 3, 1) := by decide +kernel
theorem dX2_passAir_2 : decode cX2_passAir 2 = .ok (.iconst 0, 1) := by decide +kernel
theorem dX2_passAir_3 : decode cX2_passAir 3 = .ok (.istore 4, 2) := by decide +kernel
theorem dX2_passAir_5 : decode cX2_passAir 5 = .ok (.iload 4, 2) := by decide +kernel
theorem dX2_passAir_7 : decode cX2_passAir 7 = .ok (.aload_n 0, 1) := by decide +kernel
theorem dX2_passAir_8 : decode cX2_passAir 8 = .ok (.getfield 9, 3) := by decide +kernel
theorem dX2_passAir_11 : decode cX2_passAir 11 = .ok (.iconst 1, 1) := by decide +kernel
theorem dX2_passAir_12 : decode cX2_passAir 12 = .ok (.isub, 1) := by decide +kernel
theorem dX2_passAir_13 : decode cX2_passAir 13 = .ok (.if_icmp .ge 88, 3) := by decide +kernel
theorem dX2_passAir_16 : decode cX2_passAir 16 = .ok (.aload_n 1, 1) := by decide +kernel
theorem dX2_passAir_17 : decode cX2_passAir 17 = .ok (.getfield 35, 3) := by decide +kernel
theorem dX2_passAir_20 : decode cX2_passAir 20 = .ok (.iload 4, 2) := by decide +kernel
theorem dX2_passAir_22 : decode cX2_passAir 22 = .ok (.iaload, 1) := by decide +kernel
theorem dX2_passAir_23 : decode cX2_passAir 23 = .ok (.aload_n 1, 1) := by decide +kernel
theorem dX2_passAir_24 : decode cX2_passAir 24 = .ok (.getfield 35, 3) := by decide +kernel
theorem dX2_passAir_27 : decode cX2_passAir 27 = .ok (.iload 4, 2) := by decide +kernel
theorem dX2_passAir_29 : decode cX2_passAir 29 = .ok (.iconst 1, 1) := by decide +kernel
theorem dX2_passAir_30 : decode cX2_passAir 30 = .ok (.iadd, 1) := by decide +kernel
theorem dX2_passAir_31 : decode cX2_passAir 31 = .ok (.iaload, 1) := by decide +kernel
theorem dX2_passAir_32 : decode cX2_passAir 32 = .ok (.isub, 1) := by decide +kernel
theorem dX2_passAir_33 : decode cX2_passAir 33 = .ok (.istore 5, 2) := by decide +kernel
theorem dX2_passAir_35 : decode cX2_passAir 35 = .ok (.iload_n 2, 1) := by decide +kernel
theorem dX2_passAir_36 : decode cX2_passAir 36 = .ok (.iload 4, 2) := by decide +kernel
theorem dX2_passAir_38 : decode cX2_passAir 38 = .ok (.ishr, 1) := by decide +kernel
theorem dX2_passAir_39 : decode cX2_passAir 39 = .ok (.iconst 1, 1) := by decide +kernel
theorem dX2_passAir_40 : decode cX2_passAir 40 = .ok (.iand, 1) := by decide +kernel
theorem dX2_passAir_41 : decode cX2_passAir 41 = .ok (.iconst 1, 1) := by decide +kernel
theorem dX2_passAir_42 : decode cX2_passAir 42 = .ok (.if_icmp .ne 53, 3) := by decide +kernel
theorem dX2_passAir_45 : decode cX2_passAir 45 = .ok (.iload 5, 2) := by decide +kernel
theorem dX2_passAir_47 : decode cX2_passAir 47 = .ok (.invokestatic 59, 3) := by decide +kernel
theorem dX2_passAir_50 : decode cX2_passAir 50 = .ok (.iconst 2, 1) := by decide +kernel
theorem dX2_passAir_51 : decode cX2_passAir 51 = .ok (.if_icmp .lt 44, 3) := by decide +kernel
theorem dX2_passAir_54 : decode cX2_passAir 54 = .ok (.iload 5, 2) := by decide +kernel
theorem dX2_passAir_56 : decode cX2_passAir 56 = .ok (.ifCond .le 7, 3) := by decide +kernel
theorem dX2_passAir_59 : decode cX2_passAir 59 = .ok (.iconst 1, 1) := by decide +kernel
theorem dX2_passAir_60 : decode cX2_passAir 60 = .ok (.goto 4, 3) := by decide +kernel
theorem dX2_passAir_63 : decode cX2_passAir 63 = .ok (.iconst (-1), 1) := by decide +kernel
theorem dX2_passAir_64 : decode cX2_passAir 64 = .ok (.istore 6, 2) := by decide +kernel
theorem dX2_passAir_66 : decode cX2_passAir 66 = .ok (.aload_n 1, 1) := by decide +kernel
theorem dX2_passAir_67 : decode cX2_passAir 67 = .ok (.getfield 35, 3) := by decide +kernel
theorem dX2_passAir_70 : decode cX2_passAir 70 = .ok (.iload 4, 2) := by decide +kernel
theorem dX2_passAir_72 : decode cX2_passAir 72 = .ok (.dup2, 1) := by decide +kernel
theorem dX2_passAir_73 : decode cX2_passAir 73 = .ok (.iaload, 1) := by decide +kernel
theorem dX2_passAir_74 : decode cX2_passAir 74 = .ok (.iload 6, 2) := by decide +kernel
theorem dX2_passAir_76 : decode cX2_passAir 76 = .ok (.isub, 1) := by decide +kernel
theorem dX2_passAir_77 : decode cX2_passAir 77 = .ok (.iastore, 1) := by decide +kernel
theorem dX2_passAir_78 : decode cX2_passAir 78 = .ok (.aload_n 1, 1) := by decide +kernel
theorem dX2_passAir_79 : decode cX2_passAir 79 = .ok (.getfield 35, 3) := by decide +kernel
theorem dX2_passAir_82 : decode cX2_passAir 82 = .ok (.iload 4, 2) := by decide +kernel
theorem dX2_passAir_84 : decode cX2_passAir 84 = .ok (.iconst 1, 1) := by decide +kernel
theorem dX2_passAir_85 : decode cX2_passAir 85 = .ok (.iadd, 1) := by decide +kernel
theorem dX2_passAir_86 : decode cX2_passAir 86 = .ok (.dup2, 1) := by decide +kernel
theorem dX2_passAir_87 : decode cX2_passAir 87 = .ok (.iaload, 1) := by decide +kernel
theorem dX2_passAir_88 : decode cX2_passAir 88 = .ok (.iload 6, 2) := by decide +kernel
theorem dX2_passAir_90 : decode cX2_passAir 90 = .ok (.iadd, 1) := by decide +kernel
theorem dX2_passAir_91 : decode cX2_passAir 91 = .ok (.iastore, 1) := by decide +kernel
theorem dX2_passAir_92 : decode cX2_passAir 92 = .ok (.iinc 3 1, 3) := by decide +kernel
theorem dX2_passAir_95 : decode cX2_passAir 95 = .ok (.iinc 4 1, 3) := by decide +kernel
theorem dX2_passAir_98 : decode cX2_passAir 98 = .ok (.goto (-93), 3) := by decide +kernel
theorem dX2_passAir_101 : decode cX2_passAir 101 = .ok (.iload_n 3, 1) := by decide +kernel
theorem dX2_passAir_102 : decode cX2_passAir 102 = .ok (.ireturn, 1) := by decide +kernel
set_option maxRecDepth 20000 in
theorem ggX2_dropBirds_X0_isDown : GoodIn wsX2_dropBirds wsX0_isDown := goodIn_r _ [8, 9, 26, 27] (by decide +kernel) (by decide +kernel)
set_option maxRecDepth 20000 in
theorem gX2_dropBirds_X0_isDown : GoodIn wsX2_dropBirds (wsV RX2 63 RX0 yX0_isDown wsX0_isDown) := goodIn_app (goodIn_of _ (by decide +kernel)) ggX2_dropBirds_X0_isDown
set_option maxRecDepth 20000 in
theorem ggX2_dropBirds_X2_bears : GoodIn wsX2_dropBirds wsX2_bears := goodIn_r _ [14, 15, 16, 17, 18, 19, 20, 21, 22, 23, 24, 25] (by decide +kernel) (by decide +kernel)
set_option maxRecDepth 20000 in
theorem gX2_dropBirds_X2_bears : GoodIn wsX2_dropBirds (wsV RX2 67 RX2 yX2_bears wsX2_bears) := goodIn_app (goodIn_of _ (by decide +kernel)) ggX2_dropBirds_X2_bears
theorem dX2_dropBirds_0 : decode cX2_dropBirds 0 = .ok (.iconst 0, 1) := by decide +kernel
theorem dX2_dropBirds_1 : decode cX2_dropBirds 1 = .ok (.istore_n 2, 1) := by decide +kernel
theorem dX2_dropBirds_2 : decode cX2_dropBirds 2 = .ok (.iconst 0, 1) := by decide +kernel
theorem dX2_dropBirds_3 : decode cX2_dropBirds 3 = .ok (.istore_n 3, 1) := by decide +kernel
theorem dX2_dropBirds_4 : decode cX2_dropBirds 4 = .ok (.iload_n 3, 1) := by decide +kernel
theorem dX2_dropBirds_5 : decode cX2_dropBirds 5 = .ok (.aload_n 0, 1) := by decide +kernel
theorem dX2_dropBirds_6 : decode cX2_dropBirds 6 = .ok (.getfield 9, 3) := by decide +kernel
theorem dX2_dropBirds_9 : decode cX2_dropBirds 9 = .ok (.if_icmp .ge 37, 3) := by decide +kernel
theorem dX2_dropBirds_12 : decode cX2_dropBirds 12 = .ok (.aload_n 1, 1) := by decide +kernel
theorem dX2_dropBirds_13 : decode cX2_dropBirds 13 = .ok (.iload_n 3, 1) := by decide +kernel
theorem dX2_dropBirds_14 : decode cX2_dropBirds 14 = .ok (.invokevirtual 63, 3) := by decide +kernel
theorem dX2_dropBirds_17 : decode cX2_dropBirds 17 = .ok (.ifCond .ne 23, 3) := by decide +kernel
theorem dX2_dropBirds_20 : decode cX2_dropBirds 20 = .ok (.aload_n 1, 1) := by decide +kernel
theorem dX2_dropBirds_21 : decode cX2_dropBirds 21 = .ok (.getfield 35, 3) := by decide +kernel
theorem dX2_dropBirds_24 : decode cX2_dropBirds 24 = .ok (.iload_n 3, 1) := by decide +kernel
theorem dX2_dropBirds_25 : decode cX2_dropBirds 25 = .ok (.iaload, 1) := by decide +kernel
theorem dX2_dropBirds_26 : decode cX2_dropBirds 26 = .ok (.aload_n 0, 1) := by decide +kernel
theorem dX2_dropBirds_27 : decode cX2_dropBirds 27 = .ok (.iload_n 3, 1) := by decide +kernel
theorem dX2_dropBirds_28 : decode cX2_dropBirds 28 = .ok (.invokevirtual 67, 3) := by decide +kernel
theorem dX2_dropBirds_31 : decode cX2_dropBirds 31 = .ok (.if_icmp .le 9, 3) := by decide +kernel
theorem dX2_dropBirds_34 : decode cX2_dropBirds 34 = .ok (.iload_n 2, 1) := by decide +kernel
theorem dX2_dropBirds_35 : decode cX2_dropBirds 35 = .ok (.iconst 1, 1) := by decide +kernel
theorem dX2_dropBirds_36 : decode cX2_dropBirds 36 = .ok (.iload_n 3, 1) := by decide +kernel
theorem dX2_dropBirds_37 : decode cX2_dropBirds 37 = .ok (.ishl, 1) := by decide +kernel
theorem dX2_dropBirds_38 : decode cX2_dropBirds 38 = .ok (.ior, 1) := by decide +kernel
theorem dX2_dropBirds_39 : decode cX2_dropBirds 39 = .ok (.istore_n 2, 1) := by decide +kernel
theorem dX2_dropBirds_40 : decode cX2_dropBirds 40 = .ok (.iinc 3 1, 3) := by decide +kernel
theorem dX2_dropBirds_43 : decode cX2_dropBirds 43 = .ok (.goto (-39), 3) := by decide +kernel
theorem dX2_dropBirds_46 : decode cX2_dropBirds 46 = .ok (.aload_n 1, 1) := by decide +kernel
theorem dX2_dropBirds_47 : decode cX2_dropBirds 47 = .ok (.dup, 1) := by decide +kernel
theorem dX2_dropBirds_48 : decode cX2_dropBirds 48 = .ok (.getfield 70, 3) := by decide +kernel
theorem dX2_dropBirds_51 : decode cX2_dropBirds 51 = .ok (.iload_n 2, 1) := by decide +kernel
theorem dX2_dropBirds_52 : decode cX2_dropBirds 52 = .ok (.ior, 1) := by decide +kernel
theorem dX2_dropBirds_53 : decode cX2_dropBirds 53 = .ok (.putfield 70, 3) := by decide +kernel
theorem dX2_dropBirds_56 : decode cX2_dropBirds 56 = .ok (.iload_n 2, 1) := by decide +kernel
theorem dX2_dropBirds_57 : decode cX2_dropBirds 57 = .ok (.ireturn, 1) := by decide +kernel
theorem dX3_init_0 : decode cX3_init 0 = .ok (.aload_n 0, 1) := by decide +kernel
theorem dX3_init_1 : decode cX3_init 1 = .ok (.invokespecial 3, 3) := by decide +kernel
theorem dX3_init_4 : decode cX3_init 4 = .ok (.aload_n 0, 1) := by decide +kernel
theorem dX3_init_5 : decode cX3_init 5 = .ok (.iconst 0, 1) := by decide +kernel
theorem dX3_init_6 : decode cX3_init 6 = .ok (.putfield 9, 3) := by decide +kernel
theorem dX3_init_9 : decode cX3_init 9 = .ok (.aload_n 0, 1) := by decide +kernel
theorem dX3_init_10 : decode cX3_init 10 = .ok (.bipush 8, 2) := by decide +kernel
theorem dX3_init_12 : decode cX3_init 12 = .ok (.newarray .int, 2) := by decide +kernel
theorem dX3_init_14 : decode cX3_init 14 = .ok (.putfield 15, 3) := by decide +kernel
theorem dX3_init_17 : decode cX3_init 17 = .ok (.aload_n 0, 1) := by decide +kernel
theorem dX3_init_18 : decode cX3_init 18 = .ok (.bipush 8, 2) := by decide +kernel
theorem dX3_init_20 : decode cX3_init 20 = .ok (.newarray .int, 2) := by decide +kernel
theorem dX3_init_22 : decode cX3_init 22 = .ok (.putfield 19, 3) := by decide +kernel
theorem dX3_init_25 : decode cX3_init 25 = .ok (.aload_n 0, 1) := by decide +kernel
theorem dX3_init_26 : decode cX3_init 26 = .ok (.bipush 8, 2) := by decide +kernel
theorem dX3_init_28 : decode cX3_init 28 = .ok (.newarray .int, 2) := by decide +kernel
theorem dX3_init_30 : decode cX3_init 30 = .ok (.putfield 22, 3) := by decide +kernel
theorem dX3_init_33 : decode cX3_init 33 = .ok (.return_, 1) := by decide +kernel
theorem dX3_write_0 : decode cX3_write 0 = .ok (.aload_n 0, 1) := by decide +kernel
theorem dX3_write_1 : decode cX3_write 1 = .ok (.getfield 9, 3) := by decide +kernel
theorem dX3_write_4 : decode cX3_write 4 = .ok (.istore 4, 2) := by decide +kernel
theorem dX3_write_6 : decode cX3_write 6 = .ok (.aload_n 0, 1) := by decide +kernel
theorem dX3_write_7 : decode cX3_write 7 = .ok (.getfield 15, 3) := by decide +kernel
theorem dX3_write_10 : decode cX3_write 10 = .ok (.iload 4, 2) := by decide +kernel
theorem dX3_write_12 : decode cX3_write 12 = .ok (.iload_n 1, 1) := by decide +kernel
theorem dX3_write_13 : decode cX3_write 13 = .ok (.iastore, 1) := by decide +kernel
theorem dX3_write_14 : decode cX3_write 14 = .ok (.aload_n 0, 1) := by decide +kernel
theorem dX3_write_15 : decode cX3_write 15 = .ok (.getfield 19, 3) := by decide +kernel
theorem dX3_write_18 : decode cX3_write 18 = .ok (.iload 4, 2) := by decide +kernel
theorem dX3_write_20 : decode cX3_write 20 = .ok (.iload_n 2, 1) := by decide +kernel
theorem dX3_write_21 : decode cX3_write 21 = .ok (.iastore, 1) := by decide +kernel
theorem dX3_write_22 : decode cX3_write 22 = .ok (.aload_n 0, 1) := by decide +kernel
theorem dX3_write_23 : decode cX3_write 23 = .ok (.getfield 22, 3) := by decide +kernel
theorem dX3_write_26 : decode cX3_write 26 = .ok (.iload 4, 2) := by decide +kernel
theorem dX3_write_28 : decode cX3_write 28 = .ok (.iload_n 3, 1) := by decide +kernel
theorem dX3_write_29 : decode cX3_write 29 = .ok (.iastore, 1) := by decide +kernel
theorem dX3_write_30 : decode cX3_write 30 = .ok (.aload_n 0, 1) := by decide +kernel
theorem dX3_write_31 : decode cX3_write 31 = .ok (.dup, 1) := by decide +kernel
theorem dX3_write_32 : decode cX3_write 32 = .ok (.getfield 9, 3) := by decide +kernel
theorem dX3_write_35 : decode cX3_write 35 = .ok (.iconst 1, 1) := by decide +kernel
theorem dX3_write_36 : decode cX3_write 36 = .ok (.iadd, 1) := by decide +kernel
theorem dX3_write_37 : decode cX3_write 37 = .ok (.putfield 9, 3) := by decide +kernel
theorem dX3_write_40 : decode cX3_write 40 = .ok (.iload 4, 2) := by decide +kernel
theorem dX3_write_42 : decode cX3_write 42 = .ok (.ireturn, 1) := by decide +kernel
set_option maxRecDepth 20000 in
theorem ggX3_areSo_X2_bears : GoodIn wsX3_areSo wsX2_bears := goodIn_r _ [9, 10, 11, 12, 13, 14, 19, 20, 21, 22, 23, 24] (by decide +kernel) (by decide +kernel)
set_option maxRecDepth 20000 in
theorem gX3_areSo_X2_bears : GoodIn wsX3_areSo (wsV RX3 25 RX2 yX2_bears wsX2_bears) := goodIn_app (goodIn_of _ (by decide +kernel)) ggX3_areSo_X2_bears
theorem dX3_areSo_0 : decode cX3_areSo 0 = .ok (.iconst 0, 1) := by decide +kernel
theorem dX3_areSo_1 : decode cX3_areSo 1 = .ok (.istore 4, 2) := by decide +kernel
theorem dX3_areSo_3 : decode cX3_areSo 3 = .ok (.iload 4, 2) := by decide +kernel
theorem dX3_areSo_5 : decode cX3_areSo 5 = .ok (.aload_n 0, 1) := by decide +kernel
theorem dX3_areSo_6 : decode cX3_areSo 6 = .ok (.getfield 9, 3) := by decide +kernel
theorem dX3_areSo_9 : decode cX3_areSo 9 = .ok (.if_icmp .ge 70, 3) := by decide +kernel
theorem dX3_areSo_12 : decode cX3_areSo 12 = .ok (.aload_n 0, 1) := by decide +kernel
theorem dX3_areSo_13 : decode cX3_areSo 13 = .ok (.getfield 15, 3) := by decide +kernel
theorem dX3_areSo_16 : decode cX3_areSo 16 = .ok (.iload 4, 2) := by decide +kernel
theorem dX3_areSo_18 : decode cX3_areSo 18 = .ok (.iaload, 1) := by decide +kernel
theorem dX3_areSo_19 : decode cX3_areSo 19 = .ok (.iload_n 2, 1) := by decide +kernel
theorem dX3_areSo_20 : decode cX3_areSo 20 = .ok (.if_icmp .ne 7, 3) := by decide +kernel
theorem dX3_areSo_23 : decode cX3_areSo 23 = .ok (.iload_n 3, 1) := by decide +kernel
theorem dX3_areSo_24 : decode cX3_areSo 24 = .ok (.goto 14, 3) := by decide +kernel
theorem dX3_areSo_27 : decode cX3_areSo 27 = .ok (.aload_n 1, 1) := by decide +kernel
theorem dX3_areSo_28 : decode cX3_areSo 28 = .ok (.aload_n 0, 1) := by decide +kernel
theorem dX3_areSo_29 : decode cX3_areSo 29 = .ok (.getfield 15, 3) := by decide +kernel
theorem dX3_areSo_32 : decode cX3_areSo 32 = .ok (.iload 4, 2) := by decide +kernel
theorem dX3_areSo_34 : decode cX3_areSo 34 = .ok (.iaload, 1) := by decide +kernel
theorem dX3_areSo_35 : decode cX3_areSo 35 = .ok (.invokevirtual 25, 3) := by decide +kernel
theorem dX3_areSo_38 : decode cX3_areSo 38 = .ok (.istore 5, 2) := by decide +kernel
theorem dX3_areSo_40 : decode cX3_areSo 40 = .ok (.aload_n 0, 1) := by decide +kernel
theorem dX3_areSo_41 : decode cX3_areSo 41 = .ok (.getfield 19, 3) := by decide +kernel
theorem dX3_areSo_44 : decode cX3_areSo 44 = .ok (.iload 4, 2) := by decide +kernel
theorem dX3_areSo_46 : decode cX3_areSo 46 = .ok (.iaload, 1) := by decide +kernel
theorem dX3_areSo_47 : decode cX3_areSo 47 = .ok (.iload 5, 2) := by decide +kernel
theorem dX3_areSo_49 : decode cX3_areSo 49 = .ok (.if_icmp .le 7, 3) := by decide +kernel
theorem dX3_areSo_52 : decode cX3_areSo 52 = .ok (.iconst 1, 1) := by decide +kernel
theorem dX3_areSo_53 : decode cX3_areSo 53 = .ok (.goto 4, 3) := by decide +kernel
theorem dX3_areSo_56 : decode cX3_areSo 56 = .ok (.iconst 0, 1) := by decide +kernel
theorem dX3_areSo_57 : decode cX3_areSo 57 = .ok (.istore 6, 2) := by decide +kernel
theorem dX3_areSo_59 : decode cX3_areSo 59 = .ok (.iload 6, 2) := by decide +kernel
theorem dX3_areSo_61 : decode cX3_areSo 61 = .ok (.aload_n 0, 1) := by decide +kernel
theorem dX3_areSo_62 : decode cX3_areSo 62 = .ok (.getfield 22, 3) := by decide +kernel
theorem dX3_areSo_65 : decode cX3_areSo 65 = .ok (.iload 4, 2) := by decide +kernel
theorem dX3_areSo_67 : decode cX3_areSo 67 = .ok (.iaload, 1) := by decide +kernel
theorem dX3_areSo_68 : decode cX3_areSo 68 = .ok (.if_icmp .eq 5, 3) := by decide +kernel
theorem dX3_areSo_71 : decode cX3_areSo 71 = .ok (.iconst 0, 1) := by decide +kernel
theorem dX3_areSo_72 : decode cX3_areSo 72 = .ok (.ireturn, 1) := by decide +kernel
theorem dX3_areSo_73 : decode cX3_areSo 73 = .ok (.iinc 4 1, 3) := by decide +kernel
theorem dX3_areSo_76 : decode cX3_areSo 76 = .ok (.goto (-73), 3) := by decide +kernel
theorem dX3_areSo_79 : decode cX3_areSo 79 = .ok (.iconst 1, 1) := by decide +kernel
theorem dX3_areSo_80 : decode cX3_areSo 80 = .ok (.ireturn, 1) := by decide +kernel
theorem dX4_init_0 : decode cX4_init 0 = .ok (.aload_n 0, 1) := by decide +kernel
theorem dX4_init_1 : decode cX4_init 1 = .ok (.invokespecial 3, 3) := by decide +kernel
theorem dX4_init_4 : decode cX4_init 4 = .ok (.aload_n 0, 1) := by decide +kernel
theorem dX4_init_5 : decode cX4_init 5 = .ok (.bipush 6, 2) := by decide +kernel
theorem dX4_init_7 : decode cX4_init 7 = .ok (.newarray .int, 2) := by decide +kernel
theorem dX4_init_9 : decode cX4_init 9 = .ok (.putfield 9, 3) := by decide +kernel
theorem dX4_init_12 : decode cX4_init 12 = .ok (.aload_n 0, 1) := by decide +kernel
theorem dX4_init_13 : decode cX4_init 13 = .ok (.bipush 6, 2) := by decide +kernel
theorem dX4_init_15 : decode cX4_init 15 = .ok (.newarray .int, 2) := by decide +kernel
theorem dX4_init_17 : decode cX4_init 17 = .ok (.putfield 15, 3) := by decide +kernel
theorem dX4_init_20 : decode cX4_init 20 = .ok (.aload_n 0, 1) := by decide +kernel
theorem dX4_init_21 : decode cX4_init 21 = .ok (.iconst (-1), 1) := by decide +kernel
theorem dX4_init_22 : decode cX4_init 22 = .ok (.putfield 18, 3) := by decide +kernel
theorem dX4_init_25 : decode cX4_init 25 = .ok (.return_, 1) := by decide +kernel
theorem dX4_keep_0 : decode cX4_keep 0 = .ok (.aload_n 0, 1) := by decide +kernel
theorem dX4_keep_1 : decode cX4_keep 1 = .ok (.iload_n 1, 1) := by decide +kernel
theorem dX4_keep_2 : decode cX4_keep 2 = .ok (.putfield 18, 3) := by decide +kernel
theorem dX4_keep_5 : decode cX4_keep 5 = .ok (.aload_n 0, 1) := by decide +kernel
theorem dX4_keep_6 : decode cX4_keep 6 = .ok (.getfield 9, 3) := by decide +kernel
theorem dX4_keep_9 : decode cX4_keep 9 = .ok (.iconst 0, 1) := by decide +kernel
theorem dX4_keep_10 : decode cX4_keep 10 = .ok (.aload_n 0, 1) := by decide +kernel
theorem dX4_keep_11 : decode cX4_keep 11 = .ok (.getfield 15, 3) := by decide +kernel
theorem dX4_keep_14 : decode cX4_keep 14 = .ok (.iconst 0, 1) := by decide +kernel
theorem dX4_keep_15 : decode cX4_keep 15 = .ok (.bipush 6, 2) := by decide +kernel
theorem dX4_keep_17 : decode cX4_keep 17 = .ok (.invokestatic 22, 3) := by decide +kernel
theorem dX4_keep_20 : decode cX4_keep 20 = .ok (.return_, 1) := by decide +kernel
theorem dX5_init_0 : decode cX5_init 0 = .ok (.aload_n 0, 1) := by decide +kernel
theorem dX5_init_1 : decode cX5_init 1 = .ok (.invokespecial 3, 3) := by decide +kernel
theorem dX5_init_4 : decode cX5_init 4 = .ok (.aload_n 0, 1) := by decide +kernel
theorem dX5_init_5 : decode cX5_init 5 = .ok (.iconst 0, 1) := by decide +kernel
theorem dX5_init_6 : decode cX5_init 6 = .ok (.putfield 9, 3) := by decide +kernel
theorem dX5_init_9 : decode cX5_init 9 = .ok (.aload_n 0, 1) := by decide +kernel
theorem dX5_init_10 : decode cX5_init 10 = .ok (.iconst 0, 1) := by decide +kernel
theorem dX5_init_11 : decode cX5_init 11 = .ok (.putfield 15, 3) := by decide +kernel
theorem dX5_init_14 : decode cX5_init 14 = .ok (.aload_n 0, 1) := by decide +kernel
theorem dX5_init_15 : decode cX5_init 15 = .ok (.bipush 60, 2) := by decide +kernel
theorem dX5_init_17 : decode cX5_init 17 = .ok (.newarray .int, 2) := by decide +kernel
theorem dX5_init_19 : decode cX5_init 19 = .ok (.putfield 19, 3) := by decide +kernel
theorem dX5_init_22 : decode cX5_init 22 = .ok (.aload_n 0, 1) := by decide +kernel
theorem dX5_init_23 : decode cX5_init 23 = .ok (.iconst 0, 1) := by decide +kernel
theorem dX5_init_24 : decode cX5_init 24 = .ok (.putfield 23, 3) := by decide +kernel
theorem dX5_init_27 : decode cX5_init 27 = .ok (.return_, 1) := by decide +kernel
theorem dX5_begin_0 : decode cX5_begin 0 = .ok (.aload_n 0, 1) := by decide +kernel
theorem dX5_begin_1 : decode cX5_begin 1 = .ok (.iconst 1, 1) := by decide +kernel
theorem dX5_begin_2 : decode cX5_begin 2 = .ok (.putfield 9, 3) := by decide +kernel
theorem dX5_begin_5 : decode cX5_begin 5 = .ok (.aload_n 0, 1) := by decide +kernel
theorem dX5_begin_6 : decode cX5_begin 6 = .ok (.iload_n 1, 1) := by decide +kernel
theorem dX5_begin_7 : decode cX5_begin 7 = .ok (.putfield 15, 3) := by decide +kernel
theorem dX5_begin_10 : decode cX5_begin 10 = .ok (.aload_n 0, 1) := by decide +kernel
theorem dX5_begin_11 : decode cX5_begin 11 = .ok (.iload_n 2, 1) := by decide +kernel
theorem dX5_begin_12 : decode cX5_begin 12 = .ok (.putfield 23, 3) := by decide +kernel
theorem dX5_begin_15 : decode cX5_begin 15 = .ok (.iconst 0, 1) := by decide +kernel
theorem dX5_begin_16 : decode cX5_begin 16 = .ok (.istore_n 3, 1) := by decide +kernel
theorem dX5_begin_17 : decode cX5_begin 17 = .ok (.iload_n 3, 1) := by decide +kernel
theorem dX5_begin_18 : decode cX5_begin 18 = .ok (.bipush 60, 2) := by decide +kernel
theorem dX5_begin_20 : decode cX5_begin 20 = .ok (.if_icmp .ge 16, 3) := by decide +kernel
theorem dX5_begin_23 : decode cX5_begin 23 = .ok (.aload_n 0, 1) := by decide +kernel
theorem dX5_begin_24 : decode cX5_begin 24 = .ok (.getfield 19, 3) := by decide +kernel
theorem dX5_begin_27 : decode cX5_begin 27 = .ok (.iload_n 3, 1) := by decide +kernel
theorem dX5_begin_28 : decode cX5_begin 28 = .ok (.iconst 0, 1) := by decide +kernel
theorem dX5_begin_29 : decode cX5_begin 29 = .ok (.iastore, 1) := by decide +kernel
theorem dX5_begin_30 : decode cX5_begin 30 = .ok (.iinc 3 1, 3) := by decide +kernel
theorem dX5_begin_33 : decode cX5_begin 33 = .ok (.goto (-16), 3) := by decide +kernel
theorem dX5_begin_36 : decode cX5_begin 36 = .ok (.return_, 1) := by decide +kernel
theorem dX5_hasCells_0 : decode cX5_hasCells 0 = .ok (.iload_n 1, 1) := by decide +kernel
theorem dX5_hasCells_1 : decode cX5_hasCells 1 = .ok (.ifCond .lt 25, 3) := by decide +kernel
theorem dX5_hasCells_4 : decode cX5_hasCells 4 = .ok (.iload_n 1, 1) := by decide +kernel
theorem dX5_hasCells_5 : decode cX5_hasCells 5 = .ok (.aload_n 0, 1) := by decide +kernel
theorem dX5_hasCells_6 : decode cX5_hasCells 6 = .ok (.getfield 23, 3) := by decide +kernel
theorem dX5_hasCells_9 : decode cX5_hasCells 9 = .ok (.if_icmp .gt 17, 3) := by decide +kernel
theorem dX5_hasCells_12 : decode cX5_hasCells 12 = .ok (.iload_n 2, 1) := by decide +kernel
theorem dX5_hasCells_13 : decode cX5_hasCells 13 = .ok (.aload_n 0, 1) := by decide +kernel
theorem dX5_hasCells_14 : decode cX5_hasCells 14 = .ok (.getfield 23, 3) := by decide +kernel
theorem dX5_hasCells_17 : decode cX5_hasCells 17 = .ok (.iload_n 1, 1) := by decide +kernel
theorem dX5_hasCells_18 : decode cX5_hasCells 18 = .ok (.isub, 1) := by decide +kernel
theorem dX5_hasCells_19 : decode cX5_hasCells 19 = .ok (.if_icmp .gt 7, 3) := by decide +kernel
theorem dX5_hasCells_22 : decode cX5_hasCells 22 = .ok (.iconst 1, 1) := by decide +kernel
theorem dX5_hasCells_23 : decode cX5_hasCells 23 = .ok (.goto 4, 3) := by decide +kernel
theorem dX5_hasCells_26 : decode cX5_hasCells 26 = .ok (.iconst 0, 1) := by decide +kernel
theorem dX5_hasCells_27 : decode cX5_hasCells 27 = .ok (.ireturn, 1) := by decide +kernel
set_option maxRecDepth 20000 in
theorem ggX5_faultOfCells_X5_hasCells : GoodIn wsX5_faultOfCells wsX5_hasCells := goodIn_r _ [7, 8, 9, 10, 11, 12] (by decide +kernel) (by decide +kernel)
set_option maxRecDepth 20000 in
theorem gX5_faultOfCells_X5_hasCells : GoodIn wsX5_faultOfCells (wsV RX5 26 RX5 yX5_hasCells wsX5_hasCells) := goodIn_app (goodIn_of _ (by decide +kernel)) ggX5_faultOfCells_X5_hasCells
theorem dX5_faultOfCells_0 : decode cX5_faultOfCells 0 = .ok (.aload_n 0, 1) := by decide +kernel
theorem dX5_faultOfCells_1 : decode cX5_faultOfCells 1 = .ok (.getfield 9, 3) := by decide +kernel
theorem dX5_faultOfCells_4 : decode cX5_faultOfCells 4 = .ok (.ifCond .ne 5, 3) := by decide +kernel
theorem dX5_faultOfCells_7 : decode cX5_faultOfCells 7 = .ok (.iconst 1, 1) := by decide +kernel
theorem dX5_faultOfCells_8 : decode cX5_faultOfCells 8 = .ok (.ireturn, 1) := by decide +kernel
theorem dX5_faultOfCells_9 : decode cX5_faultOfCells 9 = .ok (.aload_n 0, 1) := by decide +kernel
theorem dX5_faultOfCells_10 : decode cX5_faultOfCells 10 = .ok (.getfield 15, 3) := by decide +kernel
theorem dX5_faultOfCells_13 : decode cX5_faultOfCells 13 = .ok (.iload_n 1, 1) := by decide +kernel
theorem dX5_faultOfCells_14 : decode cX5_faultOfCells 14 = .ok (.if_icmp .eq 5, 3) := by decide +kernel
theorem dX5_faultOfCells_17 : decode cX5_faultOfCells 17 = .ok (.iconst 2, 1) := by decide +kernel
theorem dX5_faultOfCells_18 : decode cX5_faultOfCells 18 = .ok (.ireturn, 1) := by decide +kernel
theorem dX5_faultOfCells_19 : decode cX5_faultOfCells 19 = .ok (.iload_n 3, 1) := by decide +kernel
theorem dX5_faultOfCells_20 : decode cX5_faultOfCells 20 = .ok (.ifCond .ge 5, 3) := by decide +kernel
theorem dX5_faultOfCells_23 : decode cX5_faultOfCells 23 = .ok (.iconst 4, 1) := by decide +kernel
theorem dX5_faultOfCells_24 : decode cX5_faultOfCells 24 = .ok (.ireturn, 1) := by decide +kernel
theorem dX5_faultOfCells_25 : decode cX5_faultOfCells 25 = .ok (.aload_n 0, 1) := by decide +kernel
theorem dX5_faultOfCells_26 : decode cX5_faultOfCells 26 = .ok (.iload_n 2, 1) := by decide +kernel
theorem dX5_faultOfCells_27 : decode cX5_faultOfCells 27 = .ok (.iload_n 3, 1) := by decide +kernel
theorem dX5_faultOfCells_28 : decode cX5_faultOfCells 28 = .ok (.invokevirtual 26, 3) := by decide +kernel
theorem dX5_faultOfCells_31 : decode cX5_faultOfCells 31 = .ok (.ifCond .eq 7, 3) := by decide +kernel
theorem dX5_faultOfCells_34 : decode cX5_faultOfCells 34 = .ok (.iconst 0, 1) := by decide +kernel
theorem dX5_faultOfCells_35 : decode cX5_faultOfCells 35 = .ok (.goto 4, 3) := by decide +kernel
theorem dX5_faultOfCells_38 : decode cX5_faultOfCells 38 = .ok (.iconst 3, 1) := by decide +kernel
theorem dX5_faultOfCells_39 : decode cX5_faultOfCells 39 = .ok (.ireturn, 1) := by decide +kernel
set_option maxRecDepth 20000 in
theorem ggX6_init_X2_init : GoodIn wsX6_init wsX2_init := goodIn_r _ [35, 36, 2, 3, 37, 38, 23, 39, 40, 41, 42, 85, 86, 87, 88, 89, 90] (by decide +kernel) (by decide +kernel)
set_option maxRecDepth 20000 in
theorem gX6_init_X2_init_n19 : GoodIn wsX6_init (wsX2_init) := ggX6_init_X2_init
set_option maxRecDepth 20000 in
theorem ggX6_init_X0_init : GoodIn wsX6_init wsX0_init := goodIn_r _ [44, 45, 2, 3, 23, 46, 47, 91, 92] (by decide +kernel) (by decide +kernel)
set_option maxRecDepth 20000 in
theorem gX6_init_X0_init_n26 : GoodIn wsX6_init (wsX0_init) := ggX6_init_X0_init
set_option maxRecDepth 20000 in
theorem ggX6_init_X3_init : GoodIn wsX6_init wsX3_init := goodIn_r _ [49, 50, 2, 3, 51, 23, 52, 53, 54, 93, 94, 95, 96] (by decide +kernel) (by decide +kernel)
set_option maxRecDepth 20000 in
theorem gX6_init_X3_init_n33 : GoodIn wsX6_init (wsX3_init) := ggX6_init_X3_init
set_option maxRecDepth 20000 in
theorem ggX6_init_X1_init : GoodIn wsX6_init wsX1_init := goodIn_r _ [56, 57, 2, 3, 58, 23, 59, 60, 97, 98, 99] (by decide +kernel) (by decide +kernel)
set_option maxRecDepth 20000 in
theorem gX6_init_X1_init_n40 : GoodIn wsX6_init (wsX1_init) := ggX6_init_X1_init
set_option maxRecDepth 20000 in
theorem ggX6_init_X4_init : GoodIn wsX6_init wsX4_init := goodIn_r _ [62, 63, 2, 3, 23, 64, 65, 66, 100, 101, 102] (by decide +kernel) (by decide +kernel)
set_option maxRecDepth 20000 in
theorem gX6_init_X4_init_n55 : GoodIn wsX6_init (wsX4_init) := ggX6_init_X4_init
set_option maxRecDepth 20000 in
theorem ggX6_init_X5_init : GoodIn wsX6_init wsX5_init := goodIn_r _ [68, 69, 2, 3, 70, 71, 23, 72, 73, 103, 104, 105, 106] (by decide +kernel) (by decide +kernel)
set_option maxRecDepth 20000 in
theorem gX6_init_X5_init_n70 : GoodIn wsX6_init (wsX5_init) := ggX6_init_X5_init
theorem dX6_init_0 : decode cX6_init 0 = .ok (.aload_n 0, 1) := by decide +kernel
theorem dX6_init_1 : decode cX6_init 1 = .ok (.invokespecial 3, 3) := by decide +kernel
theorem dX6_init_4 : decode cX6_init 4 = .ok (.aload_n 0, 1) := by decide +kernel
theorem dX6_init_5 : decode cX6_init 5 = .ok (.iconst 4, 1) := by decide +kernel
theorem dX6_init_6 : decode cX6_init 6 = .ok (.anewarray 11, 3) := by decide +kernel
theorem dX6_init_9 : decode cX6_init 9 = .ok (.putfield 13, 3) := by decide +kernel
theorem dX6_init_12 : decode cX6_init 12 = .ok (.aload_n 0, 1) := by decide +kernel
theorem dX6_init_13 : decode cX6_init 13 = .ok (.new 17, 3) := by decide +kernel
theorem dX6_init_16 : decode cX6_init 16 = .ok (.dup, 1) := by decide +kernel
theorem dX6_init_17 : decode cX6_init 17 = .ok (.invokespecial 19, 3) := by decide +kernel
theorem dX6_init_20 : decode cX6_init 20 = .ok (.putfield 20, 3) := by decide +kernel
theorem dX6_init_23 : decode cX6_init 23 = .ok (.aload_n 0, 1) := by decide +kernel
theorem dX6_init_24 : decode cX6_init 24 = .ok (.new 24, 3) := by decide +kernel
theorem dX6_init_27 : decode cX6_init 27 = .ok (.dup, 1) := by decide +kernel
theorem dX6_init_28 : decode cX6_init 28 = .ok (.invokespecial 26, 3) := by decide +kernel
theorem dX6_init_31 : decode cX6_init 31 = .ok (.putfield 27, 3) := by decide +kernel
theorem dX6_init_34 : decode cX6_init 34 = .ok (.aload_n 0, 1) := by decide +kernel
theorem dX6_init_35 : decode cX6_init 35 = .ok (.new 31, 3) := by decide +kernel
theorem dX6_init_38 : decode cX6_init 38 = .ok (.dup, 1) := by decide +kernel
theorem dX6_init_39 : decode cX6_init 39 = .ok (.invokespecial 33, 3) := by decide +kernel
theorem dX6_init_42 : decode cX6_init 42 = .ok (.putfield 34, 3) := by decide +kernel
theorem dX6_init_45 : decode cX6_init 45 = .ok (.aload_n 0, 1) := by decide +kernel
theorem dX6_init_46 : decode cX6_init 46 = .ok (.new 38, 3) := by decide +kernel
theorem dX6_init_49 : decode cX6_init 49 = .ok (.dup, 1) := by decide +kernel
theorem dX6_init_50 : decode cX6_init 50 = .ok (.invokespecial 40, 3) := by decide +kernel
theorem dX6_init_53 : decode cX6_init 53 = .ok (.putfield 41, 3) := by decide +kernel
theorem dX6_init_56 : decode cX6_init 56 = .ok (.aload_n 0, 1) := by decide +kernel
theorem dX6_init_57 : decode cX6_init 57 = .ok (.bipush 7, 2) := by decide +kernel
theorem dX6_init_59 : decode cX6_init 59 = .ok (.anewarray 24, 3) := by decide +kernel
theorem dX6_init_62 : decode cX6_init 62 = .ok (.putfield 45, 3) := by decide +kernel
theorem dX6_init_65 : decode cX6_init 65 = .ok (.aload_n 0, 1) := by decide +kernel
theorem dX6_init_66 : decode cX6_init 66 = .ok (.bipush 6, 2) := by decide +kernel
theorem dX6_init_68 : decode cX6_init 68 = .ok (.newarray .int, 2) := by decide +kernel
theorem dX6_init_70 : decode cX6_init 70 = .ok (.putfield 49, 3) := by decide +kernel
theorem dX6_init_73 : decode cX6_init 73 = .ok (.aload_n 0, 1) := by decide +kernel
theorem dX6_init_74 : decode cX6_init 74 = .ok (.new 53, 3) := by decide +kernel
theorem dX6_init_77 : decode cX6_init 77 = .ok (.dup, 1) := by decide +kernel
theorem dX6_init_78 : decode cX6_init 78 = .ok (.invokespecial 55, 3) := by decide +kernel
theorem dX6_init_81 : decode cX6_init 81 = .ok (.putfield 56, 3) := by decide +kernel
theorem dX6_init_84 : decode cX6_init 84 = .ok (.aload_n 0, 1) := by decide +kernel
theorem dX6_init_85 : decode cX6_init 85 = .ok (.iconst 0, 1) := by decide +kernel
theorem dX6_init_86 : decode cX6_init 86 = .ok (.putfield 60, 3) := by decide +kernel
theorem dX6_init_89 : decode cX6_init 89 = .ok (.aload_n 0, 1) := by decide +kernel
theorem dX6_init_90 : decode cX6_init 90 = .ok (.iconst 0, 1) := by decide +kernel
theorem dX6_init_91 : decode cX6_init 91 = .ok (.putfield 64, 3) := by decide +kernel
theorem dX6_init_94 : decode cX6_init 94 = .ok (.aload_n 0, 1) := by decide +kernel
theorem dX6_init_95 : decode cX6_init 95 = .ok (.iconst 0, 1) := by decide +kernel
theorem dX6_init_96 : decode cX6_init 96 = .ok (.putfield 67, 3) := by decide +kernel
theorem dX6_init_99 : decode cX6_init 99 = .ok (.iconst 0, 1) := by decide +kernel
theorem dX6_init_100 : decode cX6_init 100 = .ok (.istore_n 1, 1) := by decide +kernel
theorem dX6_init_101 : decode cX6_init 101 = .ok (.iload_n 1, 1) := by decide +kernel
theorem dX6_init_102 : decode cX6_init 102 = .ok (.iconst 4, 1) := by decide +kernel
theorem dX6_init_103 : decode cX6_init 103 = .ok (.if_icmp .ge 22, 3) := by decide +kernel
theorem dX6_init_106 : decode cX6_init 106 = .ok (.aload_n 0, 1) := by decide +kernel
theorem dX6_init_107 : decode cX6_init 107 = .ok (.getfield 13, 3) := by decide +kernel
theorem dX6_init_110 : decode cX6_init 110 = .ok (.iload_n 1, 1) := by decide +kernel
theorem dX6_init_111 : decode cX6_init 111 = .ok (.new 11, 3) := by decide +kernel
theorem dX6_init_114 : decode cX6_init 114 = .ok (.dup, 1) := by decide +kernel
theorem dX6_init_115 : decode cX6_init 115 = .ok (.invokespecial 70, 3) := by decide +kernel
theorem dX6_init_118 : decode cX6_init 118 = .ok (.aastore, 1) := by decide +kernel
theorem dX6_init_119 : decode cX6_init 119 = .ok (.iinc 1 1, 3) := by decide +kernel
theorem dX6_init_122 : decode cX6_init 122 = .ok (.goto (-21), 3) := by decide +kernel
theorem dX6_init_125 : decode cX6_init 125 = .ok (.iconst 0, 1) := by decide +kernel
theorem dX6_init_126 : decode cX6_init 126 = .ok (.istore_n 1, 1) := by decide +kernel
theorem dX6_init_127 : decode cX6_init 127 = .ok (.iload_n 1, 1) := by decide +kernel
theorem dX6_init_128 : decode cX6_init 128 = .ok (.bipush 6, 2) := by decide +kernel
theorem dX6_init_130 : decode cX6_init 130 = .ok (.if_icmp .gt 22, 3) := by decide +kernel
theorem dX6_init_133 : decode cX6_init 133 = .ok (.aload_n 0, 1) := by decide +kernel
theorem dX6_init_134 : decode cX6_init 134 = .ok (.getfield 45, 3) := by decide +kernel
theorem dX6_init_137 : decode cX6_init 137 = .ok (.iload_n 1, 1) := by decide +kernel
theorem dX6_init_138 : decode cX6_init 138 = .ok (.new 24, 3) := by decide +kernel
theorem dX6_init_141 : decode cX6_init 141 = .ok (.dup, 1) := by decide +kernel
theorem dX6_init_142 : decode cX6_init 142 = .ok (.invokespecial 26, 3) := by decide +kernel
theorem dX6_init_145 : decode cX6_init 145 = .ok (.aastore, 1) := by decide +kernel
theorem dX6_init_146 : decode cX6_init 146 = .ok (.iinc 1 1, 3) := by decide +kernel
theorem dX6_init_149 : decode cX6_init 149 = .ok (.goto (-22), 3) := by decide +kernel
theorem dX6_init_152 : decode cX6_init 152 = .ok (.return_, 1) := by decide +kernel
set_option maxRecDepth 20000 in
theorem ggX6_mine_X6_isSheet : GoodIn wsX6_mine wsX6_isSheet := goodIn_r _ [9] (by decide +kernel) (by decide +kernel)
set_option maxRecDepth 20000 in
theorem gX6_mine_X6_isSheet : GoodIn wsX6_mine (va_wsS RX6 71 yX6_isSheet wsX6_isSheet) := goodIn_app (goodIn_of _ (by decide +kernel)) ggX6_mine_X6_isSheet
set_option maxRecDepth 20000 in
theorem ggX6_mine_X6_isLane : GoodIn wsX6_mine wsX6_isLane := goodIn_r _ [12] (by decide +kernel) (by decide +kernel)
set_option maxRecDepth 20000 in
theorem gX6_mine_X6_isLane : GoodIn wsX6_mine (va_wsS RX6 75 yX6_isLane wsX6_isLane) := goodIn_app (goodIn_of _ (by decide +kernel)) ggX6_mine_X6_isLane
set_option maxRecDepth 20000 in
theorem ggX6_mine_X5_faultOfCells : GoodIn wsX6_mine wsX5_faultOfCells := goodIn_r _ [17, 18, 19, 20, 21, 22, 16, 23, 24, 78, 79, 80, 81] (by decide +kernel) (by decide +kernel)
set_option maxRecDepth 20000 in
theorem gX6_mine_X5_faultOfCells : GoodIn wsX6_mine (wsV RX6 78 RX5 yX5_faultOfCells wsX5_faultOfCells) := goodIn_app (goodIn_of _ (by decide +kernel)) ggX6_mine_X5_faultOfCells
set_option maxRecDepth 20000 in
theorem ggX6_mine_X6_faulted : GoodIn wsX6_mine wsX6_faulted := goodIn_r _ [28, 1, 67, 68, 69, 70, 71, 72, 73, 74, 75, 76, 77] (by decide +kernel) (by decide +kernel)
set_option maxRecDepth 20000 in
theorem gX6_mine_X6_faulted : GoodIn wsX6_mine (wsV RX6 82 RX6 yX6_faulted wsX6_faulted) := goodIn_app (goodIn_of _ (by decide +kernel)) ggX6_mine_X6_faulted
set_option maxRecDepth 20000 in
theorem ggX6_mine_X6_firstFaultOfText : GoodIn wsX6_mine wsX6_firstFaultOfText := goodIn_r _ [31, 32, 33, 8, 34, 35, 36, 37, 38, 39, 40, 41, 42, 43] (by decide +kernel) (by decide +kernel)
set_option maxRecDepth 20000 in
theorem gX6_mine_X6_firstFaultOfText : GoodIn wsX6_mine (va_wsS RX6 89 yX6_firstFaultOfText wsX6_firstFaultOfText) := goodIn_app (goodIn_of _ (by decide +kernel)) ggX6_mine_X6_firstFaultOfText
set_option maxRecDepth 20000 in
theorem ggX6_mine_X6_makeAnew : GoodIn wsX6_mine wsX6_makeAnew := goodIn_r _ [47, 4, 48, 49, 50, 51, 52, 53, 5, 54, 55, 56, 57, 58, 59, 60, 61, 62, 32, 33, 8, 34, 35, 36, 37, 41, 42, 43, 63, 64, 65, 66, 67, 68, 69, 70, 71, 72, 73, 74, 75, 76, 77, 82, 83, 84, 85, 86, 87, 88, 89, 90, 91, 92, 93] (by decide +kernel) (by decide +kernel)
set_option maxRecDepth 20000 in
theorem gX6_mine_X6_makeAnew : GoodIn wsX6_mine (wsV RX6 93 RX6 yX6_makeAnew wsX6_makeAnew) := goodIn_app (goodIn_of _ (by decide +kernel)) ggX6_mine_X6_makeAnew
theorem dX6_mine_0 : decode cX6_mine 0 = .ok (.aload_n 0, 1) := by decide +kernel
theorem dX6_mine_1 : decode cX6_mine 1 = .ok (.iconst 0, 1) := by decide +kernel
theorem dX6_mine_2 : decode cX6_mine 2 = .ok (.putfield 67, 3) := by decide +kernel
theorem dX6_mine_5 : decode cX6_mine 5 = .ok (.iload_n 1, 1) := by decide +kernel
theorem dX6_mine_6 : decode cX6_mine 6 = .ok (.invokestatic 71, 3) := by decide +kernel
theorem dX6_mine_9 : decode cX6_mine 9 = .ok (.ifCond .ne 5, 3) := by decide +kernel
theorem dX6_mine_12 : decode cX6_mine 12 = .ok (.iconst (-1), 1) := by decide +kernel
theorem dX6_mine_13 : decode cX6_mine 13 = .ok (.ireturn, 1) := by decide +kernel
theorem dX6_mine_14 : decode cX6_mine 14 = .ok (.iload_n 2, 1) := by decide +kernel
theorem dX6_mine_15 : decode cX6_mine 15 = .ok (.invokestatic 75, 3) := by decide +kernel
theorem dX6_mine_18 : decode cX6_mine 18 = .ok (.ifCond .ne 6, 3) := by decide +kernel
theorem dX6_mine_21 : decode cX6_mine 21 = .ok (.bipush (-2), 2) := by decide +kernel
theorem dX6_mine_23 : decode cX6_mine 23 = .ok (.ireturn, 1) := by decide +kernel
theorem dX6_mine_24 : decode cX6_mine 24 = .ok (.aload_n 0, 1) := by decide +kernel
theorem dX6_mine_25 : decode cX6_mine 25 = .ok (.getfield 13, 3) := by decide +kernel
theorem dX6_mine_28 : decode cX6_mine 28 = .ok (.iload_n 1, 1) := by decide +kernel
theorem dX6_mine_29 : decode cX6_mine 29 = .ok (.aaload, 1) := by decide +kernel
theorem dX6_mine_30 : decode cX6_mine 30 = .ok (.astore 5, 2) := by decide +kernel
theorem dX6_mine_32 : decode cX6_mine 32 = .ok (.aload 5, 2) := by decide +kernel
theorem dX6_mine_34 : decode cX6_mine 34 = .ok (.iload_n 2, 1) := by decide +kernel
theorem dX6_mine_35 : decode cX6_mine 35 = .ok (.iload_n 3, 1) := by decide +kernel
theorem dX6_mine_36 : decode cX6_mine 36 = .ok (.iload 4, 2) := by decide +kernel
theorem dX6_mine_38 : decode cX6_mine 38 = .ok (.invokevirtual 78, 3) := by decide +kernel
theorem dX6_mine_41 : decode cX6_mine 41 = .ok (.istore 6, 2) := by decide +kernel
theorem dX6_mine_43 : decode cX6_mine 43 = .ok (.iload 6, 2) := by decide +kernel
theorem dX6_mine_45 : decode cX6_mine 45 = .ok (.ifCond .eq 10, 3) := by decide +kernel
theorem dX6_mine_48 : decode cX6_mine 48 = .ok (.aload_n 0, 1) := by decide +kernel
theorem dX6_mine_49 : decode cX6_mine 49 = .ok (.iload 6, 2) := by decide +kernel
theorem dX6_mine_51 : decode cX6_mine 51 = .ok (.invokevirtual 82, 3) := by decide +kernel
theorem dX6_mine_54 : decode cX6_mine 54 = .ok (.ireturn, 1) := by decide +kernel
theorem dX6_mine_55 : decode cX6_mine 55 = .ok (.aload 5, 2) := by decide +kernel
theorem dX6_mine_57 : decode cX6_mine 57 = .ok (.getfield 86, 3) := by decide +kernel
theorem dX6_mine_60 : decode cX6_mine 60 = .ok (.iload_n 3, 1) := by decide +kernel
theorem dX6_mine_61 : decode cX6_mine 61 = .ok (.iload 4, 2) := by decide +kernel
theorem dX6_mine_63 : decode cX6_mine 63 = .ok (.invokestatic 89, 3) := by decide +kernel
theorem dX6_mine_66 : decode cX6_mine 66 = .ok (.istore 7, 2) := by decide +kernel
theorem dX6_mine_68 : decode cX6_mine 68 = .ok (.iload 7, 2) := by decide +kernel
theorem dX6_mine_70 : decode cX6_mine 70 = .ok (.bipush (-9), 2) := by decide +kernel
theorem dX6_mine_72 : decode cX6_mine 72 = .ok (.if_icmp .eq 9, 3) := by decide +kernel
theorem dX6_mine_75 : decode cX6_mine 75 = .ok (.bipush (-100), 2) := by decide +kernel
theorem dX6_mine_77 : decode cX6_mine 77 = .ok (.iload 7, 2) := by decide +kernel
theorem dX6_mine_79 : decode cX6_mine 79 = .ok (.isub, 1) := by decide +kernel
theorem dX6_mine_80 : decode cX6_mine 80 = .ok (.ireturn, 1) := by decide +kernel
theorem dX6_mine_81 : decode cX6_mine 81 = .ok (.aload_n 0, 1) := by decide +kernel
theorem dX6_mine_82 : decode cX6_mine 82 = .ok (.aload 5, 2) := by decide +kernel
theorem dX6_mine_84 : decode cX6_mine 84 = .ok (.getfield 86, 3) := by decide +kernel
theorem dX6_mine_87 : decode cX6_mine 87 = .ok (.iload_n 3, 1) := by decide +kernel
theorem dX6_mine_88 : decode cX6_mine 88 = .ok (.iload 4, 2) := by decide +kernel
theorem dX6_mine_90 : decode cX6_mine 90 = .ok (.invokevirtual 93, 3) := by decide +kernel
theorem dX6_mine_93 : decode cX6_mine 93 = .ok (.aload_n 0, 1) := by decide +kernel
theorem dX6_mine_94 : decode cX6_mine 94 = .ok (.getfield 20, 3) := by decide +kernel
theorem dX6_mine_97 : decode cX6_mine 97 = .ok (.getfield 97, 3) := by decide +kernel
theorem dX6_mine_100 : decode cX6_mine 100 = .ok (.ireturn, 1) := by decide +kernel
set_option maxRecDepth 20000 in
theorem ggX6_ofGallery_X6_isGallery : GoodIn wsX6_ofGallery wsX6_isGallery := goodIn_r _ [12, 1, 13, 27, 28, 29, 30, 31, 32, 33, 34, 35, 36, 37, 38, 39, 40, 41, 42, 43] (by decide +kernel) (by decide +kernel)
set_option maxRecDepth 20000 in
theorem gX6_ofGallery_X6_isGallery : GoodIn wsX6_ofGallery (wsV RX6 100 RX6 yX6_isGallery wsX6_isGallery) := goodIn_app (goodIn_of _ (by decide +kernel)) ggX6_ofGallery_X6_isGallery
set_option maxRecDepth 20000 in
theorem ggX6_ofGallery_X2_bears : GoodIn wsX6_ofGallery wsX2_bears := goodIn_r _ [18, 19, 20, 21, 11, 22, 38, 39, 40, 41, 42, 43] (by decide +kernel) (by decide +kernel)
set_option maxRecDepth 20000 in
theorem gX6_ofGallery_X2_bears : GoodIn wsX6_ofGallery (wsV RX6 112 RX2 yX2_bears wsX2_bears) := goodIn_app (goodIn_of _ (by decide +kernel)) ggX6_ofGallery_X2_bears
set_option maxRecDepth 20000 in
theorem ggX6_ofGallery_X6_isDoor : GoodIn wsX6_ofGallery wsX6_isDoor := goodIn_r _ [26, 1, 13, 27, 28, 29, 30, 31, 32, 33, 34, 35, 36, 37, 38, 39, 40, 41, 42, 43] (by decide +kernel) (by decide +kernel)
set_option maxRecDepth 20000 in
theorem gX6_ofGallery_X6_isDoor : GoodIn wsX6_ofGallery (wsV RX6 118 RX6 yX6_isDoor wsX6_isDoor) := goodIn_app (goodIn_of _ (by decide +kernel)) ggX6_ofGallery_X6_isDoor
theorem dX6_ofGallery_0 : decode cX6_ofGallery 0 = .ok (.aload_n 0, 1) := by decide +kernel
theorem dX6_ofGallery_1 : decode cX6_ofGallery 1 = .ok (.iload_n 1, 1) := by decide +kernel
theorem dX6_ofGallery_2 : decode cX6_ofGallery 2 = .ok (.invokevirtual 100, 3) := by decide +kernel
theorem dX6_ofGallery_5 : decode cX6_ofGallery 5 = .ok (.ifCond .ne 5, 3) := by decide +kernel
theorem dX6_ofGallery_8 : decode cX6_ofGallery 8 = .ok (.iconst (-1), 1) := by decide +kernel
theorem dX6_ofGallery_9 : decode cX6_ofGallery 9 = .ok (.ireturn, 1) := by decide +kernel
theorem dX6_ofGallery_10 : decode cX6_ofGallery 10 = .ok (.iload_n 2, 1) := by decide +kernel
theorem dX6_ofGallery_11 : decode cX6_ofGallery 11 = .ok (.tableswitch 113 0 5 #[37, 47, 57, 67, 76, 88], 37) := by decide +kernel
theorem dX6_ofGallery_48 : decode cX6_ofGallery 48 = .ok (.aload_n 0, 1) := by decide +kernel
theorem dX6_ofGallery_49 : decode cX6_ofGallery 49 = .ok (.getfield 20, 3) := by decide +kernel
theorem dX6_ofGallery_52 : decode cX6_ofGallery 52 = .ok (.getfield 103, 3) := by decide +kernel
theorem dX6_ofGallery_55 : decode cX6_ofGallery 55 = .ok (.iload_n 1, 1) := by decide +kernel
theorem dX6_ofGallery_56 : decode cX6_ofGallery 56 = .ok (.iaload, 1) := by decide +kernel
theorem dX6_ofGallery_57 : decode cX6_ofGallery 57 = .ok (.ireturn, 1) := by decide +kernel
theorem dX6_ofGallery_58 : decode cX6_ofGallery 58 = .ok (.aload_n 0, 1) := by decide +kernel
theorem dX6_ofGallery_59 : decode cX6_ofGallery 59 = .ok (.getfield 27, 3) := by decide +kernel
theorem dX6_ofGallery_62 : decode cX6_ofGallery 62 = .ok (.getfield 106, 3) := by decide +kernel
theorem dX6_ofGallery_65 : decode cX6_ofGallery 65 = .ok (.iload_n 1, 1) := by decide +kernel
theorem dX6_ofGallery_66 : decode cX6_ofGallery 66 = .ok (.iaload, 1) := by decide +kernel
theorem dX6_ofGallery_67 : decode cX6_ofGallery 67 = .ok (.ireturn, 1) := by decide +kernel
theorem dX6_ofGallery_68 : decode cX6_ofGallery 68 = .ok (.aload_n 0, 1) := by decide +kernel
