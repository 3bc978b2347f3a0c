set_option maxRecDepth 20000 in
theorem zx_in_wsL_law_r19 : ∀ w ∈ wsL_law_r19, w ∈ lw_tbl := fun w h => (goodIn_p wsL_law_r19 [786, 790, 395, 398, 794, 797, 801] (by decide +kernel) (by decide +kernel) w h).1
set_option maxRecDepth 20000 in
theorem zx_in_wsL_law_r20 : ∀ w ∈ wsL_law_r20, w ∈ lw_tbl := fun w h => (goodIn_p wsL_law_r20 [805, 402, 406, 809, 410, 813] (by decide +kernel) (by decide +kernel) w h).1
set_option maxRecDepth 20000 in
theorem zx_in_wsL_law_r21 : ∀ w ∈ wsL_law_r21, w ∈ lw_tbl := fun w h => (goodIn_p wsL_law_r21 [415, 817, 419, 422, 426] (by decide +kernel) (by decide +kernel) w h).1
set_option maxRecDepth 20000 in
theorem zx_in_wsL_law_r22 : ∀ w ∈ wsL_law_r22, w ∈ lw_tbl := fun w h => (goodIn_p wsL_law_r22 [821, 825, 431, 435, 439, 829] (by decide +kernel) (by decide +kernel) w h).1
set_option maxRecDepth 20000 in
theorem zx_in_wsL_law_r23 : ∀ w ∈ wsL_law_r23, w ∈ lw_tbl := fun w h => (goodIn_p wsL_law_r23 [833, 443, 447, 837, 451, 841] (by decide +kernel) (by decide +kernel) w h).1
set_option maxRecDepth 20000 in
theorem zx_in_wsL_law_r24 : ∀ w ∈ wsL_law_r24, w ∈ lw_tbl := fun w h => (goodIn_p wsL_law_r24 [455, 460, 845, 849, 465] (by decide +kernel) (by decide +kernel) w h).1
set_option maxRecDepth 20000 in
theorem zx_in_wsL_law_r25 : ∀ w ∈ wsL_law_r25, w ∈ lw_tbl := fun w h => (goodIn_p wsL_law_r25 [853, 469, 473, 857, 861, 477] (by decide +kernel) (by decide +kernel) w h).1
set_option maxRecDepth 20000 in
theorem zx_in_wsL_law_r26 : ∀ w ∈ wsL_law_r26, w ∈ lw_tbl := fun w h => (goodIn_p wsL_law_r26 [481, 865, 485, 869, 489, 492] (by decide +kernel) (by decide +kernel) w h).1
set_option maxRecDepth 20000 in
theorem zx_in_wsL_law_r27 : ∀ w ∈ wsL_law_r27, w ∈ lw_tbl := fun w h => (goodIn_p wsL_law_r27 [873, 496, 877, 881, 500, 885] (by decide +kernel) (by decide +kernel) w h).1
set_option maxRecDepth 20000 in
theorem zx_in_wsL_law_r28 : ∀ w ∈ wsL_law_r28, w ∈ lw_tbl := fun w h => (goodIn_p wsL_law_r28 [506, 510, 514, 518, 522, 889] (by decide +kernel) (by decide +kernel) w h).1
set_option maxRecDepth 20000 in
theorem zx_in_wsL_law_r29 : ∀ w ∈ wsL_law_r29, w ∈ lw_tbl := fun w h => (goodIn_p wsL_law_r29 [893, 526, 530, 534, 897] (by decide +kernel) (by decide +kernel) w h).1
set_option maxRecDepth 20000 in
theorem zx_in_wsL_law_r30 : ∀ w ∈ wsL_law_r30, w ∈ lw_tbl := fun w h => (goodIn_p wsL_law_r30 [538, 901, 542, 905, 546, 909] (by decide +kernel) (by decide +kernel) w h).1
set_option maxRecDepth 20000 in
theorem zx_in_wsL_law_r31 : ∀ w ∈ wsL_law_r31, w ∈ lw_tbl := fun w h => (goodIn_p wsL_law_r31 [550, 913] (by decide +kernel) (by decide +kernel) w h).1
set_option maxRecDepth 20000 in
theorem zx_in_wsX60 : ∀ w ∈ wsX60, w ∈ lw_tbl := fun w h => (goodIn_p wsX60 [] (by decide +kernel) (by decide +kernel) w h).1
set_option maxRecDepth 20000 in
theorem zx_in_wsX70 : ∀ w ∈ wsX70, w ∈ lw_tbl := fun w h => (goodIn_p wsX70 [] (by decide +kernel) (by decide +kernel) w h).1
set_option maxRecDepth 20000 in
theorem zx_in_wsX20 : ∀ w ∈ wsX20, w ∈ lw_tbl := fun w h => (goodIn_p wsX20 [] (by decide +kernel) (by decide +kernel) w h).1
set_option maxRecDepth 20000 in
theorem zx_in_wsX00 : ∀ w ∈ wsX00, w ∈ lw_tbl := fun w h => (goodIn_p wsX00 [] (by decide +kernel) (by decide +kernel) w h).1
set_option maxRecDepth 20000 in
theorem zx_in_wsX30 : ∀ w ∈ wsX30, w ∈ lw_tbl := fun w h => (goodIn_p wsX30 [] (by decide +kernel) (by decide +kernel) w h).1
set_option maxRecDepth 20000 in
theorem zx_in_wsX10 : ∀ w ∈ wsX10, w ∈ lw_tbl := fun w h => (goodIn_p wsX10 [] (by decide +kernel) (by decide +kernel) w h).1
set_option maxRecDepth 20000 in
theorem zx_in_wsX40 : ∀ w ∈ wsX40, w ∈ lw_tbl := fun w h => (goodIn_p wsX40 [] (by decide +kernel) (by decide +kernel) w h).1
set_option maxRecDepth 20000 in
theorem zx_in_wsX50 : ∀ w ∈ wsX50, w ∈ lw_tbl := fun w h => (goodIn_p wsX50 [] (by decide +kernel) (by decide +kernel) w h).1
theorem wsL_law_in : ∀ w ∈ wsL_law, w ∈ lw_tbl := List.forall_mem_append.mpr ⟨List.forall_mem_append.mpr ⟨List.forall_mem_append.mpr ⟨List.forall_mem_append.mpr ⟨List.forall_mem_append.mpr ⟨List.forall_mem_append.mpr ⟨List.forall_mem_append.mpr ⟨List.forall_mem_append.mpr ⟨List.forall_mem_append.mpr ⟨List.forall_mem_append.mpr ⟨zx_in_wsL_law_r1, List.forall_mem_append.mpr ⟨zx_in_wsL_law_r2, List.forall_mem_append.mpr ⟨zx_in_wsL_law_r3, List.forall_mem_append.mpr ⟨zx_in_wsL_law_r4, List.forall_mem_append.mpr ⟨zx_in_wsL_law_r5, List.forall_mem_append.mpr ⟨zx_in_wsL_law_r6, List.forall_mem_append.mpr ⟨zx_in_wsL_law_r7, List.forall_mem_append.mpr ⟨zx_in_wsL_law_r8, List.forall_mem_append.mpr ⟨zx_in_wsL_law_r9, List.forall_mem_append.mpr ⟨zx_in_wsL_law_r10, List.forall_mem_append.mpr ⟨zx_in_wsL_law_r11, List.forall_mem_append.mpr ⟨zx_in_wsL_law_r12, List.forall_mem_append.mpr ⟨zx_in_wsL_law_r13, List.forall_mem_append.mpr ⟨zx_in_wsL_law_r14, List.forall_mem_append.mpr ⟨zx_in_wsL_law_r15, List.forall_mem_append.mpr ⟨zx_in_wsL_law_r16, List.forall_mem_append.mpr ⟨zx_in_wsL_law_r17, List.forall_mem_append.mpr ⟨zx_in_wsL_law_r18, List.forall_mem_append.mpr ⟨zx_in_wsL_law_r19, List.forall_mem_append.mpr ⟨zx_in_wsL_law_r20, List.forall_mem_append.mpr ⟨zx_in_wsL_law_r21, List.forall_mem_append.mpr ⟨zx_in_wsL_law_r22, List.forall_mem_append.mpr ⟨zx_in_wsL_law_r23, List.forall_mem_append.mpr ⟨zx_in_wsL_law_r24, List.forall_mem_append.mpr ⟨zx_in_wsL_law_r25, List.forall_mem_append.mpr ⟨zx_in_wsL_law_r26, List.forall_mem_append.mpr ⟨zx_in_wsL_law_r27, List.forall_mem_append.mpr ⟨zx_in_wsL_law_r28, List.forall_mem_append.mpr ⟨zx_in_wsL_law_r29, List.forall_mem_append.mpr ⟨zx_in_wsL_law_r30, zx_in_wsL_law_r31⟩⟩⟩⟩⟩⟩⟩⟩⟩⟩⟩⟩⟩⟩⟩⟩⟩⟩⟩⟩⟩⟩⟩⟩⟩⟩⟩⟩⟩⟩, zx_in_wsX60⟩, zx_in_wsX70⟩, zx_in_wsX20⟩, zx_in_wsX00⟩, zx_in_wsX30⟩, zx_in_wsX10⟩, zx_in_wsX40⟩, zx_in_wsX50⟩, fun _ h => absurd h List.not_mem_nil⟩
