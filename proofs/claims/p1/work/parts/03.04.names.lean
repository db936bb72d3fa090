theorem wsL_law_x0 : ∀ w ∈ vxW, w ∈ lw_tbl := vxW_in
theorem wsL_law_in : ∀ w ∈ wsL_law, w ∈ lw_tbl := fun w h => (List.mem_append.mp h).elim (fun h => wsL_law_in0 w h) (fun h => wsL_law_x0 w h)
theorem inlX0 : ∀ w ∈ wsX00, w ∈ wsL_law := fun _ h => List.mem_append_left _ (List.mem_append_left _ (List.mem_append_left _ (List.mem_append_left _ (List.mem_append_right _ h))))
theorem inX0 : ∀ w ∈ wsX00, w ∈ lw_tbl := fun w h => wsL_law_in w (inlX0 w h)
theorem inlX1 : ∀ w ∈ wsX10, w ∈ wsL_law := fun _ h => List.mem_append_left _ (List.mem_append_left _ (List.mem_append_left _ (List.mem_append_left _ (List.mem_append_left _ (List.mem_append_left _ (List.mem_append_left _ (List.mem_append_left _ (List.mem_append_left _ (List.mem_append_left _ (List.mem_append_right _ h))))))))))
theorem inX1 : ∀ w ∈ wsX10, w ∈ lw_tbl := fun w h => wsL_law_in w (inlX1 w h)
theorem inlX2 : ∀ w ∈ wsX20, w ∈ wsL_law := fun _ h => List.mem_append_left _ (List.mem_append_left _ (List.mem_append_left _ (List.mem_append_left _ (List.mem_append_left _ (List.mem_append_left _ (List.mem_append_left _ (List.mem_append_left _ (List.mem_append_left _ (List.mem_append_left _ (List.mem_append_left _ (List.mem_append_right _ h)))))))))))
theorem inX2 : ∀ w ∈ wsX20, w ∈ lw_tbl := fun w h => wsL_law_in w (inlX2 w h)
theorem inlX3 : ∀ w ∈ wsX30, w ∈ wsL_law := fun _ h => List.mem_append_left _ (List.mem_append_left _ (List.mem_append_right _ h))
theorem inX3 : ∀ w ∈ wsX30, w ∈ lw_tbl := fun w h => wsL_law_in w (inlX3 w h)
theorem inlX4 : ∀ w ∈ wsX40, w ∈ wsL_law := fun _ h => List.mem_append_left _ (List.mem_append_left _ (List.mem_append_left _ (List.mem_append_right _ h)))
theorem inX4 : ∀ w ∈ wsX40, w ∈ lw_tbl := fun w h => wsL_law_in w (inlX4 w h)
theorem inlX5 : ∀ w ∈ wsX50, w ∈ wsL_law := fun _ h => List.mem_append_left _ (List.mem_append_left _ (List.mem_append_left _ (List.mem_append_left _ (List.mem_append_left _ (List.mem_append_left _ (List.mem_append_left _ (List.mem_append_left _ (List.mem_append_right _ h))))))))
theorem inX5 : ∀ w ∈ wsX50, w ∈ lw_tbl := fun w h => wsL_law_in w (inlX5 w h)
theorem inlX6 : ∀ w ∈ wsX60, w ∈ wsL_law := fun _ h => List.mem_append_left _ (List.mem_append_left _ (List.mem_append_left _ (List.mem_append_left _ (List.mem_append_left _ (List.mem_append_left _ (List.mem_append_left _ (List.mem_append_left _ (List.mem_append_left _ (List.mem_append_right _ h)))))))))
theorem inX6 : ∀ w ∈ wsX60, w ∈ lw_tbl := fun w h => wsL_law_in w (inlX6 w h)
theorem inlX7 : ∀ w ∈ wsX70, w ∈ wsL_law := fun _ h => List.mem_append_left _ (List.mem_append_left _ (List.mem_append_left _ (List.mem_append_left _ (List.mem_append_left _ (List.mem_append_left _ (List.mem_append_left _ (List.mem_append_left _ (List.mem_append_left _ (List.mem_append_left _ (List.mem_append_left _ (List.mem_append_left _ (List.mem_append_right _ h))))))))))))
theorem inX7 : ∀ w ∈ wsX70, w ∈ lw_tbl := fun w h => wsL_law_in w (inlX7 w h)
theorem inlX8 : ∀ w ∈ wsX80, w ∈ wsL_law := fun _ h => List.mem_append_left _ (List.mem_append_left _ (List.mem_append_left _ (List.mem_append_left _ (List.mem_append_left _ (List.mem_append_left _ (List.mem_append_left _ (List.mem_append_right _ h)))))))
theorem inX8 : ∀ w ∈ wsX80, w ∈ lw_tbl := fun w h => wsL_law_in w (inlX8 w h)
theorem inlX9 : ∀ w ∈ wsX90, w ∈ wsL_law := fun _ h => List.mem_append_left _ (List.mem_append_left _ (List.mem_append_left _ (List.mem_append_left _ (List.mem_append_left _ (List.mem_append_left _ (List.mem_append_right _ h))))))
theorem inX9 : ∀ w ∈ wsX90, w ∈ lw_tbl := fun w h => wsL_law_in w (inlX9 w h)
theorem inlX10 : ∀ w ∈ wsX100, w ∈ wsL_law := fun _ h => List.mem_append_left _ (List.mem_append_left _ (List.mem_append_left _ (List.mem_append_left _ (List.mem_append_left _ (List.mem_append_right _ h)))))
theorem inX10 : ∀ w ∈ wsX100, w ∈ lw_tbl := fun w h => wsL_law_in w (inlX10 w h)
theorem inlX11 : ∀ w ∈ wsX110, w ∈ wsL_law := fun _ h => List.mem_append_left _ (List.mem_append_left _ (List.mem_append_left _ (List.mem_append_left _ (List.mem_append_left _ (List.mem_append_left _ (List.mem_append_left _ (List.mem_append_left _ (List.mem_append_left _ (List.mem_append_left _ (List.mem_append_left _ (List.mem_append_left _ (List.mem_append_left _ (List.mem_append_left _ (List.mem_append_right _ h))))))))))))))
theorem inX11 : ∀ w ∈ wsX110, w ∈ lw_tbl := fun w h => wsL_law_in w (inlX11 w h)
theorem inlX12 : ∀ w ∈ wsX120, w ∈ wsL_law := fun _ h => List.mem_append_left _ (List.mem_append_left _ (List.mem_append_left _ (List.mem_append_left _ (List.mem_append_left _ (List.mem_append_left _ (List.mem_append_left _ (List.mem_append_left _ (List.mem_append_left _ (List.mem_append_left _ (List.mem_append_left _ (List.mem_append_left _ (List.mem_append_left _ (List.mem_append_right _ h)))))))))))))
theorem inX12 : ∀ w ∈ wsX120, w ∈ lw_tbl := fun w h => wsL_law_in w (inlX12 w h)
theorem inJ9 : ∀ w ∈ wsJ90, w ∈ lw_tbl := by decide +kernel
theorem inJ0 : ∀ w ∈ wsJ00, w ∈ lw_tbl := by decide +kernel
theorem inJ1 : ∀ w ∈ wsJ10, w ∈ lw_tbl := by decide +kernel
theorem inJ2 : ∀ w ∈ wsJ20, w ∈ lw_tbl := by decide +kernel
theorem inJ10 : ∀ w ∈ wsJ100, w ∈ lw_tbl := by decide +kernel
theorem inJ7 : ∀ w ∈ wsJ70, w ∈ lw_tbl := by decide +kernel
theorem inJ3 : ∀ w ∈ wsJ30, w ∈ lw_tbl := by decide +kernel
theorem dX0_init_0 : decode cX0_init 0 = .ok (.aload_n 0, 1) := by decide +kernel
theorem dX0_init_1 : decode cX0_init 1 = .ok (.invokespecial 3, 3) := by decide +kernel
theorem dX0_init_4 : decode cX0_init 4 = .ok (.aload_n 0, 1) := by decide +kernel
theorem dX0_init_5 : decode cX0_init 5 = .ok (.iconst 4, 1) := by decide +kernel
theorem dX0_init_6 : decode cX0_init 6 = .ok (.newarray .int, 2) := by decide +kernel
theorem dX0_init_8 : decode cX0_init 8 = .ok (.putfield 9, 3) := by decide +kernel
theorem dX0_init_11 : decode cX0_init 11 = .ok (.aload_n 0, 1) := by decide +kernel
theorem dX0_init_12 : decode cX0_init 12 = .ok (.iconst 4, 1) := by decide +kernel
theorem dX0_init_13 : decode cX0_init 13 = .ok (.newarray .int, 2) := by decide +kernel
theorem dX0_init_15 : decode cX0_init 15 = .ok (.putfield 15, 3) := by decide +kernel
theorem dX0_init_18 : decode cX0_init 18 = .ok (.aload_n 0, 1) := by decide +kernel
theorem dX0_init_19 : decode cX0_init 19 = .ok (.iconst 0, 1) := by decide +kernel
theorem dX0_init_20 : decode cX0_init 20 = .ok (.putfield 18, 3) := by decide +kernel
theorem dX0_init_23 : decode cX0_init 23 = .ok (.return_, 1) := by decide +kernel
set_option maxRecDepth 20000 in
theorem ggX1_init_X9_init : GoodIn wsX1_init wsX9_init := goodIn_r _ [14, 15, 2, 3, 16, 17, 18, 19, 20] (by decide +kernel) (by decide +kernel)
set_option maxRecDepth 20000 in
theorem gX1_init_X9_init_n11 : GoodIn wsX1_init (wsX9_init) := ggX1_init_X9_init
theorem dX1_init_0 : decode cX1_init 0 = .ok (.aload_n 0, 1) := by decide +kernel
theorem dX1_init_1 : decode cX1_init 1 = .ok (.invokespecial 3, 3) := by decide +kernel
theorem dX1_init_4 : decode cX1_init 4 = .ok (.aload_n 0, 1) := by decide +kernel
theorem dX1_init_5 : decode cX1_init 5 = .ok (.new 9, 3) := by decide +kernel
theorem dX1_init_8 : decode cX1_init 8 = .ok (.dup, 1) := by decide +kernel
theorem dX1_init_9 : decode cX1_init 9 = .ok (.invokespecial 11, 3) := by decide +kernel
theorem dX1_init_12 : decode cX1_init 12 = .ok (.putfield 12, 3) := by decide +kernel
theorem dX1_init_15 : decode cX1_init 15 = .ok (.aload_n 0, 1) := by decide +kernel
theorem dX1_init_16 : decode cX1_init 16 = .ok (.iconst 0, 1) := by decide +kernel
theorem dX1_init_17 : decode cX1_init 17 = .ok (.putfield 18, 3) := by decide +kernel
theorem dX1_init_20 : decode cX1_init 20 = .ok (.aload_n 0, 1) := by decide +kernel
theorem dX1_init_21 : decode cX1_init 21 = .ok (.iconst (-1), 1) := by decide +kernel
theorem dX1_init_22 : decode cX1_init 22 = .ok (.putfield 22, 3) := by decide +kernel
theorem dX1_init_25 : decode cX1_init 25 = .ok (.aload_n 0, 1) := by decide +kernel
theorem dX1_init_26 : decode cX1_init 26 = .ok (.iconst 0, 1) := by decide +kernel
theorem dX1_init_27 : decode cX1_init 27 = .ok (.putfield 25, 3) := by decide +kernel
theorem dX1_init_30 : decode cX1_init 30 = .ok (.aload_n 0, 1) := by decide +kernel
theorem dX1_init_31 : decode cX1_init 31 = .ok (.iconst 0, 1) := by decide +kernel
theorem dX1_init_32 : decode cX1_init 32 = .ok (.putfield 28, 3) := by decide +kernel
theorem dX1_init_35 : decode cX1_init 35 = .ok (.aload_n 0, 1) := by decide +kernel
theorem dX1_init_36 : decode cX1_init 36 = .ok (.iconst 0, 1) := by decide +kernel
theorem dX1_init_37 : decode cX1_init 37 = .ok (.putfield 31, 3) := by decide +kernel
theorem dX1_init_40 : decode cX1_init 40 = .ok (.return_, 1) := by decide +kernel
set_option maxRecDepth 20000 in
theorem ggX1_read_X0_init : GoodIn wsX1_read wsX0_init := goodIn_r _ [9, 10, 11, 12, 13, 14, 15, 16, 137, 138, 139] (by decide +kernel) (by decide +kernel)
set_option maxRecDepth 20000 in
theorem gX1_read_X0_init_n36 : GoodIn wsX1_read (wsX0_init) := ggX1_read_X0_init
set_option maxRecDepth 20000 in
theorem ggX1_read_X1_goOn : GoodIn wsX1_read wsX1_goOn := goodIn_r _ [21, 1, 22, 23, 24, 7, 25, 26, 27, 20, 28, 29, 30, 31, 32, 33, 34, 35, 36, 37, 38, 39, 40, 41, 42, 43, 44, 45, 46, 131, 132, 133, 134, 135, 136, 140, 141] (by decide +kernel) (by decide +kernel)
set_option maxRecDepth 20000 in
theorem gX1_read_X1_goOn : GoodIn wsX1_read (wsV RX1 37 RX1 yX1_goOn wsX1_goOn) := goodIn_app (goodIn_of _ (by decide +kernel)) ggX1_read_X1_goOn
theorem dX1_read_0 : decode cX1_read 0 = .ok (.aload_n 0, 1) := by decide +kernel
theorem dX1_read_1 : decode cX1_read 1 = .ok (.iconst 0, 1) := by decide +kernel
theorem dX1_read_2 : decode cX1_read 2 = .ok (.putfield 31, 3) := by decide +kernel
theorem dX1_read_5 : decode cX1_read 5 = .ok (.aload_n 0, 1) := by decide +kernel
theorem dX1_read_6 : decode cX1_read 6 = .ok (.iconst 0, 1) := by decide +kernel
theorem dX1_read_7 : decode cX1_read 7 = .ok (.putfield 18, 3) := by decide +kernel
theorem dX1_read_10 : decode cX1_read 10 = .ok (.aload_n 0, 1) := by decide +kernel
theorem dX1_read_11 : decode cX1_read 11 = .ok (.iconst (-1), 1) := by decide +kernel
theorem dX1_read_12 : decode cX1_read 12 = .ok (.putfield 22, 3) := by decide +kernel
theorem dX1_read_15 : decode cX1_read 15 = .ok (.new 34, 3) := by decide +kernel
theorem dX1_read_18 : decode cX1_read 18 = .ok (.dup, 1) := by decide +kernel
theorem dX1_read_19 : decode cX1_read 19 = .ok (.invokespecial 36, 3) := by decide +kernel
theorem dX1_read_22 : decode cX1_read 22 = .ok (.astore_n 1, 1) := by decide +kernel
theorem dX1_read_23 : decode cX1_read 23 = .ok (.aload_n 0, 1) := by decide +kernel
theorem dX1_read_24 : decode cX1_read 24 = .ok (.invokevirtual 37, 3) := by decide +kernel
theorem dX1_read_27 : decode cX1_read 27 = .ok (.iconst 0, 1) := by decide +kernel
theorem dX1_read_28 : decode cX1_read 28 = .ok (.istore_n 2, 1) := by decide +kernel
theorem dX1_read_29 : decode cX1_read 29 = .ok (.iload_n 2, 1) := by decide +kernel
theorem dX1_read_30 : decode cX1_read 30 = .ok (.bipush 20, 2) := by decide +kernel
theorem dX1_read_32 : decode cX1_read 32 = .ok (.if_icmp .gt 27, 3) := by decide +kernel
theorem dX1_read_35 : decode cX1_read 35 = .ok (.aload_n 0, 1) := by decide +kernel
theorem dX1_read_36 : decode cX1_read 36 = .ok (.getfield 25, 3) := by decide +kernel
theorem dX1_read_39 : decode cX1_read 39 = .ok (.ifCond .eq 20, 3) := by decide +kernel
theorem dX1_read_59 : decode cX1_read 59 = .ok (.aload_n 1, 1) := by decide +kernel
theorem dX1_read_60 : decode cX1_read 60 = .ok (.areturn, 1) := by decide +kernel
set_option maxRecDepth 20000 in
theorem ggX1_goOn_X1_byteAt : GoodIn wsX1_goOn wsX1_byteAt := goodIn_r _ [10, 3, 4, 11, 29, 30, 31, 32, 33, 34, 35, 36] (by decide +kernel) (by decide +kernel)
set_option maxRecDepth 20000 in
theorem gX1_goOn_X1_byteAt : GoodIn wsX1_goOn (wsV RX1 96 RX1 yX1_byteAt wsX1_byteAt) := goodIn_app (goodIn_of _ (by decide +kernel)) ggX1_goOn_X1_byteAt
theorem dX1_goOn_0 : decode cX1_goOn 0 = .ok (.aload_n 0, 1) := by decide +kernel
theorem dX1_goOn_1 : decode cX1_goOn 1 = .ok (.aload_n 0, 1) := by decide +kernel
theorem dX1_goOn_2 : decode cX1_goOn 2 = .ok (.getfield 31, 3) := by decide +kernel
theorem dX1_goOn_5 : decode cX1_goOn 5 = .ok (.putfield 28, 3) := by decide +kernel
theorem dX1_goOn_8 : decode cX1_goOn 8 = .ok (.aload_n 0, 1) := by decide +kernel
theorem dX1_goOn_9 : decode cX1_goOn 9 = .ok (.getfield 28, 3) := by decide +kernel
theorem dX1_goOn_12 : decode cX1_goOn 12 = .ok (.aload_n 0, 1) := by decide +kernel
theorem dX1_goOn_13 : decode cX1_goOn 13 = .ok (.getfield 12, 3) := by decide +kernel
theorem dX1_goOn_16 : decode cX1_goOn 16 = .ok (.getfield 100, 3) := by decide +kernel
theorem dX1_goOn_19 : decode cX1_goOn 19 = .ok (.if_icmp .ge 30, 3) := by decide +kernel
theorem dX1_goOn_49 : decode cX1_goOn 49 = .ok (.aload_n 0, 1) := by decide +kernel
theorem dX1_goOn_50 : decode cX1_goOn 50 = .ok (.aload_n 0, 1) := by decide +kernel
theorem dX1_goOn_51 : decode cX1_goOn 51 = .ok (.getfield 28, 3) := by decide +kernel
theorem dX1_goOn_54 : decode cX1_goOn 54 = .ok (.putfield 31, 3) := by decide +kernel
theorem dX1_goOn_57 : decode cX1_goOn 57 = .ok (.aload_n 0, 1) := by decide +kernel
theorem dX1_goOn_58 : decode cX1_goOn 58 = .ok (.aload_n 0, 1) := by decide +kernel
theorem dX1_goOn_59 : decode cX1_goOn 59 = .ok (.getfield 28, 3) := by decide +kernel
theorem dX1_goOn_62 : decode cX1_goOn 62 = .ok (.invokevirtual 96, 3) := by decide +kernel
theorem dX1_goOn_65 : decode cX1_goOn 65 = .ok (.istore_n 1, 1) := by decide +kernel
theorem dX1_goOn_66 : decode cX1_goOn 66 = .ok (.iload_n 1, 1) := by decide +kernel
theorem dX1_goOn_67 : decode cX1_goOn 67 = .ok (.iconst (-1), 1) := by decide +kernel
theorem dX1_goOn_68 : decode cX1_goOn 68 = .ok (.if_icmp .ne 11, 3) := by decide +kernel
theorem dX1_goOn_71 : decode cX1_goOn 71 = .ok (.aload_n 0, 1) := by decide +kernel
theorem dX1_goOn_72 : decode cX1_goOn 72 = .ok (.iconst 0, 1) := by decide +kernel
theorem dX1_goOn_73 : decode cX1_goOn 73 = .ok (.putfield 25, 3) := by decide +kernel
theorem dX1_goOn_76 : decode cX1_goOn 76 = .ok (.goto 83, 3) := by decide +kernel
theorem dX1_goOn_159 : decode cX1_goOn 159 = .ok (.return_, 1) := by decide +kernel
theorem dX1_byteAt_0 : decode cX1_byteAt 0 = .ok (.iload_n 1, 1) := by decide +kernel
theorem dX1_byteAt_1 : decode cX1_byteAt 1 = .ok (.ifCond .lt 33, 3) := by decide +kernel
theorem dX1_byteAt_4 : decode cX1_byteAt 4 = .ok (.iload_n 1, 1) := by decide +kernel
theorem dX1_byteAt_5 : decode cX1_byteAt 5 = .ok (.aload_n 0, 1) := by decide +kernel
theorem dX1_byteAt_6 : decode cX1_byteAt 6 = .ok (.getfield 12, 3) := by decide +kernel
theorem dX1_byteAt_9 : decode cX1_byteAt 9 = .ok (.getfield 100, 3) := by decide +kernel
theorem dX1_byteAt_12 : decode cX1_byteAt 12 = .ok (.if_icmp .ge 22, 3) := by decide +kernel
theorem dX1_byteAt_34 : decode cX1_byteAt 34 = .ok (.iconst (-1), 1) := by decide +kernel
theorem dX1_byteAt_35 : decode cX1_byteAt 35 = .ok (.ireturn, 1) := by decide +kernel
set_option maxRecDepth 20000 in
theorem ggX2_init_X5_init : GoodIn wsX2_init wsX5_init := goodIn_r _ [14, 15, 2, 3, 16, 17, 18, 19, 20, 21, 22, 23, 38, 39, 40] (by decide +kernel) (by decide +kernel)
set_option maxRecDepth 20000 in
theorem gX2_init_X5_init : GoodIn wsX2_init (wsX5_init) := ggX2_init_X5_init
set_option maxRecDepth 20000 in
theorem ggX2_init_X8_init : GoodIn wsX2_init wsX8_init := goodIn_r _ [25, 26, 2, 3, 27, 28, 29, 30, 31, 32, 33, 34, 35, 36, 37, 43, 44, 45, 46, 47, 48, 49, 50, 51, 52] (by decide +kernel) (by decide +kernel)
set_option maxRecDepth 20000 in
theorem gX2_init_X8_init_n22 : GoodIn wsX2_init (wsX8_init) := ggX2_init_X8_init
theorem dX2_init_0 : decode cX2_init 0 = .ok (.aload_n 0, 1) := by decide +kernel
theorem dX2_init_1 : decode cX2_init 1 = .ok (.invokespecial 3, 3) := by decide +kernel
theorem dX2_init_4 : decode cX2_init 4 = .ok (.aload_n 0, 1) := by decide +kernel
theorem dX2_init_5 : decode cX2_init 5 = .ok (.iconst 4, 1) := by decide +kernel
theorem dX2_init_6 : decode cX2_init 6 = .ok (.anewarray 9, 3) := by decide +kernel
theorem dX2_init_9 : decode cX2_init 9 = .ok (.dup, 1) := by decide +kernel
theorem dX2_init_10 : decode cX2_init 10 = .ok (.iconst 0, 1) := by decide +kernel
theorem dX2_init_11 : decode cX2_init 11 = .ok (.new 9, 3) := by decide +kernel
theorem dX2_init_14 : decode cX2_init 14 = .ok (.dup, 1) := by decide +kernel
theorem dX2_init_15 : decode cX2_init 15 = .ok (.bipush 10, 2) := by decide +kernel
theorem dX2_init_17 : decode cX2_init 17 = .ok (.invokespecial 11, 3) := by decide +kernel
theorem dX2_init_20 : decode cX2_init 20 = .ok (.aastore, 1) := by decide +kernel
theorem dX2_init_21 : decode cX2_init 21 = .ok (.dup, 1) := by decide +kernel
theorem dX2_init_22 : decode cX2_init 22 = .ok (.iconst 1, 1) := by decide +kernel
theorem dX2_init_23 : decode cX2_init 23 = .ok (.new 9, 3) := by decide +kernel
theorem dX2_init_26 : decode cX2_init 26 = .ok (.dup, 1) := by decide +kernel
theorem dX2_init_27 : decode cX2_init 27 = .ok (.bipush 10, 2) := by decide +kernel
theorem dX2_init_29 : decode cX2_init 29 = .ok (.invokespecial 11, 3) := by decide +kernel
theorem dX2_init_32 : decode cX2_init 32 = .ok (.aastore, 1) := by decide +kernel
theorem dX2_init_33 : decode cX2_init 33 = .ok (.dup, 1) := by decide +kernel
theorem dX2_init_34 : decode cX2_init 34 = .ok (.iconst 2, 1) := by decide +kernel
theorem dX2_init_35 : decode cX2_init 35 = .ok (.new 9, 3) := by decide +kernel
theorem dX2_init_38 : decode cX2_init 38 = .ok (.dup, 1) := by decide +kernel
theorem dX2_init_39 : decode cX2_init 39 = .ok (.bipush 10, 2) := by decide +kernel
theorem dX2_init_41 : decode cX2_init 41 = .ok (.invokespecial 11, 3) := by decide +kernel
theorem dX2_init_44 : decode cX2_init 44 = .ok (.aastore, 1) := by decide +kernel
theorem dX2_init_45 : decode cX2_init 45 = .ok (.dup, 1) := by decide +kernel
theorem dX2_init_46 : decode cX2_init 46 = .ok (.iconst 3, 1) := by decide +kernel
theorem dX2_init_47 : decode cX2_init 47 = .ok (.new 9, 3) := by decide +kernel
theorem dX2_init_50 : decode cX2_init 50 = .ok (.dup, 1) := by decide +kernel
theorem dX2_init_51 : decode cX2_init 51 = .ok (.bipush 10, 2) := by decide +kernel
theorem dX2_init_53 : decode cX2_init 53 = .ok (.invokespecial 11, 3) := by decide +kernel
theorem dX2_init_56 : decode cX2_init 56 = .ok (.aastore, 1) := by decide +kernel
theorem dX2_init_57 : decode cX2_init 57 = .ok (.putfield 14, 3) := by decide +kernel
theorem dX2_init_60 : decode cX2_init 60 = .ok (.aload_n 0, 1) := by decide +kernel
theorem dX2_init_61 : decode cX2_init 61 = .ok (.new 20, 3) := by decide +kernel
theorem dX2_init_64 : decode cX2_init 64 = .ok (.dup, 1) := by decide +kernel
theorem dX2_init_65 : decode cX2_init 65 = .ok (.invokespecial 22, 3) := by decide +kernel
theorem dX2_init_68 : decode cX2_init 68 = .ok (.putfield 23, 3) := by decide +kernel
theorem dX2_init_71 : decode cX2_init 71 = .ok (.return_, 1) := by decide +kernel
set_option maxRecDepth 20000 in
theorem ggX2_lastOf_X11_isDeckTrack : GoodIn wsX2_lastOf wsX11_isDeckTrack := goodIn_r _ [5, 6, 7, 4, 8] (by decide +kernel) (by decide +kernel)
set_option maxRecDepth 20000 in
theorem gX2_lastOf_X11_isDeckTrack_n34 : GoodIn wsX2_lastOf (wsX11_isDeckTrack) := ggX2_lastOf_X11_isDeckTrack
set_option maxRecDepth 20000 in
theorem ggX2_lastOf_X5_wagonAt : GoodIn wsX2_lastOf wsX5_wagonAt := goodIn_r _ [13, 14, 15, 7, 4, 8, 18, 19, 20] (by decide +kernel) (by decide +kernel)
set_option maxRecDepth 20000 in
theorem gX2_lastOf_X5_wagonAt : GoodIn wsX2_lastOf (wsV RX2 42 RX5 yX5_wagonAt wsX5_wagonAt) := goodIn_app (goodIn_of _ (by decide +kernel)) ggX2_lastOf_X5_wagonAt
theorem dX2_lastOf_0 : decode cX2_lastOf 0 = .ok (.iload_n 1, 1) := by decide +kernel
theorem dX2_lastOf_1 : decode cX2_lastOf 1 = .ok (.invokestatic 34, 3) := by decide +kernel
theorem dX2_lastOf_4 : decode cX2_lastOf 4 = .ok (.ifCond .eq 26, 3) := by decide +kernel
theorem dX2_lastOf_7 : decode cX2_lastOf 7 = .ok (.aload_n 0, 1) := by decide +kernel
theorem dX2_lastOf_8 : decode cX2_lastOf 8 = .ok (.getfield 14, 3) := by decide +kernel
theorem dX2_lastOf_11 : decode cX2_lastOf 11 = .ok (.iload_n 1, 1) := by decide +kernel
theorem dX2_lastOf_12 : decode cX2_lastOf 12 = .ok (.aaload, 1) := by decide +kernel
theorem dX2_lastOf_13 : decode cX2_lastOf 13 = .ok (.aload_n 0, 1) := by decide +kernel
theorem dX2_lastOf_14 : decode cX2_lastOf 14 = .ok (.getfield 14, 3) := by decide +kernel
theorem dX2_lastOf_17 : decode cX2_lastOf 17 = .ok (.iload_n 1, 1) := by decide +kernel
theorem dX2_lastOf_18 : decode cX2_lastOf 18 = .ok (.aaload, 1) := by decide +kernel
theorem dX2_lastOf_19 : decode cX2_lastOf 19 = .ok (.getfield 38, 3) := by decide +kernel
theorem dX2_lastOf_22 : decode cX2_lastOf 22 = .ok (.iconst 1, 1) := by decide +kernel
theorem dX2_lastOf_23 : decode cX2_lastOf 23 = .ok (.isub, 1) := by decide +kernel
theorem dX2_lastOf_24 : decode cX2_lastOf 24 = .ok (.invokevirtual 42, 3) := by decide +kernel
theorem dX2_lastOf_27 : decode cX2_lastOf 27 = .ok (.goto 4, 3) := by decide +kernel
theorem dX2_lastOf_30 : decode cX2_lastOf 30 = .ok (.aconst_null, 1) := by decide +kernel
theorem dX2_lastOf_31 : decode cX2_lastOf 31 = .ok (.areturn, 1) := by decide +kernel
theorem dX3_init_0 : decode cX3_init 0 = .ok (.aload_n 0, 1) := by decide +kernel
theorem dX3_init_1 : decode cX3_init 1 = .ok (.invokespecial 3, 3) := by decide +kernel
theorem dX3_init_4 : decode cX3_init 4 = .ok (.aload_n 0, 1) := by decide +kernel
theorem dX3_init_5 : decode cX3_init 5 = .ok (.iconst (-1), 1) := by decide +kernel
theorem dX3_init_6 : decode cX3_init 6 = .ok (.putfield 9, 3) := by decide +kernel
theorem dX3_init_9 : decode cX3_init 9 = .ok (.aload_n 0, 1) := by decide +kernel
theorem dX3_init_10 : decode cX3_init 10 = .ok (.iconst 0, 1) := by decide +kernel
theorem dX3_init_11 : decode cX3_init 11 = .ok (.putfield 15, 3) := by decide +kernel
theorem dX3_init_14 : decode cX3_init 14 = .ok (.aload_n 0, 1) := by decide +kernel
theorem dX3_init_15 : decode cX3_init 15 = .ok (.bipush 40, 2) := by decide +kernel
theorem dX3_init_17 : decode cX3_init 17 = .ok (.newarray .int, 2) := by decide +kernel
theorem dX3_init_19 : decode cX3_init 19 = .ok (.putfield 18, 3) := by decide +kernel
theorem dX3_init_22 : decode cX3_init 22 = .ok (.aload_n 0, 1) := by decide +kernel
theorem dX3_init_23 : decode cX3_init 23 = .ok (.iconst 0, 1) := by decide +kernel
theorem dX3_init_24 : decode cX3_init 24 = .ok (.putfield 22, 3) := by decide +kernel
theorem dX3_init_27 : decode cX3_init 27 = .ok (.aload_n 0, 1) := by decide +kernel
theorem dX3_init_28 : decode cX3_init 28 = .ok (.iconst 4, 1) := by decide +kernel
theorem dX3_init_29 : decode cX3_init 29 = .ok (.newarray .int, 2) := by decide +kernel
theorem dX3_init_31 : decode cX3_init 31 = .ok (.putfield 25, 3) := by decide +kernel
theorem dX3_init_34 : decode cX3_init 34 = .ok (.aload_n 0, 1) := by decide +kernel
theorem dX3_init_35 : decode cX3_init 35 = .ok (.bipush 44, 2) := by decide +kernel
theorem dX3_init_37 : decode cX3_init 37 = .ok (.newarray .int, 2) := by decide +kernel
theorem dX3_init_39 : decode cX3_init 39 = .ok (.putfield 28, 3) := by decide +kernel
theorem dX3_init_42 : decode cX3_init 42 = .ok (.aload_n 0, 1) := by decide +kernel
theorem dX3_init_43 : decode cX3_init 43 = .ok (.sipush 14641, 3) := by decide +kernel
theorem dX3_init_46 : decode cX3_init 46 = .ok (.newarray .int, 2) := by decide +kernel
theorem dX3_init_48 : decode cX3_init 48 = .ok (.putfield 31, 3) := by decide +kernel
theorem dX3_init_51 : decode cX3_init 51 = .ok (.return_, 1) := by decide +kernel
set_option maxRecDepth 20000 in
theorem ggX3_findBest_X3_sumLists : GoodIn wsX3_findBest wsX3_sumLists := goodIn_r _ [17, 18, 5, 19, 20, 21, 22, 23, 24, 25, 26, 27, 28, 29, 77, 78, 79, 80, 81, 82, 83, 84, 85, 86, 87, 88, 89, 90, 91, 92, 93, 94, 95, 96, 97, 98] (by decide +kernel) (by decide +kernel)
set_option maxRecDepth 20000 in
theorem gX3_findBest_X3_sumLists : GoodIn wsX3_findBest (wsV RX3 47 RX3 yX3_sumLists wsX3_sumLists) := goodIn_app (goodIn_of _ (by decide +kernel)) ggX3_findBest_X3_sumLists
set_option maxRecDepth 20000 in
theorem ggX3_findBest_X3_lookAtAllStates : GoodIn wsX3_findBest wsX3_lookAtAllStates := goodIn_r _ [33, 12, 6, 34, 35, 36, 16, 37, 38, 39, 40, 41, 42, 7, 43, 44, 45, 46, 47, 48, 49, 50, 18, 51, 52, 53, 54, 55, 56, 57, 3, 58, 59, 60, 77, 78, 79, 80, 81, 82, 83] (by decide +kernel) (by decide +kernel)
set_option maxRecDepth 20000 in
theorem gX3_findBest_X3_lookAtAllStates : GoodIn wsX3_findBest (wsV RX3 56 RX3 yX3_lookAtAllStates wsX3_lookAtAllStates) := goodIn_app (goodIn_of _ (by decide +kernel)) ggX3_findBest_X3_lookAtAllStates
set_option maxRecDepth 20000 in
theorem ggX3_findBest_X3_stateNow : GoodIn wsX3_findBest wsX3_stateNow := goodIn_r _ [37, 12, 38, 77, 78, 79, 80, 81, 82, 83] (by decide +kernel) (by decide +kernel)
set_option maxRecDepth 20000 in
theorem gX3_findBest_X3_stateNow : GoodIn wsX3_findBest (wsV RX3 60 RX3 yX3_stateNow wsX3_stateNow) := goodIn_app (goodIn_of _ (by decide +kernel)) ggX3_findBest_X3_stateNow
theorem dX3_findBest_0 : decode cX3_findBest 0 = .ok (.aload_n 0, 1) := by decide +kernel
theorem dX3_findBest_1 : decode cX3_findBest 1 = .ok (.aload_n 1, 1) := by decide +kernel
theorem dX3_findBest_2 : decode cX3_findBest 2 = .ok (.getfield 34, 3) := by decide +kernel
theorem dX3_findBest_5 : decode cX3_findBest 5 = .ok (.getfield 40, 3) := by decide +kernel
theorem dX3_findBest_8 : decode cX3_findBest 8 = .ok (.putfield 22, 3) := by decide +kernel
theorem dX3_findBest_11 : decode cX3_findBest 11 = .ok (.iconst 0, 1) := by decide +kernel
theorem dX3_findBest_12 : decode cX3_findBest 12 = .ok (.istore_n 2, 1) := by decide +kernel
theorem dX3_findBest_13 : decode cX3_findBest 13 = .ok (.iload_n 2, 1) := by decide +kernel
theorem dX3_findBest_14 : decode cX3_findBest 14 = .ok (.iconst 4, 1) := by decide +kernel
theorem dX3_findBest_15 : decode cX3_findBest 15 = .ok (.if_icmp .ge 20, 3) := by decide +kernel
theorem dX3_findBest_18 : decode cX3_findBest 18 = .ok (.aload_n 0, 1) := by decide +kernel
theorem dX3_findBest_19 : decode cX3_findBest 19 = .ok (.iload_n 2, 1) := by decide +kernel
theorem dX3_findBest_20 : decode cX3_findBest 20 = .ok (.aload_n 1, 1) := by decide +kernel
theorem dX3_findBest_21 : decode cX3_findBest 21 = .ok (.getfield 43, 3) := by decide +kernel
theorem dX3_findBest_24 : decode cX3_findBest 24 = .ok (.iload_n 2, 1) := by decide +kernel
theorem dX3_findBest_25 : decode cX3_findBest 25 = .ok (.aaload, 1) := by decide +kernel
theorem dX3_findBest_26 : decode cX3_findBest 26 = .ok (.invokevirtual 47, 3) := by decide +kernel
theorem dX3_findBest_29 : decode cX3_findBest 29 = .ok (.iinc 2 1, 3) := by decide +kernel
theorem dX3_findBest_32 : decode cX3_findBest 32 = .ok (.goto (-19), 3) := by decide +kernel
theorem dX3_findBest_35 : decode cX3_findBest 35 = .ok (.aload_n 0, 1) := by decide +kernel
theorem dX3_findBest_36 : decode cX3_findBest 36 = .ok (.aload_n 1, 1) := by decide +kernel
theorem dX3_findBest_37 : decode cX3_findBest 37 = .ok (.getfield 43, 3) := by decide +kernel
theorem dX3_findBest_40 : decode cX3_findBest 40 = .ok (.iconst 0, 1) := by decide +kernel
theorem dX3_findBest_41 : decode cX3_findBest 41 = .ok (.aaload, 1) := by decide +kernel
theorem dX3_findBest_42 : decode cX3_findBest 42 = .ok (.getfield 51, 3) := by decide +kernel
theorem dX3_findBest_45 : decode cX3_findBest 45 = .ok (.aload_n 1, 1) := by decide +kernel
theorem dX3_findBest_46 : decode cX3_findBest 46 = .ok (.getfield 43, 3) := by decide +kernel
theorem dX3_findBest_49 : decode cX3_findBest 49 = .ok (.iconst 1, 1) := by decide +kernel
theorem dX3_findBest_50 : decode cX3_findBest 50 = .ok (.aaload, 1) := by decide +kernel
theorem dX3_findBest_51 : decode cX3_findBest 51 = .ok (.getfield 51, 3) := by decide +kernel
theorem dX3_findBest_54 : decode cX3_findBest 54 = .ok (.aload_n 1, 1) := by decide +kernel
theorem dX3_findBest_55 : decode cX3_findBest 55 = .ok (.getfield 43, 3) := by decide +kernel
theorem dX3_findBest_58 : decode cX3_findBest 58 = .ok (.iconst 2, 1) := by decide +kernel
theorem dX3_findBest_59 : decode cX3_findBest 59 = .ok (.aaload, 1) := by decide +kernel
theorem dX3_findBest_60 : decode cX3_findBest 60 = .ok (.getfield 51, 3) := by decide +kernel
theorem dX3_findBest_63 : decode cX3_findBest 63 = .ok (.aload_n 1, 1) := by decide +kernel
theorem dX3_findBest_64 : decode cX3_findBest 64 = .ok (.getfield 43, 3) := by decide +kernel
theorem dX3_findBest_67 : decode cX3_findBest 67 = .ok (.iconst 3, 1) := by decide +kernel
theorem dX3_findBest_68 : decode cX3_findBest 68 = .ok (.aaload, 1) := by decide +kernel
theorem dX3_findBest_69 : decode cX3_findBest 69 = .ok (.getfield 51, 3) := by decide +kernel
theorem dX3_findBest_72 : decode cX3_findBest 72 = .ok (.invokevirtual 56, 3) := by decide +kernel
theorem dX3_findBest_75 : decode cX3_findBest 75 = .ok (.aload_n 0, 1) := by decide +kernel
theorem dX3_findBest_76 : decode cX3_findBest 76 = .ok (.getfield 31, 3) := by decide +kernel
theorem dX3_findBest_79 : decode cX3_findBest 79 = .ok (.aload_n 0, 1) := by decide +kernel
theorem dX3_findBest_80 : decode cX3_findBest 80 = .ok (.invokevirtual 60, 3) := by decide +kernel
theorem dX3_findBest_83 : decode cX3_findBest 83 = .ok (.iaload, 1) := by decide +kernel
theorem dX3_findBest_84 : decode cX3_findBest 84 = .ok (.istore_n 2, 1) := by decide +kernel
theorem dX3_findBest_85 : decode cX3_findBest 85 = .ok (.aload_n 0, 1) := by decide +kernel
theorem dX3_findBest_86 : decode cX3_findBest 86 = .ok (.iload_n 2, 1) := by decide +kernel
theorem dX3_findBest_87 : decode cX3_findBest 87 = .ok (.ldc 64, 2) := by decide +kernel
theorem dX3_findBest_89 : decode cX3_findBest 89 = .ok (.if_icmp .lt 7, 3) := by decide +kernel
theorem dX3_findBest_96 : decode cX3_findBest 96 = .ok (.iload_n 2, 1) := by decide +kernel
theorem dX3_findBest_97 : decode cX3_findBest 97 = .ok (.putfield 9, 3) := by decide +kernel
theorem dX3_findBest_100 : decode cX3_findBest 100 = .ok (.aload_n 0, 1) := by decide +kernel
theorem dX3_findBest_101 : decode cX3_findBest 101 = .ok (.iload_n 2, 1) := by decide +kernel
theorem dX3_findBest_102 : decode cX3_findBest 102 = .ok (.ldc 64, 2) := by decide +kernel
theorem dX3_findBest_104 : decode cX3_findBest 104 = .ok (.if_icmp .lt 7, 3) := by decide +kernel
theorem dX3_findBest_111 : decode cX3_findBest 111 = .ok (.aload_n 1, 1) := by decide +kernel
theorem dX3_findBest_112 : decode cX3_findBest 112 = .ok (.getfield 34, 3) := by decide +kernel
theorem dX3_findBest_115 : decode cX3_findBest 115 = .ok (.getfield 65, 3) := by decide +kernel
theorem dX3_findBest_118 : decode cX3_findBest 118 = .ok (.putfield 15, 3) := by decide +kernel
theorem dX3_findBest_121 : decode cX3_findBest 121 = .ok (.iconst 0, 1) := by decide +kernel
theorem dX3_findBest_122 : decode cX3_findBest 122 = .ok (.istore_n 3, 1) := by decide +kernel
theorem dX3_findBest_123 : decode cX3_findBest 123 = .ok (.iload_n 3, 1) := by decide +kernel
theorem dX3_findBest_124 : decode cX3_findBest 124 = .ok (.aload_n 0, 1) := by decide +kernel
theorem dX3_findBest_125 : decode cX3_findBest 125 = .ok (.getfield 15, 3) := by decide +kernel
theorem dX3_findBest_128 : decode cX3_findBest 128 = .ok (.if_icmp .ge 44, 3) := by decide +kernel
theorem dX3_findBest_172 : decode cX3_findBest 172 = .ok (.return_, 1) := by decide +kernel
theorem dX3_sumLists_0 : decode cX3_sumLists 0 = .ok (.iconst 0, 1) := by decide +kernel
theorem dX3_sumLists_1 : decode cX3_sumLists 1 = .ok (.istore_n 3, 1) := by decide +kernel
theorem dX3_sumLists_2 : decode cX3_sumLists 2 = .ok (.aload_n 0, 1) := by decide +kernel
theorem dX3_sumLists_3 : decode cX3_sumLists 3 = .ok (.getfield 28, 3) := by decide +kernel
theorem dX3_sumLists_6 : decode cX3_sumLists 6 = .ok (.iload_n 1, 1) := by decide +kernel
theorem dX3_sumLists_7 : decode cX3_sumLists 7 = .ok (.bipush 11, 2) := by decide +kernel
theorem dX3_sumLists_9 : decode cX3_sumLists 9 = .ok (.imul, 1) := by decide +kernel
theorem dX3_sumLists_10 : decode cX3_sumLists 10 = .ok (.iconst 0, 1) := by decide +kernel
theorem dX3_sumLists_11 : decode cX3_sumLists 11 = .ok (.iastore, 1) := by decide +kernel
theorem dX3_sumLists_12 : decode cX3_sumLists 12 = .ok (.iconst 0, 1) := by decide +kernel
theorem dX3_sumLists_13 : decode cX3_sumLists 13 = .ok (.istore 4, 2) := by decide +kernel
theorem dX3_sumLists_15 : decode cX3_sumLists 15 = .ok (.iload 4, 2) := by decide +kernel
theorem dX3_sumLists_17 : decode cX3_sumLists 17 = .ok (.aload_n 2, 1) := by decide +kernel
theorem dX3_sumLists_18 : decode cX3_sumLists 18 = .ok (.getfield 51, 3) := by decide +kernel
theorem dX3_sumLists_21 : decode cX3_sumLists 21 = .ok (.if_icmp .ge 62, 3) := by decide +kernel
theorem dX3_sumLists_83 : decode cX3_sumLists 83 = .ok (.return_, 1) := by decide +kernel
set_option maxRecDepth 20000 in
theorem ggX3_lookAtAllStates_X3_stateNow : GoodIn wsX3_lookAtAllStates wsX3_stateNow := goodIn_r _ [7, 1, 8, 34, 35, 36, 37, 38, 39, 40] (by decide +kernel) (by decide +kernel)
set_option maxRecDepth 20000 in
theorem gX3_lookAtAllStates_X3_stateNow : GoodIn wsX3_lookAtAllStates (wsV RX3 60 RX3 yX3_stateNow wsX3_stateNow) := goodIn_app (goodIn_of _ (by decide +kernel)) ggX3_lookAtAllStates_X3_stateNow
set_option maxRecDepth 20000 in
theorem ggX3_lookAtAllStates_X3_leastWorst : GoodIn wsX3_lookAtAllStates wsX3_leastWorst := goodIn_r _ [12, 13, 14, 15, 16, 17, 3, 4, 5, 6, 7, 1, 8, 18, 19, 20, 21, 22, 23, 24, 25, 26, 27, 28, 29, 30, 2, 31, 32, 33, 34, 35, 36, 37, 38, 39, 40] (by decide +kernel) (by decide +kernel)
set_option maxRecDepth 20000 in
theorem gX3_lookAtAllStates_X3_leastWorst : GoodIn wsX3_lookAtAllStates (wsV RX3 84 RX3 yX3_leastWorst wsX3_leastWorst) := goodIn_app (goodIn_of _ (by decide +kernel)) ggX3_lookAtAllStates_X3_leastWorst
theorem dX3_lookAtAllStates_0 : decode cX3_lookAtAllStates 0 = .ok (.iconst 0, 1) := by decide +kernel
theorem dX3_lookAtAllStates_1 : decode cX3_lookAtAllStates 1 = .ok (.istore 5, 2) := by decide +kernel
theorem dX3_lookAtAllStates_3 : decode cX3_lookAtAllStates 3 = .ok (.iload 5, 2) := by decide +kernel
theorem dX3_lookAtAllStates_5 : decode cX3_lookAtAllStates 5 = .ok (.iload_n 1, 1) := by decide +kernel
theorem dX3_lookAtAllStates_6 : decode cX3_lookAtAllStates 6 = .ok (.if_icmp .gt 100, 3) := by decide +kernel
theorem dX3_lookAtAllStates_9 : decode cX3_lookAtAllStates 9 = .ok (.aload_n 0, 1) := by decide +kernel
theorem dX3_lookAtAllStates_10 : decode cX3_lookAtAllStates 10 = .ok (.getfield 25, 3) := by decide +kernel
theorem dX3_lookAtAllStates_13 : decode cX3_lookAtAllStates 13 = .ok (.iconst 0, 1) := by decide +kernel
theorem dX3_lookAtAllStates_14 : decode cX3_lookAtAllStates 14 = .ok (.iload 5, 2) := by decide +kernel
theorem dX3_lookAtAllStates_16 : decode cX3_lookAtAllStates 16 = .ok (.iastore, 1) := by decide +kernel
theorem dX3_lookAtAllStates_17 : decode cX3_lookAtAllStates 17 = .ok (.iconst 0, 1) := by decide +kernel
theorem dX3_lookAtAllStates_18 : decode cX3_lookAtAllStates 18 = .ok (.istore 6, 2) := by decide +kernel
theorem dX3_lookAtAllStates_20 : decode cX3_lookAtAllStates 20 = .ok (.iload 6, 2) := by decide +kernel
theorem dX3_lookAtAllStates_22 : decode cX3_lookAtAllStates 22 = .ok (.iload_n 2, 1) := by decide +kernel
theorem dX3_lookAtAllStates_23 : decode cX3_lookAtAllStates 23 = .ok (.if_icmp .gt 77, 3) := by decide +kernel
theorem dX3_lookAtAllStates_26 : decode cX3_lookAtAllStates 26 = .ok (.aload_n 0, 1) := by decide +kernel
theorem dX3_lookAtAllStates_27 : decode cX3_lookAtAllStates 27 = .ok (.getfield 25, 3) := by decide +kernel
theorem dX3_lookAtAllStates_30 : decode cX3_lookAtAllStates 30 = .ok (.iconst 1, 1) := by decide +kernel
theorem dX3_lookAtAllStates_31 : decode cX3_lookAtAllStates 31 = .ok (.iload 6, 2) := by decide +kernel
theorem dX3_lookAtAllStates_33 : decode cX3_lookAtAllStates 33 = .ok (.iastore, 1) := by decide +kernel
theorem dX3_lookAtAllStates_34 : decode cX3_lookAtAllStates 34 = .ok (.iconst 0, 1) := by decide +kernel
theorem dX3_lookAtAllStates_35 : decode cX3_lookAtAllStates 35 = .ok (.istore 7, 2) := by decide +kernel
theorem dX3_lookAtAllStates_37 : decode cX3_lookAtAllStates 37 = .ok (.iload 7, 2) := by decide +kernel
theorem dX3_lookAtAllStates_39 : decode cX3_lookAtAllStates 39 = .ok (.iload_n 3, 1) := by decide +kernel
theorem dX3_lookAtAllStates_40 : decode cX3_lookAtAllStates 40 = .ok (.if_icmp .gt 54, 3) := by decide +kernel
theorem dX3_lookAtAllStates_43 : decode cX3_lookAtAllStates 43 = .ok (.aload_n 0, 1) := by decide +kernel
theorem dX3_lookAtAllStates_44 : decode cX3_lookAtAllStates 44 = .ok (.getfield 25, 3) := by decide +kernel
theorem dX3_lookAtAllStates_47 : decode cX3_lookAtAllStates 47 = .ok (.iconst 2, 1) := by decide +kernel
theorem dX3_lookAtAllStates_48 : decode cX3_lookAtAllStates 48 = .ok (.iload 7, 2) := by decide +kernel
theorem dX3_lookAtAllStates_50 : decode cX3_lookAtAllStates 50 = .ok (.iastore, 1) := by decide +kernel
theorem dX3_lookAtAllStates_51 : decode cX3_lookAtAllStates 51 = .ok (.iconst 0, 1) := by decide +kernel
theorem dX3_lookAtAllStates_52 : decode cX3_lookAtAllStates 52 = .ok (.istore 8, 2) := by decide +kernel
theorem dX3_lookAtAllStates_54 : decode cX3_lookAtAllStates 54 = .ok (.iload 8, 2) := by decide +kernel
theorem dX3_lookAtAllStates_56 : decode cX3_lookAtAllStates 56 = .ok (.iload 4, 2) := by decide +kernel
theorem dX3_lookAtAllStates_58 : decode cX3_lookAtAllStates 58 = .ok (.if_icmp .gt 30, 3) := by decide +kernel
theorem dX3_lookAtAllStates_61 : decode cX3_lookAtAllStates 61 = .ok (.aload_n 0, 1) := by decide +kernel
theorem dX3_lookAtAllStates_62 : decode cX3_lookAtAllStates 62 = .ok (.getfield 25, 3) := by decide +kernel
theorem dX3_lookAtAllStates_65 : decode cX3_lookAtAllStates 65 = .ok (.iconst 3, 1) := by decide +kernel
theorem dX3_lookAtAllStates_66 : decode cX3_lookAtAllStates 66 = .ok (.iload 8, 2) := by decide +kernel
theorem dX3_lookAtAllStates_68 : decode cX3_lookAtAllStates 68 = .ok (.iastore, 1) := by decide +kernel
theorem dX3_lookAtAllStates_69 : decode cX3_lookAtAllStates 69 = .ok (.aload_n 0, 1) := by decide +kernel
theorem dX3_lookAtAllStates_70 : decode cX3_lookAtAllStates 70 = .ok (.getfield 31, 3) := by decide +kernel
theorem dX3_lookAtAllStates_73 : decode cX3_lookAtAllStates 73 = .ok (.aload_n 0, 1) := by decide +kernel
theorem dX3_lookAtAllStates_74 : decode cX3_lookAtAllStates 74 = .ok (.invokevirtual 60, 3) := by decide +kernel
theorem dX3_lookAtAllStates_77 : decode cX3_lookAtAllStates 77 = .ok (.aload_n 0, 1) := by decide +kernel
theorem dX3_lookAtAllStates_78 : decode cX3_lookAtAllStates 78 = .ok (.invokevirtual 84, 3) := by decide +kernel
theorem dX3_lookAtAllStates_81 : decode cX3_lookAtAllStates 81 = .ok (.iastore, 1) := by decide +kernel
theorem dX3_lookAtAllStates_82 : decode cX3_lookAtAllStates 82 = .ok (.iinc 8 1, 3) := by decide +kernel
theorem dX3_lookAtAllStates_85 : decode cX3_lookAtAllStates 85 = .ok (.goto (-31), 3) := by decide +kernel
theorem dX3_lookAtAllStates_88 : decode cX3_lookAtAllStates 88 = .ok (.iinc 7 1, 3) := by decide +kernel
theorem dX3_lookAtAllStates_91 : decode cX3_lookAtAllStates 91 = .ok (.goto (-54), 3) := by decide +kernel
theorem dX3_lookAtAllStates_94 : decode cX3_lookAtAllStates 94 = .ok (.iinc 6 1, 3) := by decide +kernel
theorem dX3_lookAtAllStates_97 : decode cX3_lookAtAllStates 97 = .ok (.goto (-77), 3) := by decide +kernel
theorem dX3_lookAtAllStates_100 : decode cX3_lookAtAllStates 100 = .ok (.iinc 5 1, 3) := by decide +kernel
theorem dX3_lookAtAllStates_103 : decode cX3_lookAtAllStates 103 = .ok (.goto (-100), 3) := by decide +kernel
theorem dX3_lookAtAllStates_106 : decode cX3_lookAtAllStates 106 = .ok (.return_, 1) := by decide +kernel
set_option maxRecDepth 20000 in
theorem ggX3_leastWorst_X3_stateNow : GoodIn wsX3_leastWorst wsX3_stateNow := goodIn_r _ [10, 11, 12, 30, 31, 32, 33, 34, 35, 36] (by decide +kernel) (by decide +kernel)
set_option maxRecDepth 20000 in
theorem gX3_leastWorst_X3_stateNow : GoodIn wsX3_leastWorst (wsV RX3 60 RX3 yX3_stateNow wsX3_stateNow) := goodIn_app (goodIn_of _ (by decide +kernel)) ggX3_leastWorst_X3_stateNow
theorem dX3_leastWorst_0 : decode cX3_leastWorst 0 = .ok (.aload_n 0, 1) := by decide +kernel
theorem dX3_leastWorst_1 : decode cX3_leastWorst 1 = .ok (.invokevirtual 60, 3) := by decide +kernel
theorem dX3_leastWorst_4 : decode cX3_leastWorst 4 = .ok (.istore_n 1, 1) := by decide +kernel
theorem dX3_leastWorst_5 : decode cX3_leastWorst 5 = .ok (.iload_n 1, 1) := by decide +kernel
theorem dX3_leastWorst_6 : decode cX3_leastWorst 6 = .ok (.ifCond .ne 5, 3) := by decide +kernel
theorem dX3_leastWorst_9 : decode cX3_leastWorst 9 = .ok (.iconst 0, 1) := by decide +kernel
theorem dX3_leastWorst_10 : decode cX3_leastWorst 10 = .ok (.ireturn, 1) := by decide +kernel
theorem dX3_stateNow_0 : decode cX3_stateNow 0 = .ok (.iconst 0, 1) := by decide +kernel
theorem dX3_stateNow_1 : decode cX3_stateNow 1 = .ok (.istore_n 1, 1) := by decide +kernel
theorem dX3_stateNow_2 : decode cX3_stateNow 2 = .ok (.iconst 0, 1) := by decide +kernel
theorem dX3_stateNow_3 : decode cX3_stateNow 3 = .ok (.istore_n 2, 1) := by decide +kernel
theorem dX3_stateNow_4 : decode cX3_stateNow 4 = .ok (.iload_n 2, 1) := by decide +kernel
theorem dX3_stateNow_5 : decode cX3_stateNow 5 = .ok (.iconst 4, 1) := by decide +kernel
theorem dX3_stateNow_6 : decode cX3_stateNow 6 = .ok (.if_icmp .ge 24, 3) := by decide +kernel
theorem dX3_stateNow_9 : decode cX3_stateNow 9 = .ok (.iload_n 1, 1) := by decide +kernel
theorem dX3_stateNow_10 : decode cX3_stateNow 10 = .ok (.aload_n 0, 1) := by decide +kernel
theorem dX3_stateNow_11 : decode cX3_stateNow 11 = .ok (.getfield 25, 3) := by decide +kernel
theorem dX3_stateNow_14 : decode cX3_stateNow 14 = .ok (.iload_n 2, 1) := by decide +kernel
theorem dX3_stateNow_15 : decode cX3_stateNow 15 = .ok (.iaload, 1) := by decide +kernel
theorem dX3_stateNow_16 : decode cX3_stateNow 16 = .ok (.getstatic 103, 3) := by decide +kernel
theorem dX3_stateNow_19 : decode cX3_stateNow 19 = .ok (.iload_n 2, 1) := by decide +kernel
theorem dX3_stateNow_20 : decode cX3_stateNow 20 = .ok (.iaload, 1) := by decide +kernel
theorem dX3_stateNow_21 : decode cX3_stateNow 21 = .ok (.imul, 1) := by decide +kernel
theorem dX3_stateNow_22 : decode cX3_stateNow 22 = .ok (.iadd, 1) := by decide +kernel
theorem dX3_stateNow_23 : decode cX3_stateNow 23 = .ok (.istore_n 1, 1) := by decide +kernel
theorem dX3_stateNow_24 : decode cX3_stateNow 24 = .ok (.iinc 2 1, 3) := by decide +kernel
theorem dX3_stateNow_27 : decode cX3_stateNow 27 = .ok (.goto (-23), 3) := by decide +kernel
theorem dX3_stateNow_30 : decode cX3_stateNow 30 = .ok (.iload_n 1, 1) := by decide +kernel
theorem dX3_stateNow_31 : decode cX3_stateNow 31 = .ok (.ireturn, 1) := by decide +kernel
set_option maxRecDepth 20000 in
theorem ggX4_init_X8_init : GoodIn wsX4_init wsX8_init := goodIn_r _ [20, 21, 2, 3, 5, 22, 23, 24, 25, 26, 27, 28, 29, 30, 31, 42, 43, 44, 45, 46, 47, 48, 49, 50, 51] (by decide +kernel) (by decide +kernel)
set_option maxRecDepth 20000 in
theorem gX4_init_X8_init_n24 : GoodIn wsX4_init (wsX8_init) := ggX4_init_X8_init
theorem dX4_init_0 : decode cX4_init 0 = .ok (.aload_n 0, 1) := by decide +kernel
theorem dX4_init_1 : decode cX4_init 1 = .ok (.invokespecial 3, 3) := by decide +kernel
theorem dX4_init_4 : decode cX4_init 4 = .ok (.aload_n 0, 1) := by decide +kernel
theorem dX4_init_5 : decode cX4_init 5 = .ok (.iconst 0, 1) := by decide +kernel
theorem dX4_init_6 : decode cX4_init 6 = .ok (.putfield 9, 3) := by decide +kernel
theorem dX4_init_9 : decode cX4_init 9 = .ok (.aload_n 0, 1) := by decide +kernel
theorem dX4_init_10 : decode cX4_init 10 = .ok (.bipush 6, 2) := by decide +kernel
theorem dX4_init_12 : decode cX4_init 12 = .ok (.newarray .int, 2) := by decide +kernel
theorem dX4_init_14 : decode cX4_init 14 = .ok (.putfield 15, 3) := by decide +kernel
theorem dX4_init_17 : decode cX4_init 17 = .ok (.aload_n 0, 1) := by decide +kernel
theorem dX4_init_18 : decode cX4_init 18 = .ok (.bipush 6, 2) := by decide +kernel
theorem dX4_init_20 : decode cX4_init 20 = .ok (.newarray .int, 2) := by decide +kernel
theorem dX4_init_22 : decode cX4_init 22 = .ok (.putfield 19, 3) := by decide +kernel
theorem dX4_init_25 : decode cX4_init 25 = .ok (.aload_n 0, 1) := by decide +kernel
theorem dX4_init_26 : decode cX4_init 26 = .ok (.new 22, 3) := by decide +kernel
theorem dX4_init_29 : decode cX4_init 29 = .ok (.dup, 1) := by decide +kernel
theorem dX4_init_30 : decode cX4_init 30 = .ok (.invokespecial 24, 3) := by decide +kernel
theorem dX4_init_33 : decode cX4_init 33 = .ok (.putfield 25, 3) := by decide +kernel
theorem dX4_init_36 : decode cX4_init 36 = .ok (.aload_n 0, 1) := by decide +kernel
theorem dX4_init_37 : decode cX4_init 37 = .ok (.iconst 3, 1) := by decide +kernel
theorem dX4_init_38 : decode cX4_init 38 = .ok (.anewarray 29, 3) := by decide +kernel
theorem dX4_init_41 : decode cX4_init 41 = .ok (.putfield 31, 3) := by decide +kernel
theorem dX4_init_44 : decode cX4_init 44 = .ok (.aload_n 0, 1) := by decide +kernel
theorem dX4_init_45 : decode cX4_init 45 = .ok (.iconst 3, 1) := by decide +kernel
theorem dX4_init_46 : decode cX4_init 46 = .ok (.newarray .int, 2) := by decide +kernel
theorem dX4_init_48 : decode cX4_init 48 = .ok (.putfield 35, 3) := by decide +kernel
theorem dX4_init_51 : decode cX4_init 51 = .ok (.aload_n 0, 1) := by decide +kernel
theorem dX4_init_52 : decode cX4_init 52 = .ok (.iconst 3, 1) := by decide +kernel
theorem dX4_init_53 : decode cX4_init 53 = .ok (.newarray .int, 2) := by decide +kernel
theorem dX4_init_55 : decode cX4_init 55 = .ok (.putfield 38, 3) := by decide +kernel
theorem dX4_init_58 : decode cX4_init 58 = .ok (.aload_n 0, 1) := by decide +kernel
theorem dX4_init_59 : decode cX4_init 59 = .ok (.iconst 3, 1) := by decide +kernel
theorem dX4_init_60 : decode cX4_init 60 = .ok (.newarray .int, 2) := by decide +kernel
theorem dX4_init_62 : decode cX4_init 62 = .ok (.putfield 41, 3) := by decide +kernel
theorem dX4_init_65 : decode cX4_init 65 = .ok (.aload_n 0, 1) := by decide +kernel
theorem dX4_init_66 : decode cX4_init 66 = .ok (.iconst 3, 1) := by decide +kernel
theorem dX4_init_67 : decode cX4_init 67 = .ok (.newarray .int, 2) := by decide +kernel
theorem dX4_init_69 : decode cX4_init 69 = .ok (.putfield 44, 3) := by decide +kernel
theorem dX4_init_72 : decode cX4_init 72 = .ok (.aload_n 0, 1) := by decide +kernel
theorem dX4_init_73 : decode cX4_init 73 = .ok (.sipush 9261, 3) := by decide +kernel
theorem dX4_init_76 : decode cX4_init 76 = .ok (.newarray .int, 2) := by decide +kernel
theorem dX4_init_78 : decode cX4_init 78 = .ok (.putfield 47, 3) := by decide +kernel
theorem dX4_init_81 : decode cX4_init 81 = .ok (.return_, 1) := by decide +kernel
set_option maxRecDepth 20000 in
theorem ggX4_prepare_X8_copyFrom : GoodIn wsX4_prepare wsX8_copyFrom := goodIn_r _ [8, 9, 10, 11, 12, 13, 14, 15, 16, 17, 18, 19, 20, 21, 22, 39, 40, 41, 42, 43, 44, 45, 46, 47, 48] (by decide +kernel) (by decide +kernel)
set_option maxRecDepth 20000 in
theorem gX4_prepare_X8_copyFrom : GoodIn wsX4_prepare (wsV RX4 53 RX8 yX8_copyFrom wsX8_copyFrom) := goodIn_app (goodIn_of _ (by decide +kernel)) ggX4_prepare_X8_copyFrom
set_option maxRecDepth 20000 in
theorem ggX4_prepare_J7_fill_53178 : GoodIn wsX4_prepare wsJ7_fill_53178 := goodIn_r _ [26] (by decide +kernel) (by decide +kernel)
set_option maxRecDepth 20000 in
theorem gX4_prepare_J7_fill_53178 : GoodIn wsX4_prepare (va_wsS RX4 57 yJ7_fill_53178 wsJ7_fill_53178) := goodIn_app (goodIn_of _ (by decide +kernel)) ggX4_prepare_J7_fill_53178
theorem dX4_prepare_0 : decode cX4_prepare 0 = .ok (.aload_n 0, 1) := by decide +kernel
theorem dX4_prepare_1 : decode cX4_prepare 1 = .ok (.getfield 25, 3) := by decide +kernel
theorem dX4_prepare_4 : decode cX4_prepare 4 = .ok (.aload_n 1, 1) := by decide +kernel
theorem dX4_prepare_5 : decode cX4_prepare 5 = .ok (.getfield 50, 3) := by decide +kernel
theorem dX4_prepare_8 : decode cX4_prepare 8 = .ok (.invokevirtual 53, 3) := by decide +kernel
theorem dX4_prepare_11 : decode cX4_prepare 11 = .ok (.aload_n 0, 1) := by decide +kernel
theorem dX4_prepare_12 : decode cX4_prepare 12 = .ok (.getfield 47, 3) := by decide +kernel
theorem dX4_prepare_15 : decode cX4_prepare 15 = .ok (.iconst 0, 1) := by decide +kernel
theorem dX4_prepare_16 : decode cX4_prepare 16 = .ok (.invokestatic 57, 3) := by decide +kernel
theorem dX4_prepare_19 : decode cX4_prepare 19 = .ok (.return_, 1) := by decide +kernel
theorem dX4_want_0 : decode cX4_want 0 = .ok (.aload_n 0, 1) := by decide +kernel
theorem dX4_want_1 : decode cX4_want 1 = .ok (.getfield 31, 3) := by decide +kernel
theorem dX4_want_4 : decode cX4_want 4 = .ok (.iload_n 1, 1) := by decide +kernel
theorem dX4_want_5 : decode cX4_want 5 = .ok (.aload_n 3, 1) := by decide +kernel
theorem dX4_want_6 : decode cX4_want 6 = .ok (.aastore, 1) := by decide +kernel
theorem dX4_want_7 : decode cX4_want 7 = .ok (.aload_n 0, 1) := by decide +kernel
theorem dX4_want_8 : decode cX4_want 8 = .ok (.getfield 35, 3) := by decide +kernel
theorem dX4_want_11 : decode cX4_want 11 = .ok (.iload_n 1, 1) := by decide +kernel
theorem dX4_want_12 : decode cX4_want 12 = .ok (.iload_n 2, 1) := by decide +kernel
theorem dX4_want_13 : decode cX4_want 13 = .ok (.iastore, 1) := by decide +kernel
theorem dX4_want_14 : decode cX4_want 14 = .ok (.aload_n 0, 1) := by decide +kernel
theorem dX4_want_15 : decode cX4_want 15 = .ok (.getfield 38, 3) := by decide +kernel
theorem dX4_want_18 : decode cX4_want 18 = .ok (.iload_n 1, 1) := by decide +kernel
theorem dX4_want_19 : decode cX4_want 19 = .ok (.iconst 0, 1) := by decide +kernel
theorem dX4_want_20 : decode cX4_want 20 = .ok (.iastore, 1) := by decide +kernel
theorem dX4_want_21 : decode cX4_want 21 = .ok (.aload_n 0, 1) := by decide +kernel
theorem dX4_want_22 : decode cX4_want 22 = .ok (.getfield 41, 3) := by decide +kernel
theorem dX4_want_25 : decode cX4_want 25 = .ok (.iload_n 1, 1) := by decide +kernel
theorem dX4_want_26 : decode cX4_want 26 = .ok (.iconst 0, 1) := by decide +kernel
theorem dX4_want_27 : decode cX4_want 27 = .ok (.iastore, 1) := by decide +kernel
theorem dX4_want_28 : decode cX4_want 28 = .ok (.aload_n 0, 1) := by decide +kernel
theorem dX4_want_29 : decode cX4_want 29 = .ok (.getfield 44, 3) := by decide +kernel
theorem dX4_want_32 : decode cX4_want 32 = .ok (.iload_n 1, 1) := by decide +kernel
theorem dX4_want_33 : decode cX4_want 33 = .ok (.iconst 1, 1) := by decide +kernel
theorem dX4_want_34 : decode cX4_want 34 = .ok (.iastore, 1) := by decide +kernel
theorem dX4_want_35 : decode cX4_want 35 = .ok (.iconst 0, 1) := by decide +kernel
theorem dX4_want_36 : decode cX4_want 36 = .ok (.istore 4, 2) := by decide +kernel
theorem dX4_want_38 : decode cX4_want 38 = .ok (.iload 4, 2) := by decide +kernel
theorem dX4_want_40 : decode cX4_want 40 = .ok (.iload_n 2, 1) := by decide +kernel
theorem dX4_want_41 : decode cX4_want 41 = .ok (.if_icmp .ge 32, 3) := by decide +kernel
theorem dX4_want_73 : decode cX4_want 73 = .ok (.return_, 1) := by decide +kernel
set_option maxRecDepth 20000 in
theorem ggX4_findBest_X4_leastWorst : GoodIn wsX4_findBest wsX4_leastWorst := goodIn_r _ [11, 12, 1, 13, 14, 15, 10, 16, 17, 18, 19, 20, 21, 22, 23, 24, 25, 26, 27, 28, 29, 30, 4, 31, 2, 3, 5, 32, 33, 34, 35, 36, 37, 38, 39, 40, 41, 42, 43, 44, 45, 46, 47, 48, 49, 50, 51, 52, 53, 54, 55, 56, 57, 58, 59, 60, 61, 62, 63, 64, 65, 66, 67, 68, 69, 70, 71, 72, 73, 74, 75, 76, 77, 78, 79, 80, 81, 82, 83, 84, 85, 86, 87, 88, 89, 7, 8, 9, 90, 91, 92, 93, 100, 101, 102, 103, 104, 105, 106, 107, 108, 109, 110, 111, 112, 113, 114, 115, 116, 117, 118, 119, 120, 121, 122, 123, 124, 125, 126, 127, 128, 129, 130, 131, 132, 133, 134] (by decide +kernel) (by decide +kernel)
set_option maxRecDepth 20000 in
theorem gX4_findBest_X4_leastWorst : GoodIn wsX4_findBest (wsV RX4 63 RX4 yX4_leastWorst wsX4_leastWorst) := goodIn_app (goodIn_of _ (by decide +kernel)) ggX4_findBest_X4_leastWorst
set_option maxRecDepth 20000 in
theorem ggX4_findBest_X4_allWanted : GoodIn wsX4_findBest wsX4_allWanted := goodIn_r _ [22, 23, 100, 101, 102, 103, 104, 105, 106, 107, 108, 109] (by decide +kernel) (by decide +kernel)
set_option maxRecDepth 20000 in
theorem gX4_findBest_X4_allWanted : GoodIn wsX4_findBest (wsV RX4 68 RX4 yX4_allWanted wsX4_allWanted) := goodIn_app (goodIn_of _ (by decide +kernel)) ggX4_findBest_X4_allWanted
theorem dX4_findBest_0 : decode cX4_findBest 0 = .ok (.aload_n 0, 1) := by decide +kernel
theorem dX4_findBest_1 : decode cX4_findBest 1 = .ok (.iconst 0, 1) := by decide +kernel
theorem dX4_findBest_2 : decode cX4_findBest 2 = .ok (.invokevirtual 63, 3) := by decide +kernel
theorem dX4_findBest_5 : decode cX4_findBest 5 = .ok (.istore_n 1, 1) := by decide +kernel
theorem dX4_findBest_6 : decode cX4_findBest 6 = .ok (.iload_n 1, 1) := by decide +kernel
theorem dX4_findBest_7 : decode cX4_findBest 7 = .ok (.ldc 67, 2) := by decide +kernel
theorem dX4_findBest_9 : decode cX4_findBest 9 = .ok (.if_icmp .lt 5, 3) := by decide +kernel
theorem dX4_findBest_14 : decode cX4_findBest 14 = .ok (.aload_n 0, 1) := by decide +kernel
theorem dX4_findBest_15 : decode cX4_findBest 15 = .ok (.aload_n 0, 1) := by decide +kernel
theorem dX4_findBest_16 : decode cX4_findBest 16 = .ok (.invokevirtual 68, 3) := by decide +kernel
theorem dX4_findBest_19 : decode cX4_findBest 19 = .ok (.bipush 6, 2) := by decide +kernel
theorem dX4_findBest_21 : decode cX4_findBest 21 = .ok (.invokestatic 72, 3) := by decide +kernel
theorem dX4_findBest_24 : decode cX4_findBest 24 = .ok (.putfield 9, 3) := by decide +kernel
theorem dX4_findBest_27 : decode cX4_findBest 27 = .ok (.iconst 0, 1) := by decide +kernel
theorem dX4_findBest_28 : decode cX4_findBest 28 = .ok (.istore_n 2, 1) := by decide +kernel
theorem dX4_findBest_29 : decode cX4_findBest 29 = .ok (.iload_n 2, 1) := by decide +kernel
theorem dX4_findBest_30 : decode cX4_findBest 30 = .ok (.aload_n 0, 1) := by decide +kernel
theorem dX4_findBest_31 : decode cX4_findBest 31 = .ok (.getfield 9, 3) := by decide +kernel
theorem dX4_findBest_34 : decode cX4_findBest 34 = .ok (.if_icmp .ge 15, 3) := by decide +kernel
theorem dX4_findBest_49 : decode cX4_findBest 49 = .ok (.iload_n 1, 1) := by decide +kernel
theorem dX4_findBest_50 : decode cX4_findBest 50 = .ok (.ireturn, 1) := by decide +kernel
theorem dX4_allWanted_0 : decode cX4_allWanted 0 = .ok (.aload_n 0, 1) := by decide +kernel
theorem dX4_allWanted_1 : decode cX4_allWanted 1 = .ok (.getfield 35, 3) := by decide +kernel
theorem dX4_allWanted_4 : decode cX4_allWanted 4 = .ok (.iconst 0, 1) := by decide +kernel
theorem dX4_allWanted_5 : decode cX4_allWanted 5 = .ok (.iaload, 1) := by decide +kernel
theorem dX4_allWanted_6 : decode cX4_allWanted 6 = .ok (.aload_n 0, 1) := by decide +kernel
theorem dX4_allWanted_7 : decode cX4_allWanted 7 = .ok (.getfield 35, 3) := by decide +kernel
theorem dX4_allWanted_10 : decode cX4_allWanted 10 = .ok (.iconst 1, 1) := by decide +kernel
theorem dX4_allWanted_11 : decode cX4_allWanted 11 = .ok (.iaload, 1) := by decide +kernel
theorem dX4_allWanted_12 : decode cX4_allWanted 12 = .ok (.iadd, 1) := by decide +kernel
theorem dX4_allWanted_13 : decode cX4_allWanted 13 = .ok (.aload_n 0, 1) := by decide +kernel
theorem dX4_allWanted_14 : decode cX4_allWanted 14 = .ok (.getfield 35, 3) := by decide +kernel
theorem dX4_allWanted_17 : decode cX4_allWanted 17 = .ok (.iconst 2, 1) := by decide +kernel
theorem dX4_allWanted_18 : decode cX4_allWanted 18 = .ok (.iaload, 1) := by decide +kernel
theorem dX4_allWanted_19 : decode cX4_allWanted 19 = .ok (.iadd, 1) := by decide +kernel
theorem dX4_allWanted_20 : decode cX4_allWanted 20 = .ok (.ireturn, 1) := by decide +kernel
set_option maxRecDepth 20000 in
theorem ggX4_leastWorst_X4_stateNow : GoodIn wsX4_leastWorst wsX4_stateNow := goodIn_r _ [7, 8, 9, 92, 93, 94, 95, 96, 97, 98, 99, 100, 101] (by decide +kernel) (by decide +kernel)
set_option maxRecDepth 20000 in
theorem gX4_leastWorst_X4_stateNow : GoodIn wsX4_leastWorst (wsV RX4 82 RX4 yX4_stateNow wsX4_stateNow) := goodIn_app (goodIn_of _ (by decide +kernel)) ggX4_leastWorst_X4_stateNow
set_option maxRecDepth 20000 in
theorem ggX4_leastWorst_X4_allWanted : GoodIn wsX4_leastWorst wsX4_allWanted := goodIn_r _ [13, 14, 92, 93, 94, 95, 96, 97, 98, 99, 100, 101] (by decide +kernel) (by decide +kernel)
set_option maxRecDepth 20000 in
theorem gX4_leastWorst_X4_allWanted : GoodIn wsX4_leastWorst (wsV RX4 68 RX4 yX4_allWanted wsX4_allWanted) := goodIn_app (goodIn_of _ (by decide +kernel)) ggX4_leastWorst_X4_allWanted
theorem dX4_leastWorst_0 : decode cX4_leastWorst 0 = .ok (.aload_n 0, 1) := by decide +kernel
theorem dX4_leastWorst_1 : decode cX4_leastWorst 1 = .ok (.invokevirtual 82, 3) := by decide +kernel
theorem dX4_leastWorst_4 : decode cX4_leastWorst 4 = .ok (.istore_n 2, 1) := by decide +kernel
theorem dX4_leastWorst_5 : decode cX4_leastWorst 5 = .ok (.iload_n 1, 1) := by decide +kernel
theorem dX4_leastWorst_6 : decode cX4_leastWorst 6 = .ok (.bipush 6, 2) := by decide +kernel
theorem dX4_leastWorst_8 : decode cX4_leastWorst 8 = .ok (.if_icmp .ge 18, 3) := by decide +kernel
theorem dX4_leastWorst_11 : decode cX4_leastWorst 11 = .ok (.iload_n 1, 1) := by decide +kernel
theorem dX4_leastWorst_12 : decode cX4_leastWorst 12 = .ok (.aload_n 0, 1) := by decide +kernel
theorem dX4_leastWorst_13 : decode cX4_leastWorst 13 = .ok (.invokevirtual 68, 3) := by decide +kernel
theorem dX4_leastWorst_16 : decode cX4_leastWorst 16 = .ok (.if_icmp .ge 10, 3) := by decide +kernel
theorem dX4_leastWorst_26 : decode cX4_leastWorst 26 = .ok (.iconst 0, 1) := by decide +kernel
theorem dX4_leastWorst_27 : decode cX4_leastWorst 27 = .ok (.ireturn, 1) := by decide +kernel
theorem dX4_stateNow_0 : decode cX4_stateNow 0 = .ok (.aload_n 0, 1) := by decide +kernel
theorem dX4_stateNow_1 : decode cX4_stateNow 1 = .ok (.getfield 41, 3) := by decide +kernel
theorem dX4_stateNow_4 : decode cX4_stateNow 4 = .ok (.iconst 0, 1) := by decide +kernel
theorem dX4_stateNow_5 : decode cX4_stateNow 5 = .ok (.iaload, 1) := by decide +kernel
theorem dX4_stateNow_6 : decode cX4_stateNow 6 = .ok (.aload_n 0, 1) := by decide +kernel
theorem dX4_stateNow_7 : decode cX4_stateNow 7 = .ok (.getfield 44, 3) := by decide +kernel
theorem dX4_stateNow_10 : decode cX4_stateNow 10 = .ok (.iconst 1, 1) := by decide +kernel
theorem dX4_stateNow_11 : decode cX4_stateNow 11 = .ok (.iaload, 1) := by decide +kernel
theorem dX4_stateNow_12 : decode cX4_stateNow 12 = .ok (.imul, 1) := by decide +kernel
theorem dX4_stateNow_13 : decode cX4_stateNow 13 = .ok (.aload_n 0, 1) := by decide +kernel
theorem dX4_stateNow_14 : decode cX4_stateNow 14 = .ok (.getfield 41, 3) := by decide +kernel
theorem dX4_stateNow_17 : decode cX4_stateNow 17 = .ok (.iconst 1, 1) := by decide +kernel
theorem dX4_stateNow_18 : decode cX4_stateNow 18 = .ok (.iaload, 1) := by decide +kernel
theorem dX4_stateNow_19 : decode cX4_stateNow 19 = .ok (.iadd, 1) := by decide +kernel
theorem dX4_stateNow_20 : decode cX4_stateNow 20 = .ok (.aload_n 0, 1) := by decide +kernel
theorem dX4_stateNow_21 : decode cX4_stateNow 21 = .ok (.getfield 44, 3) := by decide +kernel
theorem dX4_stateNow_24 : decode cX4_stateNow 24 = .ok (.iconst 2, 1) := by decide +kernel
theorem dX4_stateNow_25 : decode cX4_stateNow 25 = .ok (.iaload, 1) := by decide +kernel
theorem dX4_stateNow_26 : decode cX4_stateNow 26 = .ok (.imul, 1) := by decide +kernel
theorem dX4_stateNow_27 : decode cX4_stateNow 27 = .ok (.aload_n 0, 1) := by decide +kernel
theorem dX4_stateNow_28 : decode cX4_stateNow 28 = .ok (.getfield 41, 3) := by decide +kernel
theorem dX4_stateNow_31 : decode cX4_stateNow 31 = .ok (.iconst 2, 1) := by decide +kernel
theorem dX4_stateNow_32 : decode cX4_stateNow 32 = .ok (.iaload, 1) := by decide +kernel
theorem dX4_stateNow_33 : decode cX4_stateNow 33 = .ok (.iadd, 1) := by decide +kernel
theorem dX4_stateNow_34 : decode cX4_stateNow 34 = .ok (.ireturn, 1) := by decide +kernel
theorem dX5_init_0 : decode cX5_init 0 = .ok (.aload_n 0, 1) := by decide +kernel
theorem dX5_init_1 : decode cX5_init 1 = .ok (.invokespecial 1, 3) := by decide +kernel
theorem dX5_init_4 : decode cX5_init 4 = .ok (.aload_n 0, 1) := by decide +kernel
theorem dX5_init_5 : decode cX5_init 5 = .ok (.iconst 0, 1) := by decide +kernel
theorem dX5_init_6 : decode cX5_init 6 = .ok (.putfield 7, 3) := by decide +kernel
theorem dX5_init_9 : decode cX5_init 9 = .ok (.aload_n 0, 1) := by decide +kernel
theorem dX5_init_10 : decode cX5_init 10 = .ok (.iconst 0, 1) := by decide +kernel
theorem dX5_init_11 : decode cX5_init 11 = .ok (.putfield 13, 3) := by decide +kernel
theorem dX5_init_14 : decode cX5_init 14 = .ok (.aload_n 0, 1) := by decide +kernel
theorem dX5_init_15 : decode cX5_init 15 = .ok (.iload_n 1, 1) := by decide +kernel
theorem dX5_init_16 : decode cX5_init 16 = .ok (.iconst 0, 1) := by decide +kernel
theorem dX5_init_17 : decode cX5_init 17 = .ok (.invokestatic 16, 3) := by decide +kernel
theorem dX5_init_20 : decode cX5_init 20 = .ok (.anewarray 22, 3) := by decide +kernel
theorem dX5_init_23 : decode cX5_init 23 = .ok (.putfield 24, 3) := by decide +kernel
theorem dX5_init_26 : decode cX5_init 26 = .ok (.return_, 1) := by decide +kernel
set_option maxRecDepth 20000 in
theorem ggX5_wagonAt_X11_isWithin : GoodIn wsX5_wagonAt wsX11_isWithin := goodIn_r _ [5] (by decide +kernel) (by decide +kernel)
set_option maxRecDepth 20000 in
theorem gX5_wagonAt_X11_isWithin_n28 : GoodIn wsX5_wagonAt (wsX11_isWithin) := ggX5_wagonAt_X11_isWithin
theorem dX5_wagonAt_0 : decode cX5_wagonAt 0 = .ok (.iload_n 1, 1) := by decide +kernel
theorem dX5_wagonAt_1 : decode cX5_wagonAt 1 = .ok (.iconst 0, 1) := by decide +kernel
theorem dX5_wagonAt_2 : decode cX5_wagonAt 2 = .ok (.aload_n 0, 1) := by decide +kernel
theorem dX5_wagonAt_3 : decode cX5_wagonAt 3 = .ok (.getfield 7, 3) := by decide +kernel
theorem dX5_wagonAt_6 : decode cX5_wagonAt 6 = .ok (.iconst 1, 1) := by decide +kernel
theorem dX5_wagonAt_7 : decode cX5_wagonAt 7 = .ok (.isub, 1) := by decide +kernel
theorem dX5_wagonAt_8 : decode cX5_wagonAt 8 = .ok (.invokestatic 28, 3) := by decide +kernel
theorem dX5_wagonAt_11 : decode cX5_wagonAt 11 = .ok (.ifCond .eq 12, 3) := by decide +kernel
theorem dX5_wagonAt_23 : decode cX5_wagonAt 23 = .ok (.aconst_null, 1) := by decide +kernel
theorem dX5_wagonAt_24 : decode cX5_wagonAt 24 = .ok (.areturn, 1) := by decide +kernel
theorem dX5_hasRoom_0 : decode cX5_hasRoom 0 = .ok (.aload_n 0, 1) := by decide +kernel
theorem dX5_hasRoom_1 : decode cX5_hasRoom 1 = .ok (.getfield 7, 3) := by decide +kernel
theorem dX5_hasRoom_4 : decode cX5_hasRoom 4 = .ok (.aload_n 0, 1) := by decide +kernel
theorem dX5_hasRoom_5 : decode cX5_hasRoom 5 = .ok (.getfield 24, 3) := by decide +kernel
theorem dX5_hasRoom_8 : decode cX5_hasRoom 8 = .ok (.arraylength, 1) := by decide +kernel
theorem dX5_hasRoom_9 : decode cX5_hasRoom 9 = .ok (.if_icmp .ge 17, 3) := by decide +kernel
theorem dX5_hasRoom_12 : decode cX5_hasRoom 12 = .ok (.aload_n 0, 1) := by decide +kernel
theorem dX5_hasRoom_13 : decode cX5_hasRoom 13 = .ok (.getfield 13, 3) := by decide +kernel
theorem dX5_hasRoom_16 : decode cX5_hasRoom 16 = .ok (.iload_n 1, 1) := by decide +kernel
theorem dX5_hasRoom_17 : decode cX5_hasRoom 17 = .ok (.iadd, 1) := by decide +kernel
theorem dX5_hasRoom_18 : decode cX5_hasRoom 18 = .ok (.iload_n 2, 1) := by decide +kernel
theorem dX5_hasRoom_19 : decode cX5_hasRoom 19 = .ok (.if_icmp .gt 7, 3) := by decide +kernel
theorem dX5_hasRoom_22 : decode cX5_hasRoom 22 = .ok (.iconst 1, 1) := by decide +kernel
theorem dX5_hasRoom_23 : decode cX5_hasRoom 23 = .ok (.goto 4, 3) := by decide +kernel
theorem dX5_hasRoom_27 : decode cX5_hasRoom 27 = .ok (.ireturn, 1) := by decide +kernel
theorem dX5_add_0 : decode cX5_add 0 = .ok (.aload_n 0, 1) := by decide +kernel
theorem dX5_add_1 : decode cX5_add 1 = .ok (.getfield 7, 3) := by decide +kernel
theorem dX5_add_4 : decode cX5_add 4 = .ok (.aload_n 0, 1) := by decide +kernel
theorem dX5_add_5 : decode cX5_add 5 = .ok (.getfield 24, 3) := by decide +kernel
theorem dX5_add_8 : decode cX5_add 8 = .ok (.arraylength, 1) := by decide +kernel
theorem dX5_add_9 : decode cX5_add 9 = .ok (.if_icmp .ge 36, 3) := by decide +kernel
theorem dX5_add_12 : decode cX5_add 12 = .ok (.aload_n 0, 1) := by decide +kernel
theorem dX5_add_13 : decode cX5_add 13 = .ok (.getfield 24, 3) := by decide +kernel
theorem dX5_add_16 : decode cX5_add 16 = .ok (.aload_n 0, 1) := by decide +kernel
theorem dX5_add_17 : decode cX5_add 17 = .ok (.getfield 7, 3) := by decide +kernel
theorem dX5_add_20 : decode cX5_add 20 = .ok (.aload_n 1, 1) := by decide +kernel
theorem dX5_add_21 : decode cX5_add 21 = .ok (.aastore, 1) := by decide +kernel
theorem dX5_add_22 : decode cX5_add 22 = .ok (.aload_n 0, 1) := by decide +kernel
theorem dX5_add_23 : decode cX5_add 23 = .ok (.dup, 1) := by decide +kernel
theorem dX5_add_24 : decode cX5_add 24 = .ok (.getfield 7, 3) := by decide +kernel
theorem dX5_add_27 : decode cX5_add 27 = .ok (.iconst 1, 1) := by decide +kernel
theorem dX5_add_28 : decode cX5_add 28 = .ok (.iadd, 1) := by decide +kernel
theorem dX5_add_29 : decode cX5_add 29 = .ok (.putfield 7, 3) := by decide +kernel
theorem dX5_add_32 : decode cX5_add 32 = .ok (.aload_n 0, 1) := by decide +kernel
theorem dX5_add_33 : decode cX5_add 33 = .ok (.dup, 1) := by decide +kernel
theorem dX5_add_34 : decode cX5_add 34 = .ok (.getfield 13, 3) := by decide +kernel
theorem dX5_add_37 : decode cX5_add 37 = .ok (.aload_n 1, 1) := by decide +kernel
theorem dX5_add_38 : decode cX5_add 38 = .ok (.getfield 34, 3) := by decide +kernel
theorem dX5_add_41 : decode cX5_add 41 = .ok (.iadd, 1) := by decide +kernel
theorem dX5_add_42 : decode cX5_add 42 = .ok (.putfield 13, 3) := by decide +kernel
theorem dX5_add_45 : decode cX5_add 45 = .ok (.return_, 1) := by decide +kernel
theorem dX6_init_0 : decode cX6_init 0 = .ok (.aload_n 0, 1) := by decide +kernel
theorem dX6_init_1 : decode cX6_init 1 = .ok (.invokespecial 3, 3) := by decide +kernel
theorem dX6_init_4 : decode cX6_init 4 = .ok (.aload_n 0, 1) := by decide +kernel
theorem dX6_init_5 : decode cX6_init 5 = .ok (.iconst 0, 1) := by decide +kernel
theorem dX6_init_6 : decode cX6_init 6 = .ok (.putfield 9, 3) := by decide +kernel
theorem dX6_init_9 : decode cX6_init 9 = .ok (.aload_n 0, 1) := by decide +kernel
theorem dX6_init_10 : decode cX6_init 10 = .ok (.iconst (-1), 1) := by decide +kernel
theorem dX6_init_11 : decode cX6_init 11 = .ok (.putfield 15, 3) := by decide +kernel
theorem dX6_init_14 : decode cX6_init 14 = .ok (.aload_n 0, 1) := by decide +kernel
theorem dX6_init_15 : decode cX6_init 15 = .ok (.iload_n 1, 1) := by decide +kernel
theorem dX6_init_16 : decode cX6_init 16 = .ok (.iconst 0, 1) := by decide +kernel
theorem dX6_init_17 : decode cX6_init 17 = .ok (.invokestatic 18, 3) := by decide +kernel
theorem dX6_init_20 : decode cX6_init 20 = .ok (.newarray .int, 2) := by decide +kernel
theorem dX6_init_22 : decode cX6_init 22 = .ok (.putfield 24, 3) := by decide +kernel
theorem dX6_init_25 : decode cX6_init 25 = .ok (.aload_n 0, 1) := by decide +kernel
theorem dX6_init_26 : decode cX6_init 26 = .ok (.iload_n 1, 1) := by decide +kernel
theorem dX6_init_27 : decode cX6_init 27 = .ok (.iconst 0, 1) := by decide +kernel
theorem dX6_init_28 : decode cX6_init 28 = .ok (.invokestatic 18, 3) := by decide +kernel
theorem dX6_init_31 : decode cX6_init 31 = .ok (.newarray .int, 2) := by decide +kernel
theorem dX6_init_33 : decode cX6_init 33 = .ok (.putfield 28, 3) := by decide +kernel
theorem dX6_init_36 : decode cX6_init 36 = .ok (.return_, 1) := by decide +kernel
theorem dX6_tell_0 : decode cX6_tell 0 = .ok (.aload_n 0, 1) := by decide +kernel
theorem dX6_tell_1 : decode cX6_tell 1 = .ok (.getfield 9, 3) := by decide +kernel
theorem dX6_tell_4 : decode cX6_tell 4 = .ok (.aload_n 0, 1) := by decide +kernel
theorem dX6_tell_5 : decode cX6_tell 5 = .ok (.getfield 24, 3) := by decide +kernel
theorem dX6_tell_8 : decode cX6_tell 8 = .ok (.arraylength, 1) := by decide +kernel
theorem dX6_tell_9 : decode cX6_tell 9 = .ok (.if_icmp .lt 4, 3) := by decide +kernel
theorem dX6_tell_13 : decode cX6_tell 13 = .ok (.aload_n 0, 1) := by decide +kernel
theorem dX6_tell_14 : decode cX6_tell 14 = .ok (.getfield 9, 3) := by decide +kernel
theorem dX6_tell_17 : decode cX6_tell 17 = .ok (.istore_n 3, 1) := by decide +kernel
theorem dX6_tell_18 : decode cX6_tell 18 = .ok (.iload_n 3, 1) := by decide +kernel
theorem dX6_tell_19 : decode cX6_tell 19 = .ok (.ifCond .le 49, 3) := by decide +kernel
theorem dX6_tell_68 : decode cX6_tell 68 = .ok (.aload_n 0, 1) := by decide +kernel
theorem dX6_tell_69 : decode cX6_tell 69 = .ok (.getfield 24, 3) := by decide +kernel
theorem dX6_tell_72 : decode cX6_tell 72 = .ok (.iload_n 3, 1) := by decide +kernel
theorem dX6_tell_73 : decode cX6_tell 73 = .ok (.iload_n 1, 1) := by decide +kernel
theorem dX6_tell_74 : decode cX6_tell 74 = .ok (.iastore, 1) := by decide +kernel
theorem dX6_tell_75 : decode cX6_tell 75 = .ok (.aload_n 0, 1) := by decide +kernel
theorem dX6_tell_76 : decode cX6_tell 76 = .ok (.getfield 28, 3) := by decide +kernel
theorem dX6_tell_79 : decode cX6_tell 79 = .ok (.iload_n 3, 1) := by decide +kernel
theorem dX6_tell_80 : decode cX6_tell 80 = .ok (.iload_n 2, 1) := by decide +kernel
theorem dX6_tell_81 : decode cX6_tell 81 = .ok (.iastore, 1) := by decide +kernel
theorem dX6_tell_82 : decode cX6_tell 82 = .ok (.aload_n 0, 1) := by decide +kernel
theorem dX6_tell_83 : decode cX6_tell 83 = .ok (.dup, 1) := by decide +kernel
theorem dX6_tell_84 : decode cX6_tell 84 = .ok (.getfield 9, 3) := by decide +kernel
theorem dX6_tell_87 : decode cX6_tell 87 = .ok (.iconst 1, 1) := by decide +kernel
theorem dX6_tell_88 : decode cX6_tell 88 = .ok (.iadd, 1) := by decide +kernel
theorem dX6_tell_89 : decode cX6_tell 89 = .ok (.putfield 9, 3) := by decide +kernel
theorem dX6_tell_92 : decode cX6_tell 92 = .ok (.return_, 1) := by decide +kernel
theorem dX6_hasValueIn_0 : decode cX6_hasValueIn 0 = .ok (.aload_n 0, 1) := by decide +kernel
theorem dX6_hasValueIn_1 : decode cX6_hasValueIn 1 = .ok (.getfield 15, 3) := by decide +kernel
theorem dX6_hasValueIn_4 : decode cX6_hasValueIn 4 = .ok (.iconst 1, 1) := by decide +kernel
theorem dX6_hasValueIn_5 : decode cX6_hasValueIn 5 = .ok (.iadd, 1) := by decide +kernel
theorem dX6_hasValueIn_6 : decode cX6_hasValueIn 6 = .ok (.aload_n 0, 1) := by decide +kernel
theorem dX6_hasValueIn_7 : decode cX6_hasValueIn 7 = .ok (.getfield 9, 3) := by decide +kernel
theorem dX6_hasValueIn_10 : decode cX6_hasValueIn 10 = .ok (.if_icmp .ge 31, 3) := by decide +kernel
theorem dX6_hasValueIn_41 : decode cX6_hasValueIn 41 = .ok (.aload_n 0, 1) := by decide +kernel
theorem dX6_hasValueIn_42 : decode cX6_hasValueIn 42 = .ok (.getfield 15, 3) := by decide +kernel
theorem dX6_hasValueIn_45 : decode cX6_hasValueIn 45 = .ok (.ifCond .lt 7, 3) := by decide +kernel
theorem dX6_hasValueIn_52 : decode cX6_hasValueIn 52 = .ok (.iconst 0, 1) := by decide +kernel
theorem dX6_hasValueIn_53 : decode cX6_hasValueIn 53 = .ok (.ireturn, 1) := by decide +kernel
set_option maxRecDepth 20000 in
theorem ggX6_valueIn_X6_hasValueIn : GoodIn wsX6_valueIn wsX6_hasValueIn := goodIn_r _ [7, 2, 8, 9, 10, 11, 12, 13] (by decide +kernel) (by decide +kernel)
set_option maxRecDepth 20000 in
theorem gX6_valueIn_X6_hasValueIn : GoodIn wsX6_valueIn (wsV RX6 31 RX6 yX6_hasValueIn wsX6_hasValueIn) := goodIn_app (goodIn_of _ (by decide +kernel)) ggX6_valueIn_X6_hasValueIn
theorem dX6_valueIn_0 : decode cX6_valueIn 0 = .ok (.aload_n 0, 1) := by decide +kernel
theorem dX6_valueIn_1 : decode cX6_valueIn 1 = .ok (.iload_n 1, 1) := by decide +kernel
theorem dX6_valueIn_2 : decode cX6_valueIn 2 = .ok (.invokevirtual 31, 3) := by decide +kernel
theorem dX6_valueIn_5 : decode cX6_valueIn 5 = .ok (.ifCond .eq 15, 3) := by decide +kernel
theorem dX6_valueIn_20 : decode cX6_valueIn 20 = .ok (.iload_n 2, 1) := by decide +kernel
theorem dX6_valueIn_21 : decode cX6_valueIn 21 = .ok (.ireturn, 1) := by decide +kernel
set_option maxRecDepth 20000 in
theorem ggX7_init_X5_init : GoodIn wsX7_init wsX5_init := goodIn_r _ [15, 16, 2, 3, 17, 18, 19, 20, 21, 22, 23, 24, 35, 36, 37] (by decide +kernel) (by decide +kernel)
set_option maxRecDepth 20000 in
theorem gX7_init_X5_init : GoodIn wsX7_init (wsX5_init) := ggX7_init_X5_init
set_option maxRecDepth 20000 in
theorem ggX7_init_X6_init : GoodIn wsX7_init wsX6_init := goodIn_r _ [27, 28, 2, 3, 29, 30, 31, 20, 21, 22, 32, 33, 34, 41, 42, 43, 44] (by decide +kernel) (by decide +kernel)
set_option maxRecDepth 20000 in
theorem gX7_init_X6_init : GoodIn wsX7_init (wsX6_init) := ggX7_init_X6_init
theorem dX7_init_0 : decode cX7_init 0 = .ok (.aload_n 0, 1) := by decide +kernel
theorem dX7_init_1 : decode cX7_init 1 = .ok (.invokespecial 3, 3) := by decide +kernel
theorem dX7_init_4 : decode cX7_init 4 = .ok (.aload_n 0, 1) := by decide +kernel
theorem dX7_init_5 : decode cX7_init 5 = .ok (.iconst 3, 1) := by decide +kernel
theorem dX7_init_6 : decode cX7_init 6 = .ok (.anewarray 9, 3) := by decide +kernel
theorem dX7_init_9 : decode cX7_init 9 = .ok (.dup, 1) := by decide +kernel
theorem dX7_init_10 : decode cX7_init 10 = .ok (.iconst 0, 1) := by decide +kernel
theorem dX7_init_11 : decode cX7_init 11 = .ok (.new 9, 3) := by decide +kernel
theorem dX7_init_14 : decode cX7_init 14 = .ok (.dup, 1) := by decide +kernel
theorem dX7_init_15 : decode cX7_init 15 = .ok (.bipush 33, 2) := by decide +kernel
theorem dX7_init_17 : decode cX7_init 17 = .ok (.invokespecial 11, 3) := by decide +kernel
theorem dX7_init_20 : decode cX7_init 20 = .ok (.aastore, 1) := by decide +kernel
theorem dX7_init_21 : decode cX7_init 21 = .ok (.dup, 1) := by decide +kernel
theorem dX7_init_22 : decode cX7_init 22 = .ok (.iconst 1, 1) := by decide +kernel
theorem dX7_init_23 : decode cX7_init 23 = .ok (.new 9, 3) := by decide +kernel
theorem dX7_init_26 : decode cX7_init 26 = .ok (.dup, 1) := by decide +kernel
theorem dX7_init_27 : decode cX7_init 27 = .ok (.bipush 33, 2) := by decide +kernel
theorem dX7_init_29 : decode cX7_init 29 = .ok (.invokespecial 11, 3) := by decide +kernel
theorem dX7_init_32 : decode cX7_init 32 = .ok (.aastore, 1) := by decide +kernel
theorem dX7_init_33 : decode cX7_init 33 = .ok (.dup, 1) := by decide +kernel
theorem dX7_init_34 : decode cX7_init 34 = .ok (.iconst 2, 1) := by decide +kernel
theorem dX7_init_35 : decode cX7_init 35 = .ok (.new 9, 3) := by decide +kernel
theorem dX7_init_38 : decode cX7_init 38 = .ok (.dup, 1) := by decide +kernel
theorem dX7_init_39 : decode cX7_init 39 = .ok (.bipush 33, 2) := by decide +kernel
theorem dX7_init_41 : decode cX7_init 41 = .ok (.invokespecial 11, 3) := by decide +kernel
theorem dX7_init_44 : decode cX7_init 44 = .ok (.aastore, 1) := by decide +kernel
theorem dX7_init_45 : decode cX7_init 45 = .ok (.putfield 14, 3) := by decide +kernel
theorem dX7_init_48 : decode cX7_init 48 = .ok (.aload_n 0, 1) := by decide +kernel
theorem dX7_init_49 : decode cX7_init 49 = .ok (.new 20, 3) := by decide +kernel
theorem dX7_init_52 : decode cX7_init 52 = .ok (.dup, 1) := by decide +kernel
theorem dX7_init_53 : decode cX7_init 53 = .ok (.sipush 200, 3) := by decide +kernel
theorem dX7_init_56 : decode cX7_init 56 = .ok (.invokespecial 22, 3) := by decide +kernel
theorem dX7_init_59 : decode cX7_init 59 = .ok (.putfield 23, 3) := by decide +kernel
theorem dX7_init_62 : decode cX7_init 62 = .ok (.aload_n 0, 1) := by decide +kernel
theorem dX7_init_63 : decode cX7_init 63 = .ok (.iconst 0, 1) := by decide +kernel
theorem dX7_init_64 : decode cX7_init 64 = .ok (.putfield 27, 3) := by decide +kernel
theorem dX7_init_67 : decode cX7_init 67 = .ok (.return_, 1) := by decide +kernel
theorem dX8_init_0 : decode cX8_init 0 = .ok (.aload_n 0, 1) := by decide +kernel
theorem dX8_init_1 : decode cX8_init 1 = .ok (.invokespecial 3, 3) := by decide +kernel
theorem dX8_init_4 : decode cX8_init 4 = .ok (.aload_n 0, 1) := by decide +kernel
theorem dX8_init_5 : decode cX8_init 5 = .ok (.iconst 4, 1) := by decide +kernel
theorem dX8_init_6 : decode cX8_init 6 = .ok (.newarray .int, 2) := by decide +kernel
theorem dX8_init_8 : decode cX8_init 8 = .ok (.putfield 9, 3) := by decide +kernel
theorem dX8_init_11 : decode cX8_init 11 = .ok (.aload_n 0, 1) := by decide +kernel
theorem dX8_init_12 : decode cX8_init 12 = .ok (.iconst 4, 1) := by decide +kernel
theorem dX8_init_13 : decode cX8_init 13 = .ok (.newarray .int, 2) := by decide +kernel
theorem dX8_init_15 : decode cX8_init 15 = .ok (.putfield 15, 3) := by decide +kernel
theorem dX8_init_18 : decode cX8_init 18 = .ok (.aload_n 0, 1) := by decide +kernel
theorem dX8_init_19 : decode cX8_init 19 = .ok (.iconst 4, 1) := by decide +kernel
theorem dX8_init_20 : decode cX8_init 20 = .ok (.newarray .int, 2) := by decide +kernel
theorem dX8_init_22 : decode cX8_init 22 = .ok (.putfield 18, 3) := by decide +kernel
theorem dX8_init_25 : decode cX8_init 25 = .ok (.aload_n 0, 1) := by decide +kernel
theorem dX8_init_26 : decode cX8_init 26 = .ok (.iconst 4, 1) := by decide +kernel
theorem dX8_init_27 : decode cX8_init 27 = .ok (.newarray .int, 2) := by decide +kernel
theorem dX8_init_29 : decode cX8_init 29 = .ok (.putfield 21, 3) := by decide +kernel
theorem dX8_init_32 : decode cX8_init 32 = .ok (.aload_n 0, 1) := by decide +kernel
theorem dX8_init_33 : decode cX8_init 33 = .ok (.iconst 0, 1) := by decide +kernel
theorem dX8_init_34 : decode cX8_init 34 = .ok (.putfield 24, 3) := by decide +kernel
theorem dX8_init_37 : decode cX8_init 37 = .ok (.aload_n 0, 1) := by decide +kernel
theorem dX8_init_38 : decode cX8_init 38 = .ok (.iconst 0, 1) := by decide +kernel
theorem dX8_init_39 : decode cX8_init 39 = .ok (.putfield 28, 3) := by decide +kernel
theorem dX8_init_42 : decode cX8_init 42 = .ok (.aload_n 0, 1) := by decide +kernel
theorem dX8_init_43 : decode cX8_init 43 = .ok (.iconst 0, 1) := by decide +kernel
theorem dX8_init_44 : decode cX8_init 44 = .ok (.putfield 31, 3) := by decide +kernel
theorem dX8_init_47 : decode cX8_init 47 = .ok (.aload_n 0, 1) := by decide +kernel
theorem dX8_init_48 : decode cX8_init 48 = .ok (.iconst 0, 1) := by decide +kernel
theorem dX8_init_49 : decode cX8_init 49 = .ok (.putfield 34, 3) := by decide +kernel
theorem dX8_init_52 : decode cX8_init 52 = .ok (.aload_n 0, 1) := by decide +kernel
theorem dX8_init_53 : decode cX8_init 53 = .ok (.bipush 100, 2) := by decide +kernel
theorem dX8_init_55 : decode cX8_init 55 = .ok (.putfield 37, 3) := by decide +kernel
theorem dX8_init_58 : decode cX8_init 58 = .ok (.aload_n 0, 1) := by decide +kernel
theorem dX8_init_59 : decode cX8_init 59 = .ok (.sipush 200, 3) := by decide +kernel
theorem dX8_init_62 : decode cX8_init 62 = .ok (.putfield 40, 3) := by decide +kernel
theorem dX8_init_65 : decode cX8_init 65 = .ok (.return_, 1) := by decide +kernel
theorem dX8_chainsNeeded_0 : decode cX8_chainsNeeded 0 = .ok (.aload_n 0, 1) := by decide +kernel
theorem dX8_chainsNeeded_1 : decode cX8_chainsNeeded 1 = .ok (.getfield 31, 3) := by decide +kernel
theorem dX8_chainsNeeded_4 : decode cX8_chainsNeeded 4 = .ok (.iload_n 1, 1) := by decide +kernel
theorem dX8_chainsNeeded_5 : decode cX8_chainsNeeded 5 = .ok (.imul, 1) := by decide +kernel
theorem dX8_chainsNeeded_6 : decode cX8_chainsNeeded 6 = .ok (.ireturn, 1) := by decide +kernel
theorem dX8_copyFrom_0 : decode cX8_copyFrom 0 = .ok (.aload_n 1, 1) := by decide +kernel
theorem dX8_copyFrom_1 : decode cX8_copyFrom 1 = .ok (.getfield 9, 3) := by decide +kernel
theorem dX8_copyFrom_4 : decode cX8_copyFrom 4 = .ok (.iconst 0, 1) := by decide +kernel
theorem dX8_copyFrom_5 : decode cX8_copyFrom 5 = .ok (.aload_n 0, 1) := by decide +kernel
theorem dX8_copyFrom_6 : decode cX8_copyFrom 6 = .ok (.getfield 9, 3) := by decide +kernel
theorem dX8_copyFrom_9 : decode cX8_copyFrom 9 = .ok (.iconst 0, 1) := by decide +kernel
theorem dX8_copyFrom_10 : decode cX8_copyFrom 10 = .ok (.iconst 4, 1) := by decide +kernel
theorem dX8_copyFrom_11 : decode cX8_copyFrom 11 = .ok (.invokestatic 75, 3) := by decide +kernel
theorem dX8_copyFrom_14 : decode cX8_copyFrom 14 = .ok (.aload_n 1, 1) := by decide +kernel
theorem dX8_copyFrom_15 : decode cX8_copyFrom 15 = .ok (.getfield 15, 3) := by decide +kernel
theorem dX8_copyFrom_18 : decode cX8_copyFrom 18 = .ok (.iconst 0, 1) := by decide +kernel
theorem dX8_copyFrom_19 : decode cX8_copyFrom 19 = .ok (.aload_n 0, 1) := by decide +kernel
theorem dX8_copyFrom_20 : decode cX8_copyFrom 20 = .ok (.getfield 15, 3) := by decide +kernel
theorem dX8_copyFrom_23 : decode cX8_copyFrom 23 = .ok (.iconst 0, 1) := by decide +kernel
theorem dX8_copyFrom_24 : decode cX8_copyFrom 24 = .ok (.iconst 4, 1) := by decide +kernel
theorem dX8_copyFrom_25 : decode cX8_copyFrom 25 = .ok (.invokestatic 75, 3) := by decide +kernel
theorem dX8_copyFrom_28 : decode cX8_copyFrom 28 = .ok (.aload_n 1, 1) := by decide +kernel
theorem dX8_copyFrom_29 : decode cX8_copyFrom 29 = .ok (.getfield 18, 3) := by decide +kernel
theorem dX8_copyFrom_32 : decode cX8_copyFrom 32 = .ok (.iconst 0, 1) := by decide +kernel
theorem dX8_copyFrom_33 : decode cX8_copyFrom 33 = .ok (.aload_n 0, 1) := by decide +kernel
theorem dX8_copyFrom_34 : decode cX8_copyFrom 34 = .ok (.getfield 18, 3) := by decide +kernel
theorem dX8_copyFrom_37 : decode cX8_copyFrom 37 = .ok (.iconst 0, 1) := by decide +kernel
theorem dX8_copyFrom_38 : decode cX8_copyFrom 38 = .ok (.iconst 4, 1) := by decide +kernel
theorem dX8_copyFrom_39 : decode cX8_copyFrom 39 = .ok (.invokestatic 75, 3) := by decide +kernel
theorem dX8_copyFrom_42 : decode cX8_copyFrom 42 = .ok (.aload_n 1, 1) := by decide +kernel
theorem dX8_copyFrom_43 : decode cX8_copyFrom 43 = .ok (.getfield 21, 3) := by decide +kernel
theorem dX8_copyFrom_46 : decode cX8_copyFrom 46 = .ok (.iconst 0, 1) := by decide +kernel
theorem dX8_copyFrom_47 : decode cX8_copyFrom 47 = .ok (.aload_n 0, 1) := by decide +kernel
theorem dX8_copyFrom_48 : decode cX8_copyFrom 48 = .ok (.getfield 21, 3) := by decide +kernel
theorem dX8_copyFrom_51 : decode cX8_copyFrom 51 = .ok (.iconst 0, 1) := by decide +kernel
theorem dX8_copyFrom_52 : decode cX8_copyFrom 52 = .ok (.iconst 4, 1) := by decide +kernel
theorem dX8_copyFrom_53 : decode cX8_copyFrom 53 = .ok (.invokestatic 75, 3) := by decide +kernel
theorem dX8_copyFrom_56 : decode cX8_copyFrom 56 = .ok (.aload_n 0, 1) := by decide +kernel
theorem dX8_copyFrom_57 : decode cX8_copyFrom 57 = .ok (.aload_n 1, 1) := by decide +kernel
theorem dX8_copyFrom_58 : decode cX8_copyFrom 58 = .ok (.getfield 24, 3) := by decide +kernel
theorem dX8_copyFrom_61 : decode cX8_copyFrom 61 = .ok (.putfield 24, 3) := by decide +kernel
theorem dX8_copyFrom_64 : decode cX8_copyFrom 64 = .ok (.aload_n 0, 1) := by decide +kernel
theorem dX8_copyFrom_65 : decode cX8_copyFrom 65 = .ok (.aload_n 1, 1) := by decide +kernel
theorem dX8_copyFrom_66 : decode cX8_copyFrom 66 = .ok (.getfield 28, 3) := by decide +kernel
theorem dX8_copyFrom_69 : decode cX8_copyFrom 69 = .ok (.putfield 28, 3) := by decide +kernel
theorem dX8_copyFrom_72 : decode cX8_copyFrom 72 = .ok (.aload_n 0, 1) := by decide +kernel
theorem dX8_copyFrom_73 : decode cX8_copyFrom 73 = .ok (.aload_n 1, 1) := by decide +kernel
theorem dX8_copyFrom_74 : decode cX8_copyFrom 74 = .ok (.getfield 31, 3) := by decide +kernel
theorem dX8_copyFrom_77 : decode cX8_copyFrom 77 = .ok (.putfield 31, 3) := by decide +kernel
theorem dX8_copyFrom_80 : decode cX8_copyFrom 80 = .ok (.aload_n 0, 1) := by decide +kernel
theorem dX8_copyFrom_81 : decode cX8_copyFrom 81 = .ok (.aload_n 1, 1) := by decide +kernel
theorem dX8_copyFrom_82 : decode cX8_copyFrom 82 = .ok (.getfield 34, 3) := by decide +kernel
theorem dX8_copyFrom_85 : decode cX8_copyFrom 85 = .ok (.putfield 34, 3) := by decide +kernel
theorem dX8_copyFrom_88 : decode cX8_copyFrom 88 = .ok (.aload_n 0, 1) := by decide +kernel
theorem dX8_copyFrom_89 : decode cX8_copyFrom 89 = .ok (.aload_n 1, 1) := by decide +kernel
theorem dX8_copyFrom_90 : decode cX8_copyFrom 90 = .ok (.getfield 37, 3) := by decide +kernel
theorem dX8_copyFrom_93 : decode cX8_copyFrom 93 = .ok (.putfield 37, 3) := by decide +kernel
theorem dX8_copyFrom_96 : decode cX8_copyFrom 96 = .ok (.aload_n 0, 1) := by decide +kernel
theorem dX8_copyFrom_97 : decode cX8_copyFrom 97 = .ok (.aload_n 1, 1) := by decide +kernel
theorem dX8_copyFrom_98 : decode cX8_copyFrom 98 = .ok (.getfield 40, 3) := by decide +kernel
theorem dX8_copyFrom_101 : decode cX8_copyFrom 101 = .ok (.putfield 40, 3) := by decide +kernel
theorem dX8_copyFrom_104 : decode cX8_copyFrom 104 = .ok (.return_, 1) := by decide +kernel
theorem dX9_init_0 : decode cX9_init 0 = .ok (.aload_n 0, 1) := by decide +kernel
theorem dX9_init_1 : decode cX9_init 1 = .ok (.invokespecial 3, 3) := by decide +kernel
theorem dX9_init_4 : decode cX9_init 4 = .ok (.aload_n 0, 1) := by decide +kernel
theorem dX9_init_5 : decode cX9_init 5 = .ok (.sipush 300, 3) := by decide +kernel
theorem dX9_init_8 : decode cX9_init 8 = .ok (.newarray .int, 2) := by decide +kernel
theorem dX9_init_10 : decode cX9_init 10 = .ok (.putfield 9, 3) := by decide +kernel
theorem dX9_init_13 : decode cX9_init 13 = .ok (.aload_n 0, 1) := by decide +kernel
theorem dX9_init_14 : decode cX9_init 14 = .ok (.iconst 0, 1) := by decide +kernel
theorem dX9_init_15 : decode cX9_init 15 = .ok (.putfield 15, 3) := by decide +kernel
theorem dX9_init_18 : decode cX9_init 18 = .ok (.return_, 1) := by decide +kernel
theorem dX9_addBytesOf_0 : decode cX9_addBytesOf 0 = .ok (.bipush 24, 2) := by decide +kernel
theorem dX9_addBytesOf_2 : decode cX9_addBytesOf 2 = .ok (.istore_n 2, 1) := by decide +kernel
theorem dX9_addBytesOf_3 : decode cX9_addBytesOf 3 = .ok (.iload_n 2, 1) := by decide +kernel
theorem dX9_addBytesOf_4 : decode cX9_addBytesOf 4 = .ok (.ifCond .lt 45, 3) := by decide +kernel
theorem dX9_addBytesOf_7 : decode cX9_addBytesOf 7 = .ok (.aload_n 0, 1) := by decide +kernel
theorem dX9_addBytesOf_8 : decode cX9_addBytesOf 8 = .ok (.getfield 15, 3) := by decide +kernel
theorem dX9_addBytesOf_11 : decode cX9_addBytesOf 11 = .ok (.sipush 300, 3) := by decide +kernel
theorem dX9_addBytesOf_14 : decode cX9_addBytesOf 14 = .ok (.if_icmp .ge 35, 3) := by decide +kernel
theorem dX9_addBytesOf_17 : decode cX9_addBytesOf 17 = .ok (.aload_n 0, 1) := by decide +kernel
theorem dX9_addBytesOf_18 : decode cX9_addBytesOf 18 = .ok (.getfield 9, 3) := by decide +kernel
theorem dX9_addBytesOf_21 : decode cX9_addBytesOf 21 = .ok (.aload_n 0, 1) := by decide +kernel
theorem dX9_addBytesOf_22 : decode cX9_addBytesOf 22 = .ok (.getfield 15, 3) := by decide +kernel
theorem dX9_addBytesOf_25 : decode cX9_addBytesOf 25 = .ok (.iload_n 1, 1) := by decide +kernel
theorem dX9_addBytesOf_26 : decode cX9_addBytesOf 26 = .ok (.iload_n 2, 1) := by decide +kernel
theorem dX9_addBytesOf_27 : decode cX9_addBytesOf 27 = .ok (.iushr, 1) := by decide +kernel
theorem dX9_addBytesOf_28 : decode cX9_addBytesOf 28 = .ok (.sipush 255, 3) := by decide +kernel
theorem dX9_addBytesOf_31 : decode cX9_addBytesOf 31 = .ok (.iand, 1) := by decide +kernel
theorem dX9_addBytesOf_32 : decode cX9_addBytesOf 32 = .ok (.iastore, 1) := by decide +kernel
theorem dX9_addBytesOf_33 : decode cX9_addBytesOf 33 = .ok (.aload_n 0, 1) := by decide +kernel
theorem dX9_addBytesOf_34 : decode cX9_addBytesOf 34 = .ok (.dup, 1) := by decide +kernel
theorem dX9_addBytesOf_35 : decode cX9_addBytesOf 35 = .ok (.getfield 15, 3) := by decide +kernel
theorem dX9_addBytesOf_38 : decode cX9_addBytesOf 38 = .ok (.iconst 1, 1) := by decide +kernel
theorem dX9_addBytesOf_39 : decode cX9_addBytesOf 39 = .ok (.iadd, 1) := by decide +kernel
theorem dX9_addBytesOf_40 : decode cX9_addBytesOf 40 = .ok (.putfield 15, 3) := by decide +kernel
theorem dX9_addBytesOf_43 : decode cX9_addBytesOf 43 = .ok (.iinc 2 (-8), 3) := by decide +kernel
theorem dX9_addBytesOf_46 : decode cX9_addBytesOf 46 = .ok (.goto (-43), 3) := by decide +kernel
theorem dX9_addBytesOf_49 : decode cX9_addBytesOf 49 = .ok (.return_, 1) := by decide +kernel
theorem dX10_init_0 : decode cX10_init 0 = .ok (.aload_n 0, 1) := by decide +kernel
theorem dX10_init_1 : decode cX10_init 1 = .ok (.invokespecial 3, 3) := by decide +kernel
theorem dX10_init_4 : decode cX10_init 4 = .ok (.aload_n 0, 1) := by decide +kernel
theorem dX10_init_5 : decode cX10_init 5 = .ok (.iconst 4, 1) := by decide +kernel
theorem dX10_init_6 : decode cX10_init 6 = .ok (.newarray .int, 2) := by decide +kernel
theorem dX10_init_8 : decode cX10_init 8 = .ok (.putfield 9, 3) := by decide +kernel
theorem dX10_init_11 : decode cX10_init 11 = .ok (.aload_n 0, 1) := by decide +kernel
theorem dX10_init_12 : decode cX10_init 12 = .ok (.iconst 0, 1) := by decide +kernel
theorem dX10_init_13 : decode cX10_init 13 = .ok (.putfield 15, 3) := by decide +kernel
theorem dX10_init_16 : decode cX10_init 16 = .ok (.aload_n 0, 1) := by decide +kernel
theorem dX10_init_17 : decode cX10_init 17 = .ok (.iconst 0, 1) := by decide +kernel
theorem dX10_init_18 : decode cX10_init 18 = .ok (.putfield 19, 3) := by decide +kernel
theorem dX10_init_21 : decode cX10_init 21 = .ok (.aload_n 0, 1) := by decide +kernel
theorem dX10_init_22 : decode cX10_init 22 = .ok (.iconst 0, 1) := by decide +kernel
theorem dX10_init_23 : decode cX10_init 23 = .ok (.putfield 22, 3) := by decide +kernel
theorem dX10_init_26 : decode cX10_init 26 = .ok (.aload_n 0, 1) := by decide +kernel
theorem dX10_init_27 : decode cX10_init 27 = .ok (.iconst 0, 1) := by decide +kernel
theorem dX10_init_28 : decode cX10_init 28 = .ok (.putfield 25, 3) := by decide +kernel
theorem dX10_init_31 : decode cX10_init 31 = .ok (.aload_n 0, 1) := by decide +kernel
theorem dX10_init_32 : decode cX10_init 32 = .ok (.iconst 0, 1) := by decide +kernel
theorem dX10_init_33 : decode cX10_init 33 = .ok (.putfield 28, 3) := by decide +kernel
theorem dX10_init_36 : decode cX10_init 36 = .ok (.aload_n 0, 1) := by decide +kernel
theorem dX10_init_37 : decode cX10_init 37 = .ok (.iconst 0, 1) := by decide +kernel
theorem dX10_init_38 : decode cX10_init 38 = .ok (.putfield 31, 3) := by decide +kernel
theorem dX10_init_41 : decode cX10_init 41 = .ok (.aload_n 0, 1) := by decide +kernel
theorem dX10_init_42 : decode cX10_init 42 = .ok (.iload_n 1, 1) := by decide +kernel
theorem dX10_init_43 : decode cX10_init 43 = .ok (.putfield 35, 3) := by decide +kernel
theorem dX10_init_46 : decode cX10_init 46 = .ok (.aload_n 0, 1) := by decide +kernel
theorem dX10_init_47 : decode cX10_init 47 = .ok (.iload_n 2, 1) := by decide +kernel
theorem dX10_init_48 : decode cX10_init 48 = .ok (.putfield 38, 3) := by decide +kernel
theorem dX10_init_51 : decode cX10_init 51 = .ok (.aload_n 0, 1) := by decide +kernel
theorem dX10_init_52 : decode cX10_init 52 = .ok (.iload_n 3, 1) := by decide +kernel
theorem dX10_init_53 : decode cX10_init 53 = .ok (.putfield 41, 3) := by decide +kernel
theorem dX10_init_56 : decode cX10_init 56 = .ok (.aload_n 0, 1) := by decide +kernel
theorem dX10_init_57 : decode cX10_init 57 = .ok (.iload 4, 2) := by decide +kernel
theorem dX10_init_59 : decode cX10_init 59 = .ok (.putfield 44, 3) := by decide +kernel
theorem dX10_init_62 : decode cX10_init 62 = .ok (.aload_n 0, 1) := by decide +kernel
theorem dX10_init_63 : decode cX10_init 63 = .ok (.iload 5, 2) := by decide +kernel
theorem dX10_init_65 : decode cX10_init 65 = .ok (.putfield 47, 3) := by decide +kernel
theorem dX10_init_68 : decode cX10_init 68 = .ok (.return_, 1) := by decide +kernel
theorem dX10_standAt_0 : decode cX10_standAt 0 = .ok (.aload_n 0, 1) := by decide +kernel
theorem dX10_standAt_1 : decode cX10_standAt 1 = .ok (.iload_n 1, 1) := by decide +kernel
theorem dX10_standAt_2 : decode cX10_standAt 2 = .ok (.putfield 25, 3) := by decide +kernel
theorem dX10_standAt_5 : decode cX10_standAt 5 = .ok (.aload_n 0, 1) := by decide +kernel
theorem dX10_standAt_6 : decode cX10_standAt 6 = .ok (.iload_n 2, 1) := by decide +kernel
theorem dX10_standAt_7 : decode cX10_standAt 7 = .ok (.putfield 28, 3) := by decide +kernel
theorem dX10_standAt_10 : decode cX10_standAt 10 = .ok (.return_, 1) := by decide +kernel
set_option maxRecDepth 20000 in
theorem ggX11_init_X7_init : GoodIn wsX11_init wsX7_init := goodIn_r _ [37, 38, 2, 3, 39, 40, 41, 42, 43, 21, 22, 44, 45, 46, 47, 48, 49, 50, 51, 52, 53, 54, 55, 56, 57, 58, 59, 60, 61, 62, 63, 64, 65, 66, 67, 142, 143, 144, 109, 110, 111, 138, 139, 140, 141] (by decide +kernel) (by decide +kernel)
set_option maxRecDepth 20000 in
theorem gX11_init_X7_init_n9 : GoodIn wsX11_init (wsX7_init) := ggX11_init_X7_init
set_option maxRecDepth 20000 in
theorem ggX11_init_X2_init : GoodIn wsX11_init wsX2_init := goodIn_r _ [69, 70, 2, 3, 71, 40, 41, 72, 73, 74, 75, 76, 77, 47, 48, 49, 50, 51, 52, 53, 54, 55, 56, 57, 78, 79, 80, 65, 81, 82, 83, 84, 85, 86, 87, 88, 89, 90, 142, 143, 144, 130, 131, 145, 146, 147, 148, 149, 150, 151, 152, 153, 154] (by decide +kernel) (by decide +kernel)
set_option maxRecDepth 20000 in
theorem gX11_init_X2_init_n18 : GoodIn wsX11_init (wsX2_init) := ggX11_init_X2_init
set_option maxRecDepth 20000 in
theorem ggX11_init_X1_init : GoodIn wsX11_init wsX1_init := goodIn_r _ [92, 93, 2, 3, 94, 95, 96, 97, 98, 99, 100, 101, 102, 103, 104, 105, 65, 106, 107, 155, 156, 132, 133, 134, 135, 136, 137] (by decide +kernel) (by decide +kernel)
set_option maxRecDepth 20000 in
theorem gX11_init_X1_init_n31 : GoodIn wsX11_init (wsX1_init) := ggX11_init_X1_init
set_option maxRecDepth 20000 in
theorem ggX11_init_X6_init : GoodIn wsX11_init wsX6_init := goodIn_r _ [60, 61, 2, 3, 62, 63, 64, 53, 54, 55, 65, 66, 67, 138, 139, 140, 141] (by decide +kernel) (by decide +kernel)
set_option maxRecDepth 20000 in
theorem gX11_init_X6_init : GoodIn wsX11_init (wsX6_init) := ggX11_init_X6_init
theorem dX11_init_0 : decode cX11_init 0 = .ok (.aload_n 0, 1) := by decide +kernel
theorem dX11_init_1 : decode cX11_init 1 = .ok (.invokespecial 1, 3) := by decide +kernel
theorem dX11_init_4 : decode cX11_init 4 = .ok (.aload_n 0, 1) := by decide +kernel
theorem dX11_init_5 : decode cX11_init 5 = .ok (.iconst 2, 1) := by decide +kernel
theorem dX11_init_6 : decode cX11_init 6 = .ok (.anewarray 7, 3) := by decide +kernel
theorem dX11_init_9 : decode cX11_init 9 = .ok (.dup, 1) := by decide +kernel
theorem dX11_init_10 : decode cX11_init 10 = .ok (.iconst 0, 1) := by decide +kernel
theorem dX11_init_11 : decode cX11_init 11 = .ok (.new 7, 3) := by decide +kernel
theorem dX11_init_14 : decode cX11_init 14 = .ok (.dup, 1) := by decide +kernel
theorem dX11_init_15 : decode cX11_init 15 = .ok (.invokespecial 9, 3) := by decide +kernel
theorem dX11_init_18 : decode cX11_init 18 = .ok (.aastore, 1) := by decide +kernel
theorem dX11_init_19 : decode cX11_init 19 = .ok (.dup, 1) := by decide +kernel
theorem dX11_init_20 : decode cX11_init 20 = .ok (.iconst 1, 1) := by decide +kernel
theorem dX11_init_21 : decode cX11_init 21 = .ok (.new 7, 3) := by decide +kernel
theorem dX11_init_24 : decode cX11_init 24 = .ok (.dup, 1) := by decide +kernel
theorem dX11_init_25 : decode cX11_init 25 = .ok (.invokespecial 9, 3) := by decide +kernel
theorem dX11_init_28 : decode cX11_init 28 = .ok (.aastore, 1) := by decide +kernel
theorem dX11_init_29 : decode cX11_init 29 = .ok (.putfield 10, 3) := by decide +kernel
theorem dX11_init_32 : decode cX11_init 32 = .ok (.aload_n 0, 1) := by decide +kernel
theorem dX11_init_33 : decode cX11_init 33 = .ok (.new 16, 3) := by decide +kernel
theorem dX11_init_36 : decode cX11_init 36 = .ok (.dup, 1) := by decide +kernel
theorem dX11_init_37 : decode cX11_init 37 = .ok (.invokespecial 18, 3) := by decide +kernel
theorem dX11_init_40 : decode cX11_init 40 = .ok (.putfield 19, 3) := by decide +kernel
theorem dX11_init_43 : decode cX11_init 43 = .ok (.aload_n 0, 1) := by decide +kernel
theorem dX11_init_44 : decode cX11_init 44 = .ok (.bipush 100, 2) := by decide +kernel
theorem dX11_init_46 : decode cX11_init 46 = .ok (.anewarray 23, 3) := by decide +kernel
theorem dX11_init_49 : decode cX11_init 49 = .ok (.putfield 25, 3) := by decide +kernel
theorem dX11_init_52 : decode cX11_init 52 = .ok (.aload_n 0, 1) := by decide +kernel
theorem dX11_init_53 : decode cX11_init 53 = .ok (.new 29, 3) := by decide +kernel
theorem dX11_init_56 : decode cX11_init 56 = .ok (.dup, 1) := by decide +kernel
theorem dX11_init_57 : decode cX11_init 57 = .ok (.invokespecial 31, 3) := by decide +kernel
theorem dX11_init_60 : decode cX11_init 60 = .ok (.putfield 32, 3) := by decide +kernel
theorem dX11_init_63 : decode cX11_init 63 = .ok (.aload_n 0, 1) := by decide +kernel
theorem dX11_init_64 : decode cX11_init 64 = .ok (.bipush 20, 2) := by decide +kernel
theorem dX11_init_66 : decode cX11_init 66 = .ok (.anewarray 36, 3) := by decide +kernel
theorem dX11_init_69 : decode cX11_init 69 = .ok (.putfield 38, 3) := by decide +kernel
theorem dX11_init_72 : decode cX11_init 72 = .ok (.aload_n 0, 1) := by decide +kernel
theorem dX11_init_73 : decode cX11_init 73 = .ok (.new 42, 3) := by decide +kernel
theorem dX11_init_76 : decode cX11_init 76 = .ok (.dup, 1) := by decide +kernel
theorem dX11_init_77 : decode cX11_init 77 = .ok (.bipush 20, 2) := by decide +kernel
theorem dX11_init_79 : decode cX11_init 79 = .ok (.invokespecial 44, 3) := by decide +kernel
theorem dX11_init_82 : decode cX11_init 82 = .ok (.putfield 47, 3) := by decide +kernel
theorem dX11_init_85 : decode cX11_init 85 = .ok (.aload_n 0, 1) := by decide +kernel
theorem dX11_init_86 : decode cX11_init 86 = .ok (.aconst_null, 1) := by decide +kernel
theorem dX11_init_87 : decode cX11_init 87 = .ok (.putfield 51, 3) := by decide +kernel
theorem dX11_init_90 : decode cX11_init 90 = .ok (.aload_n 0, 1) := by decide +kernel
theorem dX11_init_91 : decode cX11_init 91 = .ok (.aconst_null, 1) := by decide +kernel
theorem dX11_init_92 : decode cX11_init 92 = .ok (.putfield 55, 3) := by decide +kernel
theorem dX11_init_95 : decode cX11_init 95 = .ok (.aload_n 0, 1) := by decide +kernel
theorem dX11_init_96 : decode cX11_init 96 = .ok (.iconst 0, 1) := by decide +kernel
theorem dX11_init_97 : decode cX11_init 97 = .ok (.putfield 59, 3) := by decide +kernel
theorem dX11_init_100 : decode cX11_init 100 = .ok (.aload_n 0, 1) := by decide +kernel
theorem dX11_init_101 : decode cX11_init 101 = .ok (.iconst 0, 1) := by decide +kernel
theorem dX11_init_102 : decode cX11_init 102 = .ok (.putfield 63, 3) := by decide +kernel
theorem dX11_init_105 : decode cX11_init 105 = .ok (.aload_n 0, 1) := by decide +kernel
theorem dX11_init_106 : decode cX11_init 106 = .ok (.iconst 0, 1) := by decide +kernel
theorem dX11_init_107 : decode cX11_init 107 = .ok (.putfield 67, 3) := by decide +kernel
theorem dX11_init_110 : decode cX11_init 110 = .ok (.aload_n 0, 1) := by decide +kernel
theorem dX11_init_111 : decode cX11_init 111 = .ok (.iconst 0, 1) := by decide +kernel
theorem dX11_init_112 : decode cX11_init 112 = .ok (.putfield 70, 3) := by decide +kernel
theorem dX11_init_115 : decode cX11_init 115 = .ok (.aload_n 0, 1) := by decide +kernel
theorem dX11_init_116 : decode cX11_init 116 = .ok (.iconst 0, 1) := by decide +kernel
theorem dX11_init_117 : decode cX11_init 117 = .ok (.putfield 73, 3) := by decide +kernel
theorem dX11_init_120 : decode cX11_init 120 = .ok (.aload_n 0, 1) := by decide +kernel
theorem dX11_init_121 : decode cX11_init 121 = .ok (.iconst (-1), 1) := by decide +kernel
theorem dX11_init_122 : decode cX11_init 122 = .ok (.putfield 76, 3) := by decide +kernel
theorem dX11_init_125 : decode cX11_init 125 = .ok (.aload_n 0, 1) := by decide +kernel
theorem dX11_init_126 : decode cX11_init 126 = .ok (.iconst 0, 1) := by decide +kernel
theorem dX11_init_127 : decode cX11_init 127 = .ok (.putfield 79, 3) := by decide +kernel
theorem dX11_init_130 : decode cX11_init 130 = .ok (.aload_n 0, 1) := by decide +kernel
theorem dX11_init_131 : decode cX11_init 131 = .ok (.iconst 0, 1) := by decide +kernel
theorem dX11_init_132 : decode cX11_init 132 = .ok (.putfield 82, 3) := by decide +kernel
theorem dX11_init_135 : decode cX11_init 135 = .ok (.aload_n 0, 1) := by decide +kernel
theorem dX11_init_136 : decode cX11_init 136 = .ok (.iconst 5, 1) := by decide +kernel
theorem dX11_init_137 : decode cX11_init 137 = .ok (.putfield 85, 3) := by decide +kernel
theorem dX11_init_140 : decode cX11_init 140 = .ok (.aload_n 0, 1) := by decide +kernel
theorem dX11_init_141 : decode cX11_init 141 = .ok (.bipush 100, 2) := by decide +kernel
theorem dX11_init_143 : decode cX11_init 143 = .ok (.putfield 88, 3) := by decide +kernel
theorem dX11_init_146 : decode cX11_init 146 = .ok (.return_, 1) := by decide +kernel
set_option maxRecDepth 20000 in
theorem ggX11_ship_X11_isWithin : GoodIn wsX11_ship wsX11_isWithin := goodIn_r _ [11] (by decide +kernel) (by decide +kernel)
set_option maxRecDepth 20000 in
theorem gX11_ship_X11_isWithin : GoodIn wsX11_ship (va_wsS RX11 91 yX11_isWithin wsX11_isWithin) := goodIn_app (goodIn_of _ (by decide +kernel)) ggX11_ship_X11_isWithin
theorem dX11_ship_0 : decode cX11_ship 0 = .ok (.iload_n 1, 1) := by decide +kernel
theorem dX11_ship_1 : decode cX11_ship 1 = .ok (.bipush 40, 2) := by decide +kernel
theorem dX11_ship_3 : decode cX11_ship 3 = .ok (.sipush 200, 3) := by decide +kernel
theorem dX11_ship_6 : decode cX11_ship 6 = .ok (.invokestatic 91, 3) := by decide +kernel
theorem dX11_ship_9 : decode cX11_ship 9 = .ok (.ifCond .eq 36, 3) := by decide +kernel
theorem dX11_ship_12 : decode cX11_ship 12 = .ok (.iload_n 2, 1) := by decide +kernel
theorem dX11_ship_13 : decode cX11_ship 13 = .ok (.iconst 0, 1) := by decide +kernel
theorem dX11_ship_14 : decode cX11_ship 14 = .ok (.sipush 2000, 3) := by decide +kernel
theorem dX11_ship_17 : decode cX11_ship 17 = .ok (.invokestatic 91, 3) := by decide +kernel
theorem dX11_ship_20 : decode cX11_ship 20 = .ok (.ifCond .eq 25, 3) := by decide +kernel
theorem dX11_ship_23 : decode cX11_ship 23 = .ok (.iload_n 3, 1) := by decide +kernel
theorem dX11_ship_24 : decode cX11_ship 24 = .ok (.iconst 0, 1) := by decide +kernel
theorem dX11_ship_25 : decode cX11_ship 25 = .ok (.bipush 50, 2) := by decide +kernel
theorem dX11_ship_27 : decode cX11_ship 27 = .ok (.invokestatic 91, 3) := by decide +kernel
theorem dX11_ship_30 : decode cX11_ship 30 = .ok (.ifCond .eq 15, 3) := by decide +kernel
theorem dX11_ship_33 : decode cX11_ship 33 = .ok (.iload 4, 2) := by decide +kernel
theorem dX11_ship_35 : decode cX11_ship 35 = .ok (.iconst 0, 1) := by decide +kernel
theorem dX11_ship_36 : decode cX11_ship 36 = .ok (.sipush 1000, 3) := by decide +kernel
theorem dX11_ship_39 : decode cX11_ship 39 = .ok (.invokestatic 91, 3) := by decide +kernel
theorem dX11_ship_42 : decode cX11_ship 42 = .ok (.ifCond .ne 5, 3) := by decide +kernel
theorem dX11_ship_45 : decode cX11_ship 45 = .ok (.iconst 0, 1) := by decide +kernel
theorem dX11_ship_46 : decode cX11_ship 46 = .ok (.ireturn, 1) := by decide +kernel
theorem dX11_ship_47 : decode cX11_ship 47 = .ok (.aload_n 0, 1) := by decide +kernel
theorem dX11_ship_48 : decode cX11_ship 48 = .ok (.getfield 19, 3) := by decide +kernel
theorem dX11_ship_51 : decode cX11_ship 51 = .ok (.getfield 95, 3) := by decide +kernel
theorem dX11_ship_54 : decode cX11_ship 54 = .ok (.getfield 99, 3) := by decide +kernel
theorem dX11_ship_57 : decode cX11_ship 57 = .ok (.ifCond .le 5, 3) := by decide +kernel
theorem dX11_ship_62 : decode cX11_ship 62 = .ok (.aload_n 0, 1) := by decide +kernel
theorem dX11_ship_63 : decode cX11_ship 63 = .ok (.getfield 19, 3) := by decide +kernel
theorem dX11_ship_66 : decode cX11_ship 66 = .ok (.getfield 95, 3) := by decide +kernel
theorem dX11_ship_69 : decode cX11_ship 69 = .ok (.iload_n 1, 1) := by decide +kernel
theorem dX11_ship_70 : decode cX11_ship 70 = .ok (.putfield 104, 3) := by decide +kernel
theorem dX11_ship_73 : decode cX11_ship 73 = .ok (.aload_n 0, 1) := by decide +kernel
theorem dX11_ship_74 : decode cX11_ship 74 = .ok (.getfield 19, 3) := by decide +kernel
theorem dX11_ship_77 : decode cX11_ship 77 = .ok (.getfield 95, 3) := by decide +kernel
theorem dX11_ship_80 : decode cX11_ship 80 = .ok (.iload_n 2, 1) := by decide +kernel
theorem dX11_ship_81 : decode cX11_ship 81 = .ok (.putfield 107, 3) := by decide +kernel
theorem dX11_ship_84 : decode cX11_ship 84 = .ok (.aload_n 0, 1) := by decide +kernel
theorem dX11_ship_85 : decode cX11_ship 85 = .ok (.iload_n 3, 1) := by decide +kernel
theorem dX11_ship_86 : decode cX11_ship 86 = .ok (.putfield 85, 3) := by decide +kernel
theorem dX11_ship_89 : decode cX11_ship 89 = .ok (.aload_n 0, 1) := by decide +kernel
theorem dX11_ship_90 : decode cX11_ship 90 = .ok (.iload 4, 2) := by decide +kernel
theorem dX11_ship_92 : decode cX11_ship 92 = .ok (.putfield 88, 3) := by decide +kernel
theorem dX11_ship_95 : decode cX11_ship 95 = .ok (.iconst 1, 1) := by decide +kernel
theorem dX11_ship_96 : decode cX11_ship 96 = .ok (.ireturn, 1) := by decide +kernel
set_option maxRecDepth 20000 in
theorem ggX11_wagon_X11_yardRow : GoodIn wsX11_wagon wsX11_yardRow := goodIn_r _ [11, 12, 13, 14, 15, 10, 16, 17, 18, 19, 56, 57, 58, 59, 60, 61, 62, 63, 64, 65, 66, 67, 68, 69, 70, 71, 72, 73, 86, 87, 88] (by decide +kernel) (by decide +kernel)
set_option maxRecDepth 20000 in
theorem gX11_wagon_X11_yardRow : GoodIn wsX11_wagon (wsV RX11 110 RX11 yX11_yardRow wsX11_yardRow) := goodIn_app (goodIn_of _ (by decide +kernel)) ggX11_wagon_X11_yardRow
set_option maxRecDepth 20000 in
theorem ggX11_wagon_X11_isWithin : GoodIn wsX11_wagon wsX11_isWithin := goodIn_r _ [19] (by decide +kernel) (by decide +kernel)
set_option maxRecDepth 20000 in
theorem gX11_wagon_X11_isWithin : GoodIn wsX11_wagon (va_wsS RX11 91 yX11_isWithin wsX11_isWithin) := goodIn_app (goodIn_of _ (by decide +kernel)) ggX11_wagon_X11_isWithin
set_option maxRecDepth 20000 in
theorem ggX11_wagon_X5_hasRoom : GoodIn wsX11_wagon wsX5_hasRoom := goodIn_r _ [24, 25, 26, 27, 89, 90, 91] (by decide +kernel) (by decide +kernel)
set_option maxRecDepth 20000 in
theorem gX11_wagon_X5_hasRoom : GoodIn wsX11_wagon (wsV RX11 114 RX5 yX5_hasRoom wsX5_hasRoom) := goodIn_app (goodIn_of _ (by decide +kernel)) ggX11_wagon_X5_hasRoom
set_option maxRecDepth 20000 in
theorem ggX11_wagon_X10_init : GoodIn wsX11_wagon wsX10_init := goodIn_r _ [30, 31, 32, 33, 34, 35, 36, 37, 38, 39, 40, 41, 42, 43, 44, 45, 46, 74, 75, 76, 77, 78, 79, 80, 81, 82, 83, 84, 85] (by decide +kernel) (by decide +kernel)
set_option maxRecDepth 20000 in
theorem gX11_wagon_X10_init : GoodIn wsX11_wagon (wsX10_init) := ggX11_wagon_X10_init
set_option maxRecDepth 20000 in
theorem ggX11_wagon_X5_add : GoodIn wsX11_wagon wsX5_add := goodIn_r _ [50, 25, 26, 27, 51, 89, 90, 91, 74, 75, 76, 77, 78, 79, 80, 81, 82, 83, 84, 85] (by decide +kernel) (by decide +kernel)
set_option maxRecDepth 20000 in
theorem gX11_wagon_X5_add : GoodIn wsX11_wagon (wsV RX11 123 RX5 yX5_add wsX5_add) := goodIn_app (goodIn_of _ (by decide +kernel)) ggX11_wagon_X5_add
set_option maxRecDepth 20000 in
theorem ggX11_wagon_X10_standAt : GoodIn wsX11_wagon wsX10_standAt := goodIn_r _ [55, 39, 40, 74, 75, 76, 77, 78, 79, 80, 81, 82, 83, 84, 85] (by decide +kernel) (by decide +kernel)
set_option maxRecDepth 20000 in
theorem gX11_wagon_X10_standAt : GoodIn wsX11_wagon (wsV RX11 127 RX10 yX10_standAt wsX10_standAt) := goodIn_app (goodIn_of _ (by decide +kernel)) ggX11_wagon_X10_standAt
theorem dX11_wagon_0 : decode cX11_wagon 0 = .ok (.aload_n 0, 1) := by decide +kernel
theorem dX11_wagon_1 : decode cX11_wagon 1 = .ok (.iload_n 1, 1) := by decide +kernel
theorem dX11_wagon_2 : decode cX11_wagon 2 = .ok (.iload_n 2, 1) := by decide +kernel
theorem dX11_wagon_3 : decode cX11_wagon 3 = .ok (.invokevirtual 110, 3) := by decide +kernel
theorem dX11_wagon_6 : decode cX11_wagon 6 = .ok (.astore 6, 2) := by decide +kernel
theorem dX11_wagon_8 : decode cX11_wagon 8 = .ok (.aload 6, 2) := by decide +kernel
theorem dX11_wagon_10 : decode cX11_wagon 10 = .ok (.ifnull 12, 3) := by decide +kernel
theorem dX11_wagon_13 : decode cX11_wagon 13 = .ok (.aload_n 0, 1) := by decide +kernel
theorem dX11_wagon_14 : decode cX11_wagon 14 = .ok (.getfield 63, 3) := by decide +kernel
theorem dX11_wagon_17 : decode cX11_wagon 17 = .ok (.bipush 100, 2) := by decide +kernel
theorem dX11_wagon_19 : decode cX11_wagon 19 = .ok (.if_icmp .lt 5, 3) := by decide +kernel
theorem dX11_wagon_22 : decode cX11_wagon 22 = .ok (.iconst (-1), 1) := by decide +kernel
theorem dX11_wagon_23 : decode cX11_wagon 23 = .ok (.ireturn, 1) := by decide +kernel
theorem dX11_wagon_24 : decode cX11_wagon 24 = .ok (.iload_n 3, 1) := by decide +kernel
theorem dX11_wagon_25 : decode cX11_wagon 25 = .ok (.bipush 6, 2) := by decide +kernel
theorem dX11_wagon_27 : decode cX11_wagon 27 = .ok (.bipush 26, 2) := by decide +kernel
theorem dX11_wagon_29 : decode cX11_wagon 29 = .ok (.invokestatic 91, 3) := by decide +kernel
theorem dX11_wagon_32 : decode cX11_wagon 32 = .ok (.ifCond .eq 25, 3) := by decide +kernel
theorem dX11_wagon_35 : decode cX11_wagon 35 = .ok (.iload 4, 2) := by decide +kernel
theorem dX11_wagon_37 : decode cX11_wagon 37 = .ok (.bipush 10, 2) := by decide +kernel
theorem dX11_wagon_39 : decode cX11_wagon 39 = .ok (.bipush 90, 2) := by decide +kernel
theorem dX11_wagon_41 : decode cX11_wagon 41 = .ok (.invokestatic 91, 3) := by decide +kernel
theorem dX11_wagon_44 : decode cX11_wagon 44 = .ok (.ifCond .eq 13, 3) := by decide +kernel
theorem dX11_wagon_47 : decode cX11_wagon 47 = .ok (.iload 5, 2) := by decide +kernel
theorem dX11_wagon_49 : decode cX11_wagon 49 = .ok (.iconst 0, 1) := by decide +kernel
theorem dX11_wagon_50 : decode cX11_wagon 50 = .ok (.iconst 3, 1) := by decide +kernel
theorem dX11_wagon_51 : decode cX11_wagon 51 = .ok (.invokestatic 91, 3) := by decide +kernel
theorem dX11_wagon_54 : decode cX11_wagon 54 = .ok (.ifCond .ne 5, 3) := by decide +kernel
theorem dX11_wagon_57 : decode cX11_wagon 57 = .ok (.iconst (-1), 1) := by decide +kernel
theorem dX11_wagon_58 : decode cX11_wagon 58 = .ok (.ireturn, 1) := by decide +kernel
theorem dX11_wagon_59 : decode cX11_wagon 59 = .ok (.aload 6, 2) := by decide +kernel
theorem dX11_wagon_61 : decode cX11_wagon 61 = .ok (.iload_n 3, 1) := by decide +kernel
theorem dX11_wagon_62 : decode cX11_wagon 62 = .ok (.sipush 200, 3) := by decide +kernel
theorem dX11_wagon_65 : decode cX11_wagon 65 = .ok (.invokevirtual 114, 3) := by decide +kernel
theorem dX11_wagon_68 : decode cX11_wagon 68 = .ok (.ifCond .ne 5, 3) := by decide +kernel
theorem dX11_wagon_73 : decode cX11_wagon 73 = .ok (.new 23, 3) := by decide +kernel
theorem dX11_wagon_76 : decode cX11_wagon 76 = .ok (.dup, 1) := by decide +kernel
theorem dX11_wagon_77 : decode cX11_wagon 77 = .ok (.aload_n 0, 1) := by decide +kernel
theorem dX11_wagon_78 : decode cX11_wagon 78 = .ok (.getfield 63, 3) := by decide +kernel
theorem dX11_wagon_81 : decode cX11_wagon 81 = .ok (.iload_n 1, 1) := by decide +kernel
theorem dX11_wagon_82 : decode cX11_wagon 82 = .ok (.iload_n 3, 1) := by decide +kernel
theorem dX11_wagon_83 : decode cX11_wagon 83 = .ok (.iload 4, 2) := by decide +kernel
theorem dX11_wagon_85 : decode cX11_wagon 85 = .ok (.iload 5, 2) := by decide +kernel
theorem dX11_wagon_87 : decode cX11_wagon 87 = .ok (.invokespecial 120, 3) := by decide +kernel
theorem dX11_wagon_90 : decode cX11_wagon 90 = .ok (.astore 7, 2) := by decide +kernel
theorem dX11_wagon_92 : decode cX11_wagon 92 = .ok (.aload 6, 2) := by decide +kernel
theorem dX11_wagon_94 : decode cX11_wagon 94 = .ok (.aload 7, 2) := by decide +kernel
theorem dX11_wagon_96 : decode cX11_wagon 96 = .ok (.invokevirtual 123, 3) := by decide +kernel
theorem dX11_wagon_99 : decode cX11_wagon 99 = .ok (.aload 7, 2) := by decide +kernel
theorem dX11_wagon_101 : decode cX11_wagon 101 = .ok (.iload_n 1, 1) := by decide +kernel
theorem dX11_wagon_102 : decode cX11_wagon 102 = .ok (.iload_n 2, 1) := by decide +kernel
theorem dX11_wagon_103 : decode cX11_wagon 103 = .ok (.invokevirtual 127, 3) := by decide +kernel
theorem dX11_wagon_106 : decode cX11_wagon 106 = .ok (.aload_n 0, 1) := by decide +kernel
theorem dX11_wagon_107 : decode cX11_wagon 107 = .ok (.getfield 25, 3) := by decide +kernel
theorem dX11_wagon_110 : decode cX11_wagon 110 = .ok (.aload_n 0, 1) := by decide +kernel
theorem dX11_wagon_111 : decode cX11_wagon 111 = .ok (.getfield 63, 3) := by decide +kernel
theorem dX11_wagon_114 : decode cX11_wagon 114 = .ok (.aload 7, 2) := by decide +kernel
theorem dX11_wagon_116 : decode cX11_wagon 116 = .ok (.aastore, 1) := by decide +kernel
theorem dX11_wagon_117 : decode cX11_wagon 117 = .ok (.aload_n 0, 1) := by decide +kernel
theorem dX11_wagon_118 : decode cX11_wagon 118 = .ok (.dup, 1) := by decide +kernel
theorem dX11_wagon_119 : decode cX11_wagon 119 = .ok (.getfield 63, 3) := by decide +kernel
theorem dX11_wagon_122 : decode cX11_wagon 122 = .ok (.iconst 1, 1) := by decide +kernel
theorem dX11_wagon_123 : decode cX11_wagon 123 = .ok (.iadd, 1) := by decide +kernel
theorem dX11_wagon_124 : decode cX11_wagon 124 = .ok (.putfield 63, 3) := by decide +kernel
theorem dX11_wagon_127 : decode cX11_wagon 127 = .ok (.aload 7, 2) := by decide +kernel
theorem dX11_wagon_129 : decode cX11_wagon 129 = .ok (.getfield 131, 3) := by decide +kernel
theorem dX11_wagon_132 : decode cX11_wagon 132 = .ok (.ireturn, 1) := by decide +kernel
set_option maxRecDepth 20000 in
theorem ggX11_tide_X11_isShore : GoodIn wsX11_tide wsX11_isShore := goodIn_r _ [7, 8, 9, 6, 10] (by decide +kernel) (by decide +kernel)
set_option maxRecDepth 20000 in
theorem gX11_tide_X11_isShore : GoodIn wsX11_tide (va_wsS RX11 134 yX11_isShore wsX11_isShore) := goodIn_app (goodIn_of _ (by decide +kernel)) ggX11_tide_X11_isShore
set_option maxRecDepth 20000 in
theorem ggX11_tide_X11_canBeTold : GoodIn wsX11_tide wsX11_canBeTold := goodIn_r _ [14, 15, 8, 9, 6, 10, 24, 25, 26, 27, 28, 29, 30, 31, 32, 33, 34, 35, 36, 37, 38, 39, 40, 41] (by decide +kernel) (by decide +kernel)
set_option maxRecDepth 20000 in
theorem gX11_tide_X11_canBeTold : GoodIn wsX11_tide (wsV RX11 138 RX11 yX11_canBeTold wsX11_canBeTold) := goodIn_app (goodIn_of _ (by decide +kernel)) ggX11_tide_X11_canBeTold
set_option maxRecDepth 20000 in
theorem ggX11_tide_X11_isWithin : GoodIn wsX11_tide wsX11_isWithin := goodIn_r _ [10] (by decide +kernel) (by decide +kernel)
set_option maxRecDepth 20000 in
theorem gX11_tide_X11_isWithin : GoodIn wsX11_tide (va_wsS RX11 91 yX11_isWithin wsX11_isWithin) := goodIn_app (goodIn_of _ (by decide +kernel)) ggX11_tide_X11_isWithin
set_option maxRecDepth 20000 in
theorem ggX11_tide_X6_tell : GoodIn wsX11_tide wsX6_tell := goodIn_r _ [20, 21, 22, 23, 45, 46, 47, 48] (by decide +kernel) (by decide +kernel)
set_option maxRecDepth 20000 in
theorem gX11_tide_X6_tell : GoodIn wsX11_tide (wsV RX11 147 RX6 yX6_tell wsX6_tell) := goodIn_app (goodIn_of _ (by decide +kernel)) ggX11_tide_X6_tell
theorem dX11_tide_0 : decode cX11_tide 0 = .ok (.iload_n 1, 1) := by decide +kernel
theorem dX11_tide_1 : decode cX11_tide 1 = .ok (.invokestatic 134, 3) := by decide +kernel
theorem dX11_tide_4 : decode cX11_tide 4 = .ok (.ifCond .eq 22, 3) := by decide +kernel
theorem dX11_tide_7 : decode cX11_tide 7 = .ok (.aload_n 0, 1) := by decide +kernel
theorem dX11_tide_8 : decode cX11_tide 8 = .ok (.iload_n 2, 1) := by decide +kernel
theorem dX11_tide_9 : decode cX11_tide 9 = .ok (.invokevirtual 138, 3) := by decide +kernel
theorem dX11_tide_12 : decode cX11_tide 12 = .ok (.ifCond .eq 14, 3) := by decide +kernel
theorem dX11_tide_15 : decode cX11_tide 15 = .ok (.iload_n 3, 1) := by decide +kernel
theorem dX11_tide_16 : decode cX11_tide 16 = .ok (.bipush (-50), 2) := by decide +kernel
theorem dX11_tide_18 : decode cX11_tide 18 = .ok (.bipush 50, 2) := by decide +kernel
theorem dX11_tide_20 : decode cX11_tide 20 = .ok (.invokestatic 91, 3) := by decide +kernel
theorem dX11_tide_23 : decode cX11_tide 23 = .ok (.ifCond .ne 5, 3) := by decide +kernel
theorem dX11_tide_26 : decode cX11_tide 26 = .ok (.iconst 0, 1) := by decide +kernel
theorem dX11_tide_27 : decode cX11_tide 27 = .ok (.ireturn, 1) := by decide +kernel
theorem dX11_tide_28 : decode cX11_tide 28 = .ok (.aload_n 0, 1) := by decide +kernel
theorem dX11_tide_29 : decode cX11_tide 29 = .ok (.getfield 10, 3) := by decide +kernel
theorem dX11_tide_32 : decode cX11_tide 32 = .ok (.iconst 0, 1) := by decide +kernel
theorem dX11_tide_33 : decode cX11_tide 33 = .ok (.aaload, 1) := by decide +kernel
theorem dX11_tide_34 : decode cX11_tide 34 = .ok (.getfield 141, 3) := by decide +kernel
theorem dX11_tide_37 : decode cX11_tide 37 = .ok (.getfield 144, 3) := by decide +kernel
theorem dX11_tide_40 : decode cX11_tide 40 = .ok (.aload_n 0, 1) := by decide +kernel
theorem dX11_tide_41 : decode cX11_tide 41 = .ok (.getfield 10, 3) := by decide +kernel
theorem dX11_tide_44 : decode cX11_tide 44 = .ok (.iconst 1, 1) := by decide +kernel
theorem dX11_tide_45 : decode cX11_tide 45 = .ok (.aaload, 1) := by decide +kernel
theorem dX11_tide_46 : decode cX11_tide 46 = .ok (.getfield 141, 3) := by decide +kernel
theorem dX11_tide_49 : decode cX11_tide 49 = .ok (.getfield 144, 3) := by decide +kernel
theorem dX11_tide_52 : decode cX11_tide 52 = .ok (.iadd, 1) := by decide +kernel
theorem dX11_tide_53 : decode cX11_tide 53 = .ok (.sipush 200, 3) := by decide +kernel
theorem dX11_tide_56 : decode cX11_tide 56 = .ok (.if_icmp .lt 5, 3) := by decide +kernel
theorem dX11_tide_61 : decode cX11_tide 61 = .ok (.aload_n 0, 1) := by decide +kernel
theorem dX11_tide_62 : decode cX11_tide 62 = .ok (.getfield 10, 3) := by decide +kernel
theorem dX11_tide_65 : decode cX11_tide 65 = .ok (.iload_n 1, 1) := by decide +kernel
theorem dX11_tide_66 : decode cX11_tide 66 = .ok (.aaload, 1) := by decide +kernel
theorem dX11_tide_67 : decode cX11_tide 67 = .ok (.getfield 141, 3) := by decide +kernel
theorem dX11_tide_70 : decode cX11_tide 70 = .ok (.iload_n 2, 1) := by decide +kernel
theorem dX11_tide_71 : decode cX11_tide 71 = .ok (.iload_n 3, 1) := by decide +kernel
theorem dX11_tide_72 : decode cX11_tide 72 = .ok (.invokevirtual 147, 3) := by decide +kernel
theorem dX11_tide_75 : decode cX11_tide 75 = .ok (.iconst 1, 1) := by decide +kernel
theorem dX11_tide_76 : decode cX11_tide 76 = .ok (.ireturn, 1) := by decide +kernel
set_option maxRecDepth 20000 in
theorem ggX11_sea_X11_isWithin : GoodIn wsX11_sea wsX11_isWithin := goodIn_r _ [5] (by decide +kernel) (by decide +kernel)
set_option maxRecDepth 20000 in
theorem gX11_sea_X11_isWithin : GoodIn wsX11_sea (va_wsS RX11 91 yX11_isWithin wsX11_isWithin) := goodIn_app (goodIn_of _ (by decide +kernel)) ggX11_sea_X11_isWithin
theorem dX11_sea_0 : decode cX11_sea 0 = .ok (.iload_n 1, 1) := by decide +kernel
theorem dX11_sea_1 : decode cX11_sea 1 = .ok (.iconst 0, 1) := by decide +kernel
theorem dX11_sea_2 : decode cX11_sea 2 = .ok (.iconst 5, 1) := by decide +kernel
theorem dX11_sea_3 : decode cX11_sea 3 = .ok (.invokestatic 91, 3) := by decide +kernel
theorem dX11_sea_6 : decode cX11_sea 6 = .ok (.ifCond .ne 5, 3) := by decide +kernel
theorem dX11_sea_9 : decode cX11_sea 9 = .ok (.iconst 0, 1) := by decide +kernel
theorem dX11_sea_10 : decode cX11_sea 10 = .ok (.ireturn, 1) := by decide +kernel
theorem dX11_sea_11 : decode cX11_sea 11 = .ok (.aload_n 0, 1) := by decide +kernel
theorem dX11_sea_12 : decode cX11_sea 12 = .ok (.iload_n 1, 1) := by decide +kernel
theorem dX11_sea_13 : decode cX11_sea 13 = .ok (.putfield 82, 3) := by decide +kernel
theorem dX11_sea_16 : decode cX11_sea 16 = .ok (.iconst 1, 1) := by decide +kernel
theorem dX11_sea_17 : decode cX11_sea 17 = .ok (.ireturn, 1) := by decide +kernel
set_option maxRecDepth 20000 in
theorem ggX11_ramp_X11_isShore : GoodIn wsX11_ramp wsX11_isShore := goodIn_r _ [6, 7, 8, 5, 9] (by decide +kernel) (by decide +kernel)
set_option maxRecDepth 20000 in
theorem gX11_ramp_X11_isShore : GoodIn wsX11_ramp (va_wsS RX11 134 yX11_isShore wsX11_isShore) := goodIn_app (goodIn_of _ (by decide +kernel)) ggX11_ramp_X11_isShore
theorem dX11_ramp_0 : decode cX11_ramp 0 = .ok (.iload_n 1, 1) := by decide +kernel
theorem dX11_ramp_1 : decode cX11_ramp 1 = .ok (.invokestatic 134, 3) := by decide +kernel
theorem dX11_ramp_4 : decode cX11_ramp 4 = .ok (.ifCond .eq 16, 3) := by decide +kernel
theorem dX11_ramp_7 : decode cX11_ramp 7 = .ok (.aload_n 0, 1) := by decide +kernel
theorem dX11_ramp_8 : decode cX11_ramp 8 = .ok (.getfield 10, 3) := by decide +kernel
theorem dX11_ramp_11 : decode cX11_ramp 11 = .ok (.iload_n 1, 1) := by decide +kernel
theorem dX11_ramp_12 : decode cX11_ramp 12 = .ok (.aaload, 1) := by decide +kernel
theorem dX11_ramp_13 : decode cX11_ramp 13 = .ok (.getfield 150, 3) := by decide +kernel
theorem dX11_ramp_16 : decode cX11_ramp 16 = .ok (.iload_n 2, 1) := by decide +kernel
theorem dX11_ramp_17 : decode cX11_ramp 17 = .ok (.if_icmp .ne 5, 3) := by decide +kernel
theorem dX11_ramp_20 : decode cX11_ramp 20 = .ok (.iconst 0, 1) := by decide +kernel
theorem dX11_ramp_21 : decode cX11_ramp 21 = .ok (.ireturn, 1) := by decide +kernel
