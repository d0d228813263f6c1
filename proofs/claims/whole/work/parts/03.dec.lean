theorem inlX0 : ∀ w ∈ wsX00, w ∈ wsL_law := fun _ h => List.mem_append_left _ (List.mem_append_right _ h)
theorem inX0 : ∀ w ∈ wsX00, w ∈ lw_tbl := fun w h => wsL_law_in w (inlX0 w h)
theorem inlX1 : ∀ w ∈ wsX10, w ∈ wsL_law := fun _ h => List.mem_append_left _ (List.mem_append_left _ (List.mem_append_right _ h))
theorem inX1 : ∀ w ∈ wsX10, w ∈ lw_tbl := fun w h => wsL_law_in w (inlX1 w h)
theorem inlX2 : ∀ w ∈ wsX20, w ∈ wsL_law := fun _ h => List.mem_append_left _ (List.mem_append_left _ (List.mem_append_left _ (List.mem_append_left _ (List.mem_append_right _ h))))
theorem inX2 : ∀ w ∈ wsX20, w ∈ lw_tbl := fun w h => wsL_law_in w (inlX2 w h)
theorem inlX3 : ∀ w ∈ wsX30, w ∈ wsL_law := fun _ h => List.mem_append_left _ (List.mem_append_left _ (List.mem_append_left _ (List.mem_append_right _ h)))
theorem inX3 : ∀ w ∈ wsX30, w ∈ lw_tbl := fun w h => wsL_law_in w (inlX3 w h)
theorem inJ9 : ∀ w ∈ wsJ90, w ∈ lw_tbl := by decide +kernel
theorem inJ10 : ∀ w ∈ wsJ100, w ∈ lw_tbl := by decide +kernel
theorem dX0_init_0 : decode cX0_init 0 = .ok (.aload_n 0, 1) := by decide +kernel
theorem dX0_init_1 : decode cX0_init 1 = .ok (.invokespecial 3, 3) := by decide +kernel
theorem dX0_init_4 : decode cX0_init 4 = .ok (.aload_n 0, 1) := by decide +kernel
theorem dX0_init_5 : decode cX0_init 5 = .ok (.bipush 17, 2) := by decide +kernel
theorem dX0_init_7 : decode cX0_init 7 = .ok (.newarray .int, 2) := by decide +kernel
theorem dX0_init_9 : decode cX0_init 9 = .ok (.putfield 11, 3) := by decide +kernel
theorem dX0_init_12 : decode cX0_init 12 = .ok (.return_, 1) := by decide +kernel
theorem dX0_clear_0 : decode cX0_clear 0 = .ok (.aload_n 0, 1) := by decide +kernel
theorem dX0_clear_1 : decode cX0_clear 1 = .ok (.iconst 0, 1) := by decide +kernel
theorem dX0_clear_2 : decode cX0_clear 2 = .ok (.putfield 15, 3) := by decide +kernel
theorem dX0_clear_5 : decode cX0_clear 5 = .ok (.return_, 1) := by decide +kernel
theorem dX0_size_0 : decode cX0_size 0 = .ok (.aload_n 0, 1) := by decide +kernel
theorem dX0_size_1 : decode cX0_size 1 = .ok (.getfield 15, 3) := by decide +kernel
theorem dX0_size_4 : decode cX0_size 4 = .ok (.ireturn, 1) := by decide +kernel
theorem dX0_at_0 : decode cX0_at 0 = .ok (.iload_n 1, 1) := by decide +kernel
theorem dX0_at_1 : decode cX0_at 1 = .ok (.ifCond .lt 20, 3) := by decide +kernel
theorem dX0_at_4 : decode cX0_at 4 = .ok (.iload_n 1, 1) := by decide +kernel
theorem dX0_at_5 : decode cX0_at 5 = .ok (.aload_n 0, 1) := by decide +kernel
theorem dX0_at_6 : decode cX0_at 6 = .ok (.getfield 15, 3) := by decide +kernel
theorem dX0_at_9 : decode cX0_at 9 = .ok (.if_icmp .ge 12, 3) := by decide +kernel
theorem dX0_at_12 : decode cX0_at 12 = .ok (.aload_n 0, 1) := by decide +kernel
theorem dX0_at_13 : decode cX0_at 13 = .ok (.getfield 11, 3) := by decide +kernel
theorem dX0_at_16 : decode cX0_at 16 = .ok (.iload_n 1, 1) := by decide +kernel
theorem dX0_at_17 : decode cX0_at 17 = .ok (.iaload, 1) := by decide +kernel
theorem dX0_at_18 : decode cX0_at 18 = .ok (.goto 4, 3) := by decide +kernel
theorem dX0_at_21 : decode cX0_at 21 = .ok (.iconst (-1), 1) := by decide +kernel
theorem dX0_at_22 : decode cX0_at 22 = .ok (.ireturn, 1) := by decide +kernel
set_option maxRecDepth 20000 in
theorem ggX0_has_X0_placeOf : GoodIn wsX0_has wsX0_placeOf := goodIn_r _ [5, 6, 7, 8, 9] (by decide +kernel) (by decide +kernel)
set_option maxRecDepth 20000 in
theorem gX0_has_X0_placeOf : GoodIn wsX0_has (wsV RX0 19 RX0 yX0_placeOf wsX0_placeOf) := goodIn_app (goodIn_of _ (by decide +kernel)) ggX0_has_X0_placeOf
theorem dX0_has_0 : decode cX0_has 0 = .ok (.aload_n 0, 1) := by decide +kernel
theorem dX0_has_1 : decode cX0_has 1 = .ok (.iload_n 1, 1) := by decide +kernel
theorem dX0_has_2 : decode cX0_has 2 = .ok (.invokevirtual 19, 3) := by decide +kernel
theorem dX0_has_5 : decode cX0_has 5 = .ok (.iconst (-1), 1) := by decide +kernel
theorem dX0_has_6 : decode cX0_has 6 = .ok (.if_icmp .eq 7, 3) := by decide +kernel
theorem dX0_has_9 : decode cX0_has 9 = .ok (.iconst 1, 1) := by decide +kernel
theorem dX0_has_10 : decode cX0_has 10 = .ok (.goto 4, 3) := by decide +kernel
theorem dX0_has_13 : decode cX0_has 13 = .ok (.iconst 0, 1) := by decide +kernel
theorem dX0_has_14 : decode cX0_has 14 = .ok (.ireturn, 1) := by decide +kernel
theorem dX0_addHead_0 : decode cX0_addHead 0 = .ok (.iload_n 1, 1) := by decide +kernel
theorem dX0_addHead_1 : decode cX0_addHead 1 = .ok (.iconst (-1), 1) := by decide +kernel
theorem dX0_addHead_2 : decode cX0_addHead 2 = .ok (.if_icmp .eq 12, 3) := by decide +kernel
theorem dX0_addHead_5 : decode cX0_addHead 5 = .ok (.aload_n 0, 1) := by decide +kernel
theorem dX0_addHead_6 : decode cX0_addHead 6 = .ok (.getfield 15, 3) := by decide +kernel
theorem dX0_addHead_9 : decode cX0_addHead 9 = .ok (.bipush 17, 2) := by decide +kernel
theorem dX0_addHead_11 : decode cX0_addHead 11 = .ok (.if_icmp .ne 4, 3) := by decide +kernel
theorem dX0_addHead_14 : decode cX0_addHead 14 = .ok (.return_, 1) := by decide +kernel
theorem dX0_addHead_15 : decode cX0_addHead 15 = .ok (.aload_n 0, 1) := by decide +kernel
theorem dX0_addHead_16 : decode cX0_addHead 16 = .ok (.getfield 11, 3) := by decide +kernel
theorem dX0_addHead_19 : decode cX0_addHead 19 = .ok (.iconst 0, 1) := by decide +kernel
theorem dX0_addHead_20 : decode cX0_addHead 20 = .ok (.aload_n 0, 1) := by decide +kernel
theorem dX0_addHead_21 : decode cX0_addHead 21 = .ok (.getfield 11, 3) := by decide +kernel
theorem dX0_addHead_24 : decode cX0_addHead 24 = .ok (.iconst 1, 1) := by decide +kernel
theorem dX0_addHead_25 : decode cX0_addHead 25 = .ok (.aload_n 0, 1) := by decide +kernel
theorem dX0_addHead_26 : decode cX0_addHead 26 = .ok (.getfield 15, 3) := by decide +kernel
theorem dX0_addHead_29 : decode cX0_addHead 29 = .ok (.invokestatic 23, 3) := by decide +kernel
theorem dX0_addHead_32 : decode cX0_addHead 32 = .ok (.aload_n 0, 1) := by decide +kernel
theorem dX0_addHead_33 : decode cX0_addHead 33 = .ok (.getfield 11, 3) := by decide +kernel
theorem dX0_addHead_36 : decode cX0_addHead 36 = .ok (.iconst 0, 1) := by decide +kernel
theorem dX0_addHead_37 : decode cX0_addHead 37 = .ok (.iload_n 1, 1) := by decide +kernel
theorem dX0_addHead_38 : decode cX0_addHead 38 = .ok (.iastore, 1) := by decide +kernel
theorem dX0_addHead_39 : decode cX0_addHead 39 = .ok (.aload_n 0, 1) := by decide +kernel
theorem dX0_addHead_40 : decode cX0_addHead 40 = .ok (.dup, 1) := by decide +kernel
theorem dX0_addHead_41 : decode cX0_addHead 41 = .ok (.getfield 15, 3) := by decide +kernel
theorem dX0_addHead_44 : decode cX0_addHead 44 = .ok (.iconst 1, 1) := by decide +kernel
theorem dX0_addHead_45 : decode cX0_addHead 45 = .ok (.iadd, 1) := by decide +kernel
theorem dX0_addHead_46 : decode cX0_addHead 46 = .ok (.putfield 15, 3) := by decide +kernel
theorem dX0_addHead_49 : decode cX0_addHead 49 = .ok (.return_, 1) := by decide +kernel
theorem dX0_addTail_0 : decode cX0_addTail 0 = .ok (.iload_n 1, 1) := by decide +kernel
theorem dX0_addTail_1 : decode cX0_addTail 1 = .ok (.iconst (-1), 1) := by decide +kernel
theorem dX0_addTail_2 : decode cX0_addTail 2 = .ok (.if_icmp .eq 12, 3) := by decide +kernel
theorem dX0_addTail_5 : decode cX0_addTail 5 = .ok (.aload_n 0, 1) := by decide +kernel
theorem dX0_addTail_6 : decode cX0_addTail 6 = .ok (.getfield 15, 3) := by decide +kernel
theorem dX0_addTail_9 : decode cX0_addTail 9 = .ok (.bipush 17, 2) := by decide +kernel
theorem dX0_addTail_11 : decode cX0_addTail 11 = .ok (.if_icmp .ne 4, 3) := by decide +kernel
theorem dX0_addTail_14 : decode cX0_addTail 14 = .ok (.return_, 1) := by decide +kernel
theorem dX0_addTail_15 : decode cX0_addTail 15 = .ok (.aload_n 0, 1) := by decide +kernel
theorem dX0_addTail_16 : decode cX0_addTail 16 = .ok (.getfield 11, 3) := by decide +kernel
theorem dX0_addTail_19 : decode cX0_addTail 19 = .ok (.aload_n 0, 1) := by decide +kernel
theorem dX0_addTail_20 : decode cX0_addTail 20 = .ok (.getfield 15, 3) := by decide +kernel
theorem dX0_addTail_23 : decode cX0_addTail 23 = .ok (.iload_n 1, 1) := by decide +kernel
theorem dX0_addTail_24 : decode cX0_addTail 24 = .ok (.iastore, 1) := by decide +kernel
theorem dX0_addTail_25 : decode cX0_addTail 25 = .ok (.aload_n 0, 1) := by decide +kernel
theorem dX0_addTail_26 : decode cX0_addTail 26 = .ok (.dup, 1) := by decide +kernel
theorem dX0_addTail_27 : decode cX0_addTail 27 = .ok (.getfield 15, 3) := by decide +kernel
theorem dX0_addTail_30 : decode cX0_addTail 30 = .ok (.iconst 1, 1) := by decide +kernel
theorem dX0_addTail_31 : decode cX0_addTail 31 = .ok (.iadd, 1) := by decide +kernel
theorem dX0_addTail_32 : decode cX0_addTail 32 = .ok (.putfield 15, 3) := by decide +kernel
theorem dX0_addTail_35 : decode cX0_addTail 35 = .ok (.return_, 1) := by decide +kernel
theorem dX0_turn_0 : decode cX0_turn 0 = .ok (.aload_n 0, 1) := by decide +kernel
theorem dX0_turn_1 : decode cX0_turn 1 = .ok (.getfield 15, 3) := by decide +kernel
theorem dX0_turn_4 : decode cX0_turn 4 = .ok (.ifCond .ne 4, 3) := by decide +kernel
theorem dX0_turn_7 : decode cX0_turn 7 = .ok (.return_, 1) := by decide +kernel
theorem dX0_turn_8 : decode cX0_turn 8 = .ok (.aload_n 0, 1) := by decide +kernel
theorem dX0_turn_9 : decode cX0_turn 9 = .ok (.getfield 11, 3) := by decide +kernel
theorem dX0_turn_12 : decode cX0_turn 12 = .ok (.iconst 0, 1) := by decide +kernel
theorem dX0_turn_13 : decode cX0_turn 13 = .ok (.iaload, 1) := by decide +kernel
theorem dX0_turn_14 : decode cX0_turn 14 = .ok (.istore_n 1, 1) := by decide +kernel
theorem dX0_turn_15 : decode cX0_turn 15 = .ok (.aload_n 0, 1) := by decide +kernel
theorem dX0_turn_16 : decode cX0_turn 16 = .ok (.getfield 11, 3) := by decide +kernel
theorem dX0_turn_19 : decode cX0_turn 19 = .ok (.iconst 1, 1) := by decide +kernel
theorem dX0_turn_20 : decode cX0_turn 20 = .ok (.aload_n 0, 1) := by decide +kernel
theorem dX0_turn_21 : decode cX0_turn 21 = .ok (.getfield 11, 3) := by decide +kernel
theorem dX0_turn_24 : decode cX0_turn 24 = .ok (.iconst 0, 1) := by decide +kernel
theorem dX0_turn_25 : decode cX0_turn 25 = .ok (.aload_n 0, 1) := by decide +kernel
theorem dX0_turn_26 : decode cX0_turn 26 = .ok (.getfield 15, 3) := by decide +kernel
theorem dX0_turn_29 : decode cX0_turn 29 = .ok (.iconst 1, 1) := by decide +kernel
theorem dX0_turn_30 : decode cX0_turn 30 = .ok (.isub, 1) := by decide +kernel
theorem dX0_turn_31 : decode cX0_turn 31 = .ok (.invokestatic 23, 3) := by decide +kernel
theorem dX0_turn_34 : decode cX0_turn 34 = .ok (.aload_n 0, 1) := by decide +kernel
theorem dX0_turn_35 : decode cX0_turn 35 = .ok (.getfield 11, 3) := by decide +kernel
theorem dX0_turn_38 : decode cX0_turn 38 = .ok (.aload_n 0, 1) := by decide +kernel
theorem dX0_turn_39 : decode cX0_turn 39 = .ok (.getfield 15, 3) := by decide +kernel
theorem dX0_turn_42 : decode cX0_turn 42 = .ok (.iconst 1, 1) := by decide +kernel
theorem dX0_turn_43 : decode cX0_turn 43 = .ok (.isub, 1) := by decide +kernel
theorem dX0_turn_44 : decode cX0_turn 44 = .ok (.iload_n 1, 1) := by decide +kernel
theorem dX0_turn_45 : decode cX0_turn 45 = .ok (.iastore, 1) := by decide +kernel
theorem dX0_turn_46 : decode cX0_turn 46 = .ok (.return_, 1) := by decide +kernel
set_option maxRecDepth 20000 in
theorem ggX0_takeHead_X0_at : GoodIn wsX0_takeHead wsX0_at := goodIn_r _ [5, 6, 7, 20, 21] (by decide +kernel) (by decide +kernel)
set_option maxRecDepth 20000 in
theorem gX0_takeHead_X0_at : GoodIn wsX0_takeHead (wsV RX0 29 RX0 yX0_at wsX0_at) := goodIn_app (goodIn_of _ (by decide +kernel)) ggX0_takeHead_X0_at
set_option maxRecDepth 20000 in
theorem ggX0_takeHead_X0_remove : GoodIn wsX0_takeHead wsX0_remove := goodIn_r _ [11, 6, 7, 12, 13, 14, 15, 16, 17, 18, 4, 19, 20, 21] (by decide +kernel) (by decide +kernel)
set_option maxRecDepth 20000 in
theorem gX0_takeHead_X0_remove : GoodIn wsX0_takeHead (wsV RX0 32 RX0 yX0_remove wsX0_remove) := goodIn_app (goodIn_of _ (by decide +kernel)) ggX0_takeHead_X0_remove
theorem dX0_takeHead_0 : decode cX0_takeHead 0 = .ok (.aload_n 0, 1) := by decide +kernel
theorem dX0_takeHead_1 : decode cX0_takeHead 1 = .ok (.iconst 0, 1) := by decide +kernel
theorem dX0_takeHead_2 : decode cX0_takeHead 2 = .ok (.invokevirtual 29, 3) := by decide +kernel
theorem dX0_takeHead_5 : decode cX0_takeHead 5 = .ok (.istore_n 1, 1) := by decide +kernel
theorem dX0_takeHead_6 : decode cX0_takeHead 6 = .ok (.aload_n 0, 1) := by decide +kernel
theorem dX0_takeHead_7 : decode cX0_takeHead 7 = .ok (.iload_n 1, 1) := by decide +kernel
theorem dX0_takeHead_8 : decode cX0_takeHead 8 = .ok (.invokevirtual 32, 3) := by decide +kernel
theorem dX0_takeHead_11 : decode cX0_takeHead 11 = .ok (.pop, 1) := by decide +kernel
theorem dX0_takeHead_12 : decode cX0_takeHead 12 = .ok (.iload_n 1, 1) := by decide +kernel
theorem dX0_takeHead_13 : decode cX0_takeHead 13 = .ok (.ireturn, 1) := by decide +kernel
theorem dX0_takeTail_0 : decode cX0_takeTail 0 = .ok (.aload_n 0, 1) := by decide +kernel
theorem dX0_takeTail_1 : decode cX0_takeTail 1 = .ok (.getfield 15, 3) := by decide +kernel
theorem dX0_takeTail_4 : decode cX0_takeTail 4 = .ok (.ifCond .ne 5, 3) := by decide +kernel
theorem dX0_takeTail_7 : decode cX0_takeTail 7 = .ok (.iconst (-1), 1) := by decide +kernel
theorem dX0_takeTail_8 : decode cX0_takeTail 8 = .ok (.ireturn, 1) := by decide +kernel
theorem dX0_takeTail_9 : decode cX0_takeTail 9 = .ok (.aload_n 0, 1) := by decide +kernel
theorem dX0_takeTail_10 : decode cX0_takeTail 10 = .ok (.dup, 1) := by decide +kernel
theorem dX0_takeTail_11 : decode cX0_takeTail 11 = .ok (.getfield 15, 3) := by decide +kernel
theorem dX0_takeTail_14 : decode cX0_takeTail 14 = .ok (.iconst 1, 1) := by decide +kernel
theorem dX0_takeTail_15 : decode cX0_takeTail 15 = .ok (.isub, 1) := by decide +kernel
theorem dX0_takeTail_16 : decode cX0_takeTail 16 = .ok (.putfield 15, 3) := by decide +kernel
theorem dX0_takeTail_19 : decode cX0_takeTail 19 = .ok (.aload_n 0, 1) := by decide +kernel
theorem dX0_takeTail_20 : decode cX0_takeTail 20 = .ok (.getfield 11, 3) := by decide +kernel
theorem dX0_takeTail_23 : decode cX0_takeTail 23 = .ok (.aload_n 0, 1) := by decide +kernel
theorem dX0_takeTail_24 : decode cX0_takeTail 24 = .ok (.getfield 15, 3) := by decide +kernel
theorem dX0_takeTail_27 : decode cX0_takeTail 27 = .ok (.iaload, 1) := by decide +kernel
theorem dX0_takeTail_28 : decode cX0_takeTail 28 = .ok (.ireturn, 1) := by decide +kernel
set_option maxRecDepth 20000 in
theorem ggX0_remove_X0_placeOf : GoodIn wsX0_remove wsX0_placeOf := goodIn_r _ [11, 1, 2, 12, 13] (by decide +kernel) (by decide +kernel)
set_option maxRecDepth 20000 in
theorem gX0_remove_X0_placeOf : GoodIn wsX0_remove (wsV RX0 19 RX0 yX0_placeOf wsX0_placeOf) := goodIn_app (goodIn_of _ (by decide +kernel)) ggX0_remove_X0_placeOf
theorem dX0_remove_0 : decode cX0_remove 0 = .ok (.aload_n 0, 1) := by decide +kernel
theorem dX0_remove_1 : decode cX0_remove 1 = .ok (.iload_n 1, 1) := by decide +kernel
theorem dX0_remove_2 : decode cX0_remove 2 = .ok (.invokevirtual 19, 3) := by decide +kernel
theorem dX0_remove_5 : decode cX0_remove 5 = .ok (.istore_n 2, 1) := by decide +kernel
theorem dX0_remove_6 : decode cX0_remove 6 = .ok (.iload_n 2, 1) := by decide +kernel
theorem dX0_remove_7 : decode cX0_remove 7 = .ok (.iconst (-1), 1) := by decide +kernel
theorem dX0_remove_8 : decode cX0_remove 8 = .ok (.if_icmp .ne 5, 3) := by decide +kernel
theorem dX0_remove_11 : decode cX0_remove 11 = .ok (.iconst 0, 1) := by decide +kernel
theorem dX0_remove_12 : decode cX0_remove 12 = .ok (.ireturn, 1) := by decide +kernel
theorem dX0_remove_13 : decode cX0_remove 13 = .ok (.aload_n 0, 1) := by decide +kernel
theorem dX0_remove_14 : decode cX0_remove 14 = .ok (.dup, 1) := by decide +kernel
theorem dX0_remove_15 : decode cX0_remove 15 = .ok (.getfield 15, 3) := by decide +kernel
theorem dX0_remove_18 : decode cX0_remove 18 = .ok (.iconst 1, 1) := by decide +kernel
theorem dX0_remove_19 : decode cX0_remove 19 = .ok (.isub, 1) := by decide +kernel
theorem dX0_remove_20 : decode cX0_remove 20 = .ok (.putfield 15, 3) := by decide +kernel
theorem dX0_remove_23 : decode cX0_remove 23 = .ok (.aload_n 0, 1) := by decide +kernel
theorem dX0_remove_24 : decode cX0_remove 24 = .ok (.getfield 11, 3) := by decide +kernel
theorem dX0_remove_27 : decode cX0_remove 27 = .ok (.iload_n 2, 1) := by decide +kernel
theorem dX0_remove_28 : decode cX0_remove 28 = .ok (.iconst 1, 1) := by decide +kernel
theorem dX0_remove_29 : decode cX0_remove 29 = .ok (.iadd, 1) := by decide +kernel
theorem dX0_remove_30 : decode cX0_remove 30 = .ok (.aload_n 0, 1) := by decide +kernel
theorem dX0_remove_31 : decode cX0_remove 31 = .ok (.getfield 11, 3) := by decide +kernel
theorem dX0_remove_34 : decode cX0_remove 34 = .ok (.iload_n 2, 1) := by decide +kernel
theorem dX0_remove_35 : decode cX0_remove 35 = .ok (.aload_n 0, 1) := by decide +kernel
theorem dX0_remove_36 : decode cX0_remove 36 = .ok (.getfield 15, 3) := by decide +kernel
theorem dX0_remove_39 : decode cX0_remove 39 = .ok (.iload_n 2, 1) := by decide +kernel
theorem dX0_remove_40 : decode cX0_remove 40 = .ok (.isub, 1) := by decide +kernel
theorem dX0_remove_41 : decode cX0_remove 41 = .ok (.invokestatic 23, 3) := by decide +kernel
theorem dX0_remove_44 : decode cX0_remove 44 = .ok (.iconst 1, 1) := by decide +kernel
theorem dX0_remove_45 : decode cX0_remove 45 = .ok (.ireturn, 1) := by decide +kernel
theorem dX0_placeOf_0 : decode cX0_placeOf 0 = .ok (.iconst 0, 1) := by decide +kernel
theorem dX0_placeOf_1 : decode cX0_placeOf 1 = .ok (.istore_n 2, 1) := by decide +kernel
theorem dX0_placeOf_2 : decode cX0_placeOf 2 = .ok (.iload_n 2, 1) := by decide +kernel
theorem dX0_placeOf_3 : decode cX0_placeOf 3 = .ok (.aload_n 0, 1) := by decide +kernel
theorem dX0_placeOf_4 : decode cX0_placeOf 4 = .ok (.getfield 15, 3) := by decide +kernel
theorem dX0_placeOf_7 : decode cX0_placeOf 7 = .ok (.if_icmp .ge 21, 3) := by decide +kernel
theorem dX0_placeOf_10 : decode cX0_placeOf 10 = .ok (.aload_n 0, 1) := by decide +kernel
theorem dX0_placeOf_11 : decode cX0_placeOf 11 = .ok (.getfield 11, 3) := by decide +kernel
theorem dX0_placeOf_14 : decode cX0_placeOf 14 = .ok (.iload_n 2, 1) := by decide +kernel
theorem dX0_placeOf_15 : decode cX0_placeOf 15 = .ok (.iaload, 1) := by decide +kernel
theorem dX0_placeOf_16 : decode cX0_placeOf 16 = .ok (.iload_n 1, 1) := by decide +kernel
theorem dX0_placeOf_17 : decode cX0_placeOf 17 = .ok (.if_icmp .ne 5, 3) := by decide +kernel
theorem dX0_placeOf_20 : decode cX0_placeOf 20 = .ok (.iload_n 2, 1) := by decide +kernel
theorem dX0_placeOf_21 : decode cX0_placeOf 21 = .ok (.ireturn, 1) := by decide +kernel
theorem dX0_placeOf_22 : decode cX0_placeOf 22 = .ok (.iinc 2 1, 3) := by decide +kernel
theorem dX0_placeOf_25 : decode cX0_placeOf 25 = .ok (.goto (-23), 3) := by decide +kernel
theorem dX0_placeOf_28 : decode cX0_placeOf 28 = .ok (.iconst (-1), 1) := by decide +kernel
theorem dX0_placeOf_29 : decode cX0_placeOf 29 = .ok (.ireturn, 1) := by decide +kernel
set_option maxRecDepth 20000 in
theorem ggX1_init_X0_init : GoodIn wsX1_init wsX0_init := goodIn_r _ [11, 12, 2, 3, 13, 14, 24, 25] (by decide +kernel) (by decide +kernel)
set_option maxRecDepth 20000 in
theorem gX1_init_X0_init_n17 : GoodIn wsX1_init (wsX0_init) := ggX1_init_X0_init
theorem dX1_init_0 : decode cX1_init 0 = .ok (.aload_n 0, 1) := by decide +kernel
theorem dX1_init_1 : decode cX1_init 1 = .ok (.invokespecial 3, 3) := by decide +kernel
theorem dX1_init_4 : decode cX1_init 4 = .ok (.aload_n 0, 1) := by decide +kernel
theorem dX1_init_5 : decode cX1_init 5 = .ok (.iconst 4, 1) := by decide +kernel
theorem dX1_init_6 : decode cX1_init 6 = .ok (.anewarray 11, 3) := by decide +kernel
theorem dX1_init_9 : decode cX1_init 9 = .ok (.putfield 13, 3) := by decide +kernel
theorem dX1_init_12 : decode cX1_init 12 = .ok (.iconst 0, 1) := by decide +kernel
theorem dX1_init_13 : decode cX1_init 13 = .ok (.istore_n 3, 1) := by decide +kernel
theorem dX1_init_14 : decode cX1_init 14 = .ok (.iload_n 3, 1) := by decide +kernel
theorem dX1_init_15 : decode cX1_init 15 = .ok (.iconst 4, 1) := by decide +kernel
theorem dX1_init_16 : decode cX1_init 16 = .ok (.if_icmp .ge 22, 3) := by decide +kernel
theorem dX1_init_19 : decode cX1_init 19 = .ok (.aload_n 0, 1) := by decide +kernel
theorem dX1_init_20 : decode cX1_init 20 = .ok (.getfield 13, 3) := by decide +kernel
theorem dX1_init_23 : decode cX1_init 23 = .ok (.iload_n 3, 1) := by decide +kernel
theorem dX1_init_24 : decode cX1_init 24 = .ok (.new 11, 3) := by decide +kernel
theorem dX1_init_27 : decode cX1_init 27 = .ok (.dup, 1) := by decide +kernel
theorem dX1_init_28 : decode cX1_init 28 = .ok (.invokespecial 17, 3) := by decide +kernel
theorem dX1_init_31 : decode cX1_init 31 = .ok (.aastore, 1) := by decide +kernel
theorem dX1_init_32 : decode cX1_init 32 = .ok (.iinc 3 1, 3) := by decide +kernel
theorem dX1_init_35 : decode cX1_init 35 = .ok (.goto (-21), 3) := by decide +kernel
theorem dX1_init_38 : decode cX1_init 38 = .ok (.aload_n 0, 1) := by decide +kernel
theorem dX1_init_39 : decode cX1_init 39 = .ok (.iload_n 1, 1) := by decide +kernel
theorem dX1_init_40 : decode cX1_init 40 = .ok (.putfield 18, 3) := by decide +kernel
theorem dX1_init_43 : decode cX1_init 43 = .ok (.aload_n 0, 1) := by decide +kernel
theorem dX1_init_44 : decode cX1_init 44 = .ok (.iload_n 2, 1) := by decide +kernel
theorem dX1_init_45 : decode cX1_init 45 = .ok (.putfield 22, 3) := by decide +kernel
theorem dX1_init_48 : decode cX1_init 48 = .ok (.return_, 1) := by decide +kernel
set_option maxRecDepth 20000 in
theorem ggX1_restart_X0_clear : GoodIn wsX1_restart wsX0_clear := goodIn_r _ [14, 15, 25, 26] (by decide +kernel) (by decide +kernel)
set_option maxRecDepth 20000 in
theorem gX1_restart_X0_clear : GoodIn wsX1_restart (wsV RX1 25 RX0 yX0_clear wsX0_clear) := goodIn_app (goodIn_of _ (by decide +kernel)) ggX1_restart_X0_clear
theorem dX1_restart_0 : decode cX1_restart 0 = .ok (.iconst 0, 1) := by decide +kernel
theorem dX1_restart_1 : decode cX1_restart 1 = .ok (.istore_n 3, 1) := by decide +kernel
theorem dX1_restart_2 : decode cX1_restart 2 = .ok (.iload_n 3, 1) := by decide +kernel
theorem dX1_restart_3 : decode cX1_restart 3 = .ok (.iconst 4, 1) := by decide +kernel
theorem dX1_restart_4 : decode cX1_restart 4 = .ok (.if_icmp .ge 18, 3) := by decide +kernel
theorem dX1_restart_7 : decode cX1_restart 7 = .ok (.aload_n 0, 1) := by decide +kernel
theorem dX1_restart_8 : decode cX1_restart 8 = .ok (.getfield 13, 3) := by decide +kernel
theorem dX1_restart_11 : decode cX1_restart 11 = .ok (.iload_n 3, 1) := by decide +kernel
theorem dX1_restart_12 : decode cX1_restart 12 = .ok (.aaload, 1) := by decide +kernel
theorem dX1_restart_13 : decode cX1_restart 13 = .ok (.invokevirtual 25, 3) := by decide +kernel
theorem dX1_restart_16 : decode cX1_restart 16 = .ok (.iinc 3 1, 3) := by decide +kernel
theorem dX1_restart_19 : decode cX1_restart 19 = .ok (.goto (-17), 3) := by decide +kernel
theorem dX1_restart_22 : decode cX1_restart 22 = .ok (.aload_n 0, 1) := by decide +kernel
theorem dX1_restart_23 : decode cX1_restart 23 = .ok (.iload_n 1, 1) := by decide +kernel
theorem dX1_restart_24 : decode cX1_restart 24 = .ok (.putfield 18, 3) := by decide +kernel
theorem dX1_restart_27 : decode cX1_restart 27 = .ok (.aload_n 0, 1) := by decide +kernel
theorem dX1_restart_28 : decode cX1_restart 28 = .ok (.iload_n 2, 1) := by decide +kernel
theorem dX1_restart_29 : decode cX1_restart 29 = .ok (.putfield 22, 3) := by decide +kernel
theorem dX1_restart_32 : decode cX1_restart 32 = .ok (.aload_n 0, 1) := by decide +kernel
theorem dX1_restart_33 : decode cX1_restart 33 = .ok (.iconst 0, 1) := by decide +kernel
theorem dX1_restart_34 : decode cX1_restart 34 = .ok (.putfield 28, 3) := by decide +kernel
theorem dX1_restart_37 : decode cX1_restart 37 = .ok (.aload_n 0, 1) := by decide +kernel
theorem dX1_restart_38 : decode cX1_restart 38 = .ok (.lconst 0, 1) := by decide +kernel
theorem dX1_restart_39 : decode cX1_restart 39 = .ok (.putfield 31, 3) := by decide +kernel
theorem dX1_restart_42 : decode cX1_restart 42 = .ok (.aload_n 0, 1) := by decide +kernel
theorem dX1_restart_43 : decode cX1_restart 43 = .ok (.lconst 0, 1) := by decide +kernel
theorem dX1_restart_44 : decode cX1_restart 44 = .ok (.putfield 35, 3) := by decide +kernel
theorem dX1_restart_47 : decode cX1_restart 47 = .ok (.aload_n 0, 1) := by decide +kernel
theorem dX1_restart_48 : decode cX1_restart 48 = .ok (.iconst 0, 1) := by decide +kernel
theorem dX1_restart_49 : decode cX1_restart 49 = .ok (.putfield 38, 3) := by decide +kernel
theorem dX1_restart_52 : decode cX1_restart 52 = .ok (.aload_n 0, 1) := by decide +kernel
theorem dX1_restart_53 : decode cX1_restart 53 = .ok (.iconst 0, 1) := by decide +kernel
theorem dX1_restart_54 : decode cX1_restart 54 = .ok (.putfield 41, 3) := by decide +kernel
theorem dX1_restart_57 : decode cX1_restart 57 = .ok (.aload_n 0, 1) := by decide +kernel
theorem dX1_restart_58 : decode cX1_restart 58 = .ok (.iconst 0, 1) := by decide +kernel
theorem dX1_restart_59 : decode cX1_restart 59 = .ok (.putfield 44, 3) := by decide +kernel
theorem dX1_restart_62 : decode cX1_restart 62 = .ok (.return_, 1) := by decide +kernel
set_option maxRecDepth 20000 in
theorem ggX1_holds_X0_has : GoodIn wsX1_holds wsX0_has := goodIn_r _ [7, 8, 9, 10, 6, 11, 12, 13, 23, 24] (by decide +kernel) (by decide +kernel)
set_option maxRecDepth 20000 in
theorem gX1_holds_X0_has : GoodIn wsX1_holds (wsV RX1 47 RX0 yX0_has wsX0_has) := goodIn_app (goodIn_of _ (by decide +kernel)) ggX1_holds_X0_has
theorem dX1_holds_0 : decode cX1_holds 0 = .ok (.aload_n 0, 1) := by decide +kernel
theorem dX1_holds_1 : decode cX1_holds 1 = .ok (.getfield 18, 3) := by decide +kernel
theorem dX1_holds_4 : decode cX1_holds 4 = .ok (.iconst 2, 1) := by decide +kernel
theorem dX1_holds_5 : decode cX1_holds 5 = .ok (.if_icmp .ne 7, 3) := by decide +kernel
theorem dX1_holds_8 : decode cX1_holds 8 = .ok (.iconst 2, 1) := by decide +kernel
theorem dX1_holds_9 : decode cX1_holds 9 = .ok (.goto 4, 3) := by decide +kernel
theorem dX1_holds_12 : decode cX1_holds 12 = .ok (.iconst 1, 1) := by decide +kernel
theorem dX1_holds_13 : decode cX1_holds 13 = .ok (.istore_n 2, 1) := by decide +kernel
theorem dX1_holds_14 : decode cX1_holds 14 = .ok (.aload_n 0, 1) := by decide +kernel
theorem dX1_holds_15 : decode cX1_holds 15 = .ok (.getfield 13, 3) := by decide +kernel
theorem dX1_holds_18 : decode cX1_holds 18 = .ok (.iconst 0, 1) := by decide +kernel
theorem dX1_holds_19 : decode cX1_holds 19 = .ok (.aaload, 1) := by decide +kernel
theorem dX1_holds_20 : decode cX1_holds 20 = .ok (.iload_n 1, 1) := by decide +kernel
theorem dX1_holds_21 : decode cX1_holds 21 = .ok (.invokevirtual 47, 3) := by decide +kernel
theorem dX1_holds_24 : decode cX1_holds 24 = .ok (.ifCond .ne 16, 3) := by decide +kernel
theorem dX1_holds_27 : decode cX1_holds 27 = .ok (.aload_n 0, 1) := by decide +kernel
theorem dX1_holds_28 : decode cX1_holds 28 = .ok (.getfield 13, 3) := by decide +kernel
theorem dX1_holds_31 : decode cX1_holds 31 = .ok (.iload_n 2, 1) := by decide +kernel
theorem dX1_holds_32 : decode cX1_holds 32 = .ok (.aaload, 1) := by decide +kernel
theorem dX1_holds_33 : decode cX1_holds 33 = .ok (.iload_n 1, 1) := by decide +kernel
theorem dX1_holds_34 : decode cX1_holds 34 = .ok (.invokevirtual 47, 3) := by decide +kernel
theorem dX1_holds_37 : decode cX1_holds 37 = .ok (.ifCond .eq 7, 3) := by decide +kernel
theorem dX1_holds_40 : decode cX1_holds 40 = .ok (.iconst 1, 1) := by decide +kernel
theorem dX1_holds_41 : decode cX1_holds 41 = .ok (.goto 4, 3) := by decide +kernel
theorem dX1_holds_44 : decode cX1_holds 44 = .ok (.iconst 0, 1) := by decide +kernel
theorem dX1_holds_45 : decode cX1_holds 45 = .ok (.ireturn, 1) := by decide +kernel
set_option maxRecDepth 20000 in
theorem ggX1_isDirty_X1_bit : GoodIn wsX1_isDirty wsX1_bit := goodIn_r _ [5] (by decide +kernel) (by decide +kernel)
set_option maxRecDepth 20000 in
theorem gX1_isDirty_X1_bit : GoodIn wsX1_isDirty (va_wsS RX1 51 yX1_bit wsX1_bit) := goodIn_app (goodIn_of _ (by decide +kernel)) ggX1_isDirty_X1_bit
theorem dX1_isDirty_0 : decode cX1_isDirty 0 = .ok (.aload_n 0, 1) := by decide +kernel
theorem dX1_isDirty_1 : decode cX1_isDirty 1 = .ok (.getfield 31, 3) := by decide +kernel
theorem dX1_isDirty_4 : decode cX1_isDirty 4 = .ok (.iload_n 1, 1) := by decide +kernel
theorem dX1_isDirty_5 : decode cX1_isDirty 5 = .ok (.invokestatic 51, 3) := by decide +kernel
theorem dX1_isDirty_8 : decode cX1_isDirty 8 = .ok (.land, 1) := by decide +kernel
theorem dX1_isDirty_9 : decode cX1_isDirty 9 = .ok (.lconst 0, 1) := by decide +kernel
theorem dX1_isDirty_10 : decode cX1_isDirty 10 = .ok (.lcmp, 1) := by decide +kernel
theorem dX1_isDirty_11 : decode cX1_isDirty 11 = .ok (.ifCond .eq 7, 3) := by decide +kernel
theorem dX1_isDirty_14 : decode cX1_isDirty 14 = .ok (.iconst 1, 1) := by decide +kernel
theorem dX1_isDirty_15 : decode cX1_isDirty 15 = .ok (.goto 4, 3) := by decide +kernel
theorem dX1_isDirty_18 : decode cX1_isDirty 18 = .ok (.iconst 0, 1) := by decide +kernel
theorem dX1_isDirty_19 : decode cX1_isDirty 19 = .ok (.ireturn, 1) := by decide +kernel
set_option maxRecDepth 20000 in
theorem ggX1_isMarked_X1_bit : GoodIn wsX1_isMarked wsX1_bit := goodIn_r _ [5] (by decide +kernel) (by decide +kernel)
set_option maxRecDepth 20000 in
theorem gX1_isMarked_X1_bit : GoodIn wsX1_isMarked (va_wsS RX1 51 yX1_bit wsX1_bit) := goodIn_app (goodIn_of _ (by decide +kernel)) ggX1_isMarked_X1_bit
theorem dX1_isMarked_0 : decode cX1_isMarked 0 = .ok (.aload_n 0, 1) := by decide +kernel
theorem dX1_isMarked_1 : decode cX1_isMarked 1 = .ok (.getfield 35, 3) := by decide +kernel
theorem dX1_isMarked_4 : decode cX1_isMarked 4 = .ok (.iload_n 1, 1) := by decide +kernel
theorem dX1_isMarked_5 : decode cX1_isMarked 5 = .ok (.invokestatic 51, 3) := by decide +kernel
theorem dX1_isMarked_8 : decode cX1_isMarked 8 = .ok (.land, 1) := by decide +kernel
theorem dX1_isMarked_9 : decode cX1_isMarked 9 = .ok (.lconst 0, 1) := by decide +kernel
theorem dX1_isMarked_10 : decode cX1_isMarked 10 = .ok (.lcmp, 1) := by decide +kernel
theorem dX1_isMarked_11 : decode cX1_isMarked 11 = .ok (.ifCond .eq 7, 3) := by decide +kernel
theorem dX1_isMarked_14 : decode cX1_isMarked 14 = .ok (.iconst 1, 1) := by decide +kernel
theorem dX1_isMarked_15 : decode cX1_isMarked 15 = .ok (.goto 4, 3) := by decide +kernel
theorem dX1_isMarked_18 : decode cX1_isMarked 18 = .ok (.iconst 0, 1) := by decide +kernel
theorem dX1_isMarked_19 : decode cX1_isMarked 19 = .ok (.ireturn, 1) := by decide +kernel
set_option maxRecDepth 20000 in
theorem ggX1_pageAt_X0_at : GoodIn wsX1_pageAt wsX0_at := goodIn_r _ [6, 7, 8, 18, 19] (by decide +kernel) (by decide +kernel)
set_option maxRecDepth 20000 in
theorem gX1_pageAt_X0_at : GoodIn wsX1_pageAt (wsV RX1 55 RX0 yX0_at wsX0_at) := goodIn_app (goodIn_of _ (by decide +kernel)) ggX1_pageAt_X0_at
theorem dX1_pageAt_0 : decode cX1_pageAt 0 = .ok (.iload_n 1, 1) := by decide +kernel
theorem dX1_pageAt_1 : decode cX1_pageAt 1 = .ok (.ifCond .lt 21, 3) := by decide +kernel
theorem dX1_pageAt_4 : decode cX1_pageAt 4 = .ok (.iload_n 1, 1) := by decide +kernel
theorem dX1_pageAt_5 : decode cX1_pageAt 5 = .ok (.iconst 4, 1) := by decide +kernel
theorem dX1_pageAt_6 : decode cX1_pageAt 6 = .ok (.if_icmp .ge 16, 3) := by decide +kernel
theorem dX1_pageAt_9 : decode cX1_pageAt 9 = .ok (.aload_n 0, 1) := by decide +kernel
theorem dX1_pageAt_10 : decode cX1_pageAt 10 = .ok (.getfield 13, 3) := by decide +kernel
theorem dX1_pageAt_13 : decode cX1_pageAt 13 = .ok (.iload_n 1, 1) := by decide +kernel
theorem dX1_pageAt_14 : decode cX1_pageAt 14 = .ok (.aaload, 1) := by decide +kernel
theorem dX1_pageAt_15 : decode cX1_pageAt 15 = .ok (.iload_n 2, 1) := by decide +kernel
theorem dX1_pageAt_16 : decode cX1_pageAt 16 = .ok (.invokevirtual 55, 3) := by decide +kernel
theorem dX1_pageAt_19 : decode cX1_pageAt 19 = .ok (.goto 4, 3) := by decide +kernel
theorem dX1_pageAt_22 : decode cX1_pageAt 22 = .ok (.iconst (-1), 1) := by decide +kernel
theorem dX1_pageAt_23 : decode cX1_pageAt 23 = .ok (.ireturn, 1) := by decide +kernel
theorem dX1_currentGoal_0 : decode cX1_currentGoal 0 = .ok (.aload_n 0, 1) := by decide +kernel
theorem dX1_currentGoal_1 : decode cX1_currentGoal 1 = .ok (.getfield 18, 3) := by decide +kernel
theorem dX1_currentGoal_4 : decode cX1_currentGoal 4 = .ok (.iconst 3, 1) := by decide +kernel
theorem dX1_currentGoal_5 : decode cX1_currentGoal 5 = .ok (.if_icmp .ne 10, 3) := by decide +kernel
theorem dX1_currentGoal_8 : decode cX1_currentGoal 8 = .ok (.aload_n 0, 1) := by decide +kernel
theorem dX1_currentGoal_9 : decode cX1_currentGoal 9 = .ok (.getfield 28, 3) := by decide +kernel
theorem dX1_currentGoal_12 : decode cX1_currentGoal 12 = .ok (.goto 4, 3) := by decide +kernel
theorem dX1_currentGoal_15 : decode cX1_currentGoal 15 = .ok (.iconst (-1), 1) := by decide +kernel
theorem dX1_currentGoal_16 : decode cX1_currentGoal 16 = .ok (.ireturn, 1) := by decide +kernel
theorem dX1_tally_0 : decode cX1_tally 0 = .ok (.iload_n 1, 1) := by decide +kernel
theorem dX1_tally_1 : decode cX1_tally 1 = .ok (.tableswitch 42 0 2 #[27, 32, 37], 27) := by decide +kernel
theorem dX1_tally_28 : decode cX1_tally 28 = .ok (.aload_n 0, 1) := by decide +kernel
theorem dX1_tally_29 : decode cX1_tally 29 = .ok (.getfield 38, 3) := by decide +kernel
theorem dX1_tally_32 : decode cX1_tally 32 = .ok (.ireturn, 1) := by decide +kernel
theorem dX1_tally_33 : decode cX1_tally 33 = .ok (.aload_n 0, 1) := by decide +kernel
theorem dX1_tally_34 : decode cX1_tally 34 = .ok (.getfield 41, 3) := by decide +kernel
theorem dX1_tally_37 : decode cX1_tally 37 = .ok (.ireturn, 1) := by decide +kernel
theorem dX1_tally_38 : decode cX1_tally 38 = .ok (.aload_n 0, 1) := by decide +kernel
theorem dX1_tally_39 : decode cX1_tally 39 = .ok (.getfield 44, 3) := by decide +kernel
theorem dX1_tally_42 : decode cX1_tally 42 = .ok (.ireturn, 1) := by decide +kernel
theorem dX1_tally_43 : decode cX1_tally 43 = .ok (.iconst (-1), 1) := by decide +kernel
theorem dX1_tally_44 : decode cX1_tally 44 = .ok (.ireturn, 1) := by decide +kernel
set_option maxRecDepth 20000 in
theorem ggX1_soil_X1_bit : GoodIn wsX1_soil wsX1_bit := goodIn_r _ [5] (by decide +kernel) (by decide +kernel)
set_option maxRecDepth 20000 in
theorem gX1_soil_X1_bit : GoodIn wsX1_soil (va_wsS RX1 51 yX1_bit wsX1_bit) := goodIn_app (goodIn_of _ (by decide +kernel)) ggX1_soil_X1_bit
theorem dX1_soil_0 : decode cX1_soil 0 = .ok (.aload_n 0, 1) := by decide +kernel
theorem dX1_soil_1 : decode cX1_soil 1 = .ok (.dup, 1) := by decide +kernel
theorem dX1_soil_2 : decode cX1_soil 2 = .ok (.getfield 31, 3) := by decide +kernel
theorem dX1_soil_5 : decode cX1_soil 5 = .ok (.iload_n 1, 1) := by decide +kernel
theorem dX1_soil_6 : decode cX1_soil 6 = .ok (.invokestatic 51, 3) := by decide +kernel
theorem dX1_soil_9 : decode cX1_soil 9 = .ok (.lor, 1) := by decide +kernel
theorem dX1_soil_10 : decode cX1_soil 10 = .ok (.putfield 31, 3) := by decide +kernel
theorem dX1_soil_13 : decode cX1_soil 13 = .ok (.return_, 1) := by decide +kernel
set_option maxRecDepth 20000 in
theorem ggX1_clean_X1_isDirty : GoodIn wsX1_clean wsX1_isDirty := goodIn_r _ [7, 1, 8, 9, 6, 10, 11, 12, 13, 14, 15, 16, 17, 18, 19] (by decide +kernel) (by decide +kernel)
set_option maxRecDepth 20000 in
theorem gX1_clean_X1_isDirty : GoodIn wsX1_clean (wsV RX1 59 RX1 yX1_isDirty wsX1_isDirty) := goodIn_app (goodIn_of _ (by decide +kernel)) ggX1_clean_X1_isDirty
set_option maxRecDepth 20000 in
theorem ggX1_clean_X1_bit : GoodIn wsX1_clean wsX1_bit := goodIn_r _ [10] (by decide +kernel) (by decide +kernel)
set_option maxRecDepth 20000 in
theorem gX1_clean_X1_bit : GoodIn wsX1_clean (va_wsS RX1 51 yX1_bit wsX1_bit) := goodIn_app (goodIn_of _ (by decide +kernel)) ggX1_clean_X1_bit
theorem dX1_clean_0 : decode cX1_clean 0 = .ok (.aload_n 0, 1) := by decide +kernel
theorem dX1_clean_1 : decode cX1_clean 1 = .ok (.iload_n 1, 1) := by decide +kernel
theorem dX1_clean_2 : decode cX1_clean 2 = .ok (.invokevirtual 59, 3) := by decide +kernel
theorem dX1_clean_5 : decode cX1_clean 5 = .ok (.istore_n 2, 1) := by decide +kernel
theorem dX1_clean_6 : decode cX1_clean 6 = .ok (.aload_n 0, 1) := by decide +kernel
theorem dX1_clean_7 : decode cX1_clean 7 = .ok (.dup, 1) := by decide +kernel
theorem dX1_clean_8 : decode cX1_clean 8 = .ok (.getfield 31, 3) := by decide +kernel
theorem dX1_clean_11 : decode cX1_clean 11 = .ok (.iload_n 1, 1) := by decide +kernel
theorem dX1_clean_12 : decode cX1_clean 12 = .ok (.invokestatic 51, 3) := by decide +kernel
theorem dX1_clean_15 : decode cX1_clean 15 = .ok (.ldc2_w 62, 3) := by decide +kernel
theorem dX1_clean_18 : decode cX1_clean 18 = .ok (.lxor, 1) := by decide +kernel
theorem dX1_clean_19 : decode cX1_clean 19 = .ok (.land, 1) := by decide +kernel
theorem dX1_clean_20 : decode cX1_clean 20 = .ok (.putfield 31, 3) := by decide +kernel
theorem dX1_clean_23 : decode cX1_clean 23 = .ok (.iload_n 2, 1) := by decide +kernel
theorem dX1_clean_24 : decode cX1_clean 24 = .ok (.ireturn, 1) := by decide +kernel
set_option maxRecDepth 20000 in
theorem ggX1_cleanVictim_X1_clean : GoodIn wsX1_cleanVictim wsX1_clean := goodIn_r _ [6, 7, 8, 9, 10, 11, 5, 12, 13, 14, 15, 16, 17, 18, 19, 20, 21, 22, 23, 24] (by decide +kernel) (by decide +kernel)
set_option maxRecDepth 20000 in
theorem gX1_cleanVictim_X1_clean : GoodIn wsX1_cleanVictim (wsV RX1 64 RX1 yX1_clean wsX1_clean) := goodIn_app (goodIn_of _ (by decide +kernel)) ggX1_cleanVictim_X1_clean
theorem dX1_cleanVictim_0 : decode cX1_cleanVictim 0 = .ok (.iload_n 1, 1) := by decide +kernel
theorem dX1_cleanVictim_1 : decode cX1_cleanVictim 1 = .ok (.iconst (-1), 1) := by decide +kernel
theorem dX1_cleanVictim_2 : decode cX1_cleanVictim 2 = .ok (.if_icmp .eq 11, 3) := by decide +kernel
theorem dX1_cleanVictim_5 : decode cX1_cleanVictim 5 = .ok (.aload_n 0, 1) := by decide +kernel
theorem dX1_cleanVictim_6 : decode cX1_cleanVictim 6 = .ok (.iload_n 1, 1) := by decide +kernel
theorem dX1_cleanVictim_7 : decode cX1_cleanVictim 7 = .ok (.invokevirtual 64, 3) := by decide +kernel
theorem dX1_cleanVictim_10 : decode cX1_cleanVictim 10 = .ok (.ifCond .ne 5, 3) := by decide +kernel
theorem dX1_cleanVictim_13 : decode cX1_cleanVictim 13 = .ok (.iconst 0, 1) := by decide +kernel
theorem dX1_cleanVictim_14 : decode cX1_cleanVictim 14 = .ok (.ireturn, 1) := by decide +kernel
theorem dX1_cleanVictim_15 : decode cX1_cleanVictim 15 = .ok (.aload_n 0, 1) := by decide +kernel
theorem dX1_cleanVictim_16 : decode cX1_cleanVictim 16 = .ok (.dup, 1) := by decide +kernel
theorem dX1_cleanVictim_17 : decode cX1_cleanVictim 17 = .ok (.getfield 44, 3) := by decide +kernel
theorem dX1_cleanVictim_20 : decode cX1_cleanVictim 20 = .ok (.iconst 1, 1) := by decide +kernel
theorem dX1_cleanVictim_21 : decode cX1_cleanVictim 21 = .ok (.iadd, 1) := by decide +kernel
theorem dX1_cleanVictim_22 : decode cX1_cleanVictim 22 = .ok (.putfield 44, 3) := by decide +kernel
theorem dX1_cleanVictim_25 : decode cX1_cleanVictim 25 = .ok (.iconst 1, 1) := by decide +kernel
theorem dX1_cleanVictim_26 : decode cX1_cleanVictim 26 = .ok (.ireturn, 1) := by decide +kernel
set_option maxRecDepth 20000 in
theorem ggX1_touch_X1_holds : GoodIn wsX1_touch wsX1_holds := goodIn_r _ [8, 3, 9, 10, 11, 12, 13, 14, 15, 16, 17, 18, 19, 20, 116, 117, 118, 119, 120, 121, 122, 123, 124, 125, 126] (by decide +kernel) (by decide +kernel)
set_option maxRecDepth 20000 in
theorem gX1_touch_X1_holds : GoodIn wsX1_touch (wsV RX1 67 RX1 yX1_holds wsX1_holds) := goodIn_app (goodIn_of _ (by decide +kernel)) ggX1_touch_X1_holds
set_option maxRecDepth 20000 in
theorem ggX1_touch_X1_touchRecent : GoodIn wsX1_touch wsX1_touchRecent := goodIn_r _ [24, 9, 25, 26, 27, 28, 13, 29, 19, 20, 30, 31, 32, 33, 15, 16, 17, 18, 34, 35, 36, 37, 38, 39, 40, 41, 42, 43, 44, 45, 116, 117, 118, 119, 120, 121, 122, 123, 124, 125, 126] (by decide +kernel) (by decide +kernel)
set_option maxRecDepth 20000 in
theorem gX1_touch_X1_touchRecent : GoodIn wsX1_touch (wsV RX1 70 RX1 yX1_touchRecent wsX1_touchRecent) := goodIn_app (goodIn_of _ (by decide +kernel)) ggX1_touch_X1_touchRecent
set_option maxRecDepth 20000 in
theorem ggX1_touch_X1_touchClock : GoodIn wsX1_touch wsX1_touchClock := goodIn_r _ [49, 9, 50, 25, 10, 11, 12, 13, 14, 15, 16, 17, 18, 19, 20, 51, 52, 7, 53, 34, 35, 36, 37, 54, 55, 56, 57, 58, 59, 60, 61, 62, 63, 64, 65, 66, 67, 68, 69, 70, 30, 31, 32, 33, 71, 72, 73, 74, 75, 76, 27, 28, 29, 77, 78, 79, 80, 116, 117, 118, 119, 120, 121, 122, 123, 124, 125, 126] (by decide +kernel) (by decide +kernel)
set_option maxRecDepth 20000 in
theorem gX1_touch_X1_touchClock : GoodIn wsX1_touch (wsV RX1 73 RX1 yX1_touchClock wsX1_touchClock) := goodIn_app (goodIn_of _ (by decide +kernel)) ggX1_touch_X1_touchClock
set_option maxRecDepth 20000 in
theorem ggX1_touch_X1_touchQueues : GoodIn wsX1_touch wsX1_touchQueues := goodIn_r _ [84, 9, 26, 27, 28, 13, 29, 19, 20, 30, 31, 32, 33, 15, 16, 17, 18, 42, 43, 44, 45, 10, 11, 12, 14, 85, 86, 87, 7, 88, 25, 89, 90, 91, 92, 34, 35, 36, 37, 38, 39, 40, 41, 116, 117, 118, 119, 120, 121, 122, 123, 124, 125, 126] (by decide +kernel) (by decide +kernel)
set_option maxRecDepth 20000 in
theorem gX1_touch_X1_touchQueues : GoodIn wsX1_touch (wsV RX1 76 RX1 yX1_touchQueues wsX1_touchQueues) := goodIn_app (goodIn_of _ (by decide +kernel)) ggX1_touch_X1_touchQueues
set_option maxRecDepth 20000 in
theorem ggX1_touch_X1_touchBalanced : GoodIn wsX1_touch wsX1_touchBalanced := goodIn_r _ [96, 9, 25, 97, 98, 99, 91, 100, 89, 90, 92, 26, 27, 28, 13, 29, 19, 20, 30, 31, 32, 33, 15, 16, 17, 18, 42, 43, 44, 45, 10, 11, 12, 14, 101, 102, 7, 103, 34, 35, 36, 37, 104, 105, 106, 107, 108, 109, 110, 111, 38, 39, 40, 41, 112, 113, 114, 115, 116, 117, 118, 119, 120, 121, 122, 123, 124, 125, 126] (by decide +kernel) (by decide +kernel)
set_option maxRecDepth 20000 in
theorem gX1_touch_X1_touchBalanced : GoodIn wsX1_touch (wsV RX1 79 RX1 yX1_touchBalanced wsX1_touchBalanced) := goodIn_app (goodIn_of _ (by decide +kernel)) ggX1_touch_X1_touchBalanced
theorem dX1_touch_0 : decode cX1_touch 0 = .ok (.aload_n 0, 1) := by decide +kernel
theorem dX1_touch_1 : decode cX1_touch 1 = .ok (.iload_n 1, 1) := by decide +kernel
theorem dX1_touch_2 : decode cX1_touch 2 = .ok (.invokevirtual 67, 3) := by decide +kernel
theorem dX1_touch_5 : decode cX1_touch 5 = .ok (.ifCond .eq 16, 3) := by decide +kernel
theorem dX1_touch_8 : decode cX1_touch 8 = .ok (.aload_n 0, 1) := by decide +kernel
theorem dX1_touch_9 : decode cX1_touch 9 = .ok (.dup, 1) := by decide +kernel
theorem dX1_touch_10 : decode cX1_touch 10 = .ok (.getfield 38, 3) := by decide +kernel
theorem dX1_touch_13 : decode cX1_touch 13 = .ok (.iconst 1, 1) := by decide +kernel
theorem dX1_touch_14 : decode cX1_touch 14 = .ok (.iadd, 1) := by decide +kernel
theorem dX1_touch_15 : decode cX1_touch 15 = .ok (.putfield 38, 3) := by decide +kernel
theorem dX1_touch_18 : decode cX1_touch 18 = .ok (.goto 13, 3) := by decide +kernel
theorem dX1_touch_21 : decode cX1_touch 21 = .ok (.aload_n 0, 1) := by decide +kernel
theorem dX1_touch_22 : decode cX1_touch 22 = .ok (.dup, 1) := by decide +kernel
theorem dX1_touch_23 : decode cX1_touch 23 = .ok (.getfield 41, 3) := by decide +kernel
theorem dX1_touch_26 : decode cX1_touch 26 = .ok (.iconst 1, 1) := by decide +kernel
theorem dX1_touch_27 : decode cX1_touch 27 = .ok (.iadd, 1) := by decide +kernel
theorem dX1_touch_28 : decode cX1_touch 28 = .ok (.putfield 41, 3) := by decide +kernel
theorem dX1_touch_31 : decode cX1_touch 31 = .ok (.aload_n 0, 1) := by decide +kernel
theorem dX1_touch_32 : decode cX1_touch 32 = .ok (.getfield 18, 3) := by decide +kernel
theorem dX1_touch_35 : decode cX1_touch 35 = .ok (.tableswitch 43 0 2 #[25, 31, 37], 25) := by decide +kernel
theorem dX1_touch_60 : decode cX1_touch 60 = .ok (.aload_n 0, 1) := by decide +kernel
theorem dX1_touch_61 : decode cX1_touch 61 = .ok (.iload_n 1, 1) := by decide +kernel
theorem dX1_touch_62 : decode cX1_touch 62 = .ok (.invokevirtual 70, 3) := by decide +kernel
theorem dX1_touch_65 : decode cX1_touch 65 = .ok (.ireturn, 1) := by decide +kernel
theorem dX1_touch_66 : decode cX1_touch 66 = .ok (.aload_n 0, 1) := by decide +kernel
theorem dX1_touch_67 : decode cX1_touch 67 = .ok (.iload_n 1, 1) := by decide +kernel
theorem dX1_touch_68 : decode cX1_touch 68 = .ok (.invokevirtual 73, 3) := by decide +kernel
theorem dX1_touch_71 : decode cX1_touch 71 = .ok (.ireturn, 1) := by decide +kernel
theorem dX1_touch_72 : decode cX1_touch 72 = .ok (.aload_n 0, 1) := by decide +kernel
theorem dX1_touch_73 : decode cX1_touch 73 = .ok (.iload_n 1, 1) := by decide +kernel
theorem dX1_touch_74 : decode cX1_touch 74 = .ok (.invokevirtual 76, 3) := by decide +kernel
theorem dX1_touch_77 : decode cX1_touch 77 = .ok (.ireturn, 1) := by decide +kernel
theorem dX1_touch_78 : decode cX1_touch 78 = .ok (.aload_n 0, 1) := by decide +kernel
theorem dX1_touch_79 : decode cX1_touch 79 = .ok (.iload_n 1, 1) := by decide +kernel
theorem dX1_touch_80 : decode cX1_touch 80 = .ok (.invokevirtual 79, 3) := by decide +kernel
theorem dX1_touch_83 : decode cX1_touch 83 = .ok (.ireturn, 1) := by decide +kernel
set_option maxRecDepth 20000 in
theorem ggX1_touchRecent_X0_remove : GoodIn wsX1_touchRecent wsX0_remove := goodIn_r _ [7, 8, 9, 10, 11, 12, 13, 14, 15, 16, 6, 17, 39, 40] (by decide +kernel) (by decide +kernel)
set_option maxRecDepth 20000 in
theorem gX1_touchRecent_X0_remove : GoodIn wsX1_touchRecent (wsV RX1 82 RX0 yX0_remove wsX0_remove) := goodIn_app (goodIn_of _ (by decide +kernel)) ggX1_touchRecent_X0_remove
set_option maxRecDepth 20000 in
theorem ggX1_touchRecent_X0_size : GoodIn wsX1_touchRecent wsX0_size := goodIn_r _ [21, 8, 39, 40] (by decide +kernel) (by decide +kernel)
set_option maxRecDepth 20000 in
theorem gX1_touchRecent_X0_size : GoodIn wsX1_touchRecent (wsV RX1 85 RX0 yX0_size wsX0_size) := goodIn_app (goodIn_of _ (by decide +kernel)) ggX1_touchRecent_X0_size
set_option maxRecDepth 20000 in
theorem ggX1_touchRecent_X0_takeTail : GoodIn wsX1_touchRecent wsX0_takeTail := goodIn_r _ [25, 8, 9, 39, 40] (by decide +kernel) (by decide +kernel)
set_option maxRecDepth 20000 in
theorem gX1_touchRecent_X0_takeTail : GoodIn wsX1_touchRecent (wsV RX1 89 RX0 yX0_takeTail wsX0_takeTail) := goodIn_app (goodIn_of _ (by decide +kernel)) ggX1_touchRecent_X0_takeTail
set_option maxRecDepth 20000 in
theorem ggX1_touchRecent_X0_addHead : GoodIn wsX1_touchRecent wsX0_addHead := goodIn_r _ [29, 8, 9, 10, 11, 12, 13, 39, 40] (by decide +kernel) (by decide +kernel)
set_option maxRecDepth 20000 in
theorem gX1_touchRecent_X0_addHead : GoodIn wsX1_touchRecent (wsV RX1 92 RX0 yX0_addHead wsX0_addHead) := goodIn_app (goodIn_of _ (by decide +kernel)) ggX1_touchRecent_X0_addHead
theorem dX1_touchRecent_0 : decode cX1_touchRecent 0 = .ok (.aload_n 0, 1) := by decide +kernel
theorem dX1_touchRecent_1 : decode cX1_touchRecent 1 = .ok (.getfield 13, 3) := by decide +kernel
theorem dX1_touchRecent_4 : decode cX1_touchRecent 4 = .ok (.iconst 0, 1) := by decide +kernel
theorem dX1_touchRecent_5 : decode cX1_touchRecent 5 = .ok (.aaload, 1) := by decide +kernel
theorem dX1_touchRecent_6 : decode cX1_touchRecent 6 = .ok (.astore_n 2, 1) := by decide +kernel
theorem dX1_touchRecent_7 : decode cX1_touchRecent 7 = .ok (.iconst (-1), 1) := by decide +kernel
theorem dX1_touchRecent_8 : decode cX1_touchRecent 8 = .ok (.istore_n 3, 1) := by decide +kernel
theorem dX1_touchRecent_9 : decode cX1_touchRecent 9 = .ok (.aload_n 2, 1) := by decide +kernel
theorem dX1_touchRecent_10 : decode cX1_touchRecent 10 = .ok (.iload_n 1, 1) := by decide +kernel
theorem dX1_touchRecent_11 : decode cX1_touchRecent 11 = .ok (.invokevirtual 82, 3) := by decide +kernel
theorem dX1_touchRecent_14 : decode cX1_touchRecent 14 = .ok (.ifCond .ne 19, 3) := by decide +kernel
theorem dX1_touchRecent_17 : decode cX1_touchRecent 17 = .ok (.aload_n 2, 1) := by decide +kernel
theorem dX1_touchRecent_18 : decode cX1_touchRecent 18 = .ok (.invokevirtual 85, 3) := by decide +kernel
theorem dX1_touchRecent_21 : decode cX1_touchRecent 21 = .ok (.aload_n 0, 1) := by decide +kernel
theorem dX1_touchRecent_22 : decode cX1_touchRecent 22 = .ok (.getfield 22, 3) := by decide +kernel
theorem dX1_touchRecent_25 : decode cX1_touchRecent 25 = .ok (.if_icmp .ne 8, 3) := by decide +kernel
theorem dX1_touchRecent_28 : decode cX1_touchRecent 28 = .ok (.aload_n 2, 1) := by decide +kernel
theorem dX1_touchRecent_29 : decode cX1_touchRecent 29 = .ok (.invokevirtual 89, 3) := by decide +kernel
theorem dX1_touchRecent_32 : decode cX1_touchRecent 32 = .ok (.istore_n 3, 1) := by decide +kernel
theorem dX1_touchRecent_33 : decode cX1_touchRecent 33 = .ok (.aload_n 2, 1) := by decide +kernel
theorem dX1_touchRecent_34 : decode cX1_touchRecent 34 = .ok (.iload_n 1, 1) := by decide +kernel
theorem dX1_touchRecent_35 : decode cX1_touchRecent 35 = .ok (.invokevirtual 92, 3) := by decide +kernel
theorem dX1_touchRecent_38 : decode cX1_touchRecent 38 = .ok (.iload_n 3, 1) := by decide +kernel
theorem dX1_touchRecent_39 : decode cX1_touchRecent 39 = .ok (.ireturn, 1) := by decide +kernel
set_option maxRecDepth 20000 in
theorem ggX1_touchClock_X0_has : GoodIn wsX1_touchClock wsX0_has := goodIn_r _ [8, 9, 10, 11, 7, 12, 13, 14, 66, 67] (by decide +kernel) (by decide +kernel)
set_option maxRecDepth 20000 in
theorem gX1_touchClock_X0_has : GoodIn wsX1_touchClock (wsV RX1 47 RX0 yX0_has wsX0_has) := goodIn_app (goodIn_of _ (by decide +kernel)) ggX1_touchClock_X0_has
set_option maxRecDepth 20000 in
theorem ggX1_touchClock_X1_bit : GoodIn wsX1_touchClock wsX1_bit := goodIn_r _ [18] (by decide +kernel) (by decide +kernel)
set_option maxRecDepth 20000 in
theorem gX1_touchClock_X1_bit : GoodIn wsX1_touchClock (va_wsS RX1 51 yX1_bit wsX1_bit) := goodIn_app (goodIn_of _ (by decide +kernel)) ggX1_touchClock_X1_bit
set_option maxRecDepth 20000 in
theorem ggX1_touchClock_X0_size : GoodIn wsX1_touchClock wsX0_size := goodIn_r _ [22, 13, 66, 67] (by decide +kernel) (by decide +kernel)
set_option maxRecDepth 20000 in
theorem gX1_touchClock_X0_size : GoodIn wsX1_touchClock (wsV RX1 85 RX0 yX0_size wsX0_size) := goodIn_app (goodIn_of _ (by decide +kernel)) ggX1_touchClock_X0_size
set_option maxRecDepth 20000 in
theorem ggX1_touchClock_X1_spareMarked : GoodIn wsX1_touchClock wsX1_spareMarked := goodIn_r _ [26, 2, 27, 19, 20, 21, 7, 22, 13, 28, 29, 30, 31, 14, 32, 33, 34, 17, 35, 15, 16, 18, 36, 37, 38, 39, 40, 41, 42, 43, 57, 58, 59, 60, 61, 62, 63, 64, 65, 66, 67] (by decide +kernel) (by decide +kernel)
set_option maxRecDepth 20000 in
theorem gX1_touchClock_X1_spareMarked : GoodIn wsX1_touchClock (wsV RX1 96 RX1 yX1_spareMarked wsX1_spareMarked) := goodIn_app (goodIn_of _ (by decide +kernel)) ggX1_touchClock_X1_spareMarked
set_option maxRecDepth 20000 in
theorem ggX1_touchClock_X0_takeHead : GoodIn wsX1_touchClock wsX0_takeHead := goodIn_r _ [47, 48, 29, 30, 7, 31, 13, 14, 49, 50, 51, 52, 40, 41, 42, 43, 9, 10, 11, 12, 66, 67] (by decide +kernel) (by decide +kernel)
set_option maxRecDepth 20000 in
theorem gX1_touchClock_X0_takeHead : GoodIn wsX1_touchClock (wsV RX1 100 RX0 yX0_takeHead wsX0_takeHead) := goodIn_app (goodIn_of _ (by decide +kernel)) ggX1_touchClock_X0_takeHead
set_option maxRecDepth 20000 in
theorem ggX1_touchClock_X0_addTail : GoodIn wsX1_touchClock wsX0_addTail := goodIn_r _ [56, 13, 14, 66, 67] (by decide +kernel) (by decide +kernel)
set_option maxRecDepth 20000 in
theorem gX1_touchClock_X0_addTail : GoodIn wsX1_touchClock (wsV RX1 103 RX0 yX0_addTail wsX0_addTail) := goodIn_app (goodIn_of _ (by decide +kernel)) ggX1_touchClock_X0_addTail
theorem dX1_touchClock_0 : decode cX1_touchClock 0 = .ok (.aload_n 0, 1) := by decide +kernel
theorem dX1_touchClock_1 : decode cX1_touchClock 1 = .ok (.getfield 13, 3) := by decide +kernel
theorem dX1_touchClock_4 : decode cX1_touchClock 4 = .ok (.iconst 0, 1) := by decide +kernel
theorem dX1_touchClock_5 : decode cX1_touchClock 5 = .ok (.aaload, 1) := by decide +kernel
theorem dX1_touchClock_6 : decode cX1_touchClock 6 = .ok (.astore_n 2, 1) := by decide +kernel
theorem dX1_touchClock_7 : decode cX1_touchClock 7 = .ok (.aload_n 2, 1) := by decide +kernel
theorem dX1_touchClock_8 : decode cX1_touchClock 8 = .ok (.iload_n 1, 1) := by decide +kernel
theorem dX1_touchClock_9 : decode cX1_touchClock 9 = .ok (.invokevirtual 47, 3) := by decide +kernel
theorem dX1_touchClock_12 : decode cX1_touchClock 12 = .ok (.ifCond .eq 18, 3) := by decide +kernel
theorem dX1_touchClock_15 : decode cX1_touchClock 15 = .ok (.aload_n 0, 1) := by decide +kernel
theorem dX1_touchClock_16 : decode cX1_touchClock 16 = .ok (.dup, 1) := by decide +kernel
theorem dX1_touchClock_17 : decode cX1_touchClock 17 = .ok (.getfield 35, 3) := by decide +kernel
theorem dX1_touchClock_20 : decode cX1_touchClock 20 = .ok (.iload_n 1, 1) := by decide +kernel
theorem dX1_touchClock_21 : decode cX1_touchClock 21 = .ok (.invokestatic 51, 3) := by decide +kernel
theorem dX1_touchClock_24 : decode cX1_touchClock 24 = .ok (.lor, 1) := by decide +kernel
theorem dX1_touchClock_25 : decode cX1_touchClock 25 = .ok (.putfield 35, 3) := by decide +kernel
theorem dX1_touchClock_28 : decode cX1_touchClock 28 = .ok (.iconst (-1), 1) := by decide +kernel
theorem dX1_touchClock_29 : decode cX1_touchClock 29 = .ok (.ireturn, 1) := by decide +kernel
theorem dX1_touchClock_30 : decode cX1_touchClock 30 = .ok (.iconst (-1), 1) := by decide +kernel
theorem dX1_touchClock_31 : decode cX1_touchClock 31 = .ok (.istore_n 3, 1) := by decide +kernel
theorem dX1_touchClock_32 : decode cX1_touchClock 32 = .ok (.aload_n 2, 1) := by decide +kernel
theorem dX1_touchClock_33 : decode cX1_touchClock 33 = .ok (.invokevirtual 85, 3) := by decide +kernel
theorem dX1_touchClock_36 : decode cX1_touchClock 36 = .ok (.aload_n 0, 1) := by decide +kernel
theorem dX1_touchClock_37 : decode cX1_touchClock 37 = .ok (.getfield 22, 3) := by decide +kernel
theorem dX1_touchClock_40 : decode cX1_touchClock 40 = .ok (.if_icmp .ne 13, 3) := by decide +kernel
theorem dX1_touchClock_43 : decode cX1_touchClock 43 = .ok (.aload_n 0, 1) := by decide +kernel
theorem dX1_touchClock_44 : decode cX1_touchClock 44 = .ok (.aload_n 2, 1) := by decide +kernel
theorem dX1_touchClock_45 : decode cX1_touchClock 45 = .ok (.invokevirtual 96, 3) := by decide +kernel
theorem dX1_touchClock_48 : decode cX1_touchClock 48 = .ok (.aload_n 2, 1) := by decide +kernel
theorem dX1_touchClock_49 : decode cX1_touchClock 49 = .ok (.invokevirtual 100, 3) := by decide +kernel
theorem dX1_touchClock_52 : decode cX1_touchClock 52 = .ok (.istore_n 3, 1) := by decide +kernel
theorem dX1_touchClock_53 : decode cX1_touchClock 53 = .ok (.aload_n 2, 1) := by decide +kernel
theorem dX1_touchClock_54 : decode cX1_touchClock 54 = .ok (.iload_n 1, 1) := by decide +kernel
theorem dX1_touchClock_55 : decode cX1_touchClock 55 = .ok (.invokevirtual 103, 3) := by decide +kernel
theorem dX1_touchClock_58 : decode cX1_touchClock 58 = .ok (.iload_n 3, 1) := by decide +kernel
theorem dX1_touchClock_59 : decode cX1_touchClock 59 = .ok (.ireturn, 1) := by decide +kernel
set_option maxRecDepth 20000 in
theorem ggX1_spareMarked_X0_size : GoodIn wsX1_spareMarked wsX0_size := goodIn_r _ [7, 8, 39, 40] (by decide +kernel) (by decide +kernel)
set_option maxRecDepth 20000 in
theorem gX1_spareMarked_X0_size : GoodIn wsX1_spareMarked (wsV RX1 85 RX0 yX0_size wsX0_size) := goodIn_app (goodIn_of _ (by decide +kernel)) ggX1_spareMarked_X0_size
set_option maxRecDepth 20000 in
theorem ggX1_spareMarked_X0_at : GoodIn wsX1_spareMarked wsX0_at := goodIn_r _ [12, 8, 13, 39, 40] (by decide +kernel) (by decide +kernel)
set_option maxRecDepth 20000 in
theorem gX1_spareMarked_X0_at : GoodIn wsX1_spareMarked (wsV RX1 55 RX0 yX0_at wsX0_at) := goodIn_app (goodIn_of _ (by decide +kernel)) ggX1_spareMarked_X0_at
set_option maxRecDepth 20000 in
theorem ggX1_spareMarked_X1_isMarked : GoodIn wsX1_spareMarked wsX1_isMarked := goodIn_r _ [18, 1, 19, 20, 17, 21, 30, 31, 32, 33, 34, 35, 36, 37, 38] (by decide +kernel) (by decide +kernel)
set_option maxRecDepth 20000 in
theorem gX1_spareMarked_X1_isMarked : GoodIn wsX1_spareMarked (wsV RX1 106 RX1 yX1_isMarked wsX1_isMarked) := goodIn_app (goodIn_of _ (by decide +kernel)) ggX1_spareMarked_X1_isMarked
set_option maxRecDepth 20000 in
theorem ggX1_spareMarked_X1_bit : GoodIn wsX1_spareMarked wsX1_bit := goodIn_r _ [21] (by decide +kernel) (by decide +kernel)
set_option maxRecDepth 20000 in
theorem gX1_spareMarked_X1_bit : GoodIn wsX1_spareMarked (va_wsS RX1 51 yX1_bit wsX1_bit) := goodIn_app (goodIn_of _ (by decide +kernel)) ggX1_spareMarked_X1_bit
set_option maxRecDepth 20000 in
theorem ggX1_spareMarked_X0_turn : GoodIn wsX1_spareMarked wsX0_turn := goodIn_r _ [25, 8, 13, 26, 27, 28, 29, 39, 40] (by decide +kernel) (by decide +kernel)
set_option maxRecDepth 20000 in
theorem gX1_spareMarked_X0_turn : GoodIn wsX1_spareMarked (wsV RX1 109 RX0 yX0_turn wsX0_turn) := goodIn_app (goodIn_of _ (by decide +kernel)) ggX1_spareMarked_X0_turn
theorem dX1_spareMarked_0 : decode cX1_spareMarked 0 = .ok (.aload_n 1, 1) := by decide +kernel
theorem dX1_spareMarked_1 : decode cX1_spareMarked 1 = .ok (.invokevirtual 85, 3) := by decide +kernel
theorem dX1_spareMarked_4 : decode cX1_spareMarked 4 = .ok (.istore_n 2, 1) := by decide +kernel
theorem dX1_spareMarked_5 : decode cX1_spareMarked 5 = .ok (.iconst 0, 1) := by decide +kernel
theorem dX1_spareMarked_6 : decode cX1_spareMarked 6 = .ok (.istore_n 3, 1) := by decide +kernel
theorem dX1_spareMarked_7 : decode cX1_spareMarked 7 = .ok (.iload_n 3, 1) := by decide +kernel
theorem dX1_spareMarked_8 : decode cX1_spareMarked 8 = .ok (.iload_n 2, 1) := by decide +kernel
theorem dX1_spareMarked_9 : decode cX1_spareMarked 9 = .ok (.if_icmp .ge 46, 3) := by decide +kernel
theorem dX1_spareMarked_12 : decode cX1_spareMarked 12 = .ok (.aload_n 0, 1) := by decide +kernel
theorem dX1_spareMarked_13 : decode cX1_spareMarked 13 = .ok (.aload_n 1, 1) := by decide +kernel
theorem dX1_spareMarked_14 : decode cX1_spareMarked 14 = .ok (.iconst 0, 1) := by decide +kernel
theorem dX1_spareMarked_15 : decode cX1_spareMarked 15 = .ok (.invokevirtual 55, 3) := by decide +kernel
theorem dX1_spareMarked_18 : decode cX1_spareMarked 18 = .ok (.invokevirtual 106, 3) := by decide +kernel
theorem dX1_spareMarked_21 : decode cX1_spareMarked 21 = .ok (.ifCond .eq 34, 3) := by decide +kernel
theorem dX1_spareMarked_24 : decode cX1_spareMarked 24 = .ok (.aload_n 0, 1) := by decide +kernel
theorem dX1_spareMarked_25 : decode cX1_spareMarked 25 = .ok (.dup, 1) := by decide +kernel
theorem dX1_spareMarked_26 : decode cX1_spareMarked 26 = .ok (.getfield 35, 3) := by decide +kernel
theorem dX1_spareMarked_29 : decode cX1_spareMarked 29 = .ok (.aload_n 1, 1) := by decide +kernel
theorem dX1_spareMarked_30 : decode cX1_spareMarked 30 = .ok (.iconst 0, 1) := by decide +kernel
theorem dX1_spareMarked_31 : decode cX1_spareMarked 31 = .ok (.invokevirtual 55, 3) := by decide +kernel
theorem dX1_spareMarked_34 : decode cX1_spareMarked 34 = .ok (.invokestatic 51, 3) := by decide +kernel
theorem dX1_spareMarked_37 : decode cX1_spareMarked 37 = .ok (.ldc2_w 62, 3) := by decide +kernel
theorem dX1_spareMarked_40 : decode cX1_spareMarked 40 = .ok (.lxor, 1) := by decide +kernel
theorem dX1_spareMarked_41 : decode cX1_spareMarked 41 = .ok (.land, 1) := by decide +kernel
theorem dX1_spareMarked_42 : decode cX1_spareMarked 42 = .ok (.putfield 35, 3) := by decide +kernel
theorem dX1_spareMarked_45 : decode cX1_spareMarked 45 = .ok (.aload_n 1, 1) := by decide +kernel
theorem dX1_spareMarked_46 : decode cX1_spareMarked 46 = .ok (.invokevirtual 109, 3) := by decide +kernel
theorem dX1_spareMarked_49 : decode cX1_spareMarked 49 = .ok (.iinc 3 1, 3) := by decide +kernel
theorem dX1_spareMarked_52 : decode cX1_spareMarked 52 = .ok (.goto (-45), 3) := by decide +kernel
theorem dX1_spareMarked_55 : decode cX1_spareMarked 55 = .ok (.return_, 1) := by decide +kernel
set_option maxRecDepth 20000 in
theorem ggX1_touchQueues_X0_remove : GoodIn wsX1_touchQueues wsX0_remove := goodIn_r _ [6, 7, 8, 9, 10, 11, 12, 13, 14, 15, 5, 16, 52, 53] (by decide +kernel) (by decide +kernel)
set_option maxRecDepth 20000 in
theorem gX1_touchQueues_X0_remove : GoodIn wsX1_touchQueues (wsV RX1 82 RX0 yX0_remove wsX0_remove) := goodIn_app (goodIn_of _ (by decide +kernel)) ggX1_touchQueues_X0_remove
set_option maxRecDepth 20000 in
theorem ggX1_touchQueues_X0_addHead : GoodIn wsX1_touchQueues wsX0_addHead := goodIn_r _ [20, 7, 8, 9, 10, 11, 12, 52, 53] (by decide +kernel) (by decide +kernel)
set_option maxRecDepth 20000 in
theorem gX1_touchQueues_X0_addHead : GoodIn wsX1_touchQueues (wsV RX1 92 RX0 yX0_addHead wsX0_addHead) := goodIn_app (goodIn_of _ (by decide +kernel)) ggX1_touchQueues_X0_addHead
set_option maxRecDepth 20000 in
theorem ggX1_touchQueues_X0_has : GoodIn wsX1_touchQueues wsX0_has := goodIn_r _ [24, 13, 14, 15, 5, 16, 7, 8, 52, 53] (by decide +kernel) (by decide +kernel)
set_option maxRecDepth 20000 in
theorem gX1_touchQueues_X0_has : GoodIn wsX1_touchQueues (wsV RX1 47 RX0 yX0_has wsX0_has) := goodIn_app (goodIn_of _ (by decide +kernel)) ggX1_touchQueues_X0_has
set_option maxRecDepth 20000 in
theorem ggX1_touchQueues_X1_makeRoom : GoodIn wsX1_touchQueues wsX1_makeRoom := goodIn_r _ [29, 30, 31, 32, 33, 34, 35, 36, 37, 5, 38, 7, 39, 40, 41, 42, 8, 17, 18, 19, 20, 9, 10, 11, 12, 43, 44, 45, 46, 47, 48, 49, 50, 51, 52, 53] (by decide +kernel) (by decide +kernel)
set_option maxRecDepth 20000 in
theorem gX1_touchQueues_X1_makeRoom : GoodIn wsX1_touchQueues (wsV RX1 112 RX1 yX1_makeRoom wsX1_makeRoom) := goodIn_app (goodIn_of _ (by decide +kernel)) ggX1_touchQueues_X1_makeRoom
theorem dX1_touchQueues_0 : decode cX1_touchQueues 0 = .ok (.aload_n 0, 1) := by decide +kernel
theorem dX1_touchQueues_1 : decode cX1_touchQueues 1 = .ok (.getfield 13, 3) := by decide +kernel
theorem dX1_touchQueues_4 : decode cX1_touchQueues 4 = .ok (.iconst 0, 1) := by decide +kernel
theorem dX1_touchQueues_5 : decode cX1_touchQueues 5 = .ok (.aaload, 1) := by decide +kernel
theorem dX1_touchQueues_6 : decode cX1_touchQueues 6 = .ok (.astore_n 2, 1) := by decide +kernel
theorem dX1_touchQueues_7 : decode cX1_touchQueues 7 = .ok (.aload_n 0, 1) := by decide +kernel
theorem dX1_touchQueues_8 : decode cX1_touchQueues 8 = .ok (.getfield 13, 3) := by decide +kernel
theorem dX1_touchQueues_11 : decode cX1_touchQueues 11 = .ok (.iconst 1, 1) := by decide +kernel
theorem dX1_touchQueues_12 : decode cX1_touchQueues 12 = .ok (.aaload, 1) := by decide +kernel
theorem dX1_touchQueues_13 : decode cX1_touchQueues 13 = .ok (.astore_n 3, 1) := by decide +kernel
theorem dX1_touchQueues_14 : decode cX1_touchQueues 14 = .ok (.aload_n 0, 1) := by decide +kernel
theorem dX1_touchQueues_15 : decode cX1_touchQueues 15 = .ok (.getfield 13, 3) := by decide +kernel
theorem dX1_touchQueues_18 : decode cX1_touchQueues 18 = .ok (.iconst 2, 1) := by decide +kernel
theorem dX1_touchQueues_19 : decode cX1_touchQueues 19 = .ok (.aaload, 1) := by decide +kernel
theorem dX1_touchQueues_20 : decode cX1_touchQueues 20 = .ok (.astore 4, 2) := by decide +kernel
theorem dX1_touchQueues_22 : decode cX1_touchQueues 22 = .ok (.aload 4, 2) := by decide +kernel
theorem dX1_touchQueues_24 : decode cX1_touchQueues 24 = .ok (.iload_n 1, 1) := by decide +kernel
theorem dX1_touchQueues_25 : decode cX1_touchQueues 25 = .ok (.invokevirtual 82, 3) := by decide +kernel
theorem dX1_touchQueues_28 : decode cX1_touchQueues 28 = .ok (.ifCond .eq 11, 3) := by decide +kernel
theorem dX1_touchQueues_31 : decode cX1_touchQueues 31 = .ok (.aload 4, 2) := by decide +kernel
theorem dX1_touchQueues_33 : decode cX1_touchQueues 33 = .ok (.iload_n 1, 1) := by decide +kernel
theorem dX1_touchQueues_34 : decode cX1_touchQueues 34 = .ok (.invokevirtual 92, 3) := by decide +kernel
theorem dX1_touchQueues_37 : decode cX1_touchQueues 37 = .ok (.iconst (-1), 1) := by decide +kernel
theorem dX1_touchQueues_38 : decode cX1_touchQueues 38 = .ok (.ireturn, 1) := by decide +kernel
theorem dX1_touchQueues_39 : decode cX1_touchQueues 39 = .ok (.aload_n 2, 1) := by decide +kernel
theorem dX1_touchQueues_40 : decode cX1_touchQueues 40 = .ok (.iload_n 1, 1) := by decide +kernel
theorem dX1_touchQueues_41 : decode cX1_touchQueues 41 = .ok (.invokevirtual 47, 3) := by decide +kernel
theorem dX1_touchQueues_44 : decode cX1_touchQueues 44 = .ok (.ifCond .eq 5, 3) := by decide +kernel
theorem dX1_touchQueues_47 : decode cX1_touchQueues 47 = .ok (.iconst (-1), 1) := by decide +kernel
theorem dX1_touchQueues_48 : decode cX1_touchQueues 48 = .ok (.ireturn, 1) := by decide +kernel
theorem dX1_touchQueues_49 : decode cX1_touchQueues 49 = .ok (.aload_n 3, 1) := by decide +kernel
theorem dX1_touchQueues_50 : decode cX1_touchQueues 50 = .ok (.iload_n 1, 1) := by decide +kernel
theorem dX1_touchQueues_51 : decode cX1_touchQueues 51 = .ok (.invokevirtual 82, 3) := by decide +kernel
theorem dX1_touchQueues_54 : decode cX1_touchQueues 54 = .ok (.ifCond .eq 8, 3) := by decide +kernel
theorem dX1_touchQueues_57 : decode cX1_touchQueues 57 = .ok (.aload 4, 2) := by decide +kernel
theorem dX1_touchQueues_59 : decode cX1_touchQueues 59 = .ok (.goto 4, 3) := by decide +kernel
theorem dX1_touchQueues_62 : decode cX1_touchQueues 62 = .ok (.aload_n 2, 1) := by decide +kernel
theorem dX1_touchQueues_63 : decode cX1_touchQueues 63 = .ok (.astore 5, 2) := by decide +kernel
theorem dX1_touchQueues_65 : decode cX1_touchQueues 65 = .ok (.aload_n 0, 1) := by decide +kernel
theorem dX1_touchQueues_66 : decode cX1_touchQueues 66 = .ok (.aload_n 2, 1) := by decide +kernel
theorem dX1_touchQueues_67 : decode cX1_touchQueues 67 = .ok (.aload_n 3, 1) := by decide +kernel
theorem dX1_touchQueues_68 : decode cX1_touchQueues 68 = .ok (.aload 4, 2) := by decide +kernel
theorem dX1_touchQueues_70 : decode cX1_touchQueues 70 = .ok (.invokevirtual 112, 3) := by decide +kernel
theorem dX1_touchQueues_73 : decode cX1_touchQueues 73 = .ok (.istore 6, 2) := by decide +kernel
theorem dX1_touchQueues_75 : decode cX1_touchQueues 75 = .ok (.aload 5, 2) := by decide +kernel
theorem dX1_touchQueues_77 : decode cX1_touchQueues 77 = .ok (.iload_n 1, 1) := by decide +kernel
theorem dX1_touchQueues_78 : decode cX1_touchQueues 78 = .ok (.invokevirtual 92, 3) := by decide +kernel
theorem dX1_touchQueues_81 : decode cX1_touchQueues 81 = .ok (.iload 6, 2) := by decide +kernel
theorem dX1_touchQueues_83 : decode cX1_touchQueues 83 = .ok (.ireturn, 1) := by decide +kernel
set_option maxRecDepth 20000 in
theorem ggX1_makeRoom_X0_size : GoodIn wsX1_makeRoom wsX0_size := goodIn_r _ [10, 11, 34, 35] (by decide +kernel) (by decide +kernel)
set_option maxRecDepth 20000 in
theorem gX1_makeRoom_X0_size : GoodIn wsX1_makeRoom (wsV RX1 85 RX0 yX0_size wsX0_size) := goodIn_app (goodIn_of _ (by decide +kernel)) ggX1_makeRoom_X0_size
set_option maxRecDepth 20000 in
theorem ggX1_makeRoom_X0_takeTail : GoodIn wsX1_makeRoom wsX0_takeTail := goodIn_r _ [15, 11, 16, 34, 35] (by decide +kernel) (by decide +kernel)
set_option maxRecDepth 20000 in
theorem gX1_makeRoom_X0_takeTail : GoodIn wsX1_makeRoom (wsV RX1 89 RX0 yX0_takeTail wsX0_takeTail) := goodIn_app (goodIn_of _ (by decide +kernel)) ggX1_makeRoom_X0_takeTail
set_option maxRecDepth 20000 in
theorem ggX1_makeRoom_X0_addHead : GoodIn wsX1_makeRoom wsX0_addHead := goodIn_r _ [20, 11, 16, 21, 22, 23, 24, 34, 35] (by decide +kernel) (by decide +kernel)
set_option maxRecDepth 20000 in
theorem gX1_makeRoom_X0_addHead : GoodIn wsX1_makeRoom (wsV RX1 92 RX0 yX0_addHead wsX0_addHead) := goodIn_app (goodIn_of _ (by decide +kernel)) ggX1_makeRoom_X0_addHead
theorem dX1_makeRoom_0 : decode cX1_makeRoom 0 = .ok (.aload_n 1, 1) := by decide +kernel
theorem dX1_makeRoom_1 : decode cX1_makeRoom 1 = .ok (.invokevirtual 85, 3) := by decide +kernel
theorem dX1_makeRoom_4 : decode cX1_makeRoom 4 = .ok (.aload_n 3, 1) := by decide +kernel
theorem dX1_makeRoom_5 : decode cX1_makeRoom 5 = .ok (.invokevirtual 85, 3) := by decide +kernel
theorem dX1_makeRoom_8 : decode cX1_makeRoom 8 = .ok (.iadd, 1) := by decide +kernel
theorem dX1_makeRoom_9 : decode cX1_makeRoom 9 = .ok (.aload_n 0, 1) := by decide +kernel
theorem dX1_makeRoom_10 : decode cX1_makeRoom 10 = .ok (.getfield 22, 3) := by decide +kernel
theorem dX1_makeRoom_13 : decode cX1_makeRoom 13 = .ok (.if_icmp .ge 5, 3) := by decide +kernel
theorem dX1_makeRoom_16 : decode cX1_makeRoom 16 = .ok (.iconst (-1), 1) := by decide +kernel
theorem dX1_makeRoom_17 : decode cX1_makeRoom 17 = .ok (.ireturn, 1) := by decide +kernel
theorem dX1_makeRoom_18 : decode cX1_makeRoom 18 = .ok (.aload_n 1, 1) := by decide +kernel
theorem dX1_makeRoom_19 : decode cX1_makeRoom 19 = .ok (.invokevirtual 85, 3) := by decide +kernel
theorem dX1_makeRoom_22 : decode cX1_makeRoom 22 = .ok (.aload_n 0, 1) := by decide +kernel
theorem dX1_makeRoom_23 : decode cX1_makeRoom 23 = .ok (.getfield 22, 3) := by decide +kernel
theorem dX1_makeRoom_26 : decode cX1_makeRoom 26 = .ok (.iconst 4, 1) := by decide +kernel
theorem dX1_makeRoom_27 : decode cX1_makeRoom 27 = .ok (.idiv, 1) := by decide +kernel
theorem dX1_makeRoom_28 : decode cX1_makeRoom 28 = .ok (.if_icmp .gt 8, 3) := by decide +kernel
theorem dX1_makeRoom_31 : decode cX1_makeRoom 31 = .ok (.aload_n 3, 1) := by decide +kernel
theorem dX1_makeRoom_32 : decode cX1_makeRoom 32 = .ok (.invokevirtual 89, 3) := by decide +kernel
theorem dX1_makeRoom_35 : decode cX1_makeRoom 35 = .ok (.ireturn, 1) := by decide +kernel
theorem dX1_makeRoom_36 : decode cX1_makeRoom 36 = .ok (.aload_n 1, 1) := by decide +kernel
theorem dX1_makeRoom_37 : decode cX1_makeRoom 37 = .ok (.invokevirtual 89, 3) := by decide +kernel
theorem dX1_makeRoom_40 : decode cX1_makeRoom 40 = .ok (.istore 4, 2) := by decide +kernel
theorem dX1_makeRoom_42 : decode cX1_makeRoom 42 = .ok (.aload_n 2, 1) := by decide +kernel
theorem dX1_makeRoom_43 : decode cX1_makeRoom 43 = .ok (.iload 4, 2) := by decide +kernel
theorem dX1_makeRoom_45 : decode cX1_makeRoom 45 = .ok (.invokevirtual 92, 3) := by decide +kernel
theorem dX1_makeRoom_48 : decode cX1_makeRoom 48 = .ok (.aload_n 2, 1) := by decide +kernel
theorem dX1_makeRoom_49 : decode cX1_makeRoom 49 = .ok (.invokevirtual 85, 3) := by decide +kernel
theorem dX1_makeRoom_52 : decode cX1_makeRoom 52 = .ok (.iconst 1, 1) := by decide +kernel
theorem dX1_makeRoom_53 : decode cX1_makeRoom 53 = .ok (.aload_n 0, 1) := by decide +kernel
theorem dX1_makeRoom_54 : decode cX1_makeRoom 54 = .ok (.getfield 22, 3) := by decide +kernel
theorem dX1_makeRoom_57 : decode cX1_makeRoom 57 = .ok (.iconst 2, 1) := by decide +kernel
theorem dX1_makeRoom_58 : decode cX1_makeRoom 58 = .ok (.idiv, 1) := by decide +kernel
theorem dX1_makeRoom_59 : decode cX1_makeRoom 59 = .ok (.invokestatic 116, 3) := by decide +kernel
theorem dX1_makeRoom_62 : decode cX1_makeRoom 62 = .ok (.if_icmp .le 8, 3) := by decide +kernel
theorem dX1_makeRoom_65 : decode cX1_makeRoom 65 = .ok (.aload_n 2, 1) := by decide +kernel
theorem dX1_makeRoom_66 : decode cX1_makeRoom 66 = .ok (.invokevirtual 89, 3) := by decide +kernel
theorem dX1_makeRoom_69 : decode cX1_makeRoom 69 = .ok (.pop, 1) := by decide +kernel
theorem dX1_makeRoom_70 : decode cX1_makeRoom 70 = .ok (.iload 4, 2) := by decide +kernel
theorem dX1_makeRoom_72 : decode cX1_makeRoom 72 = .ok (.ireturn, 1) := by decide +kernel
set_option maxRecDepth 20000 in
theorem ggX1_touchBalanced_X0_remove : GoodIn wsX1_touchBalanced wsX0_remove := goodIn_r _ [15, 16, 17, 18, 19, 20, 21, 22, 23, 24, 14, 25, 67, 68] (by decide +kernel) (by decide +kernel)
set_option maxRecDepth 20000 in
theorem gX1_touchBalanced_X0_remove : GoodIn wsX1_touchBalanced (wsV RX1 82 RX0 yX0_remove wsX0_remove) := goodIn_app (goodIn_of _ (by decide +kernel)) ggX1_touchBalanced_X0_remove
set_option maxRecDepth 20000 in
theorem ggX1_touchBalanced_X0_addHead : GoodIn wsX1_touchBalanced wsX0_addHead := goodIn_r _ [29, 16, 17, 18, 19, 20, 21, 67, 68] (by decide +kernel) (by decide +kernel)
set_option maxRecDepth 20000 in
theorem gX1_touchBalanced_X0_addHead : GoodIn wsX1_touchBalanced (wsV RX1 92 RX0 yX0_addHead wsX0_addHead) := goodIn_app (goodIn_of _ (by decide +kernel)) ggX1_touchBalanced_X0_addHead
set_option maxRecDepth 20000 in
theorem ggX1_touchBalanced_X0_has : GoodIn wsX1_touchBalanced wsX0_has := goodIn_r _ [33, 22, 23, 24, 14, 25, 16, 17, 67, 68] (by decide +kernel) (by decide +kernel)
set_option maxRecDepth 20000 in
theorem gX1_touchBalanced_X0_has : GoodIn wsX1_touchBalanced (wsV RX1 47 RX0 yX0_has wsX0_has) := goodIn_app (goodIn_of _ (by decide +kernel)) ggX1_touchBalanced_X0_has
set_option maxRecDepth 20000 in
theorem ggX1_touchBalanced_X1_goalStep : GoodIn wsX1_touchBalanced wsX1_goalStep := goodIn_r _ [37, 8, 9, 6, 10, 38, 39, 40, 14, 41, 16, 67, 68] (by decide +kernel) (by decide +kernel)
set_option maxRecDepth 20000 in
theorem gX1_touchBalanced_X1_goalStep : GoodIn wsX1_touchBalanced (va_wsS RX1 122 yX1_goalStep wsX1_goalStep) := goodIn_app (goodIn_of _ (by decide +kernel)) ggX1_touchBalanced_X1_goalStep
set_option maxRecDepth 20000 in
theorem ggX1_touchBalanced_X1_comeBack : GoodIn wsX1_touchBalanced wsX1_comeBack := goodIn_r _ [45, 1, 46, 47, 48, 36, 49, 3, 38, 39, 40, 14, 41, 16, 50, 51, 52, 53, 17, 26, 27, 28, 29, 18, 19, 20, 21, 11, 12, 13, 15, 22, 23, 24, 25, 58, 59, 60, 61, 62, 63, 64, 65, 66, 67, 68] (by decide +kernel) (by decide +kernel)
set_option maxRecDepth 20000 in
theorem gX1_touchBalanced_X1_comeBack : GoodIn wsX1_touchBalanced (wsV RX1 129 RX1 yX1_comeBack wsX1_comeBack) := goodIn_app (goodIn_of _ (by decide +kernel)) ggX1_touchBalanced_X1_comeBack
set_option maxRecDepth 20000 in
theorem ggX1_touchBalanced_X1_makeRoomForNew : GoodIn wsX1_touchBalanced wsX1_makeRoomForNew := goodIn_r _ [57, 1, 2, 38, 39, 40, 14, 41, 16, 50, 51, 52, 53, 17, 46, 47, 48, 36, 49, 3, 26, 27, 28, 29, 18, 19, 20, 21, 58, 59, 60, 61, 62, 63, 64, 65, 66, 67, 68] (by decide +kernel) (by decide +kernel)
set_option maxRecDepth 20000 in
theorem gX1_touchBalanced_X1_makeRoomForNew : GoodIn wsX1_touchBalanced (wsV RX1 133 RX1 yX1_makeRoomForNew wsX1_makeRoomForNew) := goodIn_app (goodIn_of _ (by decide +kernel)) ggX1_touchBalanced_X1_makeRoomForNew
theorem dX1_touchBalanced_0 : decode cX1_touchBalanced 0 = .ok (.aload_n 0, 1) := by decide +kernel
theorem dX1_touchBalanced_1 : decode cX1_touchBalanced 1 = .ok (.getfield 13, 3) := by decide +kernel
theorem dX1_touchBalanced_4 : decode cX1_touchBalanced 4 = .ok (.iconst 0, 1) := by decide +kernel
theorem dX1_touchBalanced_5 : decode cX1_touchBalanced 5 = .ok (.aaload, 1) := by decide +kernel
theorem dX1_touchBalanced_6 : decode cX1_touchBalanced 6 = .ok (.iload_n 1, 1) := by decide +kernel
theorem dX1_touchBalanced_7 : decode cX1_touchBalanced 7 = .ok (.invokevirtual 82, 3) := by decide +kernel
theorem dX1_touchBalanced_10 : decode cX1_touchBalanced 10 = .ok (.ifCond .ne 16, 3) := by decide +kernel
theorem dX1_touchBalanced_13 : decode cX1_touchBalanced 13 = .ok (.aload_n 0, 1) := by decide +kernel
theorem dX1_touchBalanced_14 : decode cX1_touchBalanced 14 = .ok (.getfield 13, 3) := by decide +kernel
theorem dX1_touchBalanced_17 : decode cX1_touchBalanced 17 = .ok (.iconst 1, 1) := by decide +kernel
theorem dX1_touchBalanced_18 : decode cX1_touchBalanced 18 = .ok (.aaload, 1) := by decide +kernel
theorem dX1_touchBalanced_19 : decode cX1_touchBalanced 19 = .ok (.iload_n 1, 1) := by decide +kernel
theorem dX1_touchBalanced_20 : decode cX1_touchBalanced 20 = .ok (.invokevirtual 82, 3) := by decide +kernel
theorem dX1_touchBalanced_23 : decode cX1_touchBalanced 23 = .ok (.ifCond .eq 15, 3) := by decide +kernel
theorem dX1_touchBalanced_26 : decode cX1_touchBalanced 26 = .ok (.aload_n 0, 1) := by decide +kernel
theorem dX1_touchBalanced_27 : decode cX1_touchBalanced 27 = .ok (.getfield 13, 3) := by decide +kernel
theorem dX1_touchBalanced_30 : decode cX1_touchBalanced 30 = .ok (.iconst 1, 1) := by decide +kernel
theorem dX1_touchBalanced_31 : decode cX1_touchBalanced 31 = .ok (.aaload, 1) := by decide +kernel
theorem dX1_touchBalanced_32 : decode cX1_touchBalanced 32 = .ok (.iload_n 1, 1) := by decide +kernel
theorem dX1_touchBalanced_33 : decode cX1_touchBalanced 33 = .ok (.invokevirtual 92, 3) := by decide +kernel
theorem dX1_touchBalanced_36 : decode cX1_touchBalanced 36 = .ok (.iconst (-1), 1) := by decide +kernel
theorem dX1_touchBalanced_37 : decode cX1_touchBalanced 37 = .ok (.ireturn, 1) := by decide +kernel
theorem dX1_touchBalanced_38 : decode cX1_touchBalanced 38 = .ok (.aload_n 0, 1) := by decide +kernel
theorem dX1_touchBalanced_39 : decode cX1_touchBalanced 39 = .ok (.getfield 13, 3) := by decide +kernel
theorem dX1_touchBalanced_42 : decode cX1_touchBalanced 42 = .ok (.iconst 2, 1) := by decide +kernel
theorem dX1_touchBalanced_43 : decode cX1_touchBalanced 43 = .ok (.aaload, 1) := by decide +kernel
theorem dX1_touchBalanced_44 : decode cX1_touchBalanced 44 = .ok (.iload_n 1, 1) := by decide +kernel
theorem dX1_touchBalanced_45 : decode cX1_touchBalanced 45 = .ok (.invokevirtual 47, 3) := by decide +kernel
theorem dX1_touchBalanced_48 : decode cX1_touchBalanced 48 = .ok (.ifCond .eq 47, 3) := by decide +kernel
theorem dX1_touchBalanced_51 : decode cX1_touchBalanced 51 = .ok (.aload_n 0, 1) := by decide +kernel
theorem dX1_touchBalanced_52 : decode cX1_touchBalanced 52 = .ok (.aload_n 0, 1) := by decide +kernel
theorem dX1_touchBalanced_53 : decode cX1_touchBalanced 53 = .ok (.getfield 22, 3) := by decide +kernel
theorem dX1_touchBalanced_56 : decode cX1_touchBalanced 56 = .ok (.aload_n 0, 1) := by decide +kernel
theorem dX1_touchBalanced_57 : decode cX1_touchBalanced 57 = .ok (.getfield 28, 3) := by decide +kernel
theorem dX1_touchBalanced_60 : decode cX1_touchBalanced 60 = .ok (.aload_n 0, 1) := by decide +kernel
theorem dX1_touchBalanced_61 : decode cX1_touchBalanced 61 = .ok (.getfield 13, 3) := by decide +kernel
theorem dX1_touchBalanced_64 : decode cX1_touchBalanced 64 = .ok (.iconst 3, 1) := by decide +kernel
theorem dX1_touchBalanced_65 : decode cX1_touchBalanced 65 = .ok (.aaload, 1) := by decide +kernel
theorem dX1_touchBalanced_66 : decode cX1_touchBalanced 66 = .ok (.aload_n 0, 1) := by decide +kernel
theorem dX1_touchBalanced_67 : decode cX1_touchBalanced 67 = .ok (.getfield 13, 3) := by decide +kernel
theorem dX1_touchBalanced_70 : decode cX1_touchBalanced 70 = .ok (.iconst 2, 1) := by decide +kernel
theorem dX1_touchBalanced_71 : decode cX1_touchBalanced 71 = .ok (.aaload, 1) := by decide +kernel
theorem dX1_touchBalanced_72 : decode cX1_touchBalanced 72 = .ok (.invokestatic 122, 3) := by decide +kernel
theorem dX1_touchBalanced_75 : decode cX1_touchBalanced 75 = .ok (.iadd, 1) := by decide +kernel
theorem dX1_touchBalanced_76 : decode cX1_touchBalanced 76 = .ok (.invokestatic 126, 3) := by decide +kernel
theorem dX1_touchBalanced_79 : decode cX1_touchBalanced 79 = .ok (.putfield 28, 3) := by decide +kernel
theorem dX1_touchBalanced_82 : decode cX1_touchBalanced 82 = .ok (.aload_n 0, 1) := by decide +kernel
theorem dX1_touchBalanced_83 : decode cX1_touchBalanced 83 = .ok (.iload_n 1, 1) := by decide +kernel
theorem dX1_touchBalanced_84 : decode cX1_touchBalanced 84 = .ok (.aload_n 0, 1) := by decide +kernel
theorem dX1_touchBalanced_85 : decode cX1_touchBalanced 85 = .ok (.getfield 13, 3) := by decide +kernel
theorem dX1_touchBalanced_88 : decode cX1_touchBalanced 88 = .ok (.iconst 2, 1) := by decide +kernel
theorem dX1_touchBalanced_89 : decode cX1_touchBalanced 89 = .ok (.aaload, 1) := by decide +kernel
theorem dX1_touchBalanced_90 : decode cX1_touchBalanced 90 = .ok (.iconst 0, 1) := by decide +kernel
theorem dX1_touchBalanced_91 : decode cX1_touchBalanced 91 = .ok (.invokevirtual 129, 3) := by decide +kernel
theorem dX1_touchBalanced_94 : decode cX1_touchBalanced 94 = .ok (.ireturn, 1) := by decide +kernel
theorem dX1_touchBalanced_95 : decode cX1_touchBalanced 95 = .ok (.aload_n 0, 1) := by decide +kernel
theorem dX1_touchBalanced_96 : decode cX1_touchBalanced 96 = .ok (.getfield 13, 3) := by decide +kernel
theorem dX1_touchBalanced_99 : decode cX1_touchBalanced 99 = .ok (.iconst 3, 1) := by decide +kernel
theorem dX1_touchBalanced_100 : decode cX1_touchBalanced 100 = .ok (.aaload, 1) := by decide +kernel
theorem dX1_touchBalanced_101 : decode cX1_touchBalanced 101 = .ok (.iload_n 1, 1) := by decide +kernel
theorem dX1_touchBalanced_102 : decode cX1_touchBalanced 102 = .ok (.invokevirtual 47, 3) := by decide +kernel
theorem dX1_touchBalanced_105 : decode cX1_touchBalanced 105 = .ok (.ifCond .eq 44, 3) := by decide +kernel
theorem dX1_touchBalanced_108 : decode cX1_touchBalanced 108 = .ok (.aload_n 0, 1) := by decide +kernel
theorem dX1_touchBalanced_109 : decode cX1_touchBalanced 109 = .ok (.iconst 0, 1) := by decide +kernel
theorem dX1_touchBalanced_110 : decode cX1_touchBalanced 110 = .ok (.aload_n 0, 1) := by decide +kernel
theorem dX1_touchBalanced_111 : decode cX1_touchBalanced 111 = .ok (.getfield 28, 3) := by decide +kernel
theorem dX1_touchBalanced_114 : decode cX1_touchBalanced 114 = .ok (.aload_n 0, 1) := by decide +kernel
theorem dX1_touchBalanced_115 : decode cX1_touchBalanced 115 = .ok (.getfield 13, 3) := by decide +kernel
theorem dX1_touchBalanced_118 : decode cX1_touchBalanced 118 = .ok (.iconst 2, 1) := by decide +kernel
theorem dX1_touchBalanced_119 : decode cX1_touchBalanced 119 = .ok (.aaload, 1) := by decide +kernel
theorem dX1_touchBalanced_120 : decode cX1_touchBalanced 120 = .ok (.aload_n 0, 1) := by decide +kernel
theorem dX1_touchBalanced_121 : decode cX1_touchBalanced 121 = .ok (.getfield 13, 3) := by decide +kernel
theorem dX1_touchBalanced_124 : decode cX1_touchBalanced 124 = .ok (.iconst 3, 1) := by decide +kernel
theorem dX1_touchBalanced_125 : decode cX1_touchBalanced 125 = .ok (.aaload, 1) := by decide +kernel
theorem dX1_touchBalanced_126 : decode cX1_touchBalanced 126 = .ok (.invokestatic 122, 3) := by decide +kernel
theorem dX1_touchBalanced_129 : decode cX1_touchBalanced 129 = .ok (.isub, 1) := by decide +kernel
theorem dX1_touchBalanced_130 : decode cX1_touchBalanced 130 = .ok (.invokestatic 116, 3) := by decide +kernel
theorem dX1_touchBalanced_133 : decode cX1_touchBalanced 133 = .ok (.putfield 28, 3) := by decide +kernel
theorem dX1_touchBalanced_136 : decode cX1_touchBalanced 136 = .ok (.aload_n 0, 1) := by decide +kernel
theorem dX1_touchBalanced_137 : decode cX1_touchBalanced 137 = .ok (.iload_n 1, 1) := by decide +kernel
theorem dX1_touchBalanced_138 : decode cX1_touchBalanced 138 = .ok (.aload_n 0, 1) := by decide +kernel
theorem dX1_touchBalanced_139 : decode cX1_touchBalanced 139 = .ok (.getfield 13, 3) := by decide +kernel
theorem dX1_touchBalanced_142 : decode cX1_touchBalanced 142 = .ok (.iconst 3, 1) := by decide +kernel
theorem dX1_touchBalanced_143 : decode cX1_touchBalanced 143 = .ok (.aaload, 1) := by decide +kernel
theorem dX1_touchBalanced_144 : decode cX1_touchBalanced 144 = .ok (.iconst 1, 1) := by decide +kernel
theorem dX1_touchBalanced_145 : decode cX1_touchBalanced 145 = .ok (.invokevirtual 129, 3) := by decide +kernel
theorem dX1_touchBalanced_148 : decode cX1_touchBalanced 148 = .ok (.ireturn, 1) := by decide +kernel
theorem dX1_touchBalanced_149 : decode cX1_touchBalanced 149 = .ok (.aload_n 0, 1) := by decide +kernel
theorem dX1_touchBalanced_150 : decode cX1_touchBalanced 150 = .ok (.invokevirtual 133, 3) := by decide +kernel
theorem dX1_touchBalanced_153 : decode cX1_touchBalanced 153 = .ok (.istore_n 2, 1) := by decide +kernel
theorem dX1_touchBalanced_154 : decode cX1_touchBalanced 154 = .ok (.aload_n 0, 1) := by decide +kernel
theorem dX1_touchBalanced_155 : decode cX1_touchBalanced 155 = .ok (.getfield 13, 3) := by decide +kernel
theorem dX1_touchBalanced_158 : decode cX1_touchBalanced 158 = .ok (.iconst 0, 1) := by decide +kernel
theorem dX1_touchBalanced_159 : decode cX1_touchBalanced 159 = .ok (.aaload, 1) := by decide +kernel
theorem dX1_touchBalanced_160 : decode cX1_touchBalanced 160 = .ok (.iload_n 1, 1) := by decide +kernel
theorem dX1_touchBalanced_161 : decode cX1_touchBalanced 161 = .ok (.invokevirtual 92, 3) := by decide +kernel
theorem dX1_touchBalanced_164 : decode cX1_touchBalanced 164 = .ok (.iload_n 2, 1) := by decide +kernel
theorem dX1_touchBalanced_165 : decode cX1_touchBalanced 165 = .ok (.ireturn, 1) := by decide +kernel
set_option maxRecDepth 20000 in
theorem ggX1_goalStep_X0_size : GoodIn wsX1_goalStep wsX0_size := goodIn_r _ [9, 10, 11, 12] (by decide +kernel) (by decide +kernel)
set_option maxRecDepth 20000 in
theorem gX1_goalStep_X0_size : GoodIn wsX1_goalStep (wsV RX1 85 RX0 yX0_size wsX0_size) := goodIn_app (goodIn_of _ (by decide +kernel)) ggX1_goalStep_X0_size
theorem dX1_goalStep_0 : decode cX1_goalStep 0 = .ok (.aload_n 1, 1) := by decide +kernel
theorem dX1_goalStep_1 : decode cX1_goalStep 1 = .ok (.invokevirtual 85, 3) := by decide +kernel
theorem dX1_goalStep_4 : decode cX1_goalStep 4 = .ok (.ifCond .ne 7, 3) := by decide +kernel
theorem dX1_goalStep_7 : decode cX1_goalStep 7 = .ok (.iconst 1, 1) := by decide +kernel
theorem dX1_goalStep_8 : decode cX1_goalStep 8 = .ok (.goto 16, 3) := by decide +kernel
theorem dX1_goalStep_11 : decode cX1_goalStep 11 = .ok (.iconst 1, 1) := by decide +kernel
theorem dX1_goalStep_12 : decode cX1_goalStep 12 = .ok (.aload_n 0, 1) := by decide +kernel
theorem dX1_goalStep_13 : decode cX1_goalStep 13 = .ok (.invokevirtual 85, 3) := by decide +kernel
theorem dX1_goalStep_16 : decode cX1_goalStep 16 = .ok (.aload_n 1, 1) := by decide +kernel
theorem dX1_goalStep_17 : decode cX1_goalStep 17 = .ok (.invokevirtual 85, 3) := by decide +kernel
theorem dX1_goalStep_20 : decode cX1_goalStep 20 = .ok (.idiv, 1) := by decide +kernel
theorem dX1_goalStep_21 : decode cX1_goalStep 21 = .ok (.invokestatic 116, 3) := by decide +kernel
theorem dX1_goalStep_24 : decode cX1_goalStep 24 = .ok (.ireturn, 1) := by decide +kernel
set_option maxRecDepth 20000 in
theorem ggX1_comeBack_X1_putOut : GoodIn wsX1_comeBack wsX1_putOut := goodIn_r _ [6, 1, 7, 8, 9, 10, 11, 12, 13, 14, 15, 16, 17, 18, 19, 20, 21, 22, 23, 24, 25, 26, 35, 36, 37, 38, 39, 40, 41, 42, 43, 44, 45] (by decide +kernel) (by decide +kernel)
set_option maxRecDepth 20000 in
theorem gX1_comeBack_X1_putOut : GoodIn wsX1_comeBack (wsV RX1 136 RX1 yX1_putOut wsX1_putOut) := goodIn_app (goodIn_of _ (by decide +kernel)) ggX1_comeBack_X1_putOut
set_option maxRecDepth 20000 in
theorem ggX1_comeBack_X0_remove : GoodIn wsX1_comeBack wsX0_remove := goodIn_r _ [30, 13, 18, 23, 24, 25, 26, 31, 32, 33, 11, 34, 44, 45] (by decide +kernel) (by decide +kernel)
set_option maxRecDepth 20000 in
theorem gX1_comeBack_X0_remove : GoodIn wsX1_comeBack (wsV RX1 82 RX0 yX0_remove wsX0_remove) := goodIn_app (goodIn_of _ (by decide +kernel)) ggX1_comeBack_X0_remove
set_option maxRecDepth 20000 in
theorem ggX1_comeBack_X0_addHead : GoodIn wsX1_comeBack wsX0_addHead := goodIn_r _ [22, 13, 18, 23, 24, 25, 26, 44, 45] (by decide +kernel) (by decide +kernel)
set_option maxRecDepth 20000 in
theorem gX1_comeBack_X0_addHead : GoodIn wsX1_comeBack (wsV RX1 92 RX0 yX0_addHead wsX0_addHead) := goodIn_app (goodIn_of _ (by decide +kernel)) ggX1_comeBack_X0_addHead
theorem dX1_comeBack_0 : decode cX1_comeBack 0 = .ok (.aload_n 0, 1) := by decide +kernel
theorem dX1_comeBack_1 : decode cX1_comeBack 1 = .ok (.iload_n 3, 1) := by decide +kernel
theorem dX1_comeBack_2 : decode cX1_comeBack 2 = .ok (.invokevirtual 136, 3) := by decide +kernel
theorem dX1_comeBack_5 : decode cX1_comeBack 5 = .ok (.istore 4, 2) := by decide +kernel
theorem dX1_comeBack_7 : decode cX1_comeBack 7 = .ok (.aload_n 2, 1) := by decide +kernel
theorem dX1_comeBack_8 : decode cX1_comeBack 8 = .ok (.iload_n 1, 1) := by decide +kernel
theorem dX1_comeBack_9 : decode cX1_comeBack 9 = .ok (.invokevirtual 82, 3) := by decide +kernel
theorem dX1_comeBack_12 : decode cX1_comeBack 12 = .ok (.pop, 1) := by decide +kernel
theorem dX1_comeBack_13 : decode cX1_comeBack 13 = .ok (.aload_n 0, 1) := by decide +kernel
theorem dX1_comeBack_14 : decode cX1_comeBack 14 = .ok (.getfield 13, 3) := by decide +kernel
theorem dX1_comeBack_17 : decode cX1_comeBack 17 = .ok (.iconst 1, 1) := by decide +kernel
theorem dX1_comeBack_18 : decode cX1_comeBack 18 = .ok (.aaload, 1) := by decide +kernel
theorem dX1_comeBack_19 : decode cX1_comeBack 19 = .ok (.iload_n 1, 1) := by decide +kernel
theorem dX1_comeBack_20 : decode cX1_comeBack 20 = .ok (.invokevirtual 92, 3) := by decide +kernel
theorem dX1_comeBack_23 : decode cX1_comeBack 23 = .ok (.iload 4, 2) := by decide +kernel
theorem dX1_comeBack_25 : decode cX1_comeBack 25 = .ok (.ireturn, 1) := by decide +kernel
set_option maxRecDepth 20000 in
theorem ggX1_makeRoomForNew_X0_size : GoodIn wsX1_makeRoomForNew wsX0_size := goodIn_r _ [7, 8, 37, 38] (by decide +kernel) (by decide +kernel)
set_option maxRecDepth 20000 in
theorem gX1_makeRoomForNew_X0_size : GoodIn wsX1_makeRoomForNew (wsV RX1 85 RX0 yX0_size wsX0_size) := goodIn_app (goodIn_of _ (by decide +kernel)) ggX1_makeRoomForNew_X0_size
set_option maxRecDepth 20000 in
theorem ggX1_makeRoomForNew_X0_takeTail : GoodIn wsX1_makeRoomForNew wsX0_takeTail := goodIn_r _ [12, 8, 13, 37, 38] (by decide +kernel) (by decide +kernel)
set_option maxRecDepth 20000 in
theorem gX1_makeRoomForNew_X0_takeTail : GoodIn wsX1_makeRoomForNew (wsV RX1 89 RX0 yX0_takeTail wsX0_takeTail) := goodIn_app (goodIn_of _ (by decide +kernel)) ggX1_makeRoomForNew_X0_takeTail
set_option maxRecDepth 20000 in
theorem ggX1_makeRoomForNew_X1_putOut : GoodIn wsX1_makeRoomForNew wsX1_putOut := goodIn_r _ [18, 1, 19, 3, 4, 5, 6, 7, 8, 9, 10, 11, 12, 13, 20, 21, 22, 23, 24, 25, 26, 27, 28, 29, 30, 31, 32, 33, 34, 35, 36, 37, 38] (by decide +kernel) (by decide +kernel)
set_option maxRecDepth 20000 in
theorem gX1_makeRoomForNew_X1_putOut : GoodIn wsX1_makeRoomForNew (wsV RX1 136 RX1 yX1_putOut wsX1_putOut) := goodIn_app (goodIn_of _ (by decide +kernel)) ggX1_makeRoomForNew_X1_putOut
theorem dX1_makeRoomForNew_0 : decode cX1_makeRoomForNew 0 = .ok (.aload_n 0, 1) := by decide +kernel
theorem dX1_makeRoomForNew_1 : decode cX1_makeRoomForNew 1 = .ok (.getfield 13, 3) := by decide +kernel
theorem dX1_makeRoomForNew_4 : decode cX1_makeRoomForNew 4 = .ok (.iconst 0, 1) := by decide +kernel
theorem dX1_makeRoomForNew_5 : decode cX1_makeRoomForNew 5 = .ok (.aaload, 1) := by decide +kernel
theorem dX1_makeRoomForNew_6 : decode cX1_makeRoomForNew 6 = .ok (.invokevirtual 85, 3) := by decide +kernel
theorem dX1_makeRoomForNew_9 : decode cX1_makeRoomForNew 9 = .ok (.aload_n 0, 1) := by decide +kernel
theorem dX1_makeRoomForNew_10 : decode cX1_makeRoomForNew 10 = .ok (.getfield 13, 3) := by decide +kernel
theorem dX1_makeRoomForNew_13 : decode cX1_makeRoomForNew 13 = .ok (.iconst 2, 1) := by decide +kernel
theorem dX1_makeRoomForNew_14 : decode cX1_makeRoomForNew 14 = .ok (.aaload, 1) := by decide +kernel
theorem dX1_makeRoomForNew_15 : decode cX1_makeRoomForNew 15 = .ok (.invokevirtual 85, 3) := by decide +kernel
theorem dX1_makeRoomForNew_18 : decode cX1_makeRoomForNew 18 = .ok (.iadd, 1) := by decide +kernel
theorem dX1_makeRoomForNew_19 : decode cX1_makeRoomForNew 19 = .ok (.istore_n 1, 1) := by decide +kernel
theorem dX1_makeRoomForNew_20 : decode cX1_makeRoomForNew 20 = .ok (.iload_n 1, 1) := by decide +kernel
theorem dX1_makeRoomForNew_21 : decode cX1_makeRoomForNew 21 = .ok (.aload_n 0, 1) := by decide +kernel
theorem dX1_makeRoomForNew_22 : decode cX1_makeRoomForNew 22 = .ok (.getfield 13, 3) := by decide +kernel
theorem dX1_makeRoomForNew_25 : decode cX1_makeRoomForNew 25 = .ok (.iconst 1, 1) := by decide +kernel
theorem dX1_makeRoomForNew_26 : decode cX1_makeRoomForNew 26 = .ok (.aaload, 1) := by decide +kernel
theorem dX1_makeRoomForNew_27 : decode cX1_makeRoomForNew 27 = .ok (.invokevirtual 85, 3) := by decide +kernel
theorem dX1_makeRoomForNew_30 : decode cX1_makeRoomForNew 30 = .ok (.iadd, 1) := by decide +kernel
theorem dX1_makeRoomForNew_31 : decode cX1_makeRoomForNew 31 = .ok (.aload_n 0, 1) := by decide +kernel
theorem dX1_makeRoomForNew_32 : decode cX1_makeRoomForNew 32 = .ok (.getfield 13, 3) := by decide +kernel
theorem dX1_makeRoomForNew_35 : decode cX1_makeRoomForNew 35 = .ok (.iconst 3, 1) := by decide +kernel
theorem dX1_makeRoomForNew_36 : decode cX1_makeRoomForNew 36 = .ok (.aaload, 1) := by decide +kernel
theorem dX1_makeRoomForNew_37 : decode cX1_makeRoomForNew 37 = .ok (.invokevirtual 85, 3) := by decide +kernel
theorem dX1_makeRoomForNew_40 : decode cX1_makeRoomForNew 40 = .ok (.iadd, 1) := by decide +kernel
theorem dX1_makeRoomForNew_41 : decode cX1_makeRoomForNew 41 = .ok (.istore_n 2, 1) := by decide +kernel
theorem dX1_makeRoomForNew_42 : decode cX1_makeRoomForNew 42 = .ok (.iload_n 1, 1) := by decide +kernel
theorem dX1_makeRoomForNew_43 : decode cX1_makeRoomForNew 43 = .ok (.aload_n 0, 1) := by decide +kernel
theorem dX1_makeRoomForNew_44 : decode cX1_makeRoomForNew 44 = .ok (.getfield 22, 3) := by decide +kernel
theorem dX1_makeRoomForNew_47 : decode cX1_makeRoomForNew 47 = .ok (.if_icmp .ne 45, 3) := by decide +kernel
theorem dX1_makeRoomForNew_50 : decode cX1_makeRoomForNew 50 = .ok (.aload_n 0, 1) := by decide +kernel
theorem dX1_makeRoomForNew_51 : decode cX1_makeRoomForNew 51 = .ok (.getfield 13, 3) := by decide +kernel
theorem dX1_makeRoomForNew_54 : decode cX1_makeRoomForNew 54 = .ok (.iconst 0, 1) := by decide +kernel
theorem dX1_makeRoomForNew_55 : decode cX1_makeRoomForNew 55 = .ok (.aaload, 1) := by decide +kernel
theorem dX1_makeRoomForNew_56 : decode cX1_makeRoomForNew 56 = .ok (.invokevirtual 85, 3) := by decide +kernel
theorem dX1_makeRoomForNew_59 : decode cX1_makeRoomForNew 59 = .ok (.aload_n 0, 1) := by decide +kernel
theorem dX1_makeRoomForNew_60 : decode cX1_makeRoomForNew 60 = .ok (.getfield 22, 3) := by decide +kernel
theorem dX1_makeRoomForNew_63 : decode cX1_makeRoomForNew 63 = .ok (.if_icmp .ne 13, 3) := by decide +kernel
theorem dX1_makeRoomForNew_66 : decode cX1_makeRoomForNew 66 = .ok (.aload_n 0, 1) := by decide +kernel
theorem dX1_makeRoomForNew_67 : decode cX1_makeRoomForNew 67 = .ok (.getfield 13, 3) := by decide +kernel
theorem dX1_makeRoomForNew_70 : decode cX1_makeRoomForNew 70 = .ok (.iconst 0, 1) := by decide +kernel
theorem dX1_makeRoomForNew_71 : decode cX1_makeRoomForNew 71 = .ok (.aaload, 1) := by decide +kernel
theorem dX1_makeRoomForNew_72 : decode cX1_makeRoomForNew 72 = .ok (.invokevirtual 89, 3) := by decide +kernel
theorem dX1_makeRoomForNew_75 : decode cX1_makeRoomForNew 75 = .ok (.ireturn, 1) := by decide +kernel
theorem dX1_makeRoomForNew_76 : decode cX1_makeRoomForNew 76 = .ok (.aload_n 0, 1) := by decide +kernel
theorem dX1_makeRoomForNew_77 : decode cX1_makeRoomForNew 77 = .ok (.getfield 13, 3) := by decide +kernel
theorem dX1_makeRoomForNew_80 : decode cX1_makeRoomForNew 80 = .ok (.iconst 2, 1) := by decide +kernel
theorem dX1_makeRoomForNew_81 : decode cX1_makeRoomForNew 81 = .ok (.aaload, 1) := by decide +kernel
theorem dX1_makeRoomForNew_82 : decode cX1_makeRoomForNew 82 = .ok (.invokevirtual 89, 3) := by decide +kernel
theorem dX1_makeRoomForNew_85 : decode cX1_makeRoomForNew 85 = .ok (.pop, 1) := by decide +kernel
theorem dX1_makeRoomForNew_86 : decode cX1_makeRoomForNew 86 = .ok (.aload_n 0, 1) := by decide +kernel
theorem dX1_makeRoomForNew_87 : decode cX1_makeRoomForNew 87 = .ok (.iconst 0, 1) := by decide +kernel
theorem dX1_makeRoomForNew_88 : decode cX1_makeRoomForNew 88 = .ok (.invokevirtual 136, 3) := by decide +kernel
theorem dX1_makeRoomForNew_91 : decode cX1_makeRoomForNew 91 = .ok (.ireturn, 1) := by decide +kernel
theorem dX1_makeRoomForNew_92 : decode cX1_makeRoomForNew 92 = .ok (.iload_n 2, 1) := by decide +kernel
theorem dX1_makeRoomForNew_93 : decode cX1_makeRoomForNew 93 = .ok (.aload_n 0, 1) := by decide +kernel
theorem dX1_makeRoomForNew_94 : decode cX1_makeRoomForNew 94 = .ok (.getfield 22, 3) := by decide +kernel
theorem dX1_makeRoomForNew_97 : decode cX1_makeRoomForNew 97 = .ok (.if_icmp .ge 5, 3) := by decide +kernel
theorem dX1_makeRoomForNew_100 : decode cX1_makeRoomForNew 100 = .ok (.iconst (-1), 1) := by decide +kernel
theorem dX1_makeRoomForNew_101 : decode cX1_makeRoomForNew 101 = .ok (.ireturn, 1) := by decide +kernel
theorem dX1_makeRoomForNew_102 : decode cX1_makeRoomForNew 102 = .ok (.iload_n 2, 1) := by decide +kernel
theorem dX1_makeRoomForNew_103 : decode cX1_makeRoomForNew 103 = .ok (.iconst 2, 1) := by decide +kernel
theorem dX1_makeRoomForNew_104 : decode cX1_makeRoomForNew 104 = .ok (.aload_n 0, 1) := by decide +kernel
theorem dX1_makeRoomForNew_105 : decode cX1_makeRoomForNew 105 = .ok (.getfield 22, 3) := by decide +kernel
theorem dX1_makeRoomForNew_108 : decode cX1_makeRoomForNew 108 = .ok (.imul, 1) := by decide +kernel
theorem dX1_makeRoomForNew_109 : decode cX1_makeRoomForNew 109 = .ok (.if_icmp .ne 13, 3) := by decide +kernel
theorem dX1_makeRoomForNew_112 : decode cX1_makeRoomForNew 112 = .ok (.aload_n 0, 1) := by decide +kernel
theorem dX1_makeRoomForNew_113 : decode cX1_makeRoomForNew 113 = .ok (.getfield 13, 3) := by decide +kernel
theorem dX1_makeRoomForNew_116 : decode cX1_makeRoomForNew 116 = .ok (.iconst 3, 1) := by decide +kernel
theorem dX1_makeRoomForNew_117 : decode cX1_makeRoomForNew 117 = .ok (.aaload, 1) := by decide +kernel
theorem dX1_makeRoomForNew_118 : decode cX1_makeRoomForNew 118 = .ok (.invokevirtual 89, 3) := by decide +kernel
theorem dX1_makeRoomForNew_121 : decode cX1_makeRoomForNew 121 = .ok (.pop, 1) := by decide +kernel
theorem dX1_makeRoomForNew_122 : decode cX1_makeRoomForNew 122 = .ok (.aload_n 0, 1) := by decide +kernel
theorem dX1_makeRoomForNew_123 : decode cX1_makeRoomForNew 123 = .ok (.iconst 0, 1) := by decide +kernel
theorem dX1_makeRoomForNew_124 : decode cX1_makeRoomForNew 124 = .ok (.invokevirtual 136, 3) := by decide +kernel
theorem dX1_makeRoomForNew_127 : decode cX1_makeRoomForNew 127 = .ok (.ireturn, 1) := by decide +kernel
set_option maxRecDepth 20000 in
theorem ggX1_putOut_X0_size : GoodIn wsX1_putOut wsX0_size := goodIn_r _ [7, 8, 31, 32] (by decide +kernel) (by decide +kernel)
set_option maxRecDepth 20000 in
theorem gX1_putOut_X0_size : GoodIn wsX1_putOut (wsV RX1 85 RX0 yX0_size wsX0_size) := goodIn_app (goodIn_of _ (by decide +kernel)) ggX1_putOut_X0_size
set_option maxRecDepth 20000 in
theorem ggX1_putOut_X0_takeTail : GoodIn wsX1_putOut wsX0_takeTail := goodIn_r _ [12, 8, 13, 31, 32] (by decide +kernel) (by decide +kernel)
set_option maxRecDepth 20000 in
theorem gX1_putOut_X0_takeTail : GoodIn wsX1_putOut (wsV RX1 89 RX0 yX0_takeTail wsX0_takeTail) := goodIn_app (goodIn_of _ (by decide +kernel)) ggX1_putOut_X0_takeTail
set_option maxRecDepth 20000 in
theorem ggX1_putOut_X0_addHead : GoodIn wsX1_putOut wsX0_addHead := goodIn_r _ [17, 8, 13, 18, 19, 20, 21, 31, 32] (by decide +kernel) (by decide +kernel)
set_option maxRecDepth 20000 in
theorem gX1_putOut_X0_addHead : GoodIn wsX1_putOut (wsV RX1 92 RX0 yX0_addHead wsX0_addHead) := goodIn_app (goodIn_of _ (by decide +kernel)) ggX1_putOut_X0_addHead
theorem dX1_putOut_0 : decode cX1_putOut 0 = .ok (.aload_n 0, 1) := by decide +kernel
theorem dX1_putOut_1 : decode cX1_putOut 1 = .ok (.getfield 13, 3) := by decide +kernel
theorem dX1_putOut_4 : decode cX1_putOut 4 = .ok (.iconst 0, 1) := by decide +kernel
theorem dX1_putOut_5 : decode cX1_putOut 5 = .ok (.aaload, 1) := by decide +kernel
theorem dX1_putOut_6 : decode cX1_putOut 6 = .ok (.invokevirtual 85, 3) := by decide +kernel
theorem dX1_putOut_9 : decode cX1_putOut 9 = .ok (.istore_n 2, 1) := by decide +kernel
theorem dX1_putOut_10 : decode cX1_putOut 10 = .ok (.iload_n 2, 1) := by decide +kernel
theorem dX1_putOut_11 : decode cX1_putOut 11 = .ok (.aload_n 0, 1) := by decide +kernel
theorem dX1_putOut_12 : decode cX1_putOut 12 = .ok (.getfield 28, 3) := by decide +kernel
theorem dX1_putOut_15 : decode cX1_putOut 15 = .ok (.if_icmp .gt 15, 3) := by decide +kernel
theorem dX1_putOut_18 : decode cX1_putOut 18 = .ok (.iload_n 2, 1) := by decide +kernel
theorem dX1_putOut_19 : decode cX1_putOut 19 = .ok (.aload_n 0, 1) := by decide +kernel
theorem dX1_putOut_20 : decode cX1_putOut 20 = .ok (.getfield 28, 3) := by decide +kernel
theorem dX1_putOut_23 : decode cX1_putOut 23 = .ok (.if_icmp .ne 11, 3) := by decide +kernel
theorem dX1_putOut_26 : decode cX1_putOut 26 = .ok (.iload_n 1, 1) := by decide +kernel
theorem dX1_putOut_27 : decode cX1_putOut 27 = .ok (.ifCond .eq 7, 3) := by decide +kernel
theorem dX1_putOut_30 : decode cX1_putOut 30 = .ok (.iconst 1, 1) := by decide +kernel
theorem dX1_putOut_31 : decode cX1_putOut 31 = .ok (.goto 4, 3) := by decide +kernel
theorem dX1_putOut_34 : decode cX1_putOut 34 = .ok (.iconst 0, 1) := by decide +kernel
theorem dX1_putOut_35 : decode cX1_putOut 35 = .ok (.istore_n 3, 1) := by decide +kernel
theorem dX1_putOut_36 : decode cX1_putOut 36 = .ok (.iload_n 2, 1) := by decide +kernel
theorem dX1_putOut_37 : decode cX1_putOut 37 = .ok (.ifCond .le 11, 3) := by decide +kernel
theorem dX1_putOut_40 : decode cX1_putOut 40 = .ok (.iload_n 3, 1) := by decide +kernel
theorem dX1_putOut_41 : decode cX1_putOut 41 = .ok (.ifCond .eq 7, 3) := by decide +kernel
theorem dX1_putOut_44 : decode cX1_putOut 44 = .ok (.iconst 1, 1) := by decide +kernel
theorem dX1_putOut_45 : decode cX1_putOut 45 = .ok (.goto 4, 3) := by decide +kernel
theorem dX1_putOut_48 : decode cX1_putOut 48 = .ok (.iconst 0, 1) := by decide +kernel
theorem dX1_putOut_49 : decode cX1_putOut 49 = .ok (.istore 4, 2) := by decide +kernel
theorem dX1_putOut_51 : decode cX1_putOut 51 = .ok (.aload_n 0, 1) := by decide +kernel
theorem dX1_putOut_52 : decode cX1_putOut 52 = .ok (.getfield 13, 3) := by decide +kernel
theorem dX1_putOut_55 : decode cX1_putOut 55 = .ok (.iload 4, 2) := by decide +kernel
theorem dX1_putOut_57 : decode cX1_putOut 57 = .ok (.ifCond .eq 7, 3) := by decide +kernel
theorem dX1_putOut_60 : decode cX1_putOut 60 = .ok (.iconst 0, 1) := by decide +kernel
theorem dX1_putOut_61 : decode cX1_putOut 61 = .ok (.goto 4, 3) := by decide +kernel
theorem dX1_putOut_64 : decode cX1_putOut 64 = .ok (.iconst 1, 1) := by decide +kernel
theorem dX1_putOut_65 : decode cX1_putOut 65 = .ok (.aaload, 1) := by decide +kernel
theorem dX1_putOut_66 : decode cX1_putOut 66 = .ok (.invokevirtual 89, 3) := by decide +kernel
theorem dX1_putOut_69 : decode cX1_putOut 69 = .ok (.istore 5, 2) := by decide +kernel
theorem dX1_putOut_71 : decode cX1_putOut 71 = .ok (.aload_n 0, 1) := by decide +kernel
theorem dX1_putOut_72 : decode cX1_putOut 72 = .ok (.getfield 13, 3) := by decide +kernel
theorem dX1_putOut_75 : decode cX1_putOut 75 = .ok (.iload 4, 2) := by decide +kernel
theorem dX1_putOut_77 : decode cX1_putOut 77 = .ok (.ifCond .eq 7, 3) := by decide +kernel
theorem dX1_putOut_80 : decode cX1_putOut 80 = .ok (.iconst 2, 1) := by decide +kernel
theorem dX1_putOut_81 : decode cX1_putOut 81 = .ok (.goto 4, 3) := by decide +kernel
theorem dX1_putOut_84 : decode cX1_putOut 84 = .ok (.iconst 3, 1) := by decide +kernel
theorem dX1_putOut_85 : decode cX1_putOut 85 = .ok (.aaload, 1) := by decide +kernel
theorem dX1_putOut_86 : decode cX1_putOut 86 = .ok (.iload 5, 2) := by decide +kernel
theorem dX1_putOut_88 : decode cX1_putOut 88 = .ok (.invokevirtual 92, 3) := by decide +kernel
theorem dX1_putOut_91 : decode cX1_putOut 91 = .ok (.iload 5, 2) := by decide +kernel
theorem dX1_putOut_93 : decode cX1_putOut 93 = .ok (.ireturn, 1) := by decide +kernel
theorem dX1_bit_0 : decode cX1_bit 0 = .ok (.lconst 1, 1) := by decide +kernel
theorem dX1_bit_1 : decode cX1_bit 1 = .ok (.iload_n 0, 1) := by decide +kernel
theorem dX1_bit_2 : decode cX1_bit 2 = .ok (.lshl, 1) := by decide +kernel
theorem dX1_bit_3 : decode cX1_bit 3 = .ok (.lreturn, 1) := by decide +kernel
set_option maxRecDepth 20000 in
theorem ggX2_init_X1_init : GoodIn wsX2_init wsX1_init := goodIn_r _ [11, 12, 2, 3, 13, 14, 15, 16, 17, 18, 19, 20, 21, 22, 23, 24, 25, 26, 27, 28, 29, 30, 31, 32, 37, 38] (by decide +kernel) (by decide +kernel)
set_option maxRecDepth 20000 in
theorem gX2_init_X1_init : GoodIn wsX2_init (wsX1_init) := ggX2_init_X1_init
theorem dX2_init_0 : decode cX2_init 0 = .ok (.aload_n 0, 1) := by decide +kernel
theorem dX2_init_1 : decode cX2_init 1 = .ok (.invokespecial 1, 3) := by decide +kernel
theorem dX2_init_4 : decode cX2_init 4 = .ok (.aload_n 0, 1) := by decide +kernel
theorem dX2_init_5 : decode cX2_init 5 = .ok (.new 7, 3) := by decide +kernel
theorem dX2_init_8 : decode cX2_init 8 = .ok (.dup, 1) := by decide +kernel
theorem dX2_init_9 : decode cX2_init 9 = .ok (.iconst 0, 1) := by decide +kernel
theorem dX2_init_10 : decode cX2_init 10 = .ok (.iconst 4, 1) := by decide +kernel
theorem dX2_init_11 : decode cX2_init 11 = .ok (.invokespecial 11, 3) := by decide +kernel
theorem dX2_init_14 : decode cX2_init 14 = .ok (.putfield 14, 3) := by decide +kernel
theorem dX2_init_17 : decode cX2_init 17 = .ok (.aload_n 0, 1) := by decide +kernel
theorem dX2_init_18 : decode cX2_init 18 = .ok (.new 7, 3) := by decide +kernel
theorem dX2_init_21 : decode cX2_init 21 = .ok (.dup, 1) := by decide +kernel
theorem dX2_init_22 : decode cX2_init 22 = .ok (.iconst 0, 1) := by decide +kernel
theorem dX2_init_23 : decode cX2_init 23 = .ok (.bipush 8, 2) := by decide +kernel
theorem dX2_init_25 : decode cX2_init 25 = .ok (.invokespecial 11, 3) := by decide +kernel
theorem dX2_init_28 : decode cX2_init 28 = .ok (.putfield 18, 3) := by decide +kernel
theorem dX2_init_31 : decode cX2_init 31 = .ok (.return_, 1) := by decide +kernel
set_option maxRecDepth 20000 in
theorem ggX2_begin_X2_isPolicy : GoodIn wsX2_begin wsX2_isPolicy := goodIn_r _ [8] (by decide +kernel) (by decide +kernel)
set_option maxRecDepth 20000 in
theorem gX2_begin_X2_isPolicy : GoodIn wsX2_begin (va_wsS RX2 21 yX2_isPolicy wsX2_isPolicy) := goodIn_app (goodIn_of _ (by decide +kernel)) ggX2_begin_X2_isPolicy
set_option maxRecDepth 20000 in
theorem ggX2_begin_X2_isCapacity : GoodIn wsX2_begin wsX2_isCapacity := goodIn_r _ [11] (by decide +kernel) (by decide +kernel)
set_option maxRecDepth 20000 in
theorem gX2_begin_X2_isCapacity : GoodIn wsX2_begin (va_wsS RX2 25 yX2_isCapacity wsX2_isCapacity) := goodIn_app (goodIn_of _ (by decide +kernel)) ggX2_begin_X2_isCapacity
set_option maxRecDepth 20000 in
theorem ggX2_begin_X1_restart : GoodIn wsX2_begin wsX1_restart := goodIn_r _ [16, 17, 18, 19, 20, 21, 22, 23, 24, 25, 26, 27, 28, 29, 30, 31, 36, 37, 38, 39, 40, 41, 42, 43, 44, 45, 46] (by decide +kernel) (by decide +kernel)
set_option maxRecDepth 20000 in
theorem gX2_begin_X1_restart : GoodIn wsX2_begin (wsV RX2 28 RX1 yX1_restart wsX1_restart) := goodIn_app (goodIn_of _ (by decide +kernel)) ggX2_begin_X1_restart
theorem dX2_begin_0 : decode cX2_begin 0 = .ok (.iload_n 1, 1) := by decide +kernel
theorem dX2_begin_1 : decode cX2_begin 1 = .ok (.invokestatic 21, 3) := by decide +kernel
theorem dX2_begin_4 : decode cX2_begin 4 = .ok (.ifCond .eq 10, 3) := by decide +kernel
theorem dX2_begin_7 : decode cX2_begin 7 = .ok (.iload_n 2, 1) := by decide +kernel
theorem dX2_begin_8 : decode cX2_begin 8 = .ok (.invokestatic 25, 3) := by decide +kernel
theorem dX2_begin_11 : decode cX2_begin 11 = .ok (.ifCond .ne 5, 3) := by decide +kernel
theorem dX2_begin_14 : decode cX2_begin 14 = .ok (.iconst 0, 1) := by decide +kernel
theorem dX2_begin_15 : decode cX2_begin 15 = .ok (.ireturn, 1) := by decide +kernel
theorem dX2_begin_16 : decode cX2_begin 16 = .ok (.iload_n 3, 1) := by decide +kernel
theorem dX2_begin_17 : decode cX2_begin 17 = .ok (.invokestatic 21, 3) := by decide +kernel
theorem dX2_begin_20 : decode cX2_begin 20 = .ok (.ifCond .eq 11, 3) := by decide +kernel
theorem dX2_begin_23 : decode cX2_begin 23 = .ok (.iload 4, 2) := by decide +kernel
theorem dX2_begin_25 : decode cX2_begin 25 = .ok (.invokestatic 25, 3) := by decide +kernel
theorem dX2_begin_28 : decode cX2_begin 28 = .ok (.ifCond .ne 5, 3) := by decide +kernel
theorem dX2_begin_31 : decode cX2_begin 31 = .ok (.iconst 0, 1) := by decide +kernel
theorem dX2_begin_32 : decode cX2_begin 32 = .ok (.ireturn, 1) := by decide +kernel
theorem dX2_begin_33 : decode cX2_begin 33 = .ok (.aload_n 0, 1) := by decide +kernel
theorem dX2_begin_34 : decode cX2_begin 34 = .ok (.getfield 14, 3) := by decide +kernel
theorem dX2_begin_37 : decode cX2_begin 37 = .ok (.iload_n 1, 1) := by decide +kernel
theorem dX2_begin_38 : decode cX2_begin 38 = .ok (.iload_n 2, 1) := by decide +kernel
theorem dX2_begin_39 : decode cX2_begin 39 = .ok (.invokevirtual 28, 3) := by decide +kernel
theorem dX2_begin_42 : decode cX2_begin 42 = .ok (.aload_n 0, 1) := by decide +kernel
theorem dX2_begin_43 : decode cX2_begin 43 = .ok (.getfield 18, 3) := by decide +kernel
theorem dX2_begin_46 : decode cX2_begin 46 = .ok (.iload_n 3, 1) := by decide +kernel
theorem dX2_begin_47 : decode cX2_begin 47 = .ok (.iload 4, 2) := by decide +kernel
theorem dX2_begin_49 : decode cX2_begin 49 = .ok (.invokevirtual 28, 3) := by decide +kernel
theorem dX2_begin_52 : decode cX2_begin 52 = .ok (.aload_n 0, 1) := by decide +kernel
theorem dX2_begin_53 : decode cX2_begin 53 = .ok (.iconst 0, 1) := by decide +kernel
theorem dX2_begin_54 : decode cX2_begin 54 = .ok (.putfield 31, 3) := by decide +kernel
theorem dX2_begin_57 : decode cX2_begin 57 = .ok (.aload_n 0, 1) := by decide +kernel
theorem dX2_begin_58 : decode cX2_begin 58 = .ok (.iconst 0, 1) := by decide +kernel
theorem dX2_begin_59 : decode cX2_begin 59 = .ok (.putfield 35, 3) := by decide +kernel
theorem dX2_begin_62 : decode cX2_begin 62 = .ok (.iconst 1, 1) := by decide +kernel
theorem dX2_begin_63 : decode cX2_begin 63 = .ok (.ireturn, 1) := by decide +kernel
set_option maxRecDepth 20000 in
theorem ggX2_access_X2_isPage : GoodIn wsX2_access wsX2_isPage := goodIn_r _ [5] (by decide +kernel) (by decide +kernel)
set_option maxRecDepth 20000 in
theorem gX2_access_X2_isPage : GoodIn wsX2_access (va_wsS RX2 38 yX2_isPage wsX2_isPage) := goodIn_app (goodIn_of _ (by decide +kernel)) ggX2_access_X2_isPage
set_option maxRecDepth 20000 in
theorem ggX2_access_X1_holds : GoodIn wsX2_access wsX1_holds := goodIn_r _ [10, 11, 12, 13, 14, 15, 16, 17, 18, 19, 20, 21, 22, 23, 155, 156, 157, 158, 159, 160, 161, 162, 163, 164, 165] (by decide +kernel) (by decide +kernel)
set_option maxRecDepth 20000 in
theorem gX2_access_X1_holds : GoodIn wsX2_access (wsV RX2 41 RX1 yX1_holds wsX1_holds) := goodIn_app (goodIn_of _ (by decide +kernel)) ggX2_access_X1_holds
set_option maxRecDepth 20000 in
theorem ggX2_access_X1_touch : GoodIn wsX2_access wsX1_touch := goodIn_r _ [27, 28, 29, 11, 30, 7, 8, 9, 10, 12, 13, 14, 15, 16, 17, 18, 19, 20, 21, 22, 23, 31, 32, 33, 34, 35, 36, 37, 38, 39, 40, 41, 42, 43, 44, 45, 46, 47, 48, 49, 50, 51, 52, 53, 54, 55, 56, 57, 58, 59, 60, 61, 62, 63, 64, 65, 66, 67, 68, 69, 70, 71, 72, 73, 74, 75, 76, 77, 78, 79, 80, 81, 82, 83, 84, 85, 86, 87, 88, 89, 90, 91, 92, 93, 94, 95, 96, 97, 98, 99, 100, 101, 102, 103, 104, 105, 106, 107, 108, 109, 110, 111, 112, 113, 114, 115, 116, 117, 118, 119, 120, 121, 122, 123, 124, 125, 155, 156, 157, 158, 159, 160, 161, 162, 163, 164, 165] (by decide +kernel) (by decide +kernel)
set_option maxRecDepth 20000 in
theorem gX2_access_X1_touch : GoodIn wsX2_access (wsV RX2 44 RX1 yX1_touch wsX1_touch) := goodIn_app (goodIn_of _ (by decide +kernel)) ggX2_access_X1_touch
set_option maxRecDepth 20000 in
theorem ggX2_access_X2_askLower : GoodIn wsX2_access wsX2_askLower := goodIn_r _ [129, 130, 131, 132, 6, 7, 8, 9, 10, 11, 12, 13, 14, 15, 16, 17, 18, 19, 20, 21, 22, 23, 24, 25, 26, 27, 28, 29, 30, 31, 32, 33, 34, 35, 36, 37, 38, 39, 40, 41, 42, 43, 44, 45, 46, 47, 48, 49, 50, 51, 52, 53, 54, 55, 56, 57, 58, 59, 60, 61, 62, 63, 64, 65, 66, 67, 68, 69, 70, 71, 72, 73, 74, 75, 76, 77, 78, 79, 80, 81, 82, 83, 84, 85, 86, 87, 88, 89, 90, 91, 92, 93, 94, 95, 96, 97, 98, 99, 100, 101, 102, 103, 104, 105, 106, 107, 108, 109, 110, 111, 112, 113, 114, 115, 116, 117, 118, 119, 120, 121, 122, 123, 124, 125, 133, 134, 135, 136, 137, 138, 139, 140, 141, 142, 143, 144, 145, 146, 147, 148, 149, 150, 151, 152, 153, 154, 155, 156, 157, 158, 159, 160, 161, 162, 163, 164, 165] (by decide +kernel) (by decide +kernel)
set_option maxRecDepth 20000 in
theorem gX2_access_X2_askLower : GoodIn wsX2_access (wsV RX2 48 RX2 yX2_askLower wsX2_askLower) := goodIn_app (goodIn_of _ (by decide +kernel)) ggX2_access_X2_askLower
set_option maxRecDepth 20000 in
theorem ggX2_access_X1_cleanVictim : GoodIn wsX2_access wsX1_cleanVictim := goodIn_r _ [136, 137, 138, 139, 140, 9, 141, 142, 68, 143, 144, 145, 146, 61, 62, 63, 155, 156, 157, 158, 159, 160, 161, 162, 163] (by decide +kernel) (by decide +kernel)
set_option maxRecDepth 20000 in
theorem gX2_access_X1_cleanVictim : GoodIn wsX2_access (wsV RX2 52 RX1 yX1_cleanVictim wsX1_cleanVictim) := goodIn_app (goodIn_of _ (by decide +kernel)) ggX2_access_X1_cleanVictim
set_option maxRecDepth 20000 in
theorem ggX2_access_X1_soil : GoodIn wsX2_access wsX1_soil := goodIn_r _ [150, 142, 61, 62, 9, 63, 155, 156, 157, 158, 159, 160, 161, 162, 163] (by decide +kernel) (by decide +kernel)
set_option maxRecDepth 20000 in
theorem gX2_access_X1_soil : GoodIn wsX2_access (wsV RX2 55 RX1 yX1_soil wsX1_soil) := goodIn_app (goodIn_of _ (by decide +kernel)) ggX2_access_X1_soil
theorem dX2_access_0 : decode cX2_access 0 = .ok (.iload_n 1, 1) := by decide +kernel
theorem dX2_access_1 : decode cX2_access 1 = .ok (.invokestatic 38, 3) := by decide +kernel
theorem dX2_access_4 : decode cX2_access 4 = .ok (.ifCond .ne 5, 3) := by decide +kernel
theorem dX2_access_7 : decode cX2_access 7 = .ok (.iconst (-1), 1) := by decide +kernel
theorem dX2_access_8 : decode cX2_access 8 = .ok (.ireturn, 1) := by decide +kernel
theorem dX2_access_9 : decode cX2_access 9 = .ok (.aload_n 0, 1) := by decide +kernel
theorem dX2_access_10 : decode cX2_access 10 = .ok (.getfield 14, 3) := by decide +kernel
theorem dX2_access_13 : decode cX2_access 13 = .ok (.iload_n 1, 1) := by decide +kernel
theorem dX2_access_14 : decode cX2_access 14 = .ok (.invokevirtual 41, 3) := by decide +kernel
theorem dX2_access_17 : decode cX2_access 17 = .ok (.istore_n 3, 1) := by decide +kernel
theorem dX2_access_18 : decode cX2_access 18 = .ok (.aload_n 0, 1) := by decide +kernel
theorem dX2_access_19 : decode cX2_access 19 = .ok (.getfield 14, 3) := by decide +kernel
theorem dX2_access_22 : decode cX2_access 22 = .ok (.iload_n 1, 1) := by decide +kernel
theorem dX2_access_23 : decode cX2_access 23 = .ok (.invokevirtual 44, 3) := by decide +kernel
theorem dX2_access_26 : decode cX2_access 26 = .ok (.istore 4, 2) := by decide +kernel
theorem dX2_access_28 : decode cX2_access 28 = .ok (.iconst 0, 1) := by decide +kernel
theorem dX2_access_29 : decode cX2_access 29 = .ok (.istore 5, 2) := by decide +kernel
theorem dX2_access_31 : decode cX2_access 31 = .ok (.iload_n 3, 1) := by decide +kernel
theorem dX2_access_32 : decode cX2_access 32 = .ok (.ifCond .ne 19, 3) := by decide +kernel
theorem dX2_access_35 : decode cX2_access 35 = .ok (.aload_n 0, 1) := by decide +kernel
theorem dX2_access_36 : decode cX2_access 36 = .ok (.iload_n 1, 1) := by decide +kernel
theorem dX2_access_37 : decode cX2_access 37 = .ok (.iconst 0, 1) := by decide +kernel
theorem dX2_access_38 : decode cX2_access 38 = .ok (.invokevirtual 48, 3) := by decide +kernel
theorem dX2_access_41 : decode cX2_access 41 = .ok (.ifCond .eq 7, 3) := by decide +kernel
theorem dX2_access_44 : decode cX2_access 44 = .ok (.iconst 1, 1) := by decide +kernel
theorem dX2_access_45 : decode cX2_access 45 = .ok (.goto 4, 3) := by decide +kernel
theorem dX2_access_48 : decode cX2_access 48 = .ok (.iconst 2, 1) := by decide +kernel
theorem dX2_access_49 : decode cX2_access 49 = .ok (.istore 5, 2) := by decide +kernel
theorem dX2_access_51 : decode cX2_access 51 = .ok (.aload_n 0, 1) := by decide +kernel
theorem dX2_access_52 : decode cX2_access 52 = .ok (.getfield 14, 3) := by decide +kernel
theorem dX2_access_55 : decode cX2_access 55 = .ok (.iload 4, 2) := by decide +kernel
theorem dX2_access_57 : decode cX2_access 57 = .ok (.invokevirtual 52, 3) := by decide +kernel
theorem dX2_access_60 : decode cX2_access 60 = .ok (.ifCond .eq 11, 3) := by decide +kernel
theorem dX2_access_63 : decode cX2_access 63 = .ok (.aload_n 0, 1) := by decide +kernel
theorem dX2_access_64 : decode cX2_access 64 = .ok (.iload 4, 2) := by decide +kernel
theorem dX2_access_66 : decode cX2_access 66 = .ok (.iconst 1, 1) := by decide +kernel
theorem dX2_access_67 : decode cX2_access 67 = .ok (.invokevirtual 48, 3) := by decide +kernel
theorem dX2_access_70 : decode cX2_access 70 = .ok (.pop, 1) := by decide +kernel
theorem dX2_access_71 : decode cX2_access 71 = .ok (.iload_n 2, 1) := by decide +kernel
theorem dX2_access_72 : decode cX2_access 72 = .ok (.ifCond .eq 11, 3) := by decide +kernel
theorem dX2_access_75 : decode cX2_access 75 = .ok (.aload_n 0, 1) := by decide +kernel
theorem dX2_access_76 : decode cX2_access 76 = .ok (.getfield 14, 3) := by decide +kernel
theorem dX2_access_79 : decode cX2_access 79 = .ok (.iload_n 1, 1) := by decide +kernel
theorem dX2_access_80 : decode cX2_access 80 = .ok (.invokevirtual 55, 3) := by decide +kernel
theorem dX2_access_83 : decode cX2_access 83 = .ok (.iload 5, 2) := by decide +kernel
theorem dX2_access_85 : decode cX2_access 85 = .ok (.ireturn, 1) := by decide +kernel
set_option maxRecDepth 20000 in
theorem ggX2_flush_X1_clean : GoodIn wsX2_flush wsX1_clean := goodIn_r _ [8, 9, 10, 11, 12, 13, 7, 14, 15, 16, 17, 153, 154, 155, 156, 157, 158, 159, 160, 161] (by decide +kernel) (by decide +kernel)
set_option maxRecDepth 20000 in
theorem gX2_flush_X1_clean : GoodIn wsX2_flush (wsV RX2 59 RX1 yX1_clean wsX1_clean) := goodIn_app (goodIn_of _ (by decide +kernel)) ggX2_flush_X1_clean
set_option maxRecDepth 20000 in
theorem ggX2_flush_X2_askLower : GoodIn wsX2_flush wsX2_askLower := goodIn_r _ [22, 3, 23, 1, 24, 25, 26, 7, 27, 28, 29, 30, 31, 32, 33, 34, 35, 36, 37, 38, 39, 40, 41, 42, 43, 44, 45, 46, 47, 48, 49, 50, 51, 52, 53, 54, 55, 56, 57, 58, 59, 60, 61, 62, 63, 64, 65, 66, 67, 68, 69, 70, 71, 72, 73, 74, 75, 76, 77, 15, 16, 17, 78, 79, 80, 81, 10, 82, 83, 84, 85, 86, 87, 88, 89, 90, 91, 92, 93, 94, 95, 96, 97, 98, 99, 100, 101, 102, 103, 104, 105, 106, 107, 108, 109, 110, 111, 112, 113, 114, 115, 116, 117, 118, 119, 120, 121, 122, 123, 124, 125, 126, 127, 128, 129, 130, 131, 132, 133, 134, 135, 136, 137, 138, 139, 140, 141, 142, 143, 144, 5, 6, 8, 9, 11, 12, 13, 14, 145, 146, 147, 148, 149, 150, 151, 152, 153, 154, 155, 156, 157, 158, 159, 160, 161, 162, 163] (by decide +kernel) (by decide +kernel)
set_option maxRecDepth 20000 in
theorem gX2_flush_X2_askLower : GoodIn wsX2_flush (wsV RX2 48 RX2 yX2_askLower wsX2_askLower) := goodIn_app (goodIn_of _ (by decide +kernel)) ggX2_flush_X2_askLower
theorem dX2_flush_0 : decode cX2_flush 0 = .ok (.aload_n 0, 1) := by decide +kernel
theorem dX2_flush_1 : decode cX2_flush 1 = .ok (.getfield 35, 3) := by decide +kernel
theorem dX2_flush_4 : decode cX2_flush 4 = .ok (.istore_n 1, 1) := by decide +kernel
theorem dX2_flush_5 : decode cX2_flush 5 = .ok (.iconst 0, 1) := by decide +kernel
theorem dX2_flush_6 : decode cX2_flush 6 = .ok (.istore_n 2, 1) := by decide +kernel
theorem dX2_flush_7 : decode cX2_flush 7 = .ok (.iload_n 2, 1) := by decide +kernel
theorem dX2_flush_8 : decode cX2_flush 8 = .ok (.bipush 64, 2) := by decide +kernel
theorem dX2_flush_10 : decode cX2_flush 10 = .ok (.if_icmp .ge 27, 3) := by decide +kernel
theorem dX2_flush_13 : decode cX2_flush 13 = .ok (.aload_n 0, 1) := by decide +kernel
theorem dX2_flush_14 : decode cX2_flush 14 = .ok (.getfield 14, 3) := by decide +kernel
theorem dX2_flush_17 : decode cX2_flush 17 = .ok (.iload_n 2, 1) := by decide +kernel
theorem dX2_flush_18 : decode cX2_flush 18 = .ok (.invokevirtual 59, 3) := by decide +kernel
theorem dX2_flush_21 : decode cX2_flush 21 = .ok (.ifCond .eq 10, 3) := by decide +kernel
theorem dX2_flush_24 : decode cX2_flush 24 = .ok (.aload_n 0, 1) := by decide +kernel
theorem dX2_flush_25 : decode cX2_flush 25 = .ok (.iload_n 2, 1) := by decide +kernel
theorem dX2_flush_26 : decode cX2_flush 26 = .ok (.iconst 1, 1) := by decide +kernel
theorem dX2_flush_27 : decode cX2_flush 27 = .ok (.invokevirtual 48, 3) := by decide +kernel
theorem dX2_flush_30 : decode cX2_flush 30 = .ok (.pop, 1) := by decide +kernel
theorem dX2_flush_31 : decode cX2_flush 31 = .ok (.iinc 2 1, 3) := by decide +kernel
theorem dX2_flush_34 : decode cX2_flush 34 = .ok (.goto (-27), 3) := by decide +kernel
theorem dX2_flush_37 : decode cX2_flush 37 = .ok (.iconst 0, 1) := by decide +kernel
theorem dX2_flush_38 : decode cX2_flush 38 = .ok (.istore_n 2, 1) := by decide +kernel
theorem dX2_flush_39 : decode cX2_flush 39 = .ok (.iload_n 2, 1) := by decide +kernel
theorem dX2_flush_40 : decode cX2_flush 40 = .ok (.bipush 64, 2) := by decide +kernel
theorem dX2_flush_42 : decode cX2_flush 42 = .ok (.if_icmp .ge 30, 3) := by decide +kernel
theorem dX2_flush_45 : decode cX2_flush 45 = .ok (.aload_n 0, 1) := by decide +kernel
theorem dX2_flush_46 : decode cX2_flush 46 = .ok (.getfield 18, 3) := by decide +kernel
theorem dX2_flush_49 : decode cX2_flush 49 = .ok (.iload_n 2, 1) := by decide +kernel
theorem dX2_flush_50 : decode cX2_flush 50 = .ok (.invokevirtual 59, 3) := by decide +kernel
theorem dX2_flush_53 : decode cX2_flush 53 = .ok (.ifCond .eq 13, 3) := by decide +kernel
theorem dX2_flush_56 : decode cX2_flush 56 = .ok (.aload_n 0, 1) := by decide +kernel
theorem dX2_flush_57 : decode cX2_flush 57 = .ok (.dup, 1) := by decide +kernel
theorem dX2_flush_58 : decode cX2_flush 58 = .ok (.getfield 35, 3) := by decide +kernel
theorem dX2_flush_61 : decode cX2_flush 61 = .ok (.iconst 1, 1) := by decide +kernel
theorem dX2_flush_62 : decode cX2_flush 62 = .ok (.iadd, 1) := by decide +kernel
theorem dX2_flush_63 : decode cX2_flush 63 = .ok (.putfield 35, 3) := by decide +kernel
theorem dX2_flush_66 : decode cX2_flush 66 = .ok (.iinc 2 1, 3) := by decide +kernel
theorem dX2_flush_69 : decode cX2_flush 69 = .ok (.goto (-30), 3) := by decide +kernel
theorem dX2_flush_72 : decode cX2_flush 72 = .ok (.aload_n 0, 1) := by decide +kernel
theorem dX2_flush_73 : decode cX2_flush 73 = .ok (.getfield 35, 3) := by decide +kernel
theorem dX2_flush_76 : decode cX2_flush 76 = .ok (.iload_n 1, 1) := by decide +kernel
theorem dX2_flush_77 : decode cX2_flush 77 = .ok (.isub, 1) := by decide +kernel
theorem dX2_flush_78 : decode cX2_flush 78 = .ok (.ireturn, 1) := by decide +kernel
set_option maxRecDepth 20000 in
theorem ggX2_resident_X2_tierAt : GoodIn wsX2_resident wsX2_tierAt := goodIn_r _ [5, 6, 7, 29, 30, 31, 32] (by decide +kernel) (by decide +kernel)
set_option maxRecDepth 20000 in
theorem gX2_resident_X2_tierAt : GoodIn wsX2_resident (wsV RX2 62 RX2 yX2_tierAt wsX2_tierAt) := goodIn_app (goodIn_of _ (by decide +kernel)) ggX2_resident_X2_tierAt
set_option maxRecDepth 20000 in
theorem ggX2_resident_X2_isPage : GoodIn wsX2_resident wsX2_isPage := goodIn_r _ [10] (by decide +kernel) (by decide +kernel)
set_option maxRecDepth 20000 in
theorem gX2_resident_X2_isPage : GoodIn wsX2_resident (va_wsS RX2 38 yX2_isPage wsX2_isPage) := goodIn_app (goodIn_of _ (by decide +kernel)) ggX2_resident_X2_isPage
set_option maxRecDepth 20000 in
theorem ggX2_resident_X1_holds : GoodIn wsX2_resident wsX1_holds := goodIn_r _ [15, 16, 17, 18, 19, 20, 21, 22, 23, 24, 25, 26, 27, 28, 33, 34, 35, 36, 37, 38, 39, 40, 41, 42, 43] (by decide +kernel) (by decide +kernel)
set_option maxRecDepth 20000 in
theorem gX2_resident_X1_holds : GoodIn wsX2_resident (wsV RX2 41 RX1 yX1_holds wsX1_holds) := goodIn_app (goodIn_of _ (by decide +kernel)) ggX2_resident_X1_holds
theorem dX2_resident_0 : decode cX2_resident 0 = .ok (.aload_n 0, 1) := by decide +kernel
theorem dX2_resident_1 : decode cX2_resident 1 = .ok (.iload_n 1, 1) := by decide +kernel
theorem dX2_resident_2 : decode cX2_resident 2 = .ok (.invokevirtual 62, 3) := by decide +kernel
theorem dX2_resident_5 : decode cX2_resident 5 = .ok (.astore_n 3, 1) := by decide +kernel
theorem dX2_resident_6 : decode cX2_resident 6 = .ok (.aload_n 3, 1) := by decide +kernel
theorem dX2_resident_7 : decode cX2_resident 7 = .ok (.ifnull 22, 3) := by decide +kernel
theorem dX2_resident_10 : decode cX2_resident 10 = .ok (.iload_n 2, 1) := by decide +kernel
theorem dX2_resident_11 : decode cX2_resident 11 = .ok (.invokestatic 38, 3) := by decide +kernel
theorem dX2_resident_14 : decode cX2_resident 14 = .ok (.ifCond .eq 15, 3) := by decide +kernel
theorem dX2_resident_17 : decode cX2_resident 17 = .ok (.aload_n 3, 1) := by decide +kernel
theorem dX2_resident_18 : decode cX2_resident 18 = .ok (.iload_n 2, 1) := by decide +kernel
theorem dX2_resident_19 : decode cX2_resident 19 = .ok (.invokevirtual 41, 3) := by decide +kernel
theorem dX2_resident_22 : decode cX2_resident 22 = .ok (.ifCond .eq 7, 3) := by decide +kernel
theorem dX2_resident_25 : decode cX2_resident 25 = .ok (.iconst 1, 1) := by decide +kernel
theorem dX2_resident_26 : decode cX2_resident 26 = .ok (.goto 4, 3) := by decide +kernel
theorem dX2_resident_29 : decode cX2_resident 29 = .ok (.iconst 0, 1) := by decide +kernel
theorem dX2_resident_30 : decode cX2_resident 30 = .ok (.ireturn, 1) := by decide +kernel
set_option maxRecDepth 20000 in
theorem ggX2_dirty_X2_tierAt : GoodIn wsX2_dirty wsX2_tierAt := goodIn_r _ [5, 6, 7, 20, 21, 22, 23] (by decide +kernel) (by decide +kernel)
set_option maxRecDepth 20000 in
theorem gX2_dirty_X2_tierAt : GoodIn wsX2_dirty (wsV RX2 62 RX2 yX2_tierAt wsX2_tierAt) := goodIn_app (goodIn_of _ (by decide +kernel)) ggX2_dirty_X2_tierAt
set_option maxRecDepth 20000 in
theorem ggX2_dirty_X2_isPage : GoodIn wsX2_dirty wsX2_isPage := goodIn_r _ [10] (by decide +kernel) (by decide +kernel)
set_option maxRecDepth 20000 in
theorem gX2_dirty_X2_isPage : GoodIn wsX2_dirty (va_wsS RX2 38 yX2_isPage wsX2_isPage) := goodIn_app (goodIn_of _ (by decide +kernel)) ggX2_dirty_X2_isPage
set_option maxRecDepth 20000 in
theorem ggX2_dirty_X1_isDirty : GoodIn wsX2_dirty wsX1_isDirty := goodIn_r _ [15, 16, 17, 18, 14, 19, 24, 25, 26, 27, 28, 29, 30, 31, 32] (by decide +kernel) (by decide +kernel)
set_option maxRecDepth 20000 in
theorem gX2_dirty_X1_isDirty : GoodIn wsX2_dirty (wsV RX2 66 RX1 yX1_isDirty wsX1_isDirty) := goodIn_app (goodIn_of _ (by decide +kernel)) ggX2_dirty_X1_isDirty
theorem dX2_dirty_0 : decode cX2_dirty 0 = .ok (.aload_n 0, 1) := by decide +kernel
theorem dX2_dirty_1 : decode cX2_dirty 1 = .ok (.iload_n 1, 1) := by decide +kernel
theorem dX2_dirty_2 : decode cX2_dirty 2 = .ok (.invokevirtual 62, 3) := by decide +kernel
theorem dX2_dirty_5 : decode cX2_dirty 5 = .ok (.astore_n 3, 1) := by decide +kernel
theorem dX2_dirty_6 : decode cX2_dirty 6 = .ok (.aload_n 3, 1) := by decide +kernel
theorem dX2_dirty_7 : decode cX2_dirty 7 = .ok (.ifnull 22, 3) := by decide +kernel
theorem dX2_dirty_10 : decode cX2_dirty 10 = .ok (.iload_n 2, 1) := by decide +kernel
theorem dX2_dirty_11 : decode cX2_dirty 11 = .ok (.invokestatic 38, 3) := by decide +kernel
theorem dX2_dirty_14 : decode cX2_dirty 14 = .ok (.ifCond .eq 15, 3) := by decide +kernel
theorem dX2_dirty_17 : decode cX2_dirty 17 = .ok (.aload_n 3, 1) := by decide +kernel
theorem dX2_dirty_18 : decode cX2_dirty 18 = .ok (.iload_n 2, 1) := by decide +kernel
theorem dX2_dirty_19 : decode cX2_dirty 19 = .ok (.invokevirtual 66, 3) := by decide +kernel
theorem dX2_dirty_22 : decode cX2_dirty 22 = .ok (.ifCond .eq 7, 3) := by decide +kernel
theorem dX2_dirty_25 : decode cX2_dirty 25 = .ok (.iconst 1, 1) := by decide +kernel
theorem dX2_dirty_26 : decode cX2_dirty 26 = .ok (.goto 4, 3) := by decide +kernel
theorem dX2_dirty_29 : decode cX2_dirty 29 = .ok (.iconst 0, 1) := by decide +kernel
theorem dX2_dirty_30 : decode cX2_dirty 30 = .ok (.ireturn, 1) := by decide +kernel
set_option maxRecDepth 20000 in
theorem ggX2_marked_X2_tierAt : GoodIn wsX2_marked wsX2_tierAt := goodIn_r _ [5, 6, 7, 20, 21, 22, 23] (by decide +kernel) (by decide +kernel)
set_option maxRecDepth 20000 in
theorem gX2_marked_X2_tierAt : GoodIn wsX2_marked (wsV RX2 62 RX2 yX2_tierAt wsX2_tierAt) := goodIn_app (goodIn_of _ (by decide +kernel)) ggX2_marked_X2_tierAt
set_option maxRecDepth 20000 in
theorem ggX2_marked_X2_isPage : GoodIn wsX2_marked wsX2_isPage := goodIn_r _ [10] (by decide +kernel) (by decide +kernel)
set_option maxRecDepth 20000 in
theorem gX2_marked_X2_isPage : GoodIn wsX2_marked (va_wsS RX2 38 yX2_isPage wsX2_isPage) := goodIn_app (goodIn_of _ (by decide +kernel)) ggX2_marked_X2_isPage
set_option maxRecDepth 20000 in
theorem ggX2_marked_X1_isMarked : GoodIn wsX2_marked wsX1_isMarked := goodIn_r _ [15, 16, 17, 18, 14, 19, 24, 25, 26, 27, 28, 29, 30, 31, 32] (by decide +kernel) (by decide +kernel)
set_option maxRecDepth 20000 in
theorem gX2_marked_X1_isMarked : GoodIn wsX2_marked (wsV RX2 69 RX1 yX1_isMarked wsX1_isMarked) := goodIn_app (goodIn_of _ (by decide +kernel)) ggX2_marked_X1_isMarked
theorem dX2_marked_0 : decode cX2_marked 0 = .ok (.aload_n 0, 1) := by decide +kernel
theorem dX2_marked_1 : decode cX2_marked 1 = .ok (.iload_n 1, 1) := by decide +kernel
theorem dX2_marked_2 : decode cX2_marked 2 = .ok (.invokevirtual 62, 3) := by decide +kernel
theorem dX2_marked_5 : decode cX2_marked 5 = .ok (.astore_n 3, 1) := by decide +kernel
theorem dX2_marked_6 : decode cX2_marked 6 = .ok (.aload_n 3, 1) := by decide +kernel
theorem dX2_marked_7 : decode cX2_marked 7 = .ok (.ifnull 22, 3) := by decide +kernel
theorem dX2_marked_10 : decode cX2_marked 10 = .ok (.iload_n 2, 1) := by decide +kernel
theorem dX2_marked_11 : decode cX2_marked 11 = .ok (.invokestatic 38, 3) := by decide +kernel
theorem dX2_marked_14 : decode cX2_marked 14 = .ok (.ifCond .eq 15, 3) := by decide +kernel
theorem dX2_marked_17 : decode cX2_marked 17 = .ok (.aload_n 3, 1) := by decide +kernel
theorem dX2_marked_18 : decode cX2_marked 18 = .ok (.iload_n 2, 1) := by decide +kernel
theorem dX2_marked_19 : decode cX2_marked 19 = .ok (.invokevirtual 69, 3) := by decide +kernel
theorem dX2_marked_22 : decode cX2_marked 22 = .ok (.ifCond .eq 7, 3) := by decide +kernel
theorem dX2_marked_25 : decode cX2_marked 25 = .ok (.iconst 1, 1) := by decide +kernel
theorem dX2_marked_26 : decode cX2_marked 26 = .ok (.goto 4, 3) := by decide +kernel
theorem dX2_marked_29 : decode cX2_marked 29 = .ok (.iconst 0, 1) := by decide +kernel
theorem dX2_marked_30 : decode cX2_marked 30 = .ok (.ireturn, 1) := by decide +kernel
set_option maxRecDepth 20000 in
theorem ggX2_row_X2_tierAt : GoodIn wsX2_row wsX2_tierAt := goodIn_r _ [5, 6, 7, 21, 22, 23, 24] (by decide +kernel) (by decide +kernel)
set_option maxRecDepth 20000 in
theorem gX2_row_X2_tierAt : GoodIn wsX2_row (wsV RX2 62 RX2 yX2_tierAt wsX2_tierAt) := goodIn_app (goodIn_of _ (by decide +kernel)) ggX2_row_X2_tierAt
set_option maxRecDepth 20000 in
theorem ggX2_row_X1_pageAt : GoodIn wsX2_row wsX1_pageAt := goodIn_r _ [12, 13, 14, 15, 16, 17, 18, 19, 20, 25, 26, 27, 28, 29, 30, 31, 32, 33, 34, 35] (by decide +kernel) (by decide +kernel)
set_option maxRecDepth 20000 in
theorem gX2_row_X1_pageAt : GoodIn wsX2_row (wsV RX2 72 RX1 yX1_pageAt wsX1_pageAt) := goodIn_app (goodIn_of _ (by decide +kernel)) ggX2_row_X1_pageAt
theorem dX2_row_0 : decode cX2_row 0 = .ok (.aload_n 0, 1) := by decide +kernel
theorem dX2_row_1 : decode cX2_row 1 = .ok (.iload_n 1, 1) := by decide +kernel
theorem dX2_row_2 : decode cX2_row 2 = .ok (.invokevirtual 62, 3) := by decide +kernel
theorem dX2_row_5 : decode cX2_row 5 = .ok (.astore 4, 2) := by decide +kernel
theorem dX2_row_7 : decode cX2_row 7 = .ok (.aload 4, 2) := by decide +kernel
theorem dX2_row_9 : decode cX2_row 9 = .ok (.ifnonnull 7, 3) := by decide +kernel
theorem dX2_row_12 : decode cX2_row 12 = .ok (.iconst (-1), 1) := by decide +kernel
theorem dX2_row_13 : decode cX2_row 13 = .ok (.goto 10, 3) := by decide +kernel
theorem dX2_row_16 : decode cX2_row 16 = .ok (.aload 4, 2) := by decide +kernel
theorem dX2_row_18 : decode cX2_row 18 = .ok (.iload_n 2, 1) := by decide +kernel
theorem dX2_row_19 : decode cX2_row 19 = .ok (.iload_n 3, 1) := by decide +kernel
theorem dX2_row_20 : decode cX2_row 20 = .ok (.invokevirtual 72, 3) := by decide +kernel
theorem dX2_row_23 : decode cX2_row 23 = .ok (.ireturn, 1) := by decide +kernel
set_option maxRecDepth 20000 in
theorem ggX2_goal_X2_tierAt : GoodIn wsX2_goal wsX2_tierAt := goodIn_r _ [5, 6, 7, 15, 16, 17, 18] (by decide +kernel) (by decide +kernel)
set_option maxRecDepth 20000 in
theorem gX2_goal_X2_tierAt : GoodIn wsX2_goal (wsV RX2 62 RX2 yX2_tierAt wsX2_tierAt) := goodIn_app (goodIn_of _ (by decide +kernel)) ggX2_goal_X2_tierAt
set_option maxRecDepth 20000 in
theorem ggX2_goal_X1_currentGoal : GoodIn wsX2_goal wsX1_currentGoal := goodIn_r _ [12, 13, 14, 19, 20, 21, 22, 23, 24, 25, 26, 27] (by decide +kernel) (by decide +kernel)
set_option maxRecDepth 20000 in
theorem gX2_goal_X1_currentGoal : GoodIn wsX2_goal (wsV RX2 76 RX1 yX1_currentGoal wsX1_currentGoal) := goodIn_app (goodIn_of _ (by decide +kernel)) ggX2_goal_X1_currentGoal
theorem dX2_goal_0 : decode cX2_goal 0 = .ok (.aload_n 0, 1) := by decide +kernel
theorem dX2_goal_1 : decode cX2_goal 1 = .ok (.iload_n 1, 1) := by decide +kernel
theorem dX2_goal_2 : decode cX2_goal 2 = .ok (.invokevirtual 62, 3) := by decide +kernel
theorem dX2_goal_5 : decode cX2_goal 5 = .ok (.astore_n 2, 1) := by decide +kernel
theorem dX2_goal_6 : decode cX2_goal 6 = .ok (.aload_n 2, 1) := by decide +kernel
theorem dX2_goal_7 : decode cX2_goal 7 = .ok (.ifnonnull 7, 3) := by decide +kernel
theorem dX2_goal_10 : decode cX2_goal 10 = .ok (.iconst (-1), 1) := by decide +kernel
theorem dX2_goal_11 : decode cX2_goal 11 = .ok (.goto 7, 3) := by decide +kernel
theorem dX2_goal_14 : decode cX2_goal 14 = .ok (.aload_n 2, 1) := by decide +kernel
theorem dX2_goal_15 : decode cX2_goal 15 = .ok (.invokevirtual 76, 3) := by decide +kernel
theorem dX2_goal_18 : decode cX2_goal 18 = .ok (.ireturn, 1) := by decide +kernel
set_option maxRecDepth 20000 in
theorem ggX2_count_X2_tierAt : GoodIn wsX2_count wsX2_tierAt := goodIn_r _ [5, 6, 7, 16, 17, 18, 19] (by decide +kernel) (by decide +kernel)
set_option maxRecDepth 20000 in
theorem gX2_count_X2_tierAt : GoodIn wsX2_count (wsV RX2 62 RX2 yX2_tierAt wsX2_tierAt) := goodIn_app (goodIn_of _ (by decide +kernel)) ggX2_count_X2_tierAt
set_option maxRecDepth 20000 in
theorem ggX2_count_X1_tally : GoodIn wsX2_count wsX1_tally := goodIn_r _ [12, 13, 14, 15, 20, 21, 22, 23, 24, 25, 26, 27, 28] (by decide +kernel) (by decide +kernel)
set_option maxRecDepth 20000 in
theorem gX2_count_X1_tally : GoodIn wsX2_count (wsV RX2 80 RX1 yX1_tally wsX1_tally) := goodIn_app (goodIn_of _ (by decide +kernel)) ggX2_count_X1_tally
theorem dX2_count_0 : decode cX2_count 0 = .ok (.aload_n 0, 1) := by decide +kernel
theorem dX2_count_1 : decode cX2_count 1 = .ok (.iload_n 1, 1) := by decide +kernel
theorem dX2_count_2 : decode cX2_count 2 = .ok (.invokevirtual 62, 3) := by decide +kernel
theorem dX2_count_5 : decode cX2_count 5 = .ok (.astore_n 3, 1) := by decide +kernel
theorem dX2_count_6 : decode cX2_count 6 = .ok (.aload_n 3, 1) := by decide +kernel
theorem dX2_count_7 : decode cX2_count 7 = .ok (.ifnonnull 7, 3) := by decide +kernel
theorem dX2_count_10 : decode cX2_count 10 = .ok (.iconst (-1), 1) := by decide +kernel
theorem dX2_count_11 : decode cX2_count 11 = .ok (.goto 8, 3) := by decide +kernel
theorem dX2_count_14 : decode cX2_count 14 = .ok (.aload_n 3, 1) := by decide +kernel
theorem dX2_count_15 : decode cX2_count 15 = .ok (.iload_n 2, 1) := by decide +kernel
theorem dX2_count_16 : decode cX2_count 16 = .ok (.invokevirtual 80, 3) := by decide +kernel
theorem dX2_count_19 : decode cX2_count 19 = .ok (.ireturn, 1) := by decide +kernel
theorem dX2_reads_0 : decode cX2_reads 0 = .ok (.aload_n 0, 1) := by decide +kernel
theorem dX2_reads_1 : decode cX2_reads 1 = .ok (.getfield 31, 3) := by decide +kernel
theorem dX2_reads_4 : decode cX2_reads 4 = .ok (.ireturn, 1) := by decide +kernel
theorem dX2_writes_0 : decode cX2_writes 0 = .ok (.aload_n 0, 1) := by decide +kernel
theorem dX2_writes_1 : decode cX2_writes 1 = .ok (.getfield 35, 3) := by decide +kernel
theorem dX2_writes_4 : decode cX2_writes 4 = .ok (.ireturn, 1) := by decide +kernel
set_option maxRecDepth 20000 in
theorem ggX2_askLower_X1_holds : GoodIn wsX2_askLower wsX1_holds := goodIn_r _ [8, 9, 10, 11, 12, 13, 14, 15, 16, 17, 18, 19, 20, 21, 146, 147, 148, 149, 150, 151, 152, 153, 154, 155, 156] (by decide +kernel) (by decide +kernel)
set_option maxRecDepth 20000 in
theorem gX2_askLower_X1_holds : GoodIn wsX2_askLower (wsV RX2 41 RX1 yX1_holds wsX1_holds) := goodIn_app (goodIn_of _ (by decide +kernel)) ggX2_askLower_X1_holds
set_option maxRecDepth 20000 in
theorem ggX2_askLower_X1_touch : GoodIn wsX2_askLower wsX1_touch := goodIn_r _ [25, 26, 27, 9, 28, 5, 6, 7, 8, 10, 11, 12, 13, 14, 15, 16, 17, 18, 19, 20, 21, 29, 30, 31, 32, 33, 34, 35, 36, 37, 38, 39, 40, 41, 42, 43, 44, 45, 46, 47, 48, 49, 50, 51, 52, 53, 54, 55, 56, 57, 58, 59, 60, 61, 62, 63, 64, 65, 66, 67, 68, 69, 70, 71, 72, 73, 74, 75, 76, 77, 78, 79, 80, 81, 82, 83, 84, 85, 86, 87, 88, 89, 90, 91, 92, 93, 94, 95, 96, 97, 98, 99, 100, 101, 102, 103, 104, 105, 106, 107, 108, 109, 110, 111, 112, 113, 114, 115, 116, 117, 118, 119, 120, 121, 122, 123, 146, 147, 148, 149, 150, 151, 152, 153, 154, 155, 156] (by decide +kernel) (by decide +kernel)
set_option maxRecDepth 20000 in
theorem gX2_askLower_X1_touch : GoodIn wsX2_askLower (wsV RX2 44 RX1 yX1_touch wsX1_touch) := goodIn_app (goodIn_of _ (by decide +kernel)) ggX2_askLower_X1_touch
set_option maxRecDepth 20000 in
theorem ggX2_askLower_X1_cleanVictim : GoodIn wsX2_askLower wsX1_cleanVictim := goodIn_r _ [127, 128, 129, 130, 131, 7, 132, 133, 66, 134, 135, 136, 137, 59, 60, 61, 146, 147, 148, 149, 150, 151, 152, 153, 154] (by decide +kernel) (by decide +kernel)
set_option maxRecDepth 20000 in
theorem gX2_askLower_X1_cleanVictim : GoodIn wsX2_askLower (wsV RX2 52 RX1 yX1_cleanVictim wsX1_cleanVictim) := goodIn_app (goodIn_of _ (by decide +kernel)) ggX2_askLower_X1_cleanVictim
set_option maxRecDepth 20000 in
theorem ggX2_askLower_X1_soil : GoodIn wsX2_askLower wsX1_soil := goodIn_r _ [141, 133, 59, 60, 7, 61, 146, 147, 148, 149, 150, 151, 152, 153, 154] (by decide +kernel) (by decide +kernel)
set_option maxRecDepth 20000 in
theorem gX2_askLower_X1_soil : GoodIn wsX2_askLower (wsV RX2 55 RX1 yX1_soil wsX1_soil) := goodIn_app (goodIn_of _ (by decide +kernel)) ggX2_askLower_X1_soil
theorem dX2_askLower_0 : decode cX2_askLower 0 = .ok (.aload_n 0, 1) := by decide +kernel
theorem dX2_askLower_1 : decode cX2_askLower 1 = .ok (.getfield 18, 3) := by decide +kernel
theorem dX2_askLower_4 : decode cX2_askLower 4 = .ok (.iload_n 1, 1) := by decide +kernel
theorem dX2_askLower_5 : decode cX2_askLower 5 = .ok (.invokevirtual 41, 3) := by decide +kernel
theorem dX2_askLower_8 : decode cX2_askLower 8 = .ok (.istore_n 3, 1) := by decide +kernel
theorem dX2_askLower_9 : decode cX2_askLower 9 = .ok (.aload_n 0, 1) := by decide +kernel
theorem dX2_askLower_10 : decode cX2_askLower 10 = .ok (.getfield 18, 3) := by decide +kernel
theorem dX2_askLower_13 : decode cX2_askLower 13 = .ok (.iload_n 1, 1) := by decide +kernel
theorem dX2_askLower_14 : decode cX2_askLower 14 = .ok (.invokevirtual 44, 3) := by decide +kernel
theorem dX2_askLower_17 : decode cX2_askLower 17 = .ok (.istore 4, 2) := by decide +kernel
theorem dX2_askLower_19 : decode cX2_askLower 19 = .ok (.iload_n 3, 1) := by decide +kernel
theorem dX2_askLower_20 : decode cX2_askLower 20 = .ok (.ifCond .ne 17, 3) := by decide +kernel
theorem dX2_askLower_23 : decode cX2_askLower 23 = .ok (.iload_n 2, 1) := by decide +kernel
theorem dX2_askLower_24 : decode cX2_askLower 24 = .ok (.ifCond .ne 13, 3) := by decide +kernel
theorem dX2_askLower_27 : decode cX2_askLower 27 = .ok (.aload_n 0, 1) := by decide +kernel
theorem dX2_askLower_28 : decode cX2_askLower 28 = .ok (.dup, 1) := by decide +kernel
theorem dX2_askLower_29 : decode cX2_askLower 29 = .ok (.getfield 31, 3) := by decide +kernel
theorem dX2_askLower_32 : decode cX2_askLower 32 = .ok (.iconst 1, 1) := by decide +kernel
theorem dX2_askLower_33 : decode cX2_askLower 33 = .ok (.iadd, 1) := by decide +kernel
theorem dX2_askLower_34 : decode cX2_askLower 34 = .ok (.putfield 31, 3) := by decide +kernel
theorem dX2_askLower_37 : decode cX2_askLower 37 = .ok (.aload_n 0, 1) := by decide +kernel
theorem dX2_askLower_38 : decode cX2_askLower 38 = .ok (.getfield 18, 3) := by decide +kernel
theorem dX2_askLower_41 : decode cX2_askLower 41 = .ok (.iload 4, 2) := by decide +kernel
theorem dX2_askLower_43 : decode cX2_askLower 43 = .ok (.invokevirtual 52, 3) := by decide +kernel
theorem dX2_askLower_46 : decode cX2_askLower 46 = .ok (.ifCond .eq 13, 3) := by decide +kernel
theorem dX2_askLower_49 : decode cX2_askLower 49 = .ok (.aload_n 0, 1) := by decide +kernel
theorem dX2_askLower_50 : decode cX2_askLower 50 = .ok (.dup, 1) := by decide +kernel
theorem dX2_askLower_51 : decode cX2_askLower 51 = .ok (.getfield 35, 3) := by decide +kernel
theorem dX2_askLower_54 : decode cX2_askLower 54 = .ok (.iconst 1, 1) := by decide +kernel
theorem dX2_askLower_55 : decode cX2_askLower 55 = .ok (.iadd, 1) := by decide +kernel
theorem dX2_askLower_56 : decode cX2_askLower 56 = .ok (.putfield 35, 3) := by decide +kernel
theorem dX2_askLower_59 : decode cX2_askLower 59 = .ok (.iload_n 2, 1) := by decide +kernel
theorem dX2_askLower_60 : decode cX2_askLower 60 = .ok (.ifCond .eq 11, 3) := by decide +kernel
theorem dX2_askLower_63 : decode cX2_askLower 63 = .ok (.aload_n 0, 1) := by decide +kernel
theorem dX2_askLower_64 : decode cX2_askLower 64 = .ok (.getfield 18, 3) := by decide +kernel
theorem dX2_askLower_67 : decode cX2_askLower 67 = .ok (.iload_n 1, 1) := by decide +kernel
theorem dX2_askLower_68 : decode cX2_askLower 68 = .ok (.invokevirtual 55, 3) := by decide +kernel
theorem dX2_askLower_71 : decode cX2_askLower 71 = .ok (.iload_n 3, 1) := by decide +kernel
theorem dX2_askLower_72 : decode cX2_askLower 72 = .ok (.ireturn, 1) := by decide +kernel
theorem dX2_tierAt_0 : decode cX2_tierAt 0 = .ok (.iload_n 1, 1) := by decide +kernel
theorem dX2_tierAt_1 : decode cX2_tierAt 1 = .ok (.ifCond .ne 8, 3) := by decide +kernel
theorem dX2_tierAt_4 : decode cX2_tierAt 4 = .ok (.aload_n 0, 1) := by decide +kernel
theorem dX2_tierAt_5 : decode cX2_tierAt 5 = .ok (.getfield 14, 3) := by decide +kernel
theorem dX2_tierAt_8 : decode cX2_tierAt 8 = .ok (.areturn, 1) := by decide +kernel
theorem dX2_tierAt_9 : decode cX2_tierAt 9 = .ok (.iload_n 1, 1) := by decide +kernel
theorem dX2_tierAt_10 : decode cX2_tierAt 10 = .ok (.iconst 1, 1) := by decide +kernel
theorem dX2_tierAt_11 : decode cX2_tierAt 11 = .ok (.if_icmp .ne 10, 3) := by decide +kernel
theorem dX2_tierAt_14 : decode cX2_tierAt 14 = .ok (.aload_n 0, 1) := by decide +kernel
theorem dX2_tierAt_15 : decode cX2_tierAt 15 = .ok (.getfield 18, 3) := by decide +kernel
theorem dX2_tierAt_18 : decode cX2_tierAt 18 = .ok (.goto 4, 3) := by decide +kernel
theorem dX2_tierAt_21 : decode cX2_tierAt 21 = .ok (.aconst_null, 1) := by decide +kernel
theorem dX2_tierAt_22 : decode cX2_tierAt 22 = .ok (.areturn, 1) := by decide +kernel
theorem dX2_isPage_0 : decode cX2_isPage 0 = .ok (.iload_n 0, 1) := by decide +kernel
theorem dX2_isPage_1 : decode cX2_isPage 1 = .ok (.ifCond .lt 13, 3) := by decide +kernel
theorem dX2_isPage_4 : decode cX2_isPage 4 = .ok (.iload_n 0, 1) := by decide +kernel
theorem dX2_isPage_5 : decode cX2_isPage 5 = .ok (.bipush 64, 2) := by decide +kernel
theorem dX2_isPage_7 : decode cX2_isPage 7 = .ok (.if_icmp .ge 7, 3) := by decide +kernel
theorem dX2_isPage_10 : decode cX2_isPage 10 = .ok (.iconst 1, 1) := by decide +kernel
theorem dX2_isPage_11 : decode cX2_isPage 11 = .ok (.goto 4, 3) := by decide +kernel
theorem dX2_isPage_14 : decode cX2_isPage 14 = .ok (.iconst 0, 1) := by decide +kernel
theorem dX2_isPage_15 : decode cX2_isPage 15 = .ok (.ireturn, 1) := by decide +kernel
theorem dX2_isPolicy_0 : decode cX2_isPolicy 0 = .ok (.iload_n 0, 1) := by decide +kernel
theorem dX2_isPolicy_1 : decode cX2_isPolicy 1 = .ok (.ifCond .lt 12, 3) := by decide +kernel
theorem dX2_isPolicy_4 : decode cX2_isPolicy 4 = .ok (.iload_n 0, 1) := by decide +kernel
theorem dX2_isPolicy_5 : decode cX2_isPolicy 5 = .ok (.iconst 3, 1) := by decide +kernel
theorem dX2_isPolicy_6 : decode cX2_isPolicy 6 = .ok (.if_icmp .gt 7, 3) := by decide +kernel
theorem dX2_isPolicy_9 : decode cX2_isPolicy 9 = .ok (.iconst 1, 1) := by decide +kernel
theorem dX2_isPolicy_10 : decode cX2_isPolicy 10 = .ok (.goto 4, 3) := by decide +kernel
theorem dX2_isPolicy_13 : decode cX2_isPolicy 13 = .ok (.iconst 0, 1) := by decide +kernel
theorem dX2_isPolicy_14 : decode cX2_isPolicy 14 = .ok (.ireturn, 1) := by decide +kernel
theorem dX2_isCapacity_0 : decode cX2_isCapacity 0 = .ok (.iload_n 0, 1) := by decide +kernel
theorem dX2_isCapacity_1 : decode cX2_isCapacity 1 = .ok (.iconst 1, 1) := by decide +kernel
theorem dX2_isCapacity_2 : decode cX2_isCapacity 2 = .ok (.if_icmp .lt 13, 3) := by decide +kernel
theorem dX2_isCapacity_5 : decode cX2_isCapacity 5 = .ok (.iload_n 0, 1) := by decide +kernel
theorem dX2_isCapacity_6 : decode cX2_isCapacity 6 = .ok (.bipush 16, 2) := by decide +kernel
theorem dX2_isCapacity_8 : decode cX2_isCapacity 8 = .ok (.if_icmp .gt 7, 3) := by decide +kernel
theorem dX2_isCapacity_11 : decode cX2_isCapacity 11 = .ok (.iconst 1, 1) := by decide +kernel
theorem dX2_isCapacity_12 : decode cX2_isCapacity 12 = .ok (.goto 4, 3) := by decide +kernel
theorem dX2_isCapacity_15 : decode cX2_isCapacity 15 = .ok (.iconst 0, 1) := by decide +kernel
theorem dX2_isCapacity_16 : decode cX2_isCapacity 16 = .ok (.ireturn, 1) := by decide +kernel
