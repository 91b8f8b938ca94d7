set_option maxRecDepth 20000 in
theorem in_wsL_law0_r1 : ∀ w ∈ wsL_law0_r1, w ∈ lw_tbl := fun w h => (goodIn_p wsL_law0_r1 [235, 47, 50, 53] (by decide +kernel) (by decide +kernel) w h).1
set_option maxRecDepth 20000 in
theorem in_wsL_law0_r2 : ∀ w ∈ wsL_law0_r2, w ∈ lw_tbl := fun w h => (goodIn_p wsL_law0_r2 [56, 61] (by decide +kernel) (by decide +kernel) w h).1
set_option maxRecDepth 20000 in
theorem in_wsL_law0_r3 : ∀ w ∈ wsL_law0_r3, w ∈ lw_tbl := fun w h => (goodIn_p wsL_law0_r3 [65, 78, 150] (by decide +kernel) (by decide +kernel) w h).1
set_option maxRecDepth 20000 in
theorem in_wsL_law0_r4 : ∀ w ∈ wsL_law0_r4, w ∈ lw_tbl := fun w h => (goodIn_p wsL_law0_r4 [511] (by decide +kernel) (by decide +kernel) w h).1
set_option maxRecDepth 20000 in
theorem in_wsL_law0_r5 : ∀ w ∈ wsL_law0_r5, w ∈ lw_tbl := fun w h => (goodIn_p wsL_law0_r5 [243, 247, 318, 323] (by decide +kernel) (by decide +kernel) w h).1
set_option maxRecDepth 20000 in
theorem in_wsL_law0_r6 : ∀ w ∈ wsL_law0_r6, w ∈ lw_tbl := fun w h => (goodIn_p wsL_law0_r6 [327, 605, 609, 601, 334] (by decide +kernel) (by decide +kernel) w h).1
set_option maxRecDepth 20000 in
theorem in_wsL_law0_r7 : ∀ w ∈ wsL_law0_r7, w ∈ lw_tbl := fun w h => (goodIn_p wsL_law0_r7 [339, 343, 346, 350] (by decide +kernel) (by decide +kernel) w h).1
set_option maxRecDepth 20000 in
theorem in_wsL_law0_r8 : ∀ w ∈ wsL_law0_r8, w ∈ lw_tbl := fun w h => (goodIn_p wsL_law0_r8 [357, 361, 366, 370] (by decide +kernel) (by decide +kernel) w h).1
set_option maxRecDepth 20000 in
theorem in_wsL_law0_r9 : ∀ w ∈ wsL_law0_r9, w ∈ lw_tbl := fun w h => (goodIn_p wsL_law0_r9 [374, 378, 382, 386, 390, 613] (by decide +kernel) (by decide +kernel) w h).1
set_option maxRecDepth 20000 in
theorem in_wsL_law0_r10 : ∀ w ∈ wsL_law0_r10, w ∈ lw_tbl := fun w h => (goodIn_p wsL_law0_r10 [617, 621, 625, 629, 633] (by decide +kernel) (by decide +kernel) w h).1
set_option maxRecDepth 20000 in
theorem in_wsL_law0_r11 : ∀ w ∈ wsL_law0_r11, w ∈ lw_tbl := fun w h => (goodIn_p wsL_law0_r11 [637, 641, 398, 403, 645] (by decide +kernel) (by decide +kernel) w h).1
set_option maxRecDepth 20000 in
theorem in_wsL_law0_r12 : ∀ w ∈ wsL_law0_r12, w ∈ lw_tbl := fun w h => (goodIn_p wsL_law0_r12 [426, 649, 434, 653] (by decide +kernel) (by decide +kernel) w h).1
set_option maxRecDepth 20000 in
theorem in_wsL_law0_r13 : ∀ w ∈ wsL_law0_r13, w ∈ lw_tbl := fun w h => (goodIn_p wsL_law0_r13 [441, 446, 450, 455] (by decide +kernel) (by decide +kernel) w h).1
set_option maxRecDepth 20000 in
theorem in_wsL_law0_r14 : ∀ w ∈ wsL_law0_r14, w ∈ lw_tbl := fun w h => (goodIn_p wsL_law0_r14 [459, 464, 470, 476] (by decide +kernel) (by decide +kernel) w h).1
set_option maxRecDepth 20000 in
theorem in_wsL_law0_r15 : ∀ w ∈ wsL_law0_r15, w ∈ lw_tbl := fun w h => (goodIn_p wsL_law0_r15 [481, 657, 661] (by decide +kernel) (by decide +kernel) w h).1
set_option maxRecDepth 20000 in
theorem in_wsL_law0_r16 : ∀ w ∈ wsL_law0_r16, w ∈ lw_tbl := fun w h => (goodIn_p wsL_law0_r16 [665, 669, 673, 490, 677] (by decide +kernel) (by decide +kernel) w h).1
set_option maxRecDepth 20000 in
theorem in_wsL_law0_r17 : ∀ w ∈ wsL_law0_r17, w ∈ lw_tbl := fun w h => (goodIn_p wsL_law0_r17 [498, 681, 505, 685] (by decide +kernel) (by decide +kernel) w h).1
set_option maxRecDepth 20000 in
theorem in_wsX30_t : ∀ w ∈ wsX30, w ∈ lw_tbl := by decide +kernel
set_option maxRecDepth 20000 in
theorem in_wsX40_t : ∀ w ∈ wsX40, w ∈ lw_tbl := by decide +kernel
set_option maxRecDepth 20000 in
theorem in_wsX00_t : ∀ w ∈ wsX00, w ∈ lw_tbl := by decide +kernel
set_option maxRecDepth 20000 in
theorem in_wsX20_t : ∀ w ∈ wsX20, w ∈ lw_tbl := by decide +kernel
set_option maxRecDepth 20000 in
theorem in_wsX10_t : ∀ w ∈ wsX10, w ∈ lw_tbl := by decide +kernel
theorem wsL_law_in0 : ∀ w ∈ wsL_law0, w ∈ lw_tbl := List.forall_mem_append.mpr ⟨List.forall_mem_append.mpr ⟨List.forall_mem_append.mpr ⟨List.forall_mem_append.mpr ⟨List.forall_mem_append.mpr ⟨List.forall_mem_append.mpr ⟨List.forall_mem_append.mpr ⟨in_wsL_law0_r1, List.forall_mem_append.mpr ⟨in_wsL_law0_r2, List.forall_mem_append.mpr ⟨in_wsL_law0_r3, List.forall_mem_append.mpr ⟨in_wsL_law0_r4, List.forall_mem_append.mpr ⟨in_wsL_law0_r5, List.forall_mem_append.mpr ⟨in_wsL_law0_r6, List.forall_mem_append.mpr ⟨in_wsL_law0_r7, List.forall_mem_append.mpr ⟨in_wsL_law0_r8, List.forall_mem_append.mpr ⟨in_wsL_law0_r9, List.forall_mem_append.mpr ⟨in_wsL_law0_r10, List.forall_mem_append.mpr ⟨in_wsL_law0_r11, List.forall_mem_append.mpr ⟨in_wsL_law0_r12, List.forall_mem_append.mpr ⟨in_wsL_law0_r13, List.forall_mem_append.mpr ⟨in_wsL_law0_r14, List.forall_mem_append.mpr ⟨in_wsL_law0_r15, List.forall_mem_append.mpr ⟨in_wsL_law0_r16, in_wsL_law0_r17⟩⟩⟩⟩⟩⟩⟩⟩⟩⟩⟩⟩⟩⟩⟩⟩, in_wsX30_t⟩, in_wsX40_t⟩, in_wsX00_t⟩, in_wsX20_t⟩, in_wsX10_t⟩, fun _ h => absurd h List.not_mem_nil⟩
theorem wsL_law_x0 : ∀ w ∈ (vx_atS RX3 53 "java/lang/IllegalArgumentException" ["java/lang/RuntimeException", "java/lang/Exception"]).filter goodWord, w ∈ lw_tbl := by decide +kernel
theorem wsL_law_x1 : ∀ w ∈ (vx_atS RX3 148 "java/lang/IllegalStateException" ["java/lang/RuntimeException", "java/lang/Exception"]).filter goodWord, w ∈ lw_tbl := by decide +kernel
theorem wsL_law_in : ∀ w ∈ wsL_law, w ∈ lw_tbl := fun w h => (List.mem_append.mp h).elim (fun h => (List.mem_append.mp h).elim (fun h => wsL_law_in0 w h) (fun h => wsL_law_x0 w h)) (fun h => wsL_law_x1 w h)
theorem inlX0 : ∀ w ∈ wsX00, w ∈ wsL_law := fun _ h => List.mem_append_left _ (List.mem_append_left _ (List.mem_append_left _ (List.mem_append_left _ (List.mem_append_left _ (List.mem_append_right _ h)))))
theorem inX0 : ∀ w ∈ wsX00, w ∈ lw_tbl := fun w h => wsL_law_in w (inlX0 w h)
theorem inlX1 : ∀ w ∈ wsX10, w ∈ wsL_law := fun _ h => List.mem_append_left _ (List.mem_append_left _ (List.mem_append_left _ (List.mem_append_right _ h)))
theorem inX1 : ∀ w ∈ wsX10, w ∈ lw_tbl := fun w h => wsL_law_in w (inlX1 w h)
theorem inlX2 : ∀ w ∈ wsX20, w ∈ wsL_law := fun _ h => List.mem_append_left _ (List.mem_append_left _ (List.mem_append_left _ (List.mem_append_left _ (List.mem_append_right _ h))))
theorem inX2 : ∀ w ∈ wsX20, w ∈ lw_tbl := fun w h => wsL_law_in w (inlX2 w h)
theorem inlX3 : ∀ w ∈ wsX30, w ∈ wsL_law := fun _ h => List.mem_append_left _ (List.mem_append_left _ (List.mem_append_left _ (List.mem_append_left _ (List.mem_append_left _ (List.mem_append_left _ (List.mem_append_left _ (List.mem_append_right _ h)))))))
theorem inX3 : ∀ w ∈ wsX30, w ∈ lw_tbl := fun w h => wsL_law_in w (inlX3 w h)
theorem inlX4 : ∀ w ∈ wsX40, w ∈ wsL_law := fun _ h => List.mem_append_left _ (List.mem_append_left _ (List.mem_append_left _ (List.mem_append_left _ (List.mem_append_left _ (List.mem_append_left _ (List.mem_append_right _ h))))))
theorem inX4 : ∀ w ∈ wsX40, w ∈ lw_tbl := fun w h => wsL_law_in w (inlX4 w h)
theorem inJ9 : ∀ w ∈ wsJ90, w ∈ lw_tbl := by decide +kernel
theorem inJ0 : ∀ w ∈ wsJ00, w ∈ lw_tbl := by decide +kernel
theorem inJ10 : ∀ w ∈ wsJ100, w ∈ lw_tbl := by decide +kernel
theorem inJ7 : ∀ w ∈ wsJ70, w ∈ lw_tbl := by decide +kernel
set_option maxRecDepth 20000 in
theorem ggX0_init_J7_fill_53178 : GoodIn wsX0_init wsJ7_fill_53178 := goodIn_r _ [10] (by decide +kernel) (by decide +kernel)
set_option maxRecDepth 20000 in
theorem gX0_init_J7_fill_53178 : GoodIn wsX0_init (va_wsS RX0 19 yJ7_fill_53178 wsJ7_fill_53178) := goodIn_app (goodIn_of _ (by decide +kernel)) ggX0_init_J7_fill_53178
theorem dX0_init_0 : decode cX0_init 0 = .ok (.aload_n 0, 1) := by decide +kernel
theorem dX0_init_1 : decode cX0_init 1 = .ok (.invokespecial 3, 3) := by decide +kernel
theorem dX0_init_4 : decode cX0_init 4 = .ok (.aload_n 0, 1) := by decide +kernel
theorem dX0_init_5 : decode cX0_init 5 = .ok (.iload_n 1, 1) := by decide +kernel
theorem dX0_init_6 : decode cX0_init 6 = .ok (.putfield 9, 3) := by decide +kernel
theorem dX0_init_9 : decode cX0_init 9 = .ok (.aload_n 0, 1) := by decide +kernel
theorem dX0_init_10 : decode cX0_init 10 = .ok (.bipush 8, 2) := by decide +kernel
theorem dX0_init_12 : decode cX0_init 12 = .ok (.newarray .int, 2) := by decide +kernel
theorem dX0_init_14 : decode cX0_init 14 = .ok (.putfield 15, 3) := by decide +kernel
theorem dX0_init_17 : decode cX0_init 17 = .ok (.aload_n 0, 1) := by decide +kernel
theorem dX0_init_18 : decode cX0_init 18 = .ok (.getfield 15, 3) := by decide +kernel
theorem dX0_init_21 : decode cX0_init 21 = .ok (.iconst (-1), 1) := by decide +kernel
theorem dX0_init_22 : decode cX0_init 22 = .ok (.invokestatic 19, 3) := by decide +kernel
theorem dX0_init_25 : decode cX0_init 25 = .ok (.return_, 1) := by decide +kernel
theorem dX0_hasPlace_0 : decode cX0_hasPlace 0 = .ok (.iload_n 1, 1) := by decide +kernel
theorem dX0_hasPlace_1 : decode cX0_hasPlace 1 = .ok (.ifCond .lt 24, 3) := by decide +kernel
theorem dX0_hasPlace_4 : decode cX0_hasPlace 4 = .ok (.iload_n 1, 1) := by decide +kernel
theorem dX0_hasPlace_5 : decode cX0_hasPlace 5 = .ok (.aload_n 0, 1) := by decide +kernel
theorem dX0_hasPlace_6 : decode cX0_hasPlace 6 = .ok (.getfield 9, 3) := by decide +kernel
theorem dX0_hasPlace_9 : decode cX0_hasPlace 9 = .ok (.if_icmp .ge 16, 3) := by decide +kernel
theorem dX0_hasPlace_12 : decode cX0_hasPlace 12 = .ok (.iload_n 2, 1) := by decide +kernel
theorem dX0_hasPlace_13 : decode cX0_hasPlace 13 = .ok (.ifCond .eq 8, 3) := by decide +kernel
theorem dX0_hasPlace_16 : decode cX0_hasPlace 16 = .ok (.iload_n 2, 1) := by decide +kernel
theorem dX0_hasPlace_17 : decode cX0_hasPlace 17 = .ok (.iconst 1, 1) := by decide +kernel
theorem dX0_hasPlace_18 : decode cX0_hasPlace 18 = .ok (.if_icmp .ne 7, 3) := by decide +kernel
theorem dX0_hasPlace_21 : decode cX0_hasPlace 21 = .ok (.iconst 1, 1) := by decide +kernel
theorem dX0_hasPlace_22 : decode cX0_hasPlace 22 = .ok (.goto 4, 3) := by decide +kernel
theorem dX0_hasPlace_25 : decode cX0_hasPlace 25 = .ok (.iconst 0, 1) := by decide +kernel
theorem dX0_hasPlace_26 : decode cX0_hasPlace 26 = .ok (.ireturn, 1) := by decide +kernel
theorem dX0_allows_0 : decode cX0_allows 0 = .ok (.iload_n 1, 1) := by decide +kernel
theorem dX0_allows_1 : decode cX0_allows 1 = .ok (.iconst (-1), 1) := by decide +kernel
theorem dX0_allows_2 : decode cX0_allows 2 = .ok (.if_icmp .lt 17, 3) := by decide +kernel
theorem dX0_allows_5 : decode cX0_allows 5 = .ok (.iload_n 1, 1) := by decide +kernel
theorem dX0_allows_6 : decode cX0_allows 6 = .ok (.iconst 4, 1) := by decide +kernel
theorem dX0_allows_7 : decode cX0_allows 7 = .ok (.aload_n 0, 1) := by decide +kernel
theorem dX0_allows_8 : decode cX0_allows 8 = .ok (.getfield 9, 3) := by decide +kernel
theorem dX0_allows_11 : decode cX0_allows 11 = .ok (.imul, 1) := by decide +kernel
theorem dX0_allows_12 : decode cX0_allows 12 = .ok (.if_icmp .ge 7, 3) := by decide +kernel
theorem dX0_allows_15 : decode cX0_allows 15 = .ok (.iconst 1, 1) := by decide +kernel
theorem dX0_allows_16 : decode cX0_allows 16 = .ok (.goto 4, 3) := by decide +kernel
theorem dX0_allows_19 : decode cX0_allows 19 = .ok (.iconst 0, 1) := by decide +kernel
theorem dX0_allows_20 : decode cX0_allows 20 = .ok (.ireturn, 1) := by decide +kernel
theorem dX0_codeAt_0 : decode cX0_codeAt 0 = .ok (.iconst 2, 1) := by decide +kernel
theorem dX0_codeAt_1 : decode cX0_codeAt 1 = .ok (.iload_n 1, 1) := by decide +kernel
theorem dX0_codeAt_2 : decode cX0_codeAt 2 = .ok (.imul, 1) := by decide +kernel
theorem dX0_codeAt_3 : decode cX0_codeAt 3 = .ok (.iload_n 2, 1) := by decide +kernel
theorem dX0_codeAt_4 : decode cX0_codeAt 4 = .ok (.iadd, 1) := by decide +kernel
theorem dX0_codeAt_5 : decode cX0_codeAt 5 = .ok (.istore_n 3, 1) := by decide +kernel
theorem dX0_codeAt_6 : decode cX0_codeAt 6 = .ok (.iload_n 3, 1) := by decide +kernel
theorem dX0_codeAt_7 : decode cX0_codeAt 7 = .ok (.ifCond .lt 21, 3) := by decide +kernel
theorem dX0_codeAt_10 : decode cX0_codeAt 10 = .ok (.iload_n 3, 1) := by decide +kernel
theorem dX0_codeAt_11 : decode cX0_codeAt 11 = .ok (.aload_n 0, 1) := by decide +kernel
theorem dX0_codeAt_12 : decode cX0_codeAt 12 = .ok (.getfield 15, 3) := by decide +kernel
theorem dX0_codeAt_15 : decode cX0_codeAt 15 = .ok (.arraylength, 1) := by decide +kernel
theorem dX0_codeAt_16 : decode cX0_codeAt 16 = .ok (.if_icmp .ge 12, 3) := by decide +kernel
theorem dX0_codeAt_19 : decode cX0_codeAt 19 = .ok (.aload_n 0, 1) := by decide +kernel
theorem dX0_codeAt_20 : decode cX0_codeAt 20 = .ok (.getfield 15, 3) := by decide +kernel
theorem dX0_codeAt_23 : decode cX0_codeAt 23 = .ok (.iload_n 3, 1) := by decide +kernel
theorem dX0_codeAt_24 : decode cX0_codeAt 24 = .ok (.iaload, 1) := by decide +kernel
theorem dX0_codeAt_25 : decode cX0_codeAt 25 = .ok (.goto 4, 3) := by decide +kernel
theorem dX0_codeAt_28 : decode cX0_codeAt 28 = .ok (.iconst (-1), 1) := by decide +kernel
theorem dX0_codeAt_29 : decode cX0_codeAt 29 = .ok (.ireturn, 1) := by decide +kernel
theorem dX0_put_0 : decode cX0_put 0 = .ok (.iconst 2, 1) := by decide +kernel
theorem dX0_put_1 : decode cX0_put 1 = .ok (.iload_n 1, 1) := by decide +kernel
theorem dX0_put_2 : decode cX0_put 2 = .ok (.imul, 1) := by decide +kernel
theorem dX0_put_3 : decode cX0_put 3 = .ok (.iload_n 2, 1) := by decide +kernel
theorem dX0_put_4 : decode cX0_put 4 = .ok (.iadd, 1) := by decide +kernel
theorem dX0_put_5 : decode cX0_put 5 = .ok (.istore 4, 2) := by decide +kernel
theorem dX0_put_7 : decode cX0_put 7 = .ok (.iload 4, 2) := by decide +kernel
theorem dX0_put_9 : decode cX0_put 9 = .ok (.ifCond .lt 21, 3) := by decide +kernel
theorem dX0_put_12 : decode cX0_put 12 = .ok (.iload 4, 2) := by decide +kernel
theorem dX0_put_14 : decode cX0_put 14 = .ok (.aload_n 0, 1) := by decide +kernel
theorem dX0_put_15 : decode cX0_put 15 = .ok (.getfield 15, 3) := by decide +kernel
theorem dX0_put_18 : decode cX0_put 18 = .ok (.arraylength, 1) := by decide +kernel
theorem dX0_put_19 : decode cX0_put 19 = .ok (.if_icmp .ge 11, 3) := by decide +kernel
theorem dX0_put_22 : decode cX0_put 22 = .ok (.aload_n 0, 1) := by decide +kernel
theorem dX0_put_23 : decode cX0_put 23 = .ok (.getfield 15, 3) := by decide +kernel
theorem dX0_put_26 : decode cX0_put 26 = .ok (.iload 4, 2) := by decide +kernel
theorem dX0_put_28 : decode cX0_put 28 = .ok (.iload_n 3, 1) := by decide +kernel
theorem dX0_put_29 : decode cX0_put 29 = .ok (.iastore, 1) := by decide +kernel
theorem dX0_put_30 : decode cX0_put 30 = .ok (.return_, 1) := by decide +kernel
theorem dX0_greatestNext_0 : decode cX0_greatestNext 0 = .ok (.iconst 0, 1) := by decide +kernel
theorem dX0_greatestNext_1 : decode cX0_greatestNext 1 = .ok (.istore_n 1, 1) := by decide +kernel
theorem dX0_greatestNext_2 : decode cX0_greatestNext 2 = .ok (.aload_n 0, 1) := by decide +kernel
theorem dX0_greatestNext_3 : decode cX0_greatestNext 3 = .ok (.getfield 15, 3) := by decide +kernel
theorem dX0_greatestNext_6 : decode cX0_greatestNext 6 = .ok (.astore_n 2, 1) := by decide +kernel
theorem dX0_greatestNext_7 : decode cX0_greatestNext 7 = .ok (.aload_n 2, 1) := by decide +kernel
theorem dX0_greatestNext_8 : decode cX0_greatestNext 8 = .ok (.arraylength, 1) := by decide +kernel
theorem dX0_greatestNext_9 : decode cX0_greatestNext 9 = .ok (.istore_n 3, 1) := by decide +kernel
theorem dX0_greatestNext_10 : decode cX0_greatestNext 10 = .ok (.iconst 0, 1) := by decide +kernel
theorem dX0_greatestNext_11 : decode cX0_greatestNext 11 = .ok (.istore 4, 2) := by decide +kernel
theorem dX0_greatestNext_13 : decode cX0_greatestNext 13 = .ok (.iload 4, 2) := by decide +kernel
theorem dX0_greatestNext_15 : decode cX0_greatestNext 15 = .ok (.iload_n 3, 1) := by decide +kernel
theorem dX0_greatestNext_16 : decode cX0_greatestNext 16 = .ok (.if_icmp .ge 24, 3) := by decide +kernel
theorem dX0_greatestNext_19 : decode cX0_greatestNext 19 = .ok (.aload_n 2, 1) := by decide +kernel
theorem dX0_greatestNext_20 : decode cX0_greatestNext 20 = .ok (.iload 4, 2) := by decide +kernel
theorem dX0_greatestNext_22 : decode cX0_greatestNext 22 = .ok (.iaload, 1) := by decide +kernel
theorem dX0_greatestNext_23 : decode cX0_greatestNext 23 = .ok (.istore 5, 2) := by decide +kernel
theorem dX0_greatestNext_25 : decode cX0_greatestNext 25 = .ok (.iload_n 1, 1) := by decide +kernel
theorem dX0_greatestNext_26 : decode cX0_greatestNext 26 = .ok (.iload 5, 2) := by decide +kernel
theorem dX0_greatestNext_28 : decode cX0_greatestNext 28 = .ok (.iconst 2, 1) := by decide +kernel
theorem dX0_greatestNext_29 : decode cX0_greatestNext 29 = .ok (.ishr, 1) := by decide +kernel
theorem dX0_greatestNext_30 : decode cX0_greatestNext 30 = .ok (.invokestatic 25, 3) := by decide +kernel
theorem dX0_greatestNext_33 : decode cX0_greatestNext 33 = .ok (.istore_n 1, 1) := by decide +kernel
theorem dX0_greatestNext_34 : decode cX0_greatestNext 34 = .ok (.iinc 4 1, 3) := by decide +kernel
theorem dX0_greatestNext_37 : decode cX0_greatestNext 37 = .ok (.goto (-24), 3) := by decide +kernel
theorem dX0_greatestNext_40 : decode cX0_greatestNext 40 = .ok (.iload_n 1, 1) := by decide +kernel
theorem dX0_greatestNext_41 : decode cX0_greatestNext 41 = .ok (.ireturn, 1) := by decide +kernel
theorem dX0_copyFrom_0 : decode cX0_copyFrom 0 = .ok (.aload_n 1, 1) := by decide +kernel
theorem dX0_copyFrom_1 : decode cX0_copyFrom 1 = .ok (.getfield 15, 3) := by decide +kernel
theorem dX0_copyFrom_4 : decode cX0_copyFrom 4 = .ok (.iconst 0, 1) := by decide +kernel
theorem dX0_copyFrom_5 : decode cX0_copyFrom 5 = .ok (.aload_n 0, 1) := by decide +kernel
theorem dX0_copyFrom_6 : decode cX0_copyFrom 6 = .ok (.getfield 15, 3) := by decide +kernel
theorem dX0_copyFrom_9 : decode cX0_copyFrom 9 = .ok (.iconst 0, 1) := by decide +kernel
theorem dX0_copyFrom_10 : decode cX0_copyFrom 10 = .ok (.aload_n 0, 1) := by decide +kernel
theorem dX0_copyFrom_11 : decode cX0_copyFrom 11 = .ok (.getfield 15, 3) := by decide +kernel
theorem dX0_copyFrom_14 : decode cX0_copyFrom 14 = .ok (.arraylength, 1) := by decide +kernel
theorem dX0_copyFrom_15 : decode cX0_copyFrom 15 = .ok (.aload_n 1, 1) := by decide +kernel
theorem dX0_copyFrom_16 : decode cX0_copyFrom 16 = .ok (.getfield 15, 3) := by decide +kernel
theorem dX0_copyFrom_19 : decode cX0_copyFrom 19 = .ok (.arraylength, 1) := by decide +kernel
theorem dX0_copyFrom_20 : decode cX0_copyFrom 20 = .ok (.invokestatic 31, 3) := by decide +kernel
theorem dX0_copyFrom_23 : decode cX0_copyFrom 23 = .ok (.invokestatic 34, 3) := by decide +kernel
theorem dX0_copyFrom_26 : decode cX0_copyFrom 26 = .ok (.return_, 1) := by decide +kernel
set_option maxRecDepth 20000 in
theorem ggX1_init_X0_init : GoodIn wsX1_init wsX0_init := goodIn_r _ [20, 21, 2, 3, 22, 14, 23, 24, 25, 26, 27, 65, 66] (by decide +kernel) (by decide +kernel)
set_option maxRecDepth 20000 in
theorem gX1_init_X0_init : GoodIn wsX1_init (wsX0_init) := ggX1_init_X0_init
set_option maxRecDepth 20000 in
theorem ggX1_init_X2_init : GoodIn wsX1_init wsX2_init := goodIn_r _ [30, 31, 2, 3, 32, 33, 34, 35, 36, 37, 38, 39, 40, 41, 42, 43, 14, 44, 45, 46, 67, 68, 69, 70, 71, 72, 73, 74, 75, 76, 77, 78, 79, 80, 81, 82] (by decide +kernel) (by decide +kernel)
set_option maxRecDepth 20000 in
theorem gX1_init_X2_init : GoodIn wsX1_init (wsX2_init) := ggX1_init_X2_init
theorem dX1_init_0 : decode cX1_init 0 = .ok (.aload_n 0, 1) := by decide +kernel
theorem dX1_init_1 : decode cX1_init 1 = .ok (.invokespecial 3, 3) := by decide +kernel
theorem dX1_init_4 : decode cX1_init 4 = .ok (.aload_n 0, 1) := by decide +kernel
theorem dX1_init_5 : decode cX1_init 5 = .ok (.iload_n 1, 1) := by decide +kernel
theorem dX1_init_6 : decode cX1_init 6 = .ok (.putfield 9, 3) := by decide +kernel
theorem dX1_init_9 : decode cX1_init 9 = .ok (.aload_n 0, 1) := by decide +kernel
theorem dX1_init_10 : decode cX1_init 10 = .ok (.new 15, 3) := by decide +kernel
theorem dX1_init_13 : decode cX1_init 13 = .ok (.dup, 1) := by decide +kernel
theorem dX1_init_14 : decode cX1_init 14 = .ok (.iload_n 1, 1) := by decide +kernel
theorem dX1_init_15 : decode cX1_init 15 = .ok (.invokespecial 17, 3) := by decide +kernel
theorem dX1_init_18 : decode cX1_init 18 = .ok (.putfield 20, 3) := by decide +kernel
theorem dX1_init_21 : decode cX1_init 21 = .ok (.aload_n 0, 1) := by decide +kernel
theorem dX1_init_22 : decode cX1_init 22 = .ok (.new 15, 3) := by decide +kernel
theorem dX1_init_25 : decode cX1_init 25 = .ok (.dup, 1) := by decide +kernel
theorem dX1_init_26 : decode cX1_init 26 = .ok (.iload_n 1, 1) := by decide +kernel
theorem dX1_init_27 : decode cX1_init 27 = .ok (.invokespecial 17, 3) := by decide +kernel
theorem dX1_init_30 : decode cX1_init 30 = .ok (.putfield 24, 3) := by decide +kernel
theorem dX1_init_33 : decode cX1_init 33 = .ok (.aload_n 0, 1) := by decide +kernel
theorem dX1_init_34 : decode cX1_init 34 = .ok (.new 27, 3) := by decide +kernel
theorem dX1_init_37 : decode cX1_init 37 = .ok (.dup, 1) := by decide +kernel
theorem dX1_init_38 : decode cX1_init 38 = .ok (.bipush 120, 2) := by decide +kernel
theorem dX1_init_40 : decode cX1_init 40 = .ok (.invokespecial 29, 3) := by decide +kernel
theorem dX1_init_43 : decode cX1_init 43 = .ok (.putfield 30, 3) := by decide +kernel
theorem dX1_init_46 : decode cX1_init 46 = .ok (.aload_n 0, 1) := by decide +kernel
theorem dX1_init_47 : decode cX1_init 47 = .ok (.bipush 8, 2) := by decide +kernel
theorem dX1_init_49 : decode cX1_init 49 = .ok (.newarray .int, 2) := by decide +kernel
theorem dX1_init_51 : decode cX1_init 51 = .ok (.putfield 34, 3) := by decide +kernel
theorem dX1_init_54 : decode cX1_init 54 = .ok (.aload_n 0, 1) := by decide +kernel
theorem dX1_init_55 : decode cX1_init 55 = .ok (.bipush 8, 2) := by decide +kernel
theorem dX1_init_57 : decode cX1_init 57 = .ok (.newarray .int, 2) := by decide +kernel
theorem dX1_init_59 : decode cX1_init 59 = .ok (.putfield 38, 3) := by decide +kernel
theorem dX1_init_62 : decode cX1_init 62 = .ok (.aload_n 0, 1) := by decide +kernel
theorem dX1_init_63 : decode cX1_init 63 = .ok (.bipush 8, 2) := by decide +kernel
theorem dX1_init_65 : decode cX1_init 65 = .ok (.newarray .int, 2) := by decide +kernel
theorem dX1_init_67 : decode cX1_init 67 = .ok (.putfield 41, 3) := by decide +kernel
theorem dX1_init_70 : decode cX1_init 70 = .ok (.return_, 1) := by decide +kernel
set_option maxRecDepth 20000 in
theorem ggX1_takeNext_X1_moveOn : GoodIn wsX1_takeNext wsX1_moveOn := goodIn_r _ [10, 11, 12, 2, 13, 14, 15, 16, 17, 18, 19, 20, 21, 9, 22, 1, 23, 24, 25, 26, 27, 28, 29, 30, 31, 32, 33, 34, 35, 36, 37, 38, 39, 40, 41, 42, 43, 44, 45, 46, 47, 48, 49, 50, 51, 52, 53, 54, 55, 56, 57, 58, 59, 60, 61, 145, 146, 147, 148, 149, 150, 151, 152, 153, 154, 155, 156, 157, 158, 159, 160, 161, 162, 179, 180, 163, 164, 165, 166, 167, 168, 169, 170, 171, 172, 173, 174, 175, 176, 177, 178] (by decide +kernel) (by decide +kernel)
set_option maxRecDepth 20000 in
theorem gX1_takeNext_X1_moveOn : GoodIn wsX1_takeNext (wsV RX1 44 RX1 yX1_moveOn wsX1_moveOn) := goodIn_app (goodIn_of _ (by decide +kernel)) ggX1_takeNext_X1_moveOn
set_option maxRecDepth 20000 in
theorem ggX1_takeNext_X2_follow : GoodIn wsX1_takeNext wsX2_follow := goodIn_r _ [65, 46, 66, 33, 34, 35, 67, 68, 69, 70, 71, 72, 73, 39, 74, 41, 75, 76, 77, 78, 79, 80, 81, 82, 83, 84, 85, 86, 87, 88, 89, 90, 91, 92, 93, 94, 95, 96, 97, 37, 38, 40, 42, 43, 44, 45, 98, 59, 60, 16, 61, 18, 99, 100, 101, 102, 103, 52, 53, 104, 105, 106, 107, 108, 109, 110, 111, 112, 113, 114, 115, 116, 117, 118, 119, 120, 121, 122, 123, 124, 125, 126, 127, 163, 164, 165, 166, 167, 168, 169, 170, 171, 172, 173, 174, 175, 176, 177, 178, 179, 180] (by decide +kernel) (by decide +kernel)
set_option maxRecDepth 20000 in
theorem gX1_takeNext_X2_follow : GoodIn wsX1_takeNext (wsV RX1 48 RX2 yX2_follow wsX2_follow) := goodIn_app (goodIn_of _ (by decide +kernel)) ggX1_takeNext_X2_follow
set_option maxRecDepth 20000 in
theorem ggX1_takeNext_X1_countHalted : GoodIn wsX1_takeNext wsX1_countHalted := goodIn_r _ [131, 132, 133, 1, 134, 135, 52, 34, 53, 136, 137, 138, 2, 139, 140, 141, 16, 142, 18, 143, 33, 35, 144, 94, 95, 96, 145, 146, 147, 148, 149, 150, 151, 152, 153, 154, 155, 156, 157, 158, 159, 160, 161, 162, 163, 164, 165, 166, 167, 168, 169, 170, 171, 172, 173, 174, 175, 176, 177, 178, 179, 180] (by decide +kernel) (by decide +kernel)
set_option maxRecDepth 20000 in
theorem gX1_takeNext_X1_countHalted : GoodIn wsX1_takeNext (wsV RX1 55 RX1 yX1_countHalted wsX1_countHalted) := goodIn_app (goodIn_of _ (by decide +kernel)) ggX1_takeNext_X1_countHalted
theorem dX1_takeNext_0 : decode cX1_takeNext 0 = .ok (.aload_n 0, 1) := by decide +kernel
theorem dX1_takeNext_1 : decode cX1_takeNext 1 = .ok (.invokevirtual 44, 3) := by decide +kernel
theorem dX1_takeNext_4 : decode cX1_takeNext 4 = .ok (.ifCond .ne 5, 3) := by decide +kernel
theorem dX1_takeNext_7 : decode cX1_takeNext 7 = .ok (.iconst 0, 1) := by decide +kernel
theorem dX1_takeNext_8 : decode cX1_takeNext 8 = .ok (.ireturn, 1) := by decide +kernel
theorem dX1_takeNext_9 : decode cX1_takeNext 9 = .ok (.aload_n 0, 1) := by decide +kernel
theorem dX1_takeNext_10 : decode cX1_takeNext 10 = .ok (.getfield 30, 3) := by decide +kernel
theorem dX1_takeNext_13 : decode cX1_takeNext 13 = .ok (.aload_n 0, 1) := by decide +kernel
theorem dX1_takeNext_14 : decode cX1_takeNext 14 = .ok (.getfield 20, 3) := by decide +kernel
theorem dX1_takeNext_17 : decode cX1_takeNext 17 = .ok (.bipush 120, 2) := by decide +kernel
theorem dX1_takeNext_19 : decode cX1_takeNext 19 = .ok (.invokevirtual 48, 3) := by decide +kernel
theorem dX1_takeNext_22 : decode cX1_takeNext 22 = .ok (.aload_n 0, 1) := by decide +kernel
theorem dX1_takeNext_23 : decode cX1_takeNext 23 = .ok (.getfield 30, 3) := by decide +kernel
theorem dX1_takeNext_26 : decode cX1_takeNext 26 = .ok (.getfield 52, 3) := by decide +kernel
theorem dX1_takeNext_29 : decode cX1_takeNext 29 = .ok (.tableswitch 60 1 3 #[27, 34, 47], 27) := by decide +kernel
theorem dX1_takeNext_56 : decode cX1_takeNext 56 = .ok (.aload_n 0, 1) := by decide +kernel
theorem dX1_takeNext_57 : decode cX1_takeNext 57 = .ok (.invokevirtual 55, 3) := by decide +kernel
theorem dX1_takeNext_60 : decode cX1_takeNext 60 = .ok (.goto 39, 3) := by decide +kernel
theorem dX1_takeNext_63 : decode cX1_takeNext 63 = .ok (.aload_n 0, 1) := by decide +kernel
theorem dX1_takeNext_64 : decode cX1_takeNext 64 = .ok (.dup, 1) := by decide +kernel
theorem dX1_takeNext_65 : decode cX1_takeNext 65 = .ok (.getfield 58, 3) := by decide +kernel
theorem dX1_takeNext_68 : decode cX1_takeNext 68 = .ok (.iconst 1, 1) := by decide +kernel
theorem dX1_takeNext_69 : decode cX1_takeNext 69 = .ok (.iadd, 1) := by decide +kernel
theorem dX1_takeNext_70 : decode cX1_takeNext 70 = .ok (.putfield 58, 3) := by decide +kernel
theorem dX1_takeNext_73 : decode cX1_takeNext 73 = .ok (.goto 26, 3) := by decide +kernel
theorem dX1_takeNext_76 : decode cX1_takeNext 76 = .ok (.aload_n 0, 1) := by decide +kernel
theorem dX1_takeNext_77 : decode cX1_takeNext 77 = .ok (.dup, 1) := by decide +kernel
theorem dX1_takeNext_78 : decode cX1_takeNext 78 = .ok (.getfield 61, 3) := by decide +kernel
theorem dX1_takeNext_81 : decode cX1_takeNext 81 = .ok (.iconst 1, 1) := by decide +kernel
theorem dX1_takeNext_82 : decode cX1_takeNext 82 = .ok (.iadd, 1) := by decide +kernel
theorem dX1_takeNext_83 : decode cX1_takeNext 83 = .ok (.putfield 61, 3) := by decide +kernel
theorem dX1_takeNext_86 : decode cX1_takeNext 86 = .ok (.goto 13, 3) := by decide +kernel
theorem dX1_takeNext_89 : decode cX1_takeNext 89 = .ok (.aload_n 0, 1) := by decide +kernel
theorem dX1_takeNext_90 : decode cX1_takeNext 90 = .ok (.dup, 1) := by decide +kernel
theorem dX1_takeNext_91 : decode cX1_takeNext 91 = .ok (.getfield 64, 3) := by decide +kernel
theorem dX1_takeNext_94 : decode cX1_takeNext 94 = .ok (.iconst 1, 1) := by decide +kernel
theorem dX1_takeNext_95 : decode cX1_takeNext 95 = .ok (.iadd, 1) := by decide +kernel
theorem dX1_takeNext_96 : decode cX1_takeNext 96 = .ok (.putfield 64, 3) := by decide +kernel
theorem dX1_takeNext_99 : decode cX1_takeNext 99 = .ok (.iconst 1, 1) := by decide +kernel
theorem dX1_takeNext_100 : decode cX1_takeNext 100 = .ok (.ireturn, 1) := by decide +kernel
set_option maxRecDepth 20000 in
theorem ggX1_countHalted_X0_copyFrom : GoodIn wsX1_countHalted wsX0_copyFrom := goodIn_r _ [17, 18, 19, 20, 7, 21, 22, 23, 24, 25, 60, 61] (by decide +kernel) (by decide +kernel)
set_option maxRecDepth 20000 in
theorem gX1_countHalted_X0_copyFrom : GoodIn wsX1_countHalted (wsV RX1 94 RX0 yX0_copyFrom wsX0_copyFrom) := goodIn_app (goodIn_of _ (by decide +kernel)) ggX1_countHalted_X0_copyFrom
theorem dX1_countHalted_0 : decode cX1_countHalted 0 = .ok (.aload_n 0, 1) := by decide +kernel
theorem dX1_countHalted_1 : decode cX1_countHalted 1 = .ok (.dup, 1) := by decide +kernel
theorem dX1_countHalted_2 : decode cX1_countHalted 2 = .ok (.getfield 67, 3) := by decide +kernel
theorem dX1_countHalted_5 : decode cX1_countHalted 5 = .ok (.iconst 1, 1) := by decide +kernel
theorem dX1_countHalted_6 : decode cX1_countHalted 6 = .ok (.iadd, 1) := by decide +kernel
theorem dX1_countHalted_7 : decode cX1_countHalted 7 = .ok (.putfield 67, 3) := by decide +kernel
theorem dX1_countHalted_10 : decode cX1_countHalted 10 = .ok (.aload_n 0, 1) := by decide +kernel
theorem dX1_countHalted_11 : decode cX1_countHalted 11 = .ok (.dup, 1) := by decide +kernel
theorem dX1_countHalted_12 : decode cX1_countHalted 12 = .ok (.getfield 70, 3) := by decide +kernel
theorem dX1_countHalted_15 : decode cX1_countHalted 15 = .ok (.aload_n 0, 1) := by decide +kernel
theorem dX1_countHalted_16 : decode cX1_countHalted 16 = .ok (.getfield 30, 3) := by decide +kernel
theorem dX1_countHalted_19 : decode cX1_countHalted 19 = .ok (.getfield 73, 3) := by decide +kernel
theorem dX1_countHalted_22 : decode cX1_countHalted 22 = .ok (.iadd, 1) := by decide +kernel
theorem dX1_countHalted_23 : decode cX1_countHalted 23 = .ok (.putfield 70, 3) := by decide +kernel
theorem dX1_countHalted_26 : decode cX1_countHalted 26 = .ok (.aload_n 0, 1) := by decide +kernel
theorem dX1_countHalted_27 : decode cX1_countHalted 27 = .ok (.aload_n 0, 1) := by decide +kernel
theorem dX1_countHalted_28 : decode cX1_countHalted 28 = .ok (.getfield 76, 3) := by decide +kernel
theorem dX1_countHalted_31 : decode cX1_countHalted 31 = .ok (.aload_n 0, 1) := by decide +kernel
theorem dX1_countHalted_32 : decode cX1_countHalted 32 = .ok (.getfield 30, 3) := by decide +kernel
theorem dX1_countHalted_35 : decode cX1_countHalted 35 = .ok (.getfield 79, 3) := by decide +kernel
theorem dX1_countHalted_38 : decode cX1_countHalted 38 = .ok (.invokestatic 82, 3) := by decide +kernel
theorem dX1_countHalted_41 : decode cX1_countHalted 41 = .ok (.putfield 76, 3) := by decide +kernel
theorem dX1_countHalted_44 : decode cX1_countHalted 44 = .ok (.aload_n 0, 1) := by decide +kernel
theorem dX1_countHalted_45 : decode cX1_countHalted 45 = .ok (.getfield 30, 3) := by decide +kernel
theorem dX1_countHalted_48 : decode cX1_countHalted 48 = .ok (.getfield 73, 3) := by decide +kernel
theorem dX1_countHalted_51 : decode cX1_countHalted 51 = .ok (.aload_n 0, 1) := by decide +kernel
theorem dX1_countHalted_52 : decode cX1_countHalted 52 = .ok (.getfield 88, 3) := by decide +kernel
theorem dX1_countHalted_55 : decode cX1_countHalted 55 = .ok (.if_icmp .le 36, 3) := by decide +kernel
theorem dX1_countHalted_58 : decode cX1_countHalted 58 = .ok (.aload_n 0, 1) := by decide +kernel
theorem dX1_countHalted_59 : decode cX1_countHalted 59 = .ok (.aload_n 0, 1) := by decide +kernel
theorem dX1_countHalted_60 : decode cX1_countHalted 60 = .ok (.getfield 30, 3) := by decide +kernel
theorem dX1_countHalted_63 : decode cX1_countHalted 63 = .ok (.getfield 73, 3) := by decide +kernel
theorem dX1_countHalted_66 : decode cX1_countHalted 66 = .ok (.putfield 88, 3) := by decide +kernel
theorem dX1_countHalted_69 : decode cX1_countHalted 69 = .ok (.aload_n 0, 1) := by decide +kernel
theorem dX1_countHalted_70 : decode cX1_countHalted 70 = .ok (.aload_n 0, 1) := by decide +kernel
theorem dX1_countHalted_71 : decode cX1_countHalted 71 = .ok (.getfield 30, 3) := by decide +kernel
theorem dX1_countHalted_74 : decode cX1_countHalted 74 = .ok (.getfield 79, 3) := by decide +kernel
theorem dX1_countHalted_77 : decode cX1_countHalted 77 = .ok (.putfield 91, 3) := by decide +kernel
theorem dX1_countHalted_80 : decode cX1_countHalted 80 = .ok (.aload_n 0, 1) := by decide +kernel
theorem dX1_countHalted_81 : decode cX1_countHalted 81 = .ok (.getfield 24, 3) := by decide +kernel
theorem dX1_countHalted_84 : decode cX1_countHalted 84 = .ok (.aload_n 0, 1) := by decide +kernel
theorem dX1_countHalted_85 : decode cX1_countHalted 85 = .ok (.getfield 20, 3) := by decide +kernel
theorem dX1_countHalted_88 : decode cX1_countHalted 88 = .ok (.invokevirtual 94, 3) := by decide +kernel
theorem dX1_countHalted_91 : decode cX1_countHalted 91 = .ok (.return_, 1) := by decide +kernel
set_option maxRecDepth 20000 in
theorem ggX1_moveOn_X0_put : GoodIn wsX1_moveOn wsX0_put := goodIn_r _ [8, 9, 73, 74] (by decide +kernel) (by decide +kernel)
set_option maxRecDepth 20000 in
theorem gX1_moveOn_X0_put : GoodIn wsX1_moveOn (wsV RX1 105 RX0 yX0_put wsX0_put) := goodIn_app (goodIn_of _ (by decide +kernel)) ggX1_moveOn_X0_put
set_option maxRecDepth 20000 in
theorem ggX1_moveOn_X1_hasChildren : GoodIn wsX1_moveOn wsX1_hasChildren := goodIn_r _ [14, 15, 16, 17, 18, 55, 56, 57, 58, 59, 60, 61, 62, 63, 64, 65, 66, 67, 68, 69, 70, 71, 72, 75, 76, 77, 78, 79, 80, 81, 82, 83, 84, 85, 86, 87, 88, 89, 90] (by decide +kernel) (by decide +kernel)
set_option maxRecDepth 20000 in
theorem gX1_moveOn_X1_hasChildren : GoodIn wsX1_moveOn (wsV RX1 109 RX1 yX1_hasChildren wsX1_hasChildren) := goodIn_app (goodIn_of _ (by decide +kernel)) ggX1_moveOn_X1_hasChildren
set_option maxRecDepth 20000 in
theorem ggX1_moveOn_X1_toFirstChild : GoodIn wsX1_moveOn wsX1_toFirstChild := goodIn_r _ [22, 16, 18, 15, 23, 24, 3, 17, 25, 26, 27, 28, 29, 30, 31, 32, 33, 34, 35, 36, 37, 38, 39, 40, 41, 42, 7, 43, 9, 44, 45, 46, 4, 5, 6, 8, 55, 56, 57, 58, 59, 60, 61, 62, 63, 64, 65, 66, 67, 68, 69, 70, 71, 72, 75, 76, 77, 78, 79, 80, 81, 82, 83, 84, 85, 86, 87, 88, 89, 90, 73, 74] (by decide +kernel) (by decide +kernel)
set_option maxRecDepth 20000 in
theorem gX1_moveOn_X1_toFirstChild : GoodIn wsX1_moveOn (wsV RX1 112 RX1 yX1_toFirstChild wsX1_toFirstChild) := goodIn_app (goodIn_of _ (by decide +kernel)) ggX1_moveOn_X1_toFirstChild
set_option maxRecDepth 20000 in
theorem ggX1_moveOn_X1_toNextBranch : GoodIn wsX1_moveOn wsX1_toNextBranch := goodIn_r _ [50, 16, 18, 25, 26, 27, 28, 23, 24, 3, 51, 52, 53, 7, 54, 9, 4, 5, 6, 8, 55, 56, 57, 58, 59, 60, 61, 62, 63, 64, 65, 66, 67, 68, 69, 70, 71, 72, 73, 74] (by decide +kernel) (by decide +kernel)
set_option maxRecDepth 20000 in
theorem gX1_moveOn_X1_toNextBranch : GoodIn wsX1_moveOn (wsV RX1 115 RX1 yX1_toNextBranch wsX1_toNextBranch) := goodIn_app (goodIn_of _ (by decide +kernel)) ggX1_moveOn_X1_toNextBranch
theorem dX1_moveOn_0 : decode cX1_moveOn 0 = .ok (.aload_n 0, 1) := by decide +kernel
theorem dX1_moveOn_1 : decode cX1_moveOn 1 = .ok (.getfield 98, 3) := by decide +kernel
theorem dX1_moveOn_4 : decode cX1_moveOn 4 = .ok (.ifCond .eq 5, 3) := by decide +kernel
theorem dX1_moveOn_7 : decode cX1_moveOn 7 = .ok (.iconst 0, 1) := by decide +kernel
theorem dX1_moveOn_8 : decode cX1_moveOn 8 = .ok (.ireturn, 1) := by decide +kernel
theorem dX1_moveOn_9 : decode cX1_moveOn 9 = .ok (.aload_n 0, 1) := by decide +kernel
theorem dX1_moveOn_10 : decode cX1_moveOn 10 = .ok (.getfield 102, 3) := by decide +kernel
theorem dX1_moveOn_13 : decode cX1_moveOn 13 = .ok (.ifCond .ne 21, 3) := by decide +kernel
theorem dX1_moveOn_16 : decode cX1_moveOn 16 = .ok (.aload_n 0, 1) := by decide +kernel
theorem dX1_moveOn_17 : decode cX1_moveOn 17 = .ok (.iconst 1, 1) := by decide +kernel
theorem dX1_moveOn_18 : decode cX1_moveOn 18 = .ok (.putfield 102, 3) := by decide +kernel
theorem dX1_moveOn_21 : decode cX1_moveOn 21 = .ok (.aload_n 0, 1) := by decide +kernel
theorem dX1_moveOn_22 : decode cX1_moveOn 22 = .ok (.getfield 20, 3) := by decide +kernel
theorem dX1_moveOn_25 : decode cX1_moveOn 25 = .ok (.iconst 0, 1) := by decide +kernel
theorem dX1_moveOn_26 : decode cX1_moveOn 26 = .ok (.iconst 0, 1) := by decide +kernel
theorem dX1_moveOn_27 : decode cX1_moveOn 27 = .ok (.bipush 7, 2) := by decide +kernel
theorem dX1_moveOn_29 : decode cX1_moveOn 29 = .ok (.invokevirtual 105, 3) := by decide +kernel
theorem dX1_moveOn_32 : decode cX1_moveOn 32 = .ok (.iconst 1, 1) := by decide +kernel
theorem dX1_moveOn_33 : decode cX1_moveOn 33 = .ok (.ireturn, 1) := by decide +kernel
theorem dX1_moveOn_34 : decode cX1_moveOn 34 = .ok (.aload_n 0, 1) := by decide +kernel
theorem dX1_moveOn_35 : decode cX1_moveOn 35 = .ok (.invokevirtual 109, 3) := by decide +kernel
theorem dX1_moveOn_38 : decode cX1_moveOn 38 = .ok (.ifCond .eq 9, 3) := by decide +kernel
theorem dX1_moveOn_41 : decode cX1_moveOn 41 = .ok (.aload_n 0, 1) := by decide +kernel
theorem dX1_moveOn_42 : decode cX1_moveOn 42 = .ok (.invokevirtual 112, 3) := by decide +kernel
theorem dX1_moveOn_45 : decode cX1_moveOn 45 = .ok (.iconst 1, 1) := by decide +kernel
theorem dX1_moveOn_46 : decode cX1_moveOn 46 = .ok (.ireturn, 1) := by decide +kernel
theorem dX1_moveOn_47 : decode cX1_moveOn 47 = .ok (.aload_n 0, 1) := by decide +kernel
theorem dX1_moveOn_48 : decode cX1_moveOn 48 = .ok (.aload_n 0, 1) := by decide +kernel
theorem dX1_moveOn_49 : decode cX1_moveOn 49 = .ok (.invokevirtual 115, 3) := by decide +kernel
theorem dX1_moveOn_52 : decode cX1_moveOn 52 = .ok (.ifCond .ne 7, 3) := by decide +kernel
theorem dX1_moveOn_55 : decode cX1_moveOn 55 = .ok (.iconst 1, 1) := by decide +kernel
theorem dX1_moveOn_56 : decode cX1_moveOn 56 = .ok (.goto 4, 3) := by decide +kernel
theorem dX1_moveOn_59 : decode cX1_moveOn 59 = .ok (.iconst 0, 1) := by decide +kernel
theorem dX1_moveOn_60 : decode cX1_moveOn 60 = .ok (.putfield 98, 3) := by decide +kernel
theorem dX1_moveOn_63 : decode cX1_moveOn 63 = .ok (.aload_n 0, 1) := by decide +kernel
theorem dX1_moveOn_64 : decode cX1_moveOn 64 = .ok (.getfield 98, 3) := by decide +kernel
theorem dX1_moveOn_67 : decode cX1_moveOn 67 = .ok (.ifCond .ne 7, 3) := by decide +kernel
theorem dX1_moveOn_70 : decode cX1_moveOn 70 = .ok (.iconst 1, 1) := by decide +kernel
theorem dX1_moveOn_71 : decode cX1_moveOn 71 = .ok (.goto 4, 3) := by decide +kernel
theorem dX1_moveOn_74 : decode cX1_moveOn 74 = .ok (.iconst 0, 1) := by decide +kernel
theorem dX1_moveOn_75 : decode cX1_moveOn 75 = .ok (.ireturn, 1) := by decide +kernel
theorem dX1_hasChildren_0 : decode cX1_hasChildren 0 = .ok (.aload_n 0, 1) := by decide +kernel
theorem dX1_hasChildren_1 : decode cX1_hasChildren 1 = .ok (.getfield 30, 3) := by decide +kernel
theorem dX1_hasChildren_4 : decode cX1_hasChildren 4 = .ok (.getfield 52, 3) := by decide +kernel
theorem dX1_hasChildren_7 : decode cX1_hasChildren 7 = .ok (.iconst 1, 1) := by decide +kernel
theorem dX1_hasChildren_8 : decode cX1_hasChildren 8 = .ok (.if_icmp .ne 36, 3) := by decide +kernel
theorem dX1_hasChildren_11 : decode cX1_hasChildren 11 = .ok (.aload_n 0, 1) := by decide +kernel
theorem dX1_hasChildren_12 : decode cX1_hasChildren 12 = .ok (.getfield 118, 3) := by decide +kernel
theorem dX1_hasChildren_15 : decode cX1_hasChildren 15 = .ok (.iconst 1, 1) := by decide +kernel
theorem dX1_hasChildren_16 : decode cX1_hasChildren 16 = .ok (.iadd, 1) := by decide +kernel
theorem dX1_hasChildren_17 : decode cX1_hasChildren 17 = .ok (.iconst 2, 1) := by decide +kernel
theorem dX1_hasChildren_18 : decode cX1_hasChildren 18 = .ok (.aload_n 0, 1) := by decide +kernel
theorem dX1_hasChildren_19 : decode cX1_hasChildren 19 = .ok (.getfield 9, 3) := by decide +kernel
theorem dX1_hasChildren_22 : decode cX1_hasChildren 22 = .ok (.imul, 1) := by decide +kernel
theorem dX1_hasChildren_23 : decode cX1_hasChildren 23 = .ok (.iconst 1, 1) := by decide +kernel
theorem dX1_hasChildren_24 : decode cX1_hasChildren 24 = .ok (.isub, 1) := by decide +kernel
theorem dX1_hasChildren_25 : decode cX1_hasChildren 25 = .ok (.if_icmp .ge 19, 3) := by decide +kernel
theorem dX1_hasChildren_28 : decode cX1_hasChildren 28 = .ok (.aload_n 0, 1) := by decide +kernel
theorem dX1_hasChildren_29 : decode cX1_hasChildren 29 = .ok (.getfield 118, 3) := by decide +kernel
theorem dX1_hasChildren_32 : decode cX1_hasChildren 32 = .ok (.aload_n 0, 1) := by decide +kernel
theorem dX1_hasChildren_33 : decode cX1_hasChildren 33 = .ok (.getfield 41, 3) := by decide +kernel
theorem dX1_hasChildren_36 : decode cX1_hasChildren 36 = .ok (.arraylength, 1) := by decide +kernel
theorem dX1_hasChildren_37 : decode cX1_hasChildren 37 = .ok (.if_icmp .ge 7, 3) := by decide +kernel
theorem dX1_hasChildren_40 : decode cX1_hasChildren 40 = .ok (.iconst 1, 1) := by decide +kernel
theorem dX1_hasChildren_41 : decode cX1_hasChildren 41 = .ok (.goto 4, 3) := by decide +kernel
theorem dX1_hasChildren_44 : decode cX1_hasChildren 44 = .ok (.iconst 0, 1) := by decide +kernel
theorem dX1_hasChildren_45 : decode cX1_hasChildren 45 = .ok (.ireturn, 1) := by decide +kernel
set_option maxRecDepth 20000 in
theorem ggX1_toFirstChild_X2_symbolNow : GoodIn wsX1_toFirstChild wsX2_symbolNow := goodIn_r _ [16, 17, 18, 19, 20, 15, 21, 22, 54, 55, 56, 57, 58, 59, 60, 61, 62, 63, 64, 65, 66, 67, 68, 69] (by decide +kernel) (by decide +kernel)
set_option maxRecDepth 20000 in
theorem gX1_toFirstChild_X2_symbolNow : GoodIn wsX1_toFirstChild (wsV RX1 124 RX2 yX2_symbolNow wsX2_symbolNow) := goodIn_app (goodIn_of _ (by decide +kernel)) ggX1_toFirstChild_X2_symbolNow
set_option maxRecDepth 20000 in
theorem ggX1_toFirstChild_X0_greatestNext : GoodIn wsX1_toFirstChild wsX0_greatestNext := goodIn_r _ [27, 28, 29, 30, 10, 31, 70, 71] (by decide +kernel) (by decide +kernel)
set_option maxRecDepth 20000 in
theorem gX1_toFirstChild_X0_greatestNext : GoodIn wsX1_toFirstChild (wsV RX1 131 RX0 yX0_greatestNext wsX0_greatestNext) := goodIn_app (goodIn_of _ (by decide +kernel)) ggX1_toFirstChild_X0_greatestNext
set_option maxRecDepth 20000 in
theorem ggX1_toFirstChild_X0_put : GoodIn wsX1_toFirstChild wsX0_put := goodIn_r _ [35, 28, 70, 71] (by decide +kernel) (by decide +kernel)
set_option maxRecDepth 20000 in
theorem gX1_toFirstChild_X0_put : GoodIn wsX1_toFirstChild (wsV RX1 105 RX0 yX0_put wsX0_put) := goodIn_app (goodIn_of _ (by decide +kernel)) ggX1_toFirstChild_X0_put
theorem dX1_toFirstChild_0 : decode cX1_toFirstChild 0 = .ok (.aload_n 0, 1) := by decide +kernel
theorem dX1_toFirstChild_1 : decode cX1_toFirstChild 1 = .ok (.getfield 118, 3) := by decide +kernel
theorem dX1_toFirstChild_4 : decode cX1_toFirstChild 4 = .ok (.ifCond .lt 15, 3) := by decide +kernel
theorem dX1_toFirstChild_7 : decode cX1_toFirstChild 7 = .ok (.aload_n 0, 1) := by decide +kernel
theorem dX1_toFirstChild_8 : decode cX1_toFirstChild 8 = .ok (.getfield 118, 3) := by decide +kernel
theorem dX1_toFirstChild_11 : decode cX1_toFirstChild 11 = .ok (.aload_n 0, 1) := by decide +kernel
theorem dX1_toFirstChild_12 : decode cX1_toFirstChild 12 = .ok (.getfield 41, 3) := by decide +kernel
theorem dX1_toFirstChild_15 : decode cX1_toFirstChild 15 = .ok (.arraylength, 1) := by decide +kernel
theorem dX1_toFirstChild_16 : decode cX1_toFirstChild 16 = .ok (.if_icmp .lt 4, 3) := by decide +kernel
theorem dX1_toFirstChild_19 : decode cX1_toFirstChild 19 = .ok (.return_, 1) := by decide +kernel
theorem dX1_toFirstChild_20 : decode cX1_toFirstChild 20 = .ok (.aload_n 0, 1) := by decide +kernel
theorem dX1_toFirstChild_21 : decode cX1_toFirstChild 21 = .ok (.getfield 30, 3) := by decide +kernel
theorem dX1_toFirstChild_24 : decode cX1_toFirstChild 24 = .ok (.aload_n 0, 1) := by decide +kernel
theorem dX1_toFirstChild_25 : decode cX1_toFirstChild 25 = .ok (.getfield 30, 3) := by decide +kernel
theorem dX1_toFirstChild_28 : decode cX1_toFirstChild 28 = .ok (.getfield 121, 3) := by decide +kernel
theorem dX1_toFirstChild_31 : decode cX1_toFirstChild 31 = .ok (.invokevirtual 124, 3) := by decide +kernel
theorem dX1_toFirstChild_34 : decode cX1_toFirstChild 34 = .ok (.istore_n 1, 1) := by decide +kernel
theorem dX1_toFirstChild_35 : decode cX1_toFirstChild 35 = .ok (.aload_n 0, 1) := by decide +kernel
theorem dX1_toFirstChild_36 : decode cX1_toFirstChild 36 = .ok (.getfield 34, 3) := by decide +kernel
theorem dX1_toFirstChild_39 : decode cX1_toFirstChild 39 = .ok (.aload_n 0, 1) := by decide +kernel
theorem dX1_toFirstChild_40 : decode cX1_toFirstChild 40 = .ok (.getfield 118, 3) := by decide +kernel
theorem dX1_toFirstChild_43 : decode cX1_toFirstChild 43 = .ok (.aload_n 0, 1) := by decide +kernel
theorem dX1_toFirstChild_44 : decode cX1_toFirstChild 44 = .ok (.getfield 30, 3) := by decide +kernel
theorem dX1_toFirstChild_47 : decode cX1_toFirstChild 47 = .ok (.getfield 128, 3) := by decide +kernel
theorem dX1_toFirstChild_50 : decode cX1_toFirstChild 50 = .ok (.iastore, 1) := by decide +kernel
theorem dX1_toFirstChild_51 : decode cX1_toFirstChild 51 = .ok (.aload_n 0, 1) := by decide +kernel
theorem dX1_toFirstChild_52 : decode cX1_toFirstChild 52 = .ok (.getfield 38, 3) := by decide +kernel
theorem dX1_toFirstChild_55 : decode cX1_toFirstChild 55 = .ok (.aload_n 0, 1) := by decide +kernel
theorem dX1_toFirstChild_56 : decode cX1_toFirstChild 56 = .ok (.getfield 118, 3) := by decide +kernel
theorem dX1_toFirstChild_59 : decode cX1_toFirstChild 59 = .ok (.iload_n 1, 1) := by decide +kernel
theorem dX1_toFirstChild_60 : decode cX1_toFirstChild 60 = .ok (.iastore, 1) := by decide +kernel
theorem dX1_toFirstChild_61 : decode cX1_toFirstChild 61 = .ok (.aload_n 0, 1) := by decide +kernel
theorem dX1_toFirstChild_62 : decode cX1_toFirstChild 62 = .ok (.getfield 41, 3) := by decide +kernel
theorem dX1_toFirstChild_65 : decode cX1_toFirstChild 65 = .ok (.aload_n 0, 1) := by decide +kernel
theorem dX1_toFirstChild_66 : decode cX1_toFirstChild 66 = .ok (.getfield 118, 3) := by decide +kernel
theorem dX1_toFirstChild_69 : decode cX1_toFirstChild 69 = .ok (.iconst 4, 1) := by decide +kernel
theorem dX1_toFirstChild_70 : decode cX1_toFirstChild 70 = .ok (.aload_n 0, 1) := by decide +kernel
theorem dX1_toFirstChild_71 : decode cX1_toFirstChild 71 = .ok (.getfield 20, 3) := by decide +kernel
theorem dX1_toFirstChild_74 : decode cX1_toFirstChild 74 = .ok (.invokevirtual 131, 3) := by decide +kernel
theorem dX1_toFirstChild_77 : decode cX1_toFirstChild 77 = .ok (.iconst 1, 1) := by decide +kernel
theorem dX1_toFirstChild_78 : decode cX1_toFirstChild 78 = .ok (.iadd, 1) := by decide +kernel
theorem dX1_toFirstChild_79 : decode cX1_toFirstChild 79 = .ok (.aload_n 0, 1) := by decide +kernel
theorem dX1_toFirstChild_80 : decode cX1_toFirstChild 80 = .ok (.getfield 9, 3) := by decide +kernel
theorem dX1_toFirstChild_83 : decode cX1_toFirstChild 83 = .ok (.iconst 1, 1) := by decide +kernel
theorem dX1_toFirstChild_84 : decode cX1_toFirstChild 84 = .ok (.isub, 1) := by decide +kernel
theorem dX1_toFirstChild_85 : decode cX1_toFirstChild 85 = .ok (.invokestatic 135, 3) := by decide +kernel
theorem dX1_toFirstChild_88 : decode cX1_toFirstChild 88 = .ok (.imul, 1) := by decide +kernel
theorem dX1_toFirstChild_89 : decode cX1_toFirstChild 89 = .ok (.iconst 3, 1) := by decide +kernel
theorem dX1_toFirstChild_90 : decode cX1_toFirstChild 90 = .ok (.iadd, 1) := by decide +kernel
theorem dX1_toFirstChild_91 : decode cX1_toFirstChild 91 = .ok (.iastore, 1) := by decide +kernel
theorem dX1_toFirstChild_92 : decode cX1_toFirstChild 92 = .ok (.aload_n 0, 1) := by decide +kernel
theorem dX1_toFirstChild_93 : decode cX1_toFirstChild 93 = .ok (.dup, 1) := by decide +kernel
theorem dX1_toFirstChild_94 : decode cX1_toFirstChild 94 = .ok (.getfield 118, 3) := by decide +kernel
theorem dX1_toFirstChild_97 : decode cX1_toFirstChild 97 = .ok (.iconst 1, 1) := by decide +kernel
theorem dX1_toFirstChild_98 : decode cX1_toFirstChild 98 = .ok (.iadd, 1) := by decide +kernel
theorem dX1_toFirstChild_99 : decode cX1_toFirstChild 99 = .ok (.putfield 118, 3) := by decide +kernel
theorem dX1_toFirstChild_102 : decode cX1_toFirstChild 102 = .ok (.aload_n 0, 1) := by decide +kernel
theorem dX1_toFirstChild_103 : decode cX1_toFirstChild 103 = .ok (.getfield 20, 3) := by decide +kernel
theorem dX1_toFirstChild_106 : decode cX1_toFirstChild 106 = .ok (.aload_n 0, 1) := by decide +kernel
theorem dX1_toFirstChild_107 : decode cX1_toFirstChild 107 = .ok (.getfield 30, 3) := by decide +kernel
theorem dX1_toFirstChild_110 : decode cX1_toFirstChild 110 = .ok (.getfield 128, 3) := by decide +kernel
theorem dX1_toFirstChild_113 : decode cX1_toFirstChild 113 = .ok (.iload_n 1, 1) := by decide +kernel
theorem dX1_toFirstChild_114 : decode cX1_toFirstChild 114 = .ok (.iconst 0, 1) := by decide +kernel
theorem dX1_toFirstChild_115 : decode cX1_toFirstChild 115 = .ok (.invokevirtual 105, 3) := by decide +kernel
theorem dX1_toFirstChild_118 : decode cX1_toFirstChild 118 = .ok (.return_, 1) := by decide +kernel
set_option maxRecDepth 20000 in
theorem ggX1_toNextBranch_X0_codeAt : GoodIn wsX1_toNextBranch wsX0_codeAt := goodIn_r _ [14, 15, 38, 39] (by decide +kernel) (by decide +kernel)
set_option maxRecDepth 20000 in
theorem gX1_toNextBranch_X0_codeAt : GoodIn wsX1_toNextBranch (wsV RX1 138 RX0 yX0_codeAt wsX0_codeAt) := goodIn_app (goodIn_of _ (by decide +kernel)) ggX1_toNextBranch_X0_codeAt
set_option maxRecDepth 20000 in
theorem ggX1_toNextBranch_X0_put : GoodIn wsX1_toNextBranch wsX0_put := goodIn_r _ [19, 15, 38, 39] (by decide +kernel) (by decide +kernel)
set_option maxRecDepth 20000 in
theorem gX1_toNextBranch_X0_put : GoodIn wsX1_toNextBranch (wsV RX1 105 RX0 yX0_put wsX0_put) := goodIn_app (goodIn_of _ (by decide +kernel)) ggX1_toNextBranch_X0_put
theorem dX1_toNextBranch_0 : decode cX1_toNextBranch 0 = .ok (.aload_n 0, 1) := by decide +kernel
theorem dX1_toNextBranch_1 : decode cX1_toNextBranch 1 = .ok (.getfield 118, 3) := by decide +kernel
theorem dX1_toNextBranch_4 : decode cX1_toNextBranch 4 = .ok (.aload_n 0, 1) := by decide +kernel
theorem dX1_toNextBranch_5 : decode cX1_toNextBranch 5 = .ok (.getfield 41, 3) := by decide +kernel
theorem dX1_toNextBranch_8 : decode cX1_toNextBranch 8 = .ok (.arraylength, 1) := by decide +kernel
theorem dX1_toNextBranch_9 : decode cX1_toNextBranch 9 = .ok (.invokestatic 135, 3) := by decide +kernel
theorem dX1_toNextBranch_12 : decode cX1_toNextBranch 12 = .ok (.iconst 1, 1) := by decide +kernel
theorem dX1_toNextBranch_13 : decode cX1_toNextBranch 13 = .ok (.isub, 1) := by decide +kernel
theorem dX1_toNextBranch_14 : decode cX1_toNextBranch 14 = .ok (.istore_n 1, 1) := by decide +kernel
theorem dX1_toNextBranch_15 : decode cX1_toNextBranch 15 = .ok (.iload_n 1, 1) := by decide +kernel
theorem dX1_toNextBranch_16 : decode cX1_toNextBranch 16 = .ok (.ifCond .lt 75, 3) := by decide +kernel
theorem dX1_toNextBranch_19 : decode cX1_toNextBranch 19 = .ok (.aload_n 0, 1) := by decide +kernel
theorem dX1_toNextBranch_20 : decode cX1_toNextBranch 20 = .ok (.getfield 34, 3) := by decide +kernel
theorem dX1_toNextBranch_23 : decode cX1_toNextBranch 23 = .ok (.iload_n 1, 1) := by decide +kernel
theorem dX1_toNextBranch_24 : decode cX1_toNextBranch 24 = .ok (.iaload, 1) := by decide +kernel
theorem dX1_toNextBranch_25 : decode cX1_toNextBranch 25 = .ok (.istore_n 2, 1) := by decide +kernel
theorem dX1_toNextBranch_26 : decode cX1_toNextBranch 26 = .ok (.aload_n 0, 1) := by decide +kernel
theorem dX1_toNextBranch_27 : decode cX1_toNextBranch 27 = .ok (.getfield 38, 3) := by decide +kernel
theorem dX1_toNextBranch_30 : decode cX1_toNextBranch 30 = .ok (.iload_n 1, 1) := by decide +kernel
theorem dX1_toNextBranch_31 : decode cX1_toNextBranch 31 = .ok (.iaload, 1) := by decide +kernel
theorem dX1_toNextBranch_32 : decode cX1_toNextBranch 32 = .ok (.istore_n 3, 1) := by decide +kernel
theorem dX1_toNextBranch_33 : decode cX1_toNextBranch 33 = .ok (.aload_n 0, 1) := by decide +kernel
theorem dX1_toNextBranch_34 : decode cX1_toNextBranch 34 = .ok (.getfield 20, 3) := by decide +kernel
theorem dX1_toNextBranch_37 : decode cX1_toNextBranch 37 = .ok (.iload_n 2, 1) := by decide +kernel
theorem dX1_toNextBranch_38 : decode cX1_toNextBranch 38 = .ok (.iload_n 3, 1) := by decide +kernel
theorem dX1_toNextBranch_39 : decode cX1_toNextBranch 39 = .ok (.invokevirtual 138, 3) := by decide +kernel
theorem dX1_toNextBranch_42 : decode cX1_toNextBranch 42 = .ok (.istore 4, 2) := by decide +kernel
theorem dX1_toNextBranch_44 : decode cX1_toNextBranch 44 = .ok (.iload 4, 2) := by decide +kernel
theorem dX1_toNextBranch_46 : decode cX1_toNextBranch 46 = .ok (.aload_n 0, 1) := by decide +kernel
theorem dX1_toNextBranch_47 : decode cX1_toNextBranch 47 = .ok (.getfield 41, 3) := by decide +kernel
theorem dX1_toNextBranch_50 : decode cX1_toNextBranch 50 = .ok (.iload_n 1, 1) := by decide +kernel
theorem dX1_toNextBranch_51 : decode cX1_toNextBranch 51 = .ok (.iaload, 1) := by decide +kernel
theorem dX1_toNextBranch_52 : decode cX1_toNextBranch 52 = .ok (.if_icmp .ge 18, 3) := by decide +kernel
theorem dX1_toNextBranch_55 : decode cX1_toNextBranch 55 = .ok (.aload_n 0, 1) := by decide +kernel
theorem dX1_toNextBranch_56 : decode cX1_toNextBranch 56 = .ok (.getfield 20, 3) := by decide +kernel
theorem dX1_toNextBranch_59 : decode cX1_toNextBranch 59 = .ok (.iload_n 2, 1) := by decide +kernel
theorem dX1_toNextBranch_60 : decode cX1_toNextBranch 60 = .ok (.iload_n 3, 1) := by decide +kernel
theorem dX1_toNextBranch_61 : decode cX1_toNextBranch 61 = .ok (.iload 4, 2) := by decide +kernel
theorem dX1_toNextBranch_63 : decode cX1_toNextBranch 63 = .ok (.iconst 1, 1) := by decide +kernel
theorem dX1_toNextBranch_64 : decode cX1_toNextBranch 64 = .ok (.iadd, 1) := by decide +kernel
theorem dX1_toNextBranch_65 : decode cX1_toNextBranch 65 = .ok (.invokevirtual 105, 3) := by decide +kernel
theorem dX1_toNextBranch_68 : decode cX1_toNextBranch 68 = .ok (.iconst 1, 1) := by decide +kernel
theorem dX1_toNextBranch_69 : decode cX1_toNextBranch 69 = .ok (.ireturn, 1) := by decide +kernel
theorem dX1_toNextBranch_70 : decode cX1_toNextBranch 70 = .ok (.aload_n 0, 1) := by decide +kernel
theorem dX1_toNextBranch_71 : decode cX1_toNextBranch 71 = .ok (.getfield 20, 3) := by decide +kernel
theorem dX1_toNextBranch_74 : decode cX1_toNextBranch 74 = .ok (.iload_n 2, 1) := by decide +kernel
theorem dX1_toNextBranch_75 : decode cX1_toNextBranch 75 = .ok (.iload_n 3, 1) := by decide +kernel
theorem dX1_toNextBranch_76 : decode cX1_toNextBranch 76 = .ok (.iconst (-1), 1) := by decide +kernel
theorem dX1_toNextBranch_77 : decode cX1_toNextBranch 77 = .ok (.invokevirtual 105, 3) := by decide +kernel
