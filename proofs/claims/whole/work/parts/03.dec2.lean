theorem dX2_sameBehind_13 : decode cX2_sameBehind 13 = .ok (.iconst 0, 1) := by decide +kernel
theorem dX2_sameBehind_14 : decode cX2_sameBehind 14 = .ok (.ireturn, 1) := by decide +kernel
theorem dX2_sameBehind_15 : decode cX2_sameBehind 15 = .ok (.iconst 0, 1) := by decide +kernel
theorem dX2_sameBehind_16 : decode cX2_sameBehind 16 = .ok (.istore 4, 2) := by decide +kernel
theorem dX2_sameBehind_18 : decode cX2_sameBehind 18 = .ok (.iload 4, 2) := by decide +kernel
theorem dX2_sameBehind_20 : decode cX2_sameBehind 20 = .ok (.iload_n 3, 1) := by decide +kernel
theorem dX2_sameBehind_21 : decode cX2_sameBehind 21 = .ok (.if_icmp .gt 61, 3) := by decide +kernel
theorem dX2_sameBehind_24 : decode cX2_sameBehind 24 = .ok (.aload_n 0, 1) := by decide +kernel
theorem dX2_sameBehind_25 : decode cX2_sameBehind 25 = .ok (.aload_n 0, 1) := by decide +kernel
theorem dX2_sameBehind_26 : decode cX2_sameBehind 26 = .ok (.getfield 31, 3) := by decide +kernel
theorem dX2_sameBehind_29 : decode cX2_sameBehind 29 = .ok (.iload_n 1, 1) := by decide +kernel
theorem dX2_sameBehind_30 : decode cX2_sameBehind 30 = .ok (.aload_n 0, 1) := by decide +kernel
theorem dX2_sameBehind_31 : decode cX2_sameBehind 31 = .ok (.getfield 24, 3) := by decide +kernel
theorem dX2_sameBehind_34 : decode cX2_sameBehind 34 = .ok (.imul, 1) := by decide +kernel
theorem dX2_sameBehind_35 : decode cX2_sameBehind 35 = .ok (.aload_n 0, 1) := by decide +kernel
theorem dX2_sameBehind_36 : decode cX2_sameBehind 36 = .ok (.getfield 34, 3) := by decide +kernel
theorem dX2_sameBehind_39 : decode cX2_sameBehind 39 = .ok (.iload_n 1, 1) := by decide +kernel
theorem dX2_sameBehind_40 : decode cX2_sameBehind 40 = .ok (.iaload, 1) := by decide +kernel
theorem dX2_sameBehind_41 : decode cX2_sameBehind 41 = .ok (.iload_n 2, 1) := by decide +kernel
theorem dX2_sameBehind_42 : decode cX2_sameBehind 42 = .ok (.iload 4, 2) := by decide +kernel
theorem dX2_sameBehind_44 : decode cX2_sameBehind 44 = .ok (.imul, 1) := by decide +kernel
theorem dX2_sameBehind_45 : decode cX2_sameBehind 45 = .ok (.isub, 1) := by decide +kernel
theorem dX2_sameBehind_46 : decode cX2_sameBehind 46 = .ok (.invokevirtual 75, 3) := by decide +kernel
theorem dX2_sameBehind_49 : decode cX2_sameBehind 49 = .ok (.istore 5, 2) := by decide +kernel
theorem dX2_sameBehind_51 : decode cX2_sameBehind 51 = .ok (.iload 5, 2) := by decide +kernel
theorem dX2_sameBehind_53 : decode cX2_sameBehind 53 = .ok (.aload_n 0, 1) := by decide +kernel
theorem dX2_sameBehind_54 : decode cX2_sameBehind 54 = .ok (.aload_n 0, 1) := by decide +kernel
theorem dX2_sameBehind_55 : decode cX2_sameBehind 55 = .ok (.getfield 27, 3) := by decide +kernel
theorem dX2_sameBehind_58 : decode cX2_sameBehind 58 = .ok (.iconst 0, 1) := by decide +kernel
theorem dX2_sameBehind_59 : decode cX2_sameBehind 59 = .ok (.aload_n 0, 1) := by decide +kernel
theorem dX2_sameBehind_60 : decode cX2_sameBehind 60 = .ok (.getfield 56, 3) := by decide +kernel
theorem dX2_sameBehind_63 : decode cX2_sameBehind 63 = .ok (.iload_n 2, 1) := by decide +kernel
theorem dX2_sameBehind_64 : decode cX2_sameBehind 64 = .ok (.iload 4, 2) := by decide +kernel
theorem dX2_sameBehind_66 : decode cX2_sameBehind 66 = .ok (.imul, 1) := by decide +kernel
theorem dX2_sameBehind_67 : decode cX2_sameBehind 67 = .ok (.isub, 1) := by decide +kernel
theorem dX2_sameBehind_68 : decode cX2_sameBehind 68 = .ok (.invokevirtual 75, 3) := by decide +kernel
theorem dX2_sameBehind_71 : decode cX2_sameBehind 71 = .ok (.if_icmp .eq 5, 3) := by decide +kernel
theorem dX2_sameBehind_74 : decode cX2_sameBehind 74 = .ok (.iconst 0, 1) := by decide +kernel
theorem dX2_sameBehind_75 : decode cX2_sameBehind 75 = .ok (.ireturn, 1) := by decide +kernel
theorem dX2_sameBehind_76 : decode cX2_sameBehind 76 = .ok (.iinc 4 1, 3) := by decide +kernel
theorem dX2_sameBehind_79 : decode cX2_sameBehind 79 = .ok (.goto (-61), 3) := by decide +kernel
theorem dX2_sameBehind_82 : decode cX2_sameBehind 82 = .ok (.iconst 1, 1) := by decide +kernel
theorem dX2_sameBehind_83 : decode cX2_sameBehind 83 = .ok (.ireturn, 1) := by decide +kernel
theorem dX2_symbolIn_0 : decode cX2_symbolIn 0 = .ok (.iload_n 3, 1) := by decide +kernel
theorem dX2_symbolIn_1 : decode cX2_symbolIn 1 = .ok (.aload_n 0, 1) := by decide +kernel
theorem dX2_symbolIn_2 : decode cX2_symbolIn 2 = .ok (.getfield 18, 3) := by decide +kernel
theorem dX2_symbolIn_5 : decode cX2_symbolIn 5 = .ok (.ineg, 1) := by decide +kernel
theorem dX2_symbolIn_6 : decode cX2_symbolIn 6 = .ok (.if_icmp .lt 11, 3) := by decide +kernel
theorem dX2_symbolIn_9 : decode cX2_symbolIn 9 = .ok (.iload_n 3, 1) := by decide +kernel
theorem dX2_symbolIn_10 : decode cX2_symbolIn 10 = .ok (.aload_n 0, 1) := by decide +kernel
theorem dX2_symbolIn_11 : decode cX2_symbolIn 11 = .ok (.getfield 18, 3) := by decide +kernel
theorem dX2_symbolIn_14 : decode cX2_symbolIn 14 = .ok (.if_icmp .le 5, 3) := by decide +kernel
theorem dX2_symbolIn_17 : decode cX2_symbolIn 17 = .ok (.iconst 0, 1) := by decide +kernel
theorem dX2_symbolIn_18 : decode cX2_symbolIn 18 = .ok (.ireturn, 1) := by decide +kernel
theorem dX2_symbolIn_19 : decode cX2_symbolIn 19 = .ok (.iload_n 3, 1) := by decide +kernel
theorem dX2_symbolIn_20 : decode cX2_symbolIn 20 = .ok (.aload_n 0, 1) := by decide +kernel
theorem dX2_symbolIn_21 : decode cX2_symbolIn 21 = .ok (.getfield 18, 3) := by decide +kernel
theorem dX2_symbolIn_24 : decode cX2_symbolIn 24 = .ok (.iadd, 1) := by decide +kernel
theorem dX2_symbolIn_25 : decode cX2_symbolIn 25 = .ok (.istore 4, 2) := by decide +kernel
theorem dX2_symbolIn_27 : decode cX2_symbolIn 27 = .ok (.iload_n 2, 1) := by decide +kernel
theorem dX2_symbolIn_28 : decode cX2_symbolIn 28 = .ok (.iload 4, 2) := by decide +kernel
theorem dX2_symbolIn_30 : decode cX2_symbolIn 30 = .ok (.bipush 6, 2) := by decide +kernel
theorem dX2_symbolIn_32 : decode cX2_symbolIn 32 = .ok (.ishr, 1) := by decide +kernel
theorem dX2_symbolIn_33 : decode cX2_symbolIn 33 = .ok (.iadd, 1) := by decide +kernel
theorem dX2_symbolIn_34 : decode cX2_symbolIn 34 = .ok (.istore 5, 2) := by decide +kernel
theorem dX2_symbolIn_36 : decode cX2_symbolIn 36 = .ok (.iload 5, 2) := by decide +kernel
theorem dX2_symbolIn_38 : decode cX2_symbolIn 38 = .ok (.ifCond .lt 26, 3) := by decide +kernel
theorem dX2_symbolIn_41 : decode cX2_symbolIn 41 = .ok (.iload 5, 2) := by decide +kernel
theorem dX2_symbolIn_43 : decode cX2_symbolIn 43 = .ok (.aload_n 1, 1) := by decide +kernel
theorem dX2_symbolIn_44 : decode cX2_symbolIn 44 = .ok (.arraylength, 1) := by decide +kernel
theorem dX2_symbolIn_45 : decode cX2_symbolIn 45 = .ok (.if_icmp .ge 19, 3) := by decide +kernel
theorem dX2_symbolIn_48 : decode cX2_symbolIn 48 = .ok (.aload_n 1, 1) := by decide +kernel
theorem dX2_symbolIn_49 : decode cX2_symbolIn 49 = .ok (.iload 5, 2) := by decide +kernel
theorem dX2_symbolIn_51 : decode cX2_symbolIn 51 = .ok (.laload, 1) := by decide +kernel
theorem dX2_symbolIn_52 : decode cX2_symbolIn 52 = .ok (.iload 4, 2) := by decide +kernel
theorem dX2_symbolIn_54 : decode cX2_symbolIn 54 = .ok (.bipush 63, 2) := by decide +kernel
theorem dX2_symbolIn_56 : decode cX2_symbolIn 56 = .ok (.iand, 1) := by decide +kernel
theorem dX2_symbolIn_57 : decode cX2_symbolIn 57 = .ok (.lushr, 1) := by decide +kernel
theorem dX2_symbolIn_58 : decode cX2_symbolIn 58 = .ok (.l2i, 1) := by decide +kernel
theorem dX2_symbolIn_59 : decode cX2_symbolIn 59 = .ok (.iconst 1, 1) := by decide +kernel
theorem dX2_symbolIn_60 : decode cX2_symbolIn 60 = .ok (.iand, 1) := by decide +kernel
theorem dX2_symbolIn_61 : decode cX2_symbolIn 61 = .ok (.goto 4, 3) := by decide +kernel
theorem dX2_symbolIn_64 : decode cX2_symbolIn 64 = .ok (.iconst 0, 1) := by decide +kernel
theorem dX2_symbolIn_65 : decode cX2_symbolIn 65 = .ok (.ireturn, 1) := by decide +kernel
set_option maxRecDepth 20000 in
theorem ggX3_init_X0_init : GoodIn wsX3_init wsX0_init := goodIn_r _ [26, 27, 2, 3, 28, 29, 30, 31, 32, 33, 34, 64, 65] (by decide +kernel) (by decide +kernel)
set_option maxRecDepth 20000 in
theorem gX3_init_X0_init : GoodIn wsX3_init (wsX0_init) := ggX3_init_X0_init
set_option maxRecDepth 20000 in
theorem ggX3_init_X2_init : GoodIn wsX3_init wsX2_init := goodIn_r _ [37, 38, 2, 3, 39, 5, 6, 7, 40, 9, 10, 41, 42, 43, 44, 45, 29, 46, 47, 48, 70, 71, 72, 73, 74, 75, 76, 77, 78, 79, 80, 81, 82, 83, 84, 85] (by decide +kernel) (by decide +kernel)
set_option maxRecDepth 20000 in
theorem gX3_init_X2_init : GoodIn wsX3_init (wsX2_init) := ggX3_init_X2_init
set_option maxRecDepth 20000 in
theorem ggX3_init_X1_init : GoodIn wsX3_init wsX1_init := goodIn_r _ [51, 52, 2, 3, 53, 54, 12, 13, 55, 56, 57, 16, 17, 58, 29, 59, 60, 61, 62, 25, 26, 27, 28, 30, 31, 32, 33, 34, 63, 36, 37, 38, 39, 5, 6, 7, 40, 9, 10, 41, 42, 43, 44, 45, 46, 47, 48, 86, 87, 88, 89, 90, 91, 92, 93, 94, 95, 96, 97, 98, 99, 100, 101, 102, 103, 64, 65, 70, 71, 72, 73, 74, 75, 76, 77, 78, 79, 80, 81, 82, 83, 84, 85] (by decide +kernel) (by decide +kernel)
set_option maxRecDepth 20000 in
theorem gX3_init_X1_init : GoodIn wsX3_init (wsX1_init) := ggX3_init_X1_init
theorem dX3_init_0 : decode cX3_init 0 = .ok (.aload_n 0, 1) := by decide +kernel
theorem dX3_init_1 : decode cX3_init 1 = .ok (.invokespecial 1, 3) := by decide +kernel
theorem dX3_init_4 : decode cX3_init 4 = .ok (.iconst 2, 1) := by decide +kernel
theorem dX3_init_5 : decode cX3_init 5 = .ok (.iconst 4, 1) := by decide +kernel
theorem dX3_init_6 : decode cX3_init 6 = .ok (.iload_n 1, 1) := by decide +kernel
theorem dX3_init_7 : decode cX3_init 7 = .ok (.invokestatic 9, 3) := by decide +kernel
theorem dX3_init_10 : decode cX3_init 10 = .ok (.invokestatic 15, 3) := by decide +kernel
theorem dX3_init_13 : decode cX3_init 13 = .ok (.istore_n 2, 1) := by decide +kernel
theorem dX3_init_14 : decode cX3_init 14 = .ok (.aload_n 0, 1) := by decide +kernel
theorem dX3_init_15 : decode cX3_init 15 = .ok (.new 18, 3) := by decide +kernel
theorem dX3_init_18 : decode cX3_init 18 = .ok (.dup, 1) := by decide +kernel
theorem dX3_init_19 : decode cX3_init 19 = .ok (.iload_n 2, 1) := by decide +kernel
theorem dX3_init_20 : decode cX3_init 20 = .ok (.invokespecial 20, 3) := by decide +kernel
theorem dX3_init_23 : decode cX3_init 23 = .ok (.putfield 23, 3) := by decide +kernel
theorem dX3_init_26 : decode cX3_init 26 = .ok (.aload_n 0, 1) := by decide +kernel
theorem dX3_init_27 : decode cX3_init 27 = .ok (.new 27, 3) := by decide +kernel
theorem dX3_init_30 : decode cX3_init 30 = .ok (.dup, 1) := by decide +kernel
theorem dX3_init_31 : decode cX3_init 31 = .ok (.sipush 300, 3) := by decide +kernel
theorem dX3_init_34 : decode cX3_init 34 = .ok (.invokespecial 29, 3) := by decide +kernel
theorem dX3_init_37 : decode cX3_init 37 = .ok (.putfield 30, 3) := by decide +kernel
theorem dX3_init_40 : decode cX3_init 40 = .ok (.aload_n 0, 1) := by decide +kernel
theorem dX3_init_41 : decode cX3_init 41 = .ok (.new 34, 3) := by decide +kernel
theorem dX3_init_44 : decode cX3_init 44 = .ok (.dup, 1) := by decide +kernel
theorem dX3_init_45 : decode cX3_init 45 = .ok (.iload_n 2, 1) := by decide +kernel
theorem dX3_init_46 : decode cX3_init 46 = .ok (.invokespecial 36, 3) := by decide +kernel
theorem dX3_init_49 : decode cX3_init 49 = .ok (.putfield 37, 3) := by decide +kernel
theorem dX3_init_52 : decode cX3_init 52 = .ok (.aload_n 0, 1) := by decide +kernel
theorem dX3_init_53 : decode cX3_init 53 = .ok (.iconst 0, 1) := by decide +kernel
theorem dX3_init_54 : decode cX3_init 54 = .ok (.putfield 41, 3) := by decide +kernel
theorem dX3_init_57 : decode cX3_init 57 = .ok (.return_, 1) := by decide +kernel
set_option maxRecDepth 20000 in
theorem ggX3_set_X0_hasPlace : GoodIn wsX3_set wsX0_hasPlace := goodIn_r _ [9, 10, 28, 29] (by decide +kernel) (by decide +kernel)
set_option maxRecDepth 20000 in
theorem gX3_set_X0_hasPlace : GoodIn wsX3_set (wsV RX3 45 RX0 yX0_hasPlace wsX0_hasPlace) := goodIn_app (goodIn_of _ (by decide +kernel)) ggX3_set_X0_hasPlace
set_option maxRecDepth 20000 in
theorem ggX3_set_X0_allows : GoodIn wsX3_set wsX0_allows := goodIn_r _ [14, 10, 28, 29] (by decide +kernel) (by decide +kernel)
set_option maxRecDepth 20000 in
theorem gX3_set_X0_allows : GoodIn wsX3_set (wsV RX3 56 RX0 yX0_allows wsX0_allows) := goodIn_app (goodIn_of _ (by decide +kernel)) ggX3_set_X0_allows
set_option maxRecDepth 20000 in
theorem ggX3_set_X0_codeAt : GoodIn wsX3_set wsX0_codeAt := goodIn_r _ [18, 19, 28, 29] (by decide +kernel) (by decide +kernel)
set_option maxRecDepth 20000 in
theorem gX3_set_X0_codeAt : GoodIn wsX3_set (wsV RX3 62 RX0 yX0_codeAt wsX0_codeAt) := goodIn_app (goodIn_of _ (by decide +kernel)) ggX3_set_X0_codeAt
set_option maxRecDepth 20000 in
theorem ggX3_set_X0_put : GoodIn wsX3_set wsX0_put := goodIn_r _ [23, 19, 28, 29] (by decide +kernel) (by decide +kernel)
set_option maxRecDepth 20000 in
theorem gX3_set_X0_put : GoodIn wsX3_set (wsV RX3 65 RX0 yX0_put wsX0_put) := goodIn_app (goodIn_of _ (by decide +kernel)) ggX3_set_X0_put
theorem dX3_set_0 : decode cX3_set 0 = .ok (.aload_n 0, 1) := by decide +kernel
theorem dX3_set_1 : decode cX3_set 1 = .ok (.getfield 23, 3) := by decide +kernel
theorem dX3_set_4 : decode cX3_set 4 = .ok (.iload_n 1, 1) := by decide +kernel
theorem dX3_set_5 : decode cX3_set 5 = .ok (.iload_n 2, 1) := by decide +kernel
theorem dX3_set_6 : decode cX3_set 6 = .ok (.invokevirtual 45, 3) := by decide +kernel
theorem dX3_set_9 : decode cX3_set 9 = .ok (.ifCond .ne 13, 3) := by decide +kernel
theorem dX3_set_12 : decode cX3_set 12 = .ok (.new 49, 3) := by decide +kernel
theorem dX3_set_15 : decode cX3_set 15 = .ok (.dup, 1) := by decide +kernel
theorem dX3_set_16 : decode cX3_set 16 = .ok (.ldc 51, 2) := by decide +kernel
theorem dX3_set_18 : decode cX3_set 18 = .ok (.invokespecial 53, 3) := by decide +kernel
theorem dX3_set_21 : decode cX3_set 21 = .ok (.athrow, 1) := by decide +kernel
theorem dX3_set_22 : decode cX3_set 22 = .ok (.aload_n 0, 1) := by decide +kernel
theorem dX3_set_23 : decode cX3_set 23 = .ok (.getfield 23, 3) := by decide +kernel
theorem dX3_set_26 : decode cX3_set 26 = .ok (.iload_n 3, 1) := by decide +kernel
theorem dX3_set_27 : decode cX3_set 27 = .ok (.invokevirtual 56, 3) := by decide +kernel
theorem dX3_set_30 : decode cX3_set 30 = .ok (.ifCond .ne 13, 3) := by decide +kernel
theorem dX3_set_33 : decode cX3_set 33 = .ok (.new 49, 3) := by decide +kernel
theorem dX3_set_36 : decode cX3_set 36 = .ok (.dup, 1) := by decide +kernel
theorem dX3_set_37 : decode cX3_set 37 = .ok (.ldc 60, 2) := by decide +kernel
theorem dX3_set_39 : decode cX3_set 39 = .ok (.invokespecial 53, 3) := by decide +kernel
theorem dX3_set_42 : decode cX3_set 42 = .ok (.athrow, 1) := by decide +kernel
theorem dX3_set_43 : decode cX3_set 43 = .ok (.aload_n 0, 1) := by decide +kernel
theorem dX3_set_44 : decode cX3_set 44 = .ok (.getfield 23, 3) := by decide +kernel
theorem dX3_set_47 : decode cX3_set 47 = .ok (.iload_n 1, 1) := by decide +kernel
theorem dX3_set_48 : decode cX3_set 48 = .ok (.iload_n 2, 1) := by decide +kernel
theorem dX3_set_49 : decode cX3_set 49 = .ok (.invokevirtual 62, 3) := by decide +kernel
theorem dX3_set_52 : decode cX3_set 52 = .ok (.istore 4, 2) := by decide +kernel
theorem dX3_set_54 : decode cX3_set 54 = .ok (.aload_n 0, 1) := by decide +kernel
theorem dX3_set_55 : decode cX3_set 55 = .ok (.getfield 23, 3) := by decide +kernel
theorem dX3_set_58 : decode cX3_set 58 = .ok (.iload_n 1, 1) := by decide +kernel
theorem dX3_set_59 : decode cX3_set 59 = .ok (.iload_n 2, 1) := by decide +kernel
theorem dX3_set_60 : decode cX3_set 60 = .ok (.iload_n 3, 1) := by decide +kernel
theorem dX3_set_61 : decode cX3_set 61 = .ok (.invokevirtual 65, 3) := by decide +kernel
theorem dX3_set_64 : decode cX3_set 64 = .ok (.aload_n 0, 1) := by decide +kernel
theorem dX3_set_65 : decode cX3_set 65 = .ok (.iconst 0, 1) := by decide +kernel
theorem dX3_set_66 : decode cX3_set 66 = .ok (.putfield 41, 3) := by decide +kernel
theorem dX3_set_69 : decode cX3_set 69 = .ok (.iload 4, 2) := by decide +kernel
theorem dX3_set_71 : decode cX3_set 71 = .ok (.ireturn, 1) := by decide +kernel
set_option maxRecDepth 20000 in
theorem ggX3_run_X2_follow : GoodIn wsX3_run wsX2_follow := goodIn_r _ [10, 11, 12, 13, 14, 15, 16, 17, 18, 19, 20, 21, 22, 9, 23, 24, 25, 26, 27, 28, 29, 30, 31, 32, 33, 34, 35, 36, 37, 38, 39, 40, 41, 42, 43, 44, 45, 46, 47, 48, 49, 50, 51, 52, 53, 54, 55, 56, 57, 58, 59, 60, 61, 62, 63, 64, 65, 66, 67, 68, 69, 70, 71, 72, 73, 74, 75, 76, 77, 78, 79, 80, 81, 82, 83, 84, 85, 86, 87, 88, 89, 90, 91, 96, 97, 98, 99, 100, 101, 102, 103, 104, 105, 106, 107, 108, 109, 110, 111, 112, 113] (by decide +kernel) (by decide +kernel)
set_option maxRecDepth 20000 in
theorem gX3_run_X2_follow : GoodIn wsX3_run (wsV RX3 71 RX2 yX2_follow wsX2_follow) := goodIn_app (goodIn_of _ (by decide +kernel)) ggX3_run_X2_follow
theorem dX3_run_0 : decode cX3_run 0 = .ok (.iload_n 1, 1) := by decide +kernel
theorem dX3_run_1 : decode cX3_run 1 = .ok (.iconst 1, 1) := by decide +kernel
theorem dX3_run_2 : decode cX3_run 2 = .ok (.if_icmp .lt 10, 3) := by decide +kernel
theorem dX3_run_5 : decode cX3_run 5 = .ok (.iload_n 1, 1) := by decide +kernel
theorem dX3_run_6 : decode cX3_run 6 = .ok (.sipush 300, 3) := by decide +kernel
theorem dX3_run_9 : decode cX3_run 9 = .ok (.if_icmp .le 13, 3) := by decide +kernel
theorem dX3_run_12 : decode cX3_run 12 = .ok (.new 49, 3) := by decide +kernel
theorem dX3_run_15 : decode cX3_run 15 = .ok (.dup, 1) := by decide +kernel
theorem dX3_run_16 : decode cX3_run 16 = .ok (.ldc 69, 2) := by decide +kernel
theorem dX3_run_18 : decode cX3_run 18 = .ok (.invokespecial 53, 3) := by decide +kernel
theorem dX3_run_21 : decode cX3_run 21 = .ok (.athrow, 1) := by decide +kernel
theorem dX3_run_22 : decode cX3_run 22 = .ok (.aload_n 0, 1) := by decide +kernel
theorem dX3_run_23 : decode cX3_run 23 = .ok (.getfield 30, 3) := by decide +kernel
theorem dX3_run_26 : decode cX3_run 26 = .ok (.aload_n 0, 1) := by decide +kernel
theorem dX3_run_27 : decode cX3_run 27 = .ok (.getfield 23, 3) := by decide +kernel
theorem dX3_run_30 : decode cX3_run 30 = .ok (.iload_n 1, 1) := by decide +kernel
theorem dX3_run_31 : decode cX3_run 31 = .ok (.invokevirtual 71, 3) := by decide +kernel
theorem dX3_run_34 : decode cX3_run 34 = .ok (.aload_n 0, 1) := by decide +kernel
theorem dX3_run_35 : decode cX3_run 35 = .ok (.iconst 1, 1) := by decide +kernel
theorem dX3_run_36 : decode cX3_run 36 = .ok (.putfield 41, 3) := by decide +kernel
theorem dX3_run_39 : decode cX3_run 39 = .ok (.aload_n 0, 1) := by decide +kernel
theorem dX3_run_40 : decode cX3_run 40 = .ok (.getfield 30, 3) := by decide +kernel
theorem dX3_run_43 : decode cX3_run 43 = .ok (.getfield 75, 3) := by decide +kernel
theorem dX3_run_46 : decode cX3_run 46 = .ok (.ireturn, 1) := by decide +kernel
set_option maxRecDepth 20000 in
theorem ggX3_figure_X3_needWalk : GoodIn wsX3_figure wsX3_needWalk := goodIn_ca (goodIn_r _ [8, 9, 10, 11, 12, 13, 14, 15] (by decide +kernel) (by decide +kernel)) (goodIn_sub (fun _ h => List.mem_cons_of_mem _ (List.mem_append_right _ h)) (by decide +kernel))
set_option maxRecDepth 20000 in
theorem gX3_figure_X3_needWalk : GoodIn wsX3_figure (wsV RX3 81 RX3 yX3_needWalk wsX3_needWalk) := goodIn_app (goodIn_of _ (by decide +kernel)) ggX3_figure_X3_needWalk
theorem dX3_figure_0 : decode cX3_figure 0 = .ok (.iload_n 1, 1) := by decide +kernel
theorem dX3_figure_1 : decode cX3_figure 1 = .ok (.ifCond .lt 9, 3) := by decide +kernel
theorem dX3_figure_4 : decode cX3_figure 4 = .ok (.iload_n 1, 1) := by decide +kernel
theorem dX3_figure_5 : decode cX3_figure 5 = .ok (.bipush 8, 2) := by decide +kernel
theorem dX3_figure_7 : decode cX3_figure 7 = .ok (.if_icmp .le 13, 3) := by decide +kernel
theorem dX3_figure_10 : decode cX3_figure 10 = .ok (.new 49, 3) := by decide +kernel
theorem dX3_figure_13 : decode cX3_figure 13 = .ok (.dup, 1) := by decide +kernel
theorem dX3_figure_14 : decode cX3_figure 14 = .ok (.ldc 79, 2) := by decide +kernel
theorem dX3_figure_16 : decode cX3_figure 16 = .ok (.invokespecial 53, 3) := by decide +kernel
theorem dX3_figure_19 : decode cX3_figure 19 = .ok (.athrow, 1) := by decide +kernel
theorem dX3_figure_20 : decode cX3_figure 20 = .ok (.aload_n 0, 1) := by decide +kernel
theorem dX3_figure_21 : decode cX3_figure 21 = .ok (.invokevirtual 81, 3) := by decide +kernel
theorem dX3_figure_24 : decode cX3_figure 24 = .ok (.iload_n 1, 1) := by decide +kernel
theorem dX3_figure_25 : decode cX3_figure 25 = .ok (.tableswitch 111 0 7 #[47, 55, 63, 71, 79, 87, 95, 103], 47) := by decide +kernel
theorem dX3_figure_72 : decode cX3_figure 72 = .ok (.aload_n 0, 1) := by decide +kernel
theorem dX3_figure_73 : decode cX3_figure 73 = .ok (.getfield 30, 3) := by decide +kernel
theorem dX3_figure_76 : decode cX3_figure 76 = .ok (.getfield 75, 3) := by decide +kernel
theorem dX3_figure_79 : decode cX3_figure 79 = .ok (.ireturn, 1) := by decide +kernel
theorem dX3_figure_80 : decode cX3_figure 80 = .ok (.aload_n 0, 1) := by decide +kernel
theorem dX3_figure_81 : decode cX3_figure 81 = .ok (.getfield 30, 3) := by decide +kernel
theorem dX3_figure_84 : decode cX3_figure 84 = .ok (.getfield 84, 3) := by decide +kernel
theorem dX3_figure_87 : decode cX3_figure 87 = .ok (.ireturn, 1) := by decide +kernel
theorem dX3_figure_88 : decode cX3_figure 88 = .ok (.aload_n 0, 1) := by decide +kernel
theorem dX3_figure_89 : decode cX3_figure 89 = .ok (.getfield 30, 3) := by decide +kernel
theorem dX3_figure_92 : decode cX3_figure 92 = .ok (.getfield 87, 3) := by decide +kernel
theorem dX3_figure_95 : decode cX3_figure 95 = .ok (.ireturn, 1) := by decide +kernel
theorem dX3_figure_96 : decode cX3_figure 96 = .ok (.aload_n 0, 1) := by decide +kernel
theorem dX3_figure_97 : decode cX3_figure 97 = .ok (.getfield 30, 3) := by decide +kernel
theorem dX3_figure_100 : decode cX3_figure 100 = .ok (.getfield 90, 3) := by decide +kernel
theorem dX3_figure_103 : decode cX3_figure 103 = .ok (.ireturn, 1) := by decide +kernel
theorem dX3_figure_104 : decode cX3_figure 104 = .ok (.aload_n 0, 1) := by decide +kernel
theorem dX3_figure_105 : decode cX3_figure 105 = .ok (.getfield 30, 3) := by decide +kernel
theorem dX3_figure_108 : decode cX3_figure 108 = .ok (.getfield 93, 3) := by decide +kernel
theorem dX3_figure_111 : decode cX3_figure 111 = .ok (.ireturn, 1) := by decide +kernel
theorem dX3_figure_112 : decode cX3_figure 112 = .ok (.aload_n 0, 1) := by decide +kernel
theorem dX3_figure_113 : decode cX3_figure 113 = .ok (.getfield 30, 3) := by decide +kernel
theorem dX3_figure_116 : decode cX3_figure 116 = .ok (.getfield 96, 3) := by decide +kernel
theorem dX3_figure_119 : decode cX3_figure 119 = .ok (.ireturn, 1) := by decide +kernel
theorem dX3_figure_120 : decode cX3_figure 120 = .ok (.aload_n 0, 1) := by decide +kernel
theorem dX3_figure_121 : decode cX3_figure 121 = .ok (.getfield 30, 3) := by decide +kernel
theorem dX3_figure_124 : decode cX3_figure 124 = .ok (.getfield 99, 3) := by decide +kernel
theorem dX3_figure_127 : decode cX3_figure 127 = .ok (.ireturn, 1) := by decide +kernel
theorem dX3_figure_128 : decode cX3_figure 128 = .ok (.aload_n 0, 1) := by decide +kernel
theorem dX3_figure_129 : decode cX3_figure 129 = .ok (.getfield 30, 3) := by decide +kernel
theorem dX3_figure_132 : decode cX3_figure 132 = .ok (.getfield 102, 3) := by decide +kernel
theorem dX3_figure_135 : decode cX3_figure 135 = .ok (.ireturn, 1) := by decide +kernel
theorem dX3_figure_136 : decode cX3_figure 136 = .ok (.aload_n 0, 1) := by decide +kernel
theorem dX3_figure_137 : decode cX3_figure 137 = .ok (.getfield 30, 3) := by decide +kernel
theorem dX3_figure_140 : decode cX3_figure 140 = .ok (.getfield 105, 3) := by decide +kernel
theorem dX3_figure_143 : decode cX3_figure 143 = .ok (.ireturn, 1) := by decide +kernel
set_option maxRecDepth 20000 in
theorem ggX3_cell_X3_needWalk : GoodIn wsX3_cell wsX3_needWalk := goodIn_ca (goodIn_r _ [6, 7, 8, 9, 21, 22, 23, 24] (by decide +kernel) (by decide +kernel)) (goodIn_sub (fun _ h => List.mem_cons_of_mem _ (List.mem_append_right _ h)) (by decide +kernel))
set_option maxRecDepth 20000 in
theorem gX3_cell_X3_needWalk : GoodIn wsX3_cell (wsV RX3 81 RX3 yX3_needWalk wsX3_needWalk) := goodIn_app (goodIn_of _ (by decide +kernel)) ggX3_cell_X3_needWalk
set_option maxRecDepth 20000 in
theorem ggX3_cell_X2_symbolNow : GoodIn wsX3_cell wsX2_symbolNow := goodIn_r _ [14, 15, 16, 17, 18, 13, 19, 20, 25, 26, 27, 28, 29, 30, 31, 32, 33, 34, 35, 36, 37, 38, 39, 40] (by decide +kernel) (by decide +kernel)
set_option maxRecDepth 20000 in
theorem gX3_cell_X2_symbolNow : GoodIn wsX3_cell (wsV RX3 108 RX2 yX2_symbolNow wsX2_symbolNow) := goodIn_app (goodIn_of _ (by decide +kernel)) ggX3_cell_X2_symbolNow
theorem dX3_cell_0 : decode cX3_cell 0 = .ok (.aload_n 0, 1) := by decide +kernel
theorem dX3_cell_1 : decode cX3_cell 1 = .ok (.invokevirtual 81, 3) := by decide +kernel
theorem dX3_cell_4 : decode cX3_cell 4 = .ok (.aload_n 0, 1) := by decide +kernel
theorem dX3_cell_5 : decode cX3_cell 5 = .ok (.getfield 30, 3) := by decide +kernel
theorem dX3_cell_8 : decode cX3_cell 8 = .ok (.iload_n 1, 1) := by decide +kernel
theorem dX3_cell_9 : decode cX3_cell 9 = .ok (.invokevirtual 108, 3) := by decide +kernel
theorem dX3_cell_12 : decode cX3_cell 12 = .ok (.ireturn, 1) := by decide +kernel
set_option maxRecDepth 20000 in
theorem ggX3_share_X3_needWalk : GoodIn wsX3_share wsX3_needWalk := goodIn_ca (goodIn_r _ [6, 7, 8, 9, 10, 11, 12, 13] (by decide +kernel) (by decide +kernel)) (goodIn_sub (fun _ h => List.mem_cons_of_mem _ (List.mem_append_right _ h)) (by decide +kernel))
set_option maxRecDepth 20000 in
theorem gX3_share_X3_needWalk : GoodIn wsX3_share (wsV RX3 81 RX3 yX3_needWalk wsX3_needWalk) := goodIn_app (goodIn_of _ (by decide +kernel)) ggX3_share_X3_needWalk
theorem dX3_share_0 : decode cX3_share 0 = .ok (.aload_n 0, 1) := by decide +kernel
theorem dX3_share_1 : decode cX3_share 1 = .ok (.invokevirtual 81, 3) := by decide +kernel
theorem dX3_share_4 : decode cX3_share 4 = .ok (.aload_n 0, 1) := by decide +kernel
theorem dX3_share_5 : decode cX3_share 5 = .ok (.getfield 30, 3) := by decide +kernel
theorem dX3_share_8 : decode cX3_share 8 = .ok (.getfield 105, 3) := by decide +kernel
theorem dX3_share_11 : decode cX3_share 11 = .ok (.aload_n 0, 1) := by decide +kernel
theorem dX3_share_12 : decode cX3_share 12 = .ok (.getfield 30, 3) := by decide +kernel
theorem dX3_share_15 : decode cX3_share 15 = .ok (.getfield 102, 3) := by decide +kernel
theorem dX3_share_18 : decode cX3_share 18 = .ok (.isub, 1) := by decide +kernel
theorem dX3_share_19 : decode cX3_share 19 = .ok (.iconst 1, 1) := by decide +kernel
theorem dX3_share_20 : decode cX3_share 20 = .ok (.iadd, 1) := by decide +kernel
theorem dX3_share_21 : decode cX3_share 21 = .ok (.istore_n 1, 1) := by decide +kernel
theorem dX3_share_22 : decode cX3_share 22 = .ok (.iload_n 1, 1) := by decide +kernel
theorem dX3_share_23 : decode cX3_share 23 = .ok (.ifCond .le 17, 3) := by decide +kernel
theorem dX3_share_26 : decode cX3_share 26 = .ok (.aload_n 0, 1) := by decide +kernel
theorem dX3_share_27 : decode cX3_share 27 = .ok (.getfield 30, 3) := by decide +kernel
theorem dX3_share_30 : decode cX3_share 30 = .ok (.getfield 99, 3) := by decide +kernel
theorem dX3_share_33 : decode cX3_share 33 = .ok (.i2f, 1) := by decide +kernel
theorem dX3_share_34 : decode cX3_share 34 = .ok (.iload_n 1, 1) := by decide +kernel
theorem dX3_share_35 : decode cX3_share 35 = .ok (.i2f, 1) := by decide +kernel
theorem dX3_share_36 : decode cX3_share 36 = .ok (.fdiv, 1) := by decide +kernel
theorem dX3_share_37 : decode cX3_share 37 = .ok (.goto 4, 3) := by decide +kernel
theorem dX3_share_40 : decode cX3_share 40 = .ok (.fconst 0, 1) := by decide +kernel
theorem dX3_share_41 : decode cX3_share 41 = .ok (.freturn, 1) := by decide +kernel
set_option maxRecDepth 20000 in
theorem ggX3_grow_X1_takeNext : GoodIn wsX3_grow wsX1_takeNext := goodIn_r _ [8, 9, 10, 11, 12, 13, 14, 15, 16, 7, 17, 18, 19, 20, 21, 22, 23, 24, 25, 26, 27, 28, 29, 30, 31, 32, 33, 34, 35, 36, 37, 38, 39, 40, 41, 42, 43, 44, 45, 46, 47, 48, 49, 50, 51, 52, 53, 54, 55, 56, 57, 58, 59, 60, 61, 62, 63, 64, 65, 66, 67, 68, 69, 70, 71, 72, 73, 74, 75, 76, 77, 78, 79, 80, 81, 82, 83, 84, 85, 86, 87, 88, 89, 90, 91, 92, 93, 94, 95, 96, 97, 98, 99, 100, 101, 102, 103, 104, 105, 106, 107, 108, 109, 110, 111, 112, 113, 114, 115, 116, 117, 118, 119, 120, 121, 122, 123, 124, 125, 126, 127, 128, 129, 130, 131, 132, 133, 134, 135, 136, 137, 138, 139, 140, 141, 142, 143, 144, 145, 146, 147, 148, 149, 150, 151, 156, 157, 158, 159, 160, 161, 162, 163, 164, 165, 166, 167, 168, 169, 170, 171, 172, 173, 174, 175, 176, 177, 178, 179, 180, 181, 182, 183, 184, 185, 186, 187, 188, 189, 190, 191] (by decide +kernel) (by decide +kernel)
set_option maxRecDepth 20000 in
theorem gX3_grow_X1_takeNext : GoodIn wsX3_grow (wsV RX3 114 RX1 yX1_takeNext wsX1_takeNext) := goodIn_app (goodIn_of _ (by decide +kernel)) ggX3_grow_X1_takeNext
theorem dX3_grow_0 : decode cX3_grow 0 = .ok (.iload_n 1, 1) := by decide +kernel
theorem dX3_grow_1 : decode cX3_grow 1 = .ok (.iconst 1, 1) := by decide +kernel
theorem dX3_grow_2 : decode cX3_grow 2 = .ok (.if_icmp .lt 9, 3) := by decide +kernel
theorem dX3_grow_5 : decode cX3_grow 5 = .ok (.iload_n 1, 1) := by decide +kernel
theorem dX3_grow_6 : decode cX3_grow 6 = .ok (.bipush 40, 2) := by decide +kernel
theorem dX3_grow_8 : decode cX3_grow 8 = .ok (.if_icmp .le 13, 3) := by decide +kernel
theorem dX3_grow_11 : decode cX3_grow 11 = .ok (.new 49, 3) := by decide +kernel
theorem dX3_grow_14 : decode cX3_grow 14 = .ok (.dup, 1) := by decide +kernel
theorem dX3_grow_15 : decode cX3_grow 15 = .ok (.ldc 112, 2) := by decide +kernel
theorem dX3_grow_17 : decode cX3_grow 17 = .ok (.invokespecial 53, 3) := by decide +kernel
theorem dX3_grow_20 : decode cX3_grow 20 = .ok (.athrow, 1) := by decide +kernel
theorem dX3_grow_21 : decode cX3_grow 21 = .ok (.iconst 0, 1) := by decide +kernel
theorem dX3_grow_22 : decode cX3_grow 22 = .ok (.istore_n 2, 1) := by decide +kernel
theorem dX3_grow_23 : decode cX3_grow 23 = .ok (.iload_n 2, 1) := by decide +kernel
theorem dX3_grow_24 : decode cX3_grow 24 = .ok (.iload_n 1, 1) := by decide +kernel
theorem dX3_grow_25 : decode cX3_grow 25 = .ok (.if_icmp .ge 19, 3) := by decide +kernel
theorem dX3_grow_28 : decode cX3_grow 28 = .ok (.aload_n 0, 1) := by decide +kernel
theorem dX3_grow_29 : decode cX3_grow 29 = .ok (.getfield 37, 3) := by decide +kernel
theorem dX3_grow_32 : decode cX3_grow 32 = .ok (.invokevirtual 114, 3) := by decide +kernel
theorem dX3_grow_35 : decode cX3_grow 35 = .ok (.ifCond .eq 9, 3) := by decide +kernel
theorem dX3_grow_38 : decode cX3_grow 38 = .ok (.iinc 2 1, 3) := by decide +kernel
theorem dX3_grow_41 : decode cX3_grow 41 = .ok (.goto (-18), 3) := by decide +kernel
theorem dX3_grow_44 : decode cX3_grow 44 = .ok (.iload_n 2, 1) := by decide +kernel
theorem dX3_grow_45 : decode cX3_grow 45 = .ok (.ireturn, 1) := by decide +kernel
theorem dX3_taken_0 : decode cX3_taken 0 = .ok (.iload_n 1, 1) := by decide +kernel
theorem dX3_taken_1 : decode cX3_taken 1 = .ok (.tableswitch 99 0 6 #[43, 51, 59, 67, 75, 83, 91], 43) := by decide +kernel
theorem dX3_taken_44 : decode cX3_taken 44 = .ok (.aload_n 0, 1) := by decide +kernel
theorem dX3_taken_45 : decode cX3_taken 45 = .ok (.getfield 37, 3) := by decide +kernel
theorem dX3_taken_48 : decode cX3_taken 48 = .ok (.getfield 118, 3) := by decide +kernel
theorem dX3_taken_51 : decode cX3_taken 51 = .ok (.ireturn, 1) := by decide +kernel
theorem dX3_taken_52 : decode cX3_taken 52 = .ok (.aload_n 0, 1) := by decide +kernel
theorem dX3_taken_53 : decode cX3_taken 53 = .ok (.getfield 37, 3) := by decide +kernel
theorem dX3_taken_56 : decode cX3_taken 56 = .ok (.getfield 121, 3) := by decide +kernel
theorem dX3_taken_59 : decode cX3_taken 59 = .ok (.ireturn, 1) := by decide +kernel
theorem dX3_taken_60 : decode cX3_taken 60 = .ok (.aload_n 0, 1) := by decide +kernel
theorem dX3_taken_61 : decode cX3_taken 61 = .ok (.getfield 37, 3) := by decide +kernel
theorem dX3_taken_64 : decode cX3_taken 64 = .ok (.getfield 124, 3) := by decide +kernel
theorem dX3_taken_67 : decode cX3_taken 67 = .ok (.ireturn, 1) := by decide +kernel
theorem dX3_taken_68 : decode cX3_taken 68 = .ok (.aload_n 0, 1) := by decide +kernel
theorem dX3_taken_69 : decode cX3_taken 69 = .ok (.getfield 37, 3) := by decide +kernel
theorem dX3_taken_72 : decode cX3_taken 72 = .ok (.getfield 127, 3) := by decide +kernel
theorem dX3_taken_75 : decode cX3_taken 75 = .ok (.ireturn, 1) := by decide +kernel
theorem dX3_taken_76 : decode cX3_taken 76 = .ok (.aload_n 0, 1) := by decide +kernel
theorem dX3_taken_77 : decode cX3_taken 77 = .ok (.getfield 37, 3) := by decide +kernel
theorem dX3_taken_80 : decode cX3_taken 80 = .ok (.getfield 130, 3) := by decide +kernel
theorem dX3_taken_83 : decode cX3_taken 83 = .ok (.ireturn, 1) := by decide +kernel
theorem dX3_taken_84 : decode cX3_taken 84 = .ok (.aload_n 0, 1) := by decide +kernel
theorem dX3_taken_85 : decode cX3_taken 85 = .ok (.getfield 37, 3) := by decide +kernel
theorem dX3_taken_88 : decode cX3_taken 88 = .ok (.getfield 133, 3) := by decide +kernel
theorem dX3_taken_91 : decode cX3_taken 91 = .ok (.ireturn, 1) := by decide +kernel
theorem dX3_taken_92 : decode cX3_taken 92 = .ok (.aload_n 0, 1) := by decide +kernel
theorem dX3_taken_93 : decode cX3_taken 93 = .ok (.getfield 37, 3) := by decide +kernel
theorem dX3_taken_96 : decode cX3_taken 96 = .ok (.getfield 136, 3) := by decide +kernel
theorem dX3_taken_99 : decode cX3_taken 99 = .ok (.ireturn, 1) := by decide +kernel
theorem dX3_taken_100 : decode cX3_taken 100 = .ok (.new 49, 3) := by decide +kernel
theorem dX3_taken_103 : decode cX3_taken 103 = .ok (.dup, 1) := by decide +kernel
theorem dX3_taken_104 : decode cX3_taken 104 = .ok (.ldc 139, 2) := by decide +kernel
theorem dX3_taken_106 : decode cX3_taken 106 = .ok (.invokespecial 53, 3) := by decide +kernel
theorem dX3_taken_109 : decode cX3_taken 109 = .ok (.athrow, 1) := by decide +kernel
set_option maxRecDepth 20000 in
theorem ggX3_champion_X0_hasPlace : GoodIn wsX3_champion wsX0_hasPlace := goodIn_r _ [8, 9, 37, 38] (by decide +kernel) (by decide +kernel)
set_option maxRecDepth 20000 in
theorem gX3_champion_X0_hasPlace : GoodIn wsX3_champion (wsV RX3 45 RX0 yX0_hasPlace wsX0_hasPlace) := goodIn_app (goodIn_of _ (by decide +kernel)) ggX3_champion_X0_hasPlace
set_option maxRecDepth 20000 in
theorem ggX3_champion_X0_codeAt : GoodIn wsX3_champion wsX0_codeAt := goodIn_r _ [13, 14, 37, 38] (by decide +kernel) (by decide +kernel)
set_option maxRecDepth 20000 in
theorem gX3_champion_X0_codeAt : GoodIn wsX3_champion (wsV RX3 62 RX0 yX0_codeAt wsX0_codeAt) := goodIn_app (goodIn_of _ (by decide +kernel)) ggX3_champion_X0_codeAt
theorem dX3_champion_0 : decode cX3_champion 0 = .ok (.aload_n 0, 1) := by decide +kernel
theorem dX3_champion_1 : decode cX3_champion 1 = .ok (.getfield 37, 3) := by decide +kernel
theorem dX3_champion_4 : decode cX3_champion 4 = .ok (.getfield 141, 3) := by decide +kernel
theorem dX3_champion_7 : decode cX3_champion 7 = .ok (.iload_n 1, 1) := by decide +kernel
theorem dX3_champion_8 : decode cX3_champion 8 = .ok (.iload_n 2, 1) := by decide +kernel
theorem dX3_champion_9 : decode cX3_champion 9 = .ok (.invokevirtual 45, 3) := by decide +kernel
theorem dX3_champion_12 : decode cX3_champion 12 = .ok (.ifCond .ne 13, 3) := by decide +kernel
theorem dX3_champion_15 : decode cX3_champion 15 = .ok (.new 49, 3) := by decide +kernel
theorem dX3_champion_18 : decode cX3_champion 18 = .ok (.dup, 1) := by decide +kernel
theorem dX3_champion_19 : decode cX3_champion 19 = .ok (.ldc 51, 2) := by decide +kernel
theorem dX3_champion_21 : decode cX3_champion 21 = .ok (.invokespecial 53, 3) := by decide +kernel
theorem dX3_champion_24 : decode cX3_champion 24 = .ok (.athrow, 1) := by decide +kernel
theorem dX3_champion_25 : decode cX3_champion 25 = .ok (.aload_n 0, 1) := by decide +kernel
theorem dX3_champion_26 : decode cX3_champion 26 = .ok (.getfield 37, 3) := by decide +kernel
theorem dX3_champion_29 : decode cX3_champion 29 = .ok (.getfield 141, 3) := by decide +kernel
theorem dX3_champion_32 : decode cX3_champion 32 = .ok (.iload_n 1, 1) := by decide +kernel
theorem dX3_champion_33 : decode cX3_champion 33 = .ok (.iload_n 2, 1) := by decide +kernel
theorem dX3_champion_34 : decode cX3_champion 34 = .ok (.invokevirtual 62, 3) := by decide +kernel
theorem dX3_champion_37 : decode cX3_champion 37 = .ok (.ireturn, 1) := by decide +kernel
theorem dX3_mean_0 : decode cX3_mean 0 = .ok (.aload_n 0, 1) := by decide +kernel
theorem dX3_mean_1 : decode cX3_mean 1 = .ok (.getfield 37, 3) := by decide +kernel
theorem dX3_mean_4 : decode cX3_mean 4 = .ok (.getfield 121, 3) := by decide +kernel
theorem dX3_mean_7 : decode cX3_mean 7 = .ok (.ifCond .gt 13, 3) := by decide +kernel
theorem dX3_mean_10 : decode cX3_mean 10 = .ok (.new 144, 3) := by decide +kernel
theorem dX3_mean_13 : decode cX3_mean 13 = .ok (.dup, 1) := by decide +kernel
theorem dX3_mean_14 : decode cX3_mean 14 = .ok (.ldc 146, 2) := by decide +kernel
theorem dX3_mean_16 : decode cX3_mean 16 = .ok (.invokespecial 148, 3) := by decide +kernel
theorem dX3_mean_19 : decode cX3_mean 19 = .ok (.athrow, 1) := by decide +kernel
theorem dX3_mean_20 : decode cX3_mean 20 = .ok (.aload_n 0, 1) := by decide +kernel
theorem dX3_mean_21 : decode cX3_mean 21 = .ok (.getfield 37, 3) := by decide +kernel
theorem dX3_mean_24 : decode cX3_mean 24 = .ok (.getfield 149, 3) := by decide +kernel
theorem dX3_mean_27 : decode cX3_mean 27 = .ok (.i2f, 1) := by decide +kernel
theorem dX3_mean_28 : decode cX3_mean 28 = .ok (.aload_n 0, 1) := by decide +kernel
theorem dX3_mean_29 : decode cX3_mean 29 = .ok (.getfield 37, 3) := by decide +kernel
theorem dX3_mean_32 : decode cX3_mean 32 = .ok (.getfield 121, 3) := by decide +kernel
theorem dX3_mean_35 : decode cX3_mean 35 = .ok (.i2f, 1) := by decide +kernel
theorem dX3_mean_36 : decode cX3_mean 36 = .ok (.fdiv, 1) := by decide +kernel
theorem dX3_mean_37 : decode cX3_mean 37 = .ok (.freturn, 1) := by decide +kernel
theorem dX3_needWalk_0 : decode cX3_needWalk 0 = .ok (.aload_n 0, 1) := by decide +kernel
theorem dX3_needWalk_1 : decode cX3_needWalk 1 = .ok (.getfield 41, 3) := by decide +kernel
theorem dX3_needWalk_4 : decode cX3_needWalk 4 = .ok (.ifCond .ne 13, 3) := by decide +kernel
theorem dX3_needWalk_7 : decode cX3_needWalk 7 = .ok (.new 144, 3) := by decide +kernel
theorem dX3_needWalk_10 : decode cX3_needWalk 10 = .ok (.dup, 1) := by decide +kernel
theorem dX3_needWalk_11 : decode cX3_needWalk 11 = .ok (.ldc 152, 2) := by decide +kernel
theorem dX3_needWalk_13 : decode cX3_needWalk 13 = .ok (.invokespecial 148, 3) := by decide +kernel
theorem dX3_needWalk_16 : decode cX3_needWalk 16 = .ok (.athrow, 1) := by decide +kernel
theorem dX3_needWalk_17 : decode cX3_needWalk 17 = .ok (.return_, 1) := by decide +kernel
theorem dX4_init_0 : decode cX4_init 0 = .ok (.aload_n 0, 1) := by decide +kernel
theorem dX4_init_1 : decode cX4_init 1 = .ok (.invokespecial 1, 3) := by decide +kernel
theorem dX4_init_4 : decode cX4_init 4 = .ok (.aload_n 0, 1) := by decide +kernel
theorem dX4_init_5 : decode cX4_init 5 = .ok (.bipush 8, 2) := by decide +kernel
theorem dX4_init_7 : decode cX4_init 7 = .ok (.newarray .int, 2) := by decide +kernel
theorem dX4_init_9 : decode cX4_init 9 = .ok (.putfield 7, 3) := by decide +kernel
theorem dX4_init_12 : decode cX4_init 12 = .ok (.aload_n 0, 1) := by decide +kernel
theorem dX4_init_13 : decode cX4_init 13 = .ok (.bipush 8, 2) := by decide +kernel
theorem dX4_init_15 : decode cX4_init 15 = .ok (.newarray .int, 2) := by decide +kernel
theorem dX4_init_17 : decode cX4_init 17 = .ok (.putfield 13, 3) := by decide +kernel
theorem dX4_init_20 : decode cX4_init 20 = .ok (.aload_n 0, 1) := by decide +kernel
theorem dX4_init_21 : decode cX4_init 21 = .ok (.bipush 8, 2) := by decide +kernel
theorem dX4_init_23 : decode cX4_init 23 = .ok (.newarray .int, 2) := by decide +kernel
theorem dX4_init_25 : decode cX4_init 25 = .ok (.putfield 16, 3) := by decide +kernel
theorem dX4_init_28 : decode cX4_init 28 = .ok (.aload_n 0, 1) := by decide +kernel
theorem dX4_init_29 : decode cX4_init 29 = .ok (.sipush 620, 3) := by decide +kernel
theorem dX4_init_32 : decode cX4_init 32 = .ok (.newarray .int, 2) := by decide +kernel
theorem dX4_init_34 : decode cX4_init 34 = .ok (.putfield 19, 3) := by decide +kernel
theorem dX4_init_37 : decode cX4_init 37 = .ok (.aload_n 0, 1) := by decide +kernel
theorem dX4_init_38 : decode cX4_init 38 = .ok (.sipush 620, 3) := by decide +kernel
theorem dX4_init_41 : decode cX4_init 41 = .ok (.newarray .int, 2) := by decide +kernel
theorem dX4_init_43 : decode cX4_init 43 = .ok (.putfield 22, 3) := by decide +kernel
theorem dX4_init_46 : decode cX4_init 46 = .ok (.aload_n 0, 1) := by decide +kernel
theorem dX4_init_47 : decode cX4_init 47 = .ok (.sipush 301, 3) := by decide +kernel
theorem dX4_init_50 : decode cX4_init 50 = .ok (.newarray .int, 2) := by decide +kernel
theorem dX4_init_52 : decode cX4_init 52 = .ok (.putfield 25, 3) := by decide +kernel
theorem dX4_init_55 : decode cX4_init 55 = .ok (.aload_n 0, 1) := by decide +kernel
theorem dX4_init_56 : decode cX4_init 56 = .ok (.sipush 301, 3) := by decide +kernel
theorem dX4_init_59 : decode cX4_init 59 = .ok (.newarray .int, 2) := by decide +kernel
theorem dX4_init_61 : decode cX4_init 61 = .ok (.putfield 28, 3) := by decide +kernel
theorem dX4_init_64 : decode cX4_init 64 = .ok (.aload_n 0, 1) := by decide +kernel
theorem dX4_init_65 : decode cX4_init 65 = .ok (.sipush 301, 3) := by decide +kernel
theorem dX4_init_68 : decode cX4_init 68 = .ok (.newarray .int, 2) := by decide +kernel
theorem dX4_init_70 : decode cX4_init 70 = .ok (.putfield 31, 3) := by decide +kernel
theorem dX4_init_73 : decode cX4_init 73 = .ok (.aload_n 0, 1) := by decide +kernel
theorem dX4_init_74 : decode cX4_init 74 = .ok (.sipush 301, 3) := by decide +kernel
theorem dX4_init_77 : decode cX4_init 77 = .ok (.newarray .int, 2) := by decide +kernel
theorem dX4_init_79 : decode cX4_init 79 = .ok (.putfield 34, 3) := by decide +kernel
theorem dX4_init_82 : decode cX4_init 82 = .ok (.aload_n 0, 1) := by decide +kernel
theorem dX4_init_83 : decode cX4_init 83 = .ok (.bipush 9, 2) := by decide +kernel
theorem dX4_init_85 : decode cX4_init 85 = .ok (.newarray .int, 2) := by decide +kernel
theorem dX4_init_87 : decode cX4_init 87 = .ok (.putfield 37, 3) := by decide +kernel
theorem dX4_init_90 : decode cX4_init 90 = .ok (.aload_n 0, 1) := by decide +kernel
theorem dX4_init_91 : decode cX4_init 91 = .ok (.sipush 620, 3) := by decide +kernel
theorem dX4_init_94 : decode cX4_init 94 = .ok (.newarray .int, 2) := by decide +kernel
theorem dX4_init_96 : decode cX4_init 96 = .ok (.putfield 40, 3) := by decide +kernel
theorem dX4_init_99 : decode cX4_init 99 = .ok (.aload_n 0, 1) := by decide +kernel
theorem dX4_init_100 : decode cX4_init 100 = .ok (.iconst (-1), 1) := by decide +kernel
theorem dX4_init_101 : decode cX4_init 101 = .ok (.putfield 43, 3) := by decide +kernel
theorem dX4_init_104 : decode cX4_init 104 = .ok (.aload_n 0, 1) := by decide +kernel
theorem dX4_init_105 : decode cX4_init 105 = .ok (.bipush 8, 2) := by decide +kernel
theorem dX4_init_107 : decode cX4_init 107 = .ok (.newarray .int, 2) := by decide +kernel
theorem dX4_init_109 : decode cX4_init 109 = .ok (.putfield 47, 3) := by decide +kernel
theorem dX4_init_112 : decode cX4_init 112 = .ok (.aload_n 0, 1) := by decide +kernel
theorem dX4_init_113 : decode cX4_init 113 = .ok (.bipush 8, 2) := by decide +kernel
theorem dX4_init_115 : decode cX4_init 115 = .ok (.newarray .int, 2) := by decide +kernel
theorem dX4_init_117 : decode cX4_init 117 = .ok (.putfield 50, 3) := by decide +kernel
theorem dX4_init_120 : decode cX4_init 120 = .ok (.aload_n 0, 1) := by decide +kernel
theorem dX4_init_121 : decode cX4_init 121 = .ok (.iconst 4, 1) := by decide +kernel
theorem dX4_init_122 : decode cX4_init 122 = .ok (.newarray .int, 2) := by decide +kernel
theorem dX4_init_124 : decode cX4_init 124 = .ok (.putfield 53, 3) := by decide +kernel
theorem dX4_init_127 : decode cX4_init 127 = .ok (.aload_n 0, 1) := by decide +kernel
theorem dX4_init_128 : decode cX4_init 128 = .ok (.iload_n 1, 1) := by decide +kernel
theorem dX4_init_129 : decode cX4_init 129 = .ok (.iconst 2, 1) := by decide +kernel
theorem dX4_init_130 : decode cX4_init 130 = .ok (.if_icmp .ge 7, 3) := by decide +kernel
theorem dX4_init_133 : decode cX4_init 133 = .ok (.iconst 2, 1) := by decide +kernel
theorem dX4_init_134 : decode cX4_init 134 = .ok (.goto 13, 3) := by decide +kernel
theorem dX4_init_137 : decode cX4_init 137 = .ok (.iload_n 1, 1) := by decide +kernel
theorem dX4_init_138 : decode cX4_init 138 = .ok (.iconst 4, 1) := by decide +kernel
theorem dX4_init_139 : decode cX4_init 139 = .ok (.if_icmp .le 7, 3) := by decide +kernel
theorem dX4_init_142 : decode cX4_init 142 = .ok (.iconst 4, 1) := by decide +kernel
theorem dX4_init_143 : decode cX4_init 143 = .ok (.goto 4, 3) := by decide +kernel
theorem dX4_init_146 : decode cX4_init 146 = .ok (.iload_n 1, 1) := by decide +kernel
theorem dX4_init_147 : decode cX4_init 147 = .ok (.putfield 56, 3) := by decide +kernel
theorem dX4_init_150 : decode cX4_init 150 = .ok (.iconst 0, 1) := by decide +kernel
theorem dX4_init_151 : decode cX4_init 151 = .ok (.istore_n 2, 1) := by decide +kernel
theorem dX4_init_152 : decode cX4_init 152 = .ok (.iload_n 2, 1) := by decide +kernel
theorem dX4_init_153 : decode cX4_init 153 = .ok (.bipush 8, 2) := by decide +kernel
theorem dX4_init_155 : decode cX4_init 155 = .ok (.if_icmp .ge 30, 3) := by decide +kernel
theorem dX4_init_158 : decode cX4_init 158 = .ok (.aload_n 0, 1) := by decide +kernel
theorem dX4_init_159 : decode cX4_init 159 = .ok (.getfield 7, 3) := by decide +kernel
theorem dX4_init_162 : decode cX4_init 162 = .ok (.iload_n 2, 1) := by decide +kernel
theorem dX4_init_163 : decode cX4_init 163 = .ok (.iconst (-1), 1) := by decide +kernel
theorem dX4_init_164 : decode cX4_init 164 = .ok (.iastore, 1) := by decide +kernel
theorem dX4_init_165 : decode cX4_init 165 = .ok (.aload_n 0, 1) := by decide +kernel
theorem dX4_init_166 : decode cX4_init 166 = .ok (.getfield 13, 3) := by decide +kernel
theorem dX4_init_169 : decode cX4_init 169 = .ok (.iload_n 2, 1) := by decide +kernel
theorem dX4_init_170 : decode cX4_init 170 = .ok (.iconst (-1), 1) := by decide +kernel
theorem dX4_init_171 : decode cX4_init 171 = .ok (.iastore, 1) := by decide +kernel
theorem dX4_init_172 : decode cX4_init 172 = .ok (.aload_n 0, 1) := by decide +kernel
theorem dX4_init_173 : decode cX4_init 173 = .ok (.getfield 16, 3) := by decide +kernel
theorem dX4_init_176 : decode cX4_init 176 = .ok (.iload_n 2, 1) := by decide +kernel
theorem dX4_init_177 : decode cX4_init 177 = .ok (.iconst (-1), 1) := by decide +kernel
theorem dX4_init_178 : decode cX4_init 178 = .ok (.iastore, 1) := by decide +kernel
theorem dX4_init_179 : decode cX4_init 179 = .ok (.iinc 2 1, 3) := by decide +kernel
theorem dX4_init_182 : decode cX4_init 182 = .ok (.goto (-30), 3) := by decide +kernel
theorem dX4_init_185 : decode cX4_init 185 = .ok (.return_, 1) := by decide +kernel
theorem dX4_thrown_0 : decode cX4_thrown 0 = .ok (.aload_n 0, 1) := by decide +kernel
theorem dX4_thrown_1 : decode cX4_thrown 1 = .ok (.getfield 59, 3) := by decide +kernel
theorem dX4_thrown_4 : decode cX4_thrown 4 = .ok (.ireturn, 1) := by decide +kernel
theorem dX4_refuse_0 : decode cX4_refuse 0 = .ok (.aload_n 0, 1) := by decide +kernel
theorem dX4_refuse_1 : decode cX4_refuse 1 = .ok (.iload_n 1, 1) := by decide +kernel
theorem dX4_refuse_2 : decode cX4_refuse 2 = .ok (.putfield 59, 3) := by decide +kernel
theorem dX4_refuse_5 : decode cX4_refuse 5 = .ok (.iconst 0, 1) := by decide +kernel
theorem dX4_refuse_6 : decode cX4_refuse 6 = .ok (.ireturn, 1) := by decide +kernel
set_option maxRecDepth 20000 in
theorem ggX4_set_X4_refuse : GoodIn wsX4_set wsX4_refuse := goodIn_r _ [9, 1, 10, 11, 12, 13, 14, 15, 16, 17, 18, 19, 20, 21, 22, 23, 24, 25, 26, 27, 28, 29, 30, 31, 32, 33, 34, 35, 36, 37] (by decide +kernel) (by decide +kernel)
set_option maxRecDepth 20000 in
theorem gX4_set_X4_refuse : GoodIn wsX4_set (wsV RX4 62 RX4 yX4_refuse wsX4_refuse) := goodIn_app (goodIn_of _ (by decide +kernel)) ggX4_set_X4_refuse
theorem dX4_set_0 : decode cX4_set 0 = .ok (.aload_n 0, 1) := by decide +kernel
theorem dX4_set_1 : decode cX4_set 1 = .ok (.iconst 0, 1) := by decide +kernel
theorem dX4_set_2 : decode cX4_set 2 = .ok (.putfield 59, 3) := by decide +kernel
theorem dX4_set_5 : decode cX4_set 5 = .ok (.iload_n 1, 1) := by decide +kernel
theorem dX4_set_6 : decode cX4_set 6 = .ok (.ifCond .lt 35, 3) := by decide +kernel
theorem dX4_set_9 : decode cX4_set 9 = .ok (.iload_n 1, 1) := by decide +kernel
theorem dX4_set_10 : decode cX4_set 10 = .ok (.aload_n 0, 1) := by decide +kernel
theorem dX4_set_11 : decode cX4_set 11 = .ok (.getfield 56, 3) := by decide +kernel
theorem dX4_set_14 : decode cX4_set 14 = .ok (.if_icmp .ge 27, 3) := by decide +kernel
theorem dX4_set_17 : decode cX4_set 17 = .ok (.iload_n 2, 1) := by decide +kernel
theorem dX4_set_18 : decode cX4_set 18 = .ok (.ifCond .lt 23, 3) := by decide +kernel
theorem dX4_set_21 : decode cX4_set 21 = .ok (.iload_n 2, 1) := by decide +kernel
theorem dX4_set_22 : decode cX4_set 22 = .ok (.iconst 1, 1) := by decide +kernel
theorem dX4_set_23 : decode cX4_set 23 = .ok (.if_icmp .gt 18, 3) := by decide +kernel
theorem dX4_set_26 : decode cX4_set 26 = .ok (.iload_n 3, 1) := by decide +kernel
theorem dX4_set_27 : decode cX4_set 27 = .ok (.iconst (-1), 1) := by decide +kernel
theorem dX4_set_28 : decode cX4_set 28 = .ok (.if_icmp .lt 13, 3) := by decide +kernel
theorem dX4_set_31 : decode cX4_set 31 = .ok (.iload_n 3, 1) := by decide +kernel
