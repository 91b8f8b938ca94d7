theorem dX1_toNextBranch_80 : decode cX1_toNextBranch 80 = .ok (.aload_n 0, 1) := by decide +kernel
theorem dX1_toNextBranch_81 : decode cX1_toNextBranch 81 = .ok (.iload_n 1, 1) := by decide +kernel
theorem dX1_toNextBranch_82 : decode cX1_toNextBranch 82 = .ok (.putfield 118, 3) := by decide +kernel
theorem dX1_toNextBranch_85 : decode cX1_toNextBranch 85 = .ok (.iinc 1 (-1), 3) := by decide +kernel
theorem dX1_toNextBranch_88 : decode cX1_toNextBranch 88 = .ok (.goto (-73), 3) := by decide +kernel
theorem dX1_toNextBranch_91 : decode cX1_toNextBranch 91 = .ok (.iconst 0, 1) := by decide +kernel
theorem dX1_toNextBranch_92 : decode cX1_toNextBranch 92 = .ok (.ireturn, 1) := by decide +kernel
theorem dX2_init_0 : decode cX2_init 0 = .ok (.aload_n 0, 1) := by decide +kernel
theorem dX2_init_1 : decode cX2_init 1 = .ok (.invokespecial 3, 3) := by decide +kernel
theorem dX2_init_4 : decode cX2_init 4 = .ok (.aload_n 0, 1) := by decide +kernel
theorem dX2_init_5 : decode cX2_init 5 = .ok (.iconst 1, 1) := by decide +kernel
theorem dX2_init_6 : decode cX2_init 6 = .ok (.sipush 300, 3) := by decide +kernel
theorem dX2_init_9 : decode cX2_init 9 = .ok (.iload_n 1, 1) := by decide +kernel
theorem dX2_init_10 : decode cX2_init 10 = .ok (.invokestatic 9, 3) := by decide +kernel
theorem dX2_init_13 : decode cX2_init 13 = .ok (.invokestatic 15, 3) := by decide +kernel
theorem dX2_init_16 : decode cX2_init 16 = .ok (.putfield 18, 3) := by decide +kernel
theorem dX2_init_19 : decode cX2_init 19 = .ok (.aload_n 0, 1) := by decide +kernel
theorem dX2_init_20 : decode cX2_init 20 = .ok (.iconst 2, 1) := by decide +kernel
theorem dX2_init_21 : decode cX2_init 21 = .ok (.aload_n 0, 1) := by decide +kernel
theorem dX2_init_22 : decode cX2_init 22 = .ok (.getfield 18, 3) := by decide +kernel
theorem dX2_init_25 : decode cX2_init 25 = .ok (.imul, 1) := by decide +kernel
theorem dX2_init_26 : decode cX2_init 26 = .ok (.bipush 6, 2) := by decide +kernel
theorem dX2_init_28 : decode cX2_init 28 = .ok (.ishr, 1) := by decide +kernel
theorem dX2_init_29 : decode cX2_init 29 = .ok (.iconst 1, 1) := by decide +kernel
theorem dX2_init_30 : decode cX2_init 30 = .ok (.iadd, 1) := by decide +kernel
theorem dX2_init_31 : decode cX2_init 31 = .ok (.putfield 24, 3) := by decide +kernel
theorem dX2_init_34 : decode cX2_init 34 = .ok (.aload_n 0, 1) := by decide +kernel
theorem dX2_init_35 : decode cX2_init 35 = .ok (.aload_n 0, 1) := by decide +kernel
theorem dX2_init_36 : decode cX2_init 36 = .ok (.getfield 24, 3) := by decide +kernel
theorem dX2_init_39 : decode cX2_init 39 = .ok (.newarray .long, 2) := by decide +kernel
theorem dX2_init_41 : decode cX2_init 41 = .ok (.putfield 27, 3) := by decide +kernel
theorem dX2_init_44 : decode cX2_init 44 = .ok (.aload_n 0, 1) := by decide +kernel
theorem dX2_init_45 : decode cX2_init 45 = .ok (.aload_n 0, 1) := by decide +kernel
theorem dX2_init_46 : decode cX2_init 46 = .ok (.getfield 24, 3) := by decide +kernel
theorem dX2_init_49 : decode cX2_init 49 = .ok (.aload_n 0, 1) := by decide +kernel
theorem dX2_init_50 : decode cX2_init 50 = .ok (.getfield 18, 3) := by decide +kernel
theorem dX2_init_53 : decode cX2_init 53 = .ok (.iconst 1, 1) := by decide +kernel
theorem dX2_init_54 : decode cX2_init 54 = .ok (.iadd, 1) := by decide +kernel
theorem dX2_init_55 : decode cX2_init 55 = .ok (.imul, 1) := by decide +kernel
theorem dX2_init_56 : decode cX2_init 56 = .ok (.newarray .long, 2) := by decide +kernel
theorem dX2_init_58 : decode cX2_init 58 = .ok (.putfield 31, 3) := by decide +kernel
theorem dX2_init_61 : decode cX2_init 61 = .ok (.aload_n 0, 1) := by decide +kernel
theorem dX2_init_62 : decode cX2_init 62 = .ok (.aload_n 0, 1) := by decide +kernel
theorem dX2_init_63 : decode cX2_init 63 = .ok (.getfield 18, 3) := by decide +kernel
theorem dX2_init_66 : decode cX2_init 66 = .ok (.iconst 1, 1) := by decide +kernel
theorem dX2_init_67 : decode cX2_init 67 = .ok (.iadd, 1) := by decide +kernel
theorem dX2_init_68 : decode cX2_init 68 = .ok (.newarray .int, 2) := by decide +kernel
theorem dX2_init_70 : decode cX2_init 70 = .ok (.putfield 34, 3) := by decide +kernel
theorem dX2_init_73 : decode cX2_init 73 = .ok (.aload_n 0, 1) := by decide +kernel
theorem dX2_init_74 : decode cX2_init 74 = .ok (.aload_n 0, 1) := by decide +kernel
theorem dX2_init_75 : decode cX2_init 75 = .ok (.getfield 18, 3) := by decide +kernel
theorem dX2_init_78 : decode cX2_init 78 = .ok (.iconst 1, 1) := by decide +kernel
theorem dX2_init_79 : decode cX2_init 79 = .ok (.iadd, 1) := by decide +kernel
theorem dX2_init_80 : decode cX2_init 80 = .ok (.newarray .int, 2) := by decide +kernel
theorem dX2_init_82 : decode cX2_init 82 = .ok (.putfield 38, 3) := by decide +kernel
theorem dX2_init_85 : decode cX2_init 85 = .ok (.aload_n 0, 1) := by decide +kernel
theorem dX2_init_86 : decode cX2_init 86 = .ok (.aload_n 0, 1) := by decide +kernel
theorem dX2_init_87 : decode cX2_init 87 = .ok (.getfield 18, 3) := by decide +kernel
theorem dX2_init_90 : decode cX2_init 90 = .ok (.iconst 1, 1) := by decide +kernel
theorem dX2_init_91 : decode cX2_init 91 = .ok (.iadd, 1) := by decide +kernel
theorem dX2_init_92 : decode cX2_init 92 = .ok (.newarray .int, 2) := by decide +kernel
theorem dX2_init_94 : decode cX2_init 94 = .ok (.putfield 41, 3) := by decide +kernel
theorem dX2_init_97 : decode cX2_init 97 = .ok (.return_, 1) := by decide +kernel
set_option maxRecDepth 20000 in
theorem ggX2_follow_X2_begin : GoodIn wsX2_follow wsX2_begin := goodIn_r _ [14, 15, 7, 6, 16, 17, 8, 9, 18, 19, 20, 21, 22, 23, 24, 25, 26, 27, 13, 28, 1, 29, 30, 31, 32, 33, 34, 35, 36, 37, 83, 84, 85, 86, 87, 88, 89, 90, 91, 92, 93, 94, 95, 96, 97, 98] (by decide +kernel) (by decide +kernel)
set_option maxRecDepth 20000 in
theorem gX2_follow_X2_begin : GoodIn wsX2_follow (wsV RX2 44 RX2 yX2_begin wsX2_begin) := goodIn_app (goodIn_of _ (by decide +kernel)) ggX2_follow_X2_begin
set_option maxRecDepth 20000 in
theorem ggX2_follow_X2_symbolNow : GoodIn wsX2_follow wsX2_symbolNow := goodIn_r _ [41, 15, 42, 43, 44, 13, 45, 1, 83, 84, 85, 86, 87, 88, 89, 90, 91, 92, 93, 94, 95, 96, 97, 98] (by decide +kernel) (by decide +kernel)
set_option maxRecDepth 20000 in
theorem gX2_follow_X2_symbolNow : GoodIn wsX2_follow (wsV RX2 59 RX2 yX2_symbolNow wsX2_symbolNow) := goodIn_app (goodIn_of _ (by decide +kernel)) ggX2_follow_X2_symbolNow
set_option maxRecDepth 20000 in
theorem ggX2_follow_X0_codeAt : GoodIn wsX2_follow wsX0_codeAt := goodIn_r _ [50, 51, 99, 100] (by decide +kernel) (by decide +kernel)
set_option maxRecDepth 20000 in
theorem gX2_follow_X0_codeAt : GoodIn wsX2_follow (wsV RX2 63 RX0 yX0_codeAt wsX0_codeAt) := goodIn_app (goodIn_of _ (by decide +kernel)) ggX2_follow_X0_codeAt
set_option maxRecDepth 20000 in
theorem ggX2_follow_X2_act : GoodIn wsX2_follow wsX2_act := goodIn_r _ [55, 9, 8, 20, 19, 2, 3, 4, 5, 56, 57, 58, 59, 60, 61, 13, 62, 1, 15, 18, 38, 39, 40, 41, 42, 43, 44, 45, 25, 26, 27, 28, 6, 29, 30, 31, 32, 33, 34, 35, 36, 37, 83, 84, 85, 86, 87, 88, 89, 90, 91, 92, 93, 94, 95, 96, 97, 98] (by decide +kernel) (by decide +kernel)
set_option maxRecDepth 20000 in
theorem gX2_follow_X2_act : GoodIn wsX2_follow (wsV RX2 68 RX2 yX2_act wsX2_act) := goodIn_app (goodIn_of _ (by decide +kernel)) ggX2_follow_X2_act
set_option maxRecDepth 20000 in
theorem ggX2_follow_X2_look : GoodIn wsX2_follow wsX2_look := goodIn_r _ [66, 7, 6, 16, 29, 9, 17, 67, 68, 69, 13, 70, 1, 2, 3, 4, 5, 30, 8, 71, 72, 73, 74, 33, 32, 15, 75, 76, 77, 78, 31, 79, 80, 81, 82, 42, 43, 44, 45, 83, 84, 85, 86, 87, 88, 89, 90, 91, 92, 93, 94, 95, 96, 97, 98] (by decide +kernel) (by decide +kernel)
set_option maxRecDepth 20000 in
theorem gX2_follow_X2_look : GoodIn wsX2_follow (wsV RX2 72 RX2 yX2_look wsX2_look) := goodIn_app (goodIn_of _ (by decide +kernel)) ggX2_follow_X2_look
theorem dX2_follow_0 : decode cX2_follow 0 = .ok (.aload_n 0, 1) := by decide +kernel
theorem dX2_follow_1 : decode cX2_follow 1 = .ok (.invokevirtual 44, 3) := by decide +kernel
theorem dX2_follow_4 : decode cX2_follow 4 = .ok (.iload_n 2, 1) := by decide +kernel
theorem dX2_follow_5 : decode cX2_follow 5 = .ok (.aload_n 0, 1) := by decide +kernel
theorem dX2_follow_6 : decode cX2_follow 6 = .ok (.getfield 18, 3) := by decide +kernel
theorem dX2_follow_9 : decode cX2_follow 9 = .ok (.invokestatic 9, 3) := by decide +kernel
theorem dX2_follow_12 : decode cX2_follow 12 = .ok (.istore_n 3, 1) := by decide +kernel
theorem dX2_follow_13 : decode cX2_follow 13 = .ok (.aload_n 0, 1) := by decide +kernel
theorem dX2_follow_14 : decode cX2_follow 14 = .ok (.getfield 47, 3) := by decide +kernel
theorem dX2_follow_17 : decode cX2_follow 17 = .ok (.iload_n 3, 1) := by decide +kernel
theorem dX2_follow_18 : decode cX2_follow 18 = .ok (.if_icmp .ge 64, 3) := by decide +kernel
theorem dX2_follow_21 : decode cX2_follow 21 = .ok (.aload_n 0, 1) := by decide +kernel
theorem dX2_follow_22 : decode cX2_follow 22 = .ok (.getfield 50, 3) := by decide +kernel
theorem dX2_follow_25 : decode cX2_follow 25 = .ok (.ifCond .ne 57, 3) := by decide +kernel
theorem dX2_follow_28 : decode cX2_follow 28 = .ok (.aload_n 0, 1) := by decide +kernel
theorem dX2_follow_29 : decode cX2_follow 29 = .ok (.dup, 1) := by decide +kernel
theorem dX2_follow_30 : decode cX2_follow 30 = .ok (.getfield 47, 3) := by decide +kernel
theorem dX2_follow_33 : decode cX2_follow 33 = .ok (.iconst 1, 1) := by decide +kernel
theorem dX2_follow_34 : decode cX2_follow 34 = .ok (.iadd, 1) := by decide +kernel
theorem dX2_follow_35 : decode cX2_follow 35 = .ok (.putfield 47, 3) := by decide +kernel
theorem dX2_follow_38 : decode cX2_follow 38 = .ok (.aload_n 1, 1) := by decide +kernel
theorem dX2_follow_39 : decode cX2_follow 39 = .ok (.aload_n 0, 1) := by decide +kernel
theorem dX2_follow_40 : decode cX2_follow 40 = .ok (.getfield 53, 3) := by decide +kernel
theorem dX2_follow_43 : decode cX2_follow 43 = .ok (.aload_n 0, 1) := by decide +kernel
theorem dX2_follow_44 : decode cX2_follow 44 = .ok (.aload_n 0, 1) := by decide +kernel
theorem dX2_follow_45 : decode cX2_follow 45 = .ok (.getfield 56, 3) := by decide +kernel
theorem dX2_follow_48 : decode cX2_follow 48 = .ok (.invokevirtual 59, 3) := by decide +kernel
theorem dX2_follow_51 : decode cX2_follow 51 = .ok (.invokevirtual 63, 3) := by decide +kernel
theorem dX2_follow_54 : decode cX2_follow 54 = .ok (.istore 4, 2) := by decide +kernel
theorem dX2_follow_56 : decode cX2_follow 56 = .ok (.iload 4, 2) := by decide +kernel
theorem dX2_follow_58 : decode cX2_follow 58 = .ok (.ifCond .ge 11, 3) := by decide +kernel
theorem dX2_follow_61 : decode cX2_follow 61 = .ok (.aload_n 0, 1) := by decide +kernel
theorem dX2_follow_62 : decode cX2_follow 62 = .ok (.iconst 1, 1) := by decide +kernel
theorem dX2_follow_63 : decode cX2_follow 63 = .ok (.putfield 50, 3) := by decide +kernel
theorem dX2_follow_66 : decode cX2_follow 66 = .ok (.goto 13, 3) := by decide +kernel
theorem dX2_follow_69 : decode cX2_follow 69 = .ok (.aload_n 0, 1) := by decide +kernel
theorem dX2_follow_70 : decode cX2_follow 70 = .ok (.iload 4, 2) := by decide +kernel
theorem dX2_follow_72 : decode cX2_follow 72 = .ok (.invokevirtual 68, 3) := by decide +kernel
theorem dX2_follow_75 : decode cX2_follow 75 = .ok (.aload_n 0, 1) := by decide +kernel
theorem dX2_follow_76 : decode cX2_follow 76 = .ok (.invokevirtual 72, 3) := by decide +kernel
theorem dX2_follow_79 : decode cX2_follow 79 = .ok (.goto (-66), 3) := by decide +kernel
theorem dX2_follow_82 : decode cX2_follow 82 = .ok (.return_, 1) := by decide +kernel
set_option maxRecDepth 20000 in
theorem ggX2_symbolNow_X2_symbolIn : GoodIn wsX2_symbolNow wsX2_symbolIn := goodIn_r _ [6, 7, 8, 9, 10, 11, 12, 13, 14, 15, 16, 17, 18, 19, 20, 21, 22, 23] (by decide +kernel) (by decide +kernel)
set_option maxRecDepth 20000 in
theorem gX2_symbolNow_X2_symbolIn : GoodIn wsX2_symbolNow (wsV RX2 75 RX2 yX2_symbolIn wsX2_symbolIn) := goodIn_app (goodIn_of _ (by decide +kernel)) ggX2_symbolNow_X2_symbolIn
theorem dX2_symbolNow_0 : decode cX2_symbolNow 0 = .ok (.aload_n 0, 1) := by decide +kernel
theorem dX2_symbolNow_1 : decode cX2_symbolNow 1 = .ok (.aload_n 0, 1) := by decide +kernel
theorem dX2_symbolNow_2 : decode cX2_symbolNow 2 = .ok (.getfield 27, 3) := by decide +kernel
theorem dX2_symbolNow_5 : decode cX2_symbolNow 5 = .ok (.iconst 0, 1) := by decide +kernel
theorem dX2_symbolNow_6 : decode cX2_symbolNow 6 = .ok (.iload_n 1, 1) := by decide +kernel
theorem dX2_symbolNow_7 : decode cX2_symbolNow 7 = .ok (.invokevirtual 75, 3) := by decide +kernel
theorem dX2_symbolNow_10 : decode cX2_symbolNow 10 = .ok (.ireturn, 1) := by decide +kernel
set_option maxRecDepth 20000 in
theorem ggX2_begin_J7_fill_d0a16 : GoodIn wsX2_begin wsJ7_fill_d0a16 := goodIn_r _ [14] (by decide +kernel) (by decide +kernel)
set_option maxRecDepth 20000 in
theorem gX2_begin_J7_fill_d0a16 : GoodIn wsX2_begin (va_wsS RX2 79 yJ7_fill_d0a16 wsJ7_fill_d0a16) := goodIn_app (goodIn_of _ (by decide +kernel)) ggX2_begin_J7_fill_d0a16
set_option maxRecDepth 20000 in
theorem ggX2_begin_X2_note : GoodIn wsX2_begin wsX2_note := goodIn_r _ [19, 3, 20, 21, 7, 22, 6, 23, 1, 24, 25, 26, 27, 28, 29, 30, 31, 32, 33, 34, 35, 36, 37, 38, 39, 40, 41, 42, 43, 44, 45] (by decide +kernel) (by decide +kernel)
set_option maxRecDepth 20000 in
theorem gX2_begin_X2_note : GoodIn wsX2_begin (wsV RX2 100 RX2 yX2_note wsX2_note) := goodIn_app (goodIn_of _ (by decide +kernel)) ggX2_begin_X2_note
theorem dX2_begin_0 : decode cX2_begin 0 = .ok (.aload_n 0, 1) := by decide +kernel
theorem dX2_begin_1 : decode cX2_begin 1 = .ok (.getfield 27, 3) := by decide +kernel
theorem dX2_begin_4 : decode cX2_begin 4 = .ok (.lconst 0, 1) := by decide +kernel
theorem dX2_begin_5 : decode cX2_begin 5 = .ok (.invokestatic 79, 3) := by decide +kernel
theorem dX2_begin_8 : decode cX2_begin 8 = .ok (.aload_n 0, 1) := by decide +kernel
theorem dX2_begin_9 : decode cX2_begin 9 = .ok (.iconst 0, 1) := by decide +kernel
theorem dX2_begin_10 : decode cX2_begin 10 = .ok (.putfield 50, 3) := by decide +kernel
theorem dX2_begin_13 : decode cX2_begin 13 = .ok (.aload_n 0, 1) := by decide +kernel
theorem dX2_begin_14 : decode cX2_begin 14 = .ok (.iconst 0, 1) := by decide +kernel
theorem dX2_begin_15 : decode cX2_begin 15 = .ok (.putfield 47, 3) := by decide +kernel
theorem dX2_begin_18 : decode cX2_begin 18 = .ok (.aload_n 0, 1) := by decide +kernel
theorem dX2_begin_19 : decode cX2_begin 19 = .ok (.iconst 0, 1) := by decide +kernel
theorem dX2_begin_20 : decode cX2_begin 20 = .ok (.putfield 85, 3) := by decide +kernel
theorem dX2_begin_23 : decode cX2_begin 23 = .ok (.aload_n 0, 1) := by decide +kernel
theorem dX2_begin_24 : decode cX2_begin 24 = .ok (.iconst 0, 1) := by decide +kernel
theorem dX2_begin_25 : decode cX2_begin 25 = .ok (.putfield 88, 3) := by decide +kernel
theorem dX2_begin_28 : decode cX2_begin 28 = .ok (.aload_n 0, 1) := by decide +kernel
theorem dX2_begin_29 : decode cX2_begin 29 = .ok (.iconst 0, 1) := by decide +kernel
theorem dX2_begin_30 : decode cX2_begin 30 = .ok (.putfield 53, 3) := by decide +kernel
theorem dX2_begin_33 : decode cX2_begin 33 = .ok (.aload_n 0, 1) := by decide +kernel
theorem dX2_begin_34 : decode cX2_begin 34 = .ok (.iconst 0, 1) := by decide +kernel
theorem dX2_begin_35 : decode cX2_begin 35 = .ok (.putfield 56, 3) := by decide +kernel
theorem dX2_begin_38 : decode cX2_begin 38 = .ok (.aload_n 0, 1) := by decide +kernel
theorem dX2_begin_39 : decode cX2_begin 39 = .ok (.iconst 0, 1) := by decide +kernel
theorem dX2_begin_40 : decode cX2_begin 40 = .ok (.putfield 91, 3) := by decide +kernel
theorem dX2_begin_43 : decode cX2_begin 43 = .ok (.aload_n 0, 1) := by decide +kernel
theorem dX2_begin_44 : decode cX2_begin 44 = .ok (.iconst 0, 1) := by decide +kernel
theorem dX2_begin_45 : decode cX2_begin 45 = .ok (.putfield 94, 3) := by decide +kernel
theorem dX2_begin_48 : decode cX2_begin 48 = .ok (.aload_n 0, 1) := by decide +kernel
theorem dX2_begin_49 : decode cX2_begin 49 = .ok (.iconst 0, 1) := by decide +kernel
theorem dX2_begin_50 : decode cX2_begin 50 = .ok (.putfield 97, 3) := by decide +kernel
theorem dX2_begin_53 : decode cX2_begin 53 = .ok (.aload_n 0, 1) := by decide +kernel
theorem dX2_begin_54 : decode cX2_begin 54 = .ok (.iconst 0, 1) := by decide +kernel
theorem dX2_begin_55 : decode cX2_begin 55 = .ok (.invokevirtual 100, 3) := by decide +kernel
theorem dX2_begin_58 : decode cX2_begin 58 = .ok (.return_, 1) := by decide +kernel
set_option maxRecDepth 20000 in
theorem ggX2_act_X2_write : GoodIn wsX2_act wsX2_write := goodIn_r _ [16, 1, 17, 18, 19, 20, 21, 22, 15, 23, 24, 25, 26, 27, 42, 43, 44, 45, 46, 47, 48, 49, 50, 51, 52, 53, 54, 55, 56, 57] (by decide +kernel) (by decide +kernel)
set_option maxRecDepth 20000 in
theorem gX2_act_X2_write : GoodIn wsX2_act (wsV RX2 103 RX2 yX2_write wsX2_write) := goodIn_app (goodIn_of _ (by decide +kernel)) ggX2_act_X2_write
set_option maxRecDepth 20000 in
theorem ggX2_act_X2_note : GoodIn wsX2_act wsX2_note := goodIn_r _ [31, 32, 17, 33, 1, 34, 2, 35, 18, 36, 37, 38, 39, 40, 41, 42, 43, 44, 45, 46, 47, 48, 49, 50, 51, 52, 53, 54, 55, 56, 57] (by decide +kernel) (by decide +kernel)
set_option maxRecDepth 20000 in
theorem gX2_act_X2_note : GoodIn wsX2_act (wsV RX2 100 RX2 yX2_note wsX2_note) := goodIn_app (goodIn_of _ (by decide +kernel)) ggX2_act_X2_note
theorem dX2_act_0 : decode cX2_act 0 = .ok (.aload_n 0, 1) := by decide +kernel
theorem dX2_act_1 : decode cX2_act 1 = .ok (.iload_n 1, 1) := by decide +kernel
theorem dX2_act_2 : decode cX2_act 2 = .ok (.iconst 1, 1) := by decide +kernel
theorem dX2_act_3 : decode cX2_act 3 = .ok (.iand, 1) := by decide +kernel
theorem dX2_act_4 : decode cX2_act 4 = .ok (.invokevirtual 103, 3) := by decide +kernel
theorem dX2_act_7 : decode cX2_act 7 = .ok (.aload_n 0, 1) := by decide +kernel
theorem dX2_act_8 : decode cX2_act 8 = .ok (.dup, 1) := by decide +kernel
theorem dX2_act_9 : decode cX2_act 9 = .ok (.getfield 56, 3) := by decide +kernel
theorem dX2_act_12 : decode cX2_act 12 = .ok (.iload_n 1, 1) := by decide +kernel
theorem dX2_act_13 : decode cX2_act 13 = .ok (.iconst 2, 1) := by decide +kernel
theorem dX2_act_14 : decode cX2_act 14 = .ok (.iand, 1) := by decide +kernel
theorem dX2_act_15 : decode cX2_act 15 = .ok (.ifCond .eq 7, 3) := by decide +kernel
theorem dX2_act_18 : decode cX2_act 18 = .ok (.iconst 1, 1) := by decide +kernel
theorem dX2_act_19 : decode cX2_act 19 = .ok (.goto 4, 3) := by decide +kernel
theorem dX2_act_22 : decode cX2_act 22 = .ok (.iconst (-1), 1) := by decide +kernel
theorem dX2_act_23 : decode cX2_act 23 = .ok (.iadd, 1) := by decide +kernel
theorem dX2_act_24 : decode cX2_act 24 = .ok (.putfield 56, 3) := by decide +kernel
theorem dX2_act_27 : decode cX2_act 27 = .ok (.aload_n 0, 1) := by decide +kernel
theorem dX2_act_28 : decode cX2_act 28 = .ok (.iload_n 1, 1) := by decide +kernel
theorem dX2_act_29 : decode cX2_act 29 = .ok (.iconst 2, 1) := by decide +kernel
theorem dX2_act_30 : decode cX2_act 30 = .ok (.ishr, 1) := by decide +kernel
theorem dX2_act_31 : decode cX2_act 31 = .ok (.putfield 53, 3) := by decide +kernel
theorem dX2_act_34 : decode cX2_act 34 = .ok (.aload_n 0, 1) := by decide +kernel
theorem dX2_act_35 : decode cX2_act 35 = .ok (.getfield 56, 3) := by decide +kernel
theorem dX2_act_38 : decode cX2_act 38 = .ok (.aload_n 0, 1) := by decide +kernel
theorem dX2_act_39 : decode cX2_act 39 = .ok (.getfield 97, 3) := by decide +kernel
theorem dX2_act_42 : decode cX2_act 42 = .ok (.if_icmp .le 7, 3) := by decide +kernel
theorem dX2_act_45 : decode cX2_act 45 = .ok (.iconst 1, 1) := by decide +kernel
theorem dX2_act_46 : decode cX2_act 46 = .ok (.goto 19, 3) := by decide +kernel
theorem dX2_act_49 : decode cX2_act 49 = .ok (.aload_n 0, 1) := by decide +kernel
theorem dX2_act_50 : decode cX2_act 50 = .ok (.getfield 56, 3) := by decide +kernel
theorem dX2_act_53 : decode cX2_act 53 = .ok (.aload_n 0, 1) := by decide +kernel
theorem dX2_act_54 : decode cX2_act 54 = .ok (.getfield 94, 3) := by decide +kernel
theorem dX2_act_57 : decode cX2_act 57 = .ok (.if_icmp .ge 7, 3) := by decide +kernel
theorem dX2_act_60 : decode cX2_act 60 = .ok (.iconst (-1), 1) := by decide +kernel
theorem dX2_act_61 : decode cX2_act 61 = .ok (.goto 4, 3) := by decide +kernel
theorem dX2_act_64 : decode cX2_act 64 = .ok (.iconst 0, 1) := by decide +kernel
theorem dX2_act_65 : decode cX2_act 65 = .ok (.istore_n 2, 1) := by decide +kernel
theorem dX2_act_66 : decode cX2_act 66 = .ok (.aload_n 0, 1) := by decide +kernel
theorem dX2_act_67 : decode cX2_act 67 = .ok (.aload_n 0, 1) := by decide +kernel
theorem dX2_act_68 : decode cX2_act 68 = .ok (.getfield 94, 3) := by decide +kernel
theorem dX2_act_71 : decode cX2_act 71 = .ok (.aload_n 0, 1) := by decide +kernel
theorem dX2_act_72 : decode cX2_act 72 = .ok (.getfield 56, 3) := by decide +kernel
theorem dX2_act_75 : decode cX2_act 75 = .ok (.invokestatic 9, 3) := by decide +kernel
theorem dX2_act_78 : decode cX2_act 78 = .ok (.putfield 94, 3) := by decide +kernel
theorem dX2_act_81 : decode cX2_act 81 = .ok (.aload_n 0, 1) := by decide +kernel
theorem dX2_act_82 : decode cX2_act 82 = .ok (.aload_n 0, 1) := by decide +kernel
theorem dX2_act_83 : decode cX2_act 83 = .ok (.getfield 97, 3) := by decide +kernel
theorem dX2_act_86 : decode cX2_act 86 = .ok (.aload_n 0, 1) := by decide +kernel
theorem dX2_act_87 : decode cX2_act 87 = .ok (.getfield 56, 3) := by decide +kernel
theorem dX2_act_90 : decode cX2_act 90 = .ok (.invokestatic 15, 3) := by decide +kernel
theorem dX2_act_93 : decode cX2_act 93 = .ok (.putfield 97, 3) := by decide +kernel
theorem dX2_act_96 : decode cX2_act 96 = .ok (.aload_n 0, 1) := by decide +kernel
theorem dX2_act_97 : decode cX2_act 97 = .ok (.iload_n 2, 1) := by decide +kernel
theorem dX2_act_98 : decode cX2_act 98 = .ok (.invokevirtual 100, 3) := by decide +kernel
theorem dX2_act_101 : decode cX2_act 101 = .ok (.return_, 1) := by decide +kernel
set_option maxRecDepth 20000 in
theorem ggX2_write_X2_symbolNow : GoodIn wsX2_write wsX2_symbolNow := goodIn_r _ [9, 3, 10, 11, 12, 8, 13, 2, 14, 15, 16, 17, 18, 19, 20, 21, 22, 23, 24, 25, 26, 27, 28, 29] (by decide +kernel) (by decide +kernel)
set_option maxRecDepth 20000 in
theorem gX2_write_X2_symbolNow : GoodIn wsX2_write (wsV RX2 59 RX2 yX2_symbolNow wsX2_symbolNow) := goodIn_app (goodIn_of _ (by decide +kernel)) ggX2_write_X2_symbolNow
theorem dX2_write_0 : decode cX2_write 0 = .ok (.aload_n 0, 1) := by decide +kernel
theorem dX2_write_1 : decode cX2_write 1 = .ok (.getfield 56, 3) := by decide +kernel
theorem dX2_write_4 : decode cX2_write 4 = .ok (.aload_n 0, 1) := by decide +kernel
theorem dX2_write_5 : decode cX2_write 5 = .ok (.getfield 18, 3) := by decide +kernel
theorem dX2_write_8 : decode cX2_write 8 = .ok (.iadd, 1) := by decide +kernel
theorem dX2_write_9 : decode cX2_write 9 = .ok (.istore_n 2, 1) := by decide +kernel
theorem dX2_write_10 : decode cX2_write 10 = .ok (.iload_n 2, 1) := by decide +kernel
theorem dX2_write_11 : decode cX2_write 11 = .ok (.bipush 6, 2) := by decide +kernel
theorem dX2_write_13 : decode cX2_write 13 = .ok (.ishr, 1) := by decide +kernel
theorem dX2_write_14 : decode cX2_write 14 = .ok (.istore_n 3, 1) := by decide +kernel
theorem dX2_write_15 : decode cX2_write 15 = .ok (.aload_n 0, 1) := by decide +kernel
theorem dX2_write_16 : decode cX2_write 16 = .ok (.aload_n 0, 1) := by decide +kernel
theorem dX2_write_17 : decode cX2_write 17 = .ok (.getfield 56, 3) := by decide +kernel
theorem dX2_write_20 : decode cX2_write 20 = .ok (.invokevirtual 59, 3) := by decide +kernel
theorem dX2_write_23 : decode cX2_write 23 = .ok (.istore 4, 2) := by decide +kernel
theorem dX2_write_25 : decode cX2_write 25 = .ok (.iload 4, 2) := by decide +kernel
theorem dX2_write_27 : decode cX2_write 27 = .ok (.iload_n 1, 1) := by decide +kernel
theorem dX2_write_28 : decode cX2_write 28 = .ok (.if_icmp .eq 44, 3) := by decide +kernel
theorem dX2_write_31 : decode cX2_write 31 = .ok (.iload_n 3, 1) := by decide +kernel
theorem dX2_write_32 : decode cX2_write 32 = .ok (.ifCond .lt 40, 3) := by decide +kernel
theorem dX2_write_35 : decode cX2_write 35 = .ok (.iload_n 3, 1) := by decide +kernel
theorem dX2_write_36 : decode cX2_write 36 = .ok (.aload_n 0, 1) := by decide +kernel
theorem dX2_write_37 : decode cX2_write 37 = .ok (.getfield 27, 3) := by decide +kernel
theorem dX2_write_40 : decode cX2_write 40 = .ok (.arraylength, 1) := by decide +kernel
theorem dX2_write_41 : decode cX2_write 41 = .ok (.if_icmp .ge 31, 3) := by decide +kernel
theorem dX2_write_44 : decode cX2_write 44 = .ok (.aload_n 0, 1) := by decide +kernel
theorem dX2_write_45 : decode cX2_write 45 = .ok (.getfield 27, 3) := by decide +kernel
theorem dX2_write_48 : decode cX2_write 48 = .ok (.iload_n 3, 1) := by decide +kernel
theorem dX2_write_49 : decode cX2_write 49 = .ok (.dup2, 1) := by decide +kernel
theorem dX2_write_50 : decode cX2_write 50 = .ok (.laload, 1) := by decide +kernel
theorem dX2_write_51 : decode cX2_write 51 = .ok (.lconst 1, 1) := by decide +kernel
theorem dX2_write_52 : decode cX2_write 52 = .ok (.iload_n 2, 1) := by decide +kernel
theorem dX2_write_53 : decode cX2_write 53 = .ok (.bipush 63, 2) := by decide +kernel
theorem dX2_write_55 : decode cX2_write 55 = .ok (.iand, 1) := by decide +kernel
theorem dX2_write_56 : decode cX2_write 56 = .ok (.lshl, 1) := by decide +kernel
theorem dX2_write_57 : decode cX2_write 57 = .ok (.lxor, 1) := by decide +kernel
theorem dX2_write_58 : decode cX2_write 58 = .ok (.lastore, 1) := by decide +kernel
theorem dX2_write_59 : decode cX2_write 59 = .ok (.aload_n 0, 1) := by decide +kernel
theorem dX2_write_60 : decode cX2_write 60 = .ok (.dup, 1) := by decide +kernel
theorem dX2_write_61 : decode cX2_write 61 = .ok (.getfield 91, 3) := by decide +kernel
theorem dX2_write_64 : decode cX2_write 64 = .ok (.iload_n 1, 1) := by decide +kernel
theorem dX2_write_65 : decode cX2_write 65 = .ok (.iload 4, 2) := by decide +kernel
theorem dX2_write_67 : decode cX2_write 67 = .ok (.isub, 1) := by decide +kernel
theorem dX2_write_68 : decode cX2_write 68 = .ok (.iadd, 1) := by decide +kernel
theorem dX2_write_69 : decode cX2_write 69 = .ok (.putfield 91, 3) := by decide +kernel
theorem dX2_write_72 : decode cX2_write 72 = .ok (.return_, 1) := by decide +kernel
theorem dX2_note_0 : decode cX2_note 0 = .ok (.aload_n 0, 1) := by decide +kernel
theorem dX2_note_1 : decode cX2_note 1 = .ok (.getfield 47, 3) := by decide +kernel
theorem dX2_note_4 : decode cX2_note 4 = .ok (.ifCond .lt 14, 3) := by decide +kernel
theorem dX2_note_7 : decode cX2_note 7 = .ok (.aload_n 0, 1) := by decide +kernel
theorem dX2_note_8 : decode cX2_note 8 = .ok (.getfield 47, 3) := by decide +kernel
theorem dX2_note_11 : decode cX2_note 11 = .ok (.aload_n 0, 1) := by decide +kernel
theorem dX2_note_12 : decode cX2_note 12 = .ok (.getfield 18, 3) := by decide +kernel
theorem dX2_note_15 : decode cX2_note 15 = .ok (.if_icmp .le 4, 3) := by decide +kernel
theorem dX2_note_18 : decode cX2_note 18 = .ok (.return_, 1) := by decide +kernel
theorem dX2_note_19 : decode cX2_note 19 = .ok (.aload_n 0, 1) := by decide +kernel
theorem dX2_note_20 : decode cX2_note 20 = .ok (.getfield 34, 3) := by decide +kernel
theorem dX2_note_23 : decode cX2_note 23 = .ok (.aload_n 0, 1) := by decide +kernel
theorem dX2_note_24 : decode cX2_note 24 = .ok (.getfield 47, 3) := by decide +kernel
theorem dX2_note_27 : decode cX2_note 27 = .ok (.aload_n 0, 1) := by decide +kernel
theorem dX2_note_28 : decode cX2_note 28 = .ok (.getfield 56, 3) := by decide +kernel
theorem dX2_note_31 : decode cX2_note 31 = .ok (.iastore, 1) := by decide +kernel
theorem dX2_note_32 : decode cX2_note 32 = .ok (.aload_n 0, 1) := by decide +kernel
theorem dX2_note_33 : decode cX2_note 33 = .ok (.getfield 38, 3) := by decide +kernel
theorem dX2_note_36 : decode cX2_note 36 = .ok (.aload_n 0, 1) := by decide +kernel
theorem dX2_note_37 : decode cX2_note 37 = .ok (.getfield 47, 3) := by decide +kernel
theorem dX2_note_40 : decode cX2_note 40 = .ok (.aload_n 0, 1) := by decide +kernel
theorem dX2_note_41 : decode cX2_note 41 = .ok (.getfield 53, 3) := by decide +kernel
theorem dX2_note_44 : decode cX2_note 44 = .ok (.iastore, 1) := by decide +kernel
theorem dX2_note_45 : decode cX2_note 45 = .ok (.aload_n 0, 1) := by decide +kernel
theorem dX2_note_46 : decode cX2_note 46 = .ok (.getfield 41, 3) := by decide +kernel
theorem dX2_note_49 : decode cX2_note 49 = .ok (.aload_n 0, 1) := by decide +kernel
theorem dX2_note_50 : decode cX2_note 50 = .ok (.getfield 47, 3) := by decide +kernel
theorem dX2_note_53 : decode cX2_note 53 = .ok (.iload_n 1, 1) := by decide +kernel
theorem dX2_note_54 : decode cX2_note 54 = .ok (.iastore, 1) := by decide +kernel
theorem dX2_note_55 : decode cX2_note 55 = .ok (.aload_n 0, 1) := by decide +kernel
theorem dX2_note_56 : decode cX2_note 56 = .ok (.getfield 27, 3) := by decide +kernel
theorem dX2_note_59 : decode cX2_note 59 = .ok (.iconst 0, 1) := by decide +kernel
theorem dX2_note_60 : decode cX2_note 60 = .ok (.aload_n 0, 1) := by decide +kernel
theorem dX2_note_61 : decode cX2_note 61 = .ok (.getfield 31, 3) := by decide +kernel
theorem dX2_note_64 : decode cX2_note 64 = .ok (.aload_n 0, 1) := by decide +kernel
theorem dX2_note_65 : decode cX2_note 65 = .ok (.getfield 47, 3) := by decide +kernel
theorem dX2_note_68 : decode cX2_note 68 = .ok (.aload_n 0, 1) := by decide +kernel
theorem dX2_note_69 : decode cX2_note 69 = .ok (.getfield 24, 3) := by decide +kernel
theorem dX2_note_72 : decode cX2_note 72 = .ok (.imul, 1) := by decide +kernel
theorem dX2_note_73 : decode cX2_note 73 = .ok (.aload_n 0, 1) := by decide +kernel
theorem dX2_note_74 : decode cX2_note 74 = .ok (.getfield 24, 3) := by decide +kernel
theorem dX2_note_77 : decode cX2_note 77 = .ok (.invokestatic 106, 3) := by decide +kernel
theorem dX2_note_80 : decode cX2_note 80 = .ok (.return_, 1) := by decide +kernel
set_option maxRecDepth 20000 in
theorem ggX2_look_X2_latestSame : GoodIn wsX2_look wsX2_latestSame := goodIn_r _ [11, 2, 12, 13, 14, 15, 16, 4, 5, 17, 18, 19, 20, 21, 10, 22, 23, 24, 25, 39, 40, 41, 42, 43, 44, 45, 46, 47, 48, 49, 50, 51, 52, 53, 54] (by decide +kernel) (by decide +kernel)
set_option maxRecDepth 20000 in
theorem gX2_look_X2_latestSame : GoodIn wsX2_look (wsV RX2 112 RX2 yX2_latestSame wsX2_latestSame) := goodIn_app (goodIn_of _ (by decide +kernel)) ggX2_look_X2_latestSame
set_option maxRecDepth 20000 in
theorem ggX2_look_X2_latestDrift : GoodIn wsX2_look wsX2_latestDrift := goodIn_r _ [29, 2, 12, 13, 14, 15, 16, 30, 5, 4, 17, 18, 31, 32, 33, 10, 34, 24, 23, 25, 35, 36, 37, 38, 39, 40, 41, 42, 43, 44, 45, 46, 47, 48, 49, 50, 51, 52, 53, 54] (by decide +kernel) (by decide +kernel)
set_option maxRecDepth 20000 in
theorem gX2_look_X2_latestDrift : GoodIn wsX2_look (wsV RX2 116 RX2 yX2_latestDrift wsX2_latestDrift) := goodIn_app (goodIn_of _ (by decide +kernel)) ggX2_look_X2_latestDrift
theorem dX2_look_0 : decode cX2_look 0 = .ok (.aload_n 0, 1) := by decide +kernel
theorem dX2_look_1 : decode cX2_look 1 = .ok (.invokevirtual 112, 3) := by decide +kernel
theorem dX2_look_4 : decode cX2_look 4 = .ok (.istore_n 1, 1) := by decide +kernel
theorem dX2_look_5 : decode cX2_look 5 = .ok (.iload_n 1, 1) := by decide +kernel
theorem dX2_look_6 : decode cX2_look 6 = .ok (.ifCond .lt 19, 3) := by decide +kernel
theorem dX2_look_9 : decode cX2_look 9 = .ok (.aload_n 0, 1) := by decide +kernel
theorem dX2_look_10 : decode cX2_look 10 = .ok (.iconst 2, 1) := by decide +kernel
theorem dX2_look_11 : decode cX2_look 11 = .ok (.putfield 50, 3) := by decide +kernel
theorem dX2_look_14 : decode cX2_look 14 = .ok (.aload_n 0, 1) := by decide +kernel
theorem dX2_look_15 : decode cX2_look 15 = .ok (.aload_n 0, 1) := by decide +kernel
theorem dX2_look_16 : decode cX2_look 16 = .ok (.getfield 47, 3) := by decide +kernel
theorem dX2_look_19 : decode cX2_look 19 = .ok (.iload_n 1, 1) := by decide +kernel
theorem dX2_look_20 : decode cX2_look 20 = .ok (.isub, 1) := by decide +kernel
theorem dX2_look_21 : decode cX2_look 21 = .ok (.putfield 85, 3) := by decide +kernel
theorem dX2_look_24 : decode cX2_look 24 = .ok (.return_, 1) := by decide +kernel
theorem dX2_look_25 : decode cX2_look 25 = .ok (.aload_n 0, 1) := by decide +kernel
theorem dX2_look_26 : decode cX2_look 26 = .ok (.invokevirtual 116, 3) := by decide +kernel
theorem dX2_look_29 : decode cX2_look 29 = .ok (.istore_n 2, 1) := by decide +kernel
theorem dX2_look_30 : decode cX2_look 30 = .ok (.iload_n 2, 1) := by decide +kernel
theorem dX2_look_31 : decode cX2_look 31 = .ok (.ifCond .lt 42, 3) := by decide +kernel
theorem dX2_look_34 : decode cX2_look 34 = .ok (.iload_n 2, 1) := by decide +kernel
theorem dX2_look_35 : decode cX2_look 35 = .ok (.aload_n 0, 1) := by decide +kernel
theorem dX2_look_36 : decode cX2_look 36 = .ok (.getfield 34, 3) := by decide +kernel
theorem dX2_look_39 : decode cX2_look 39 = .ok (.arraylength, 1) := by decide +kernel
theorem dX2_look_40 : decode cX2_look 40 = .ok (.if_icmp .ge 33, 3) := by decide +kernel
theorem dX2_look_43 : decode cX2_look 43 = .ok (.aload_n 0, 1) := by decide +kernel
theorem dX2_look_44 : decode cX2_look 44 = .ok (.iconst 3, 1) := by decide +kernel
theorem dX2_look_45 : decode cX2_look 45 = .ok (.putfield 50, 3) := by decide +kernel
theorem dX2_look_48 : decode cX2_look 48 = .ok (.aload_n 0, 1) := by decide +kernel
theorem dX2_look_49 : decode cX2_look 49 = .ok (.aload_n 0, 1) := by decide +kernel
theorem dX2_look_50 : decode cX2_look 50 = .ok (.getfield 47, 3) := by decide +kernel
theorem dX2_look_53 : decode cX2_look 53 = .ok (.iload_n 2, 1) := by decide +kernel
theorem dX2_look_54 : decode cX2_look 54 = .ok (.isub, 1) := by decide +kernel
theorem dX2_look_55 : decode cX2_look 55 = .ok (.putfield 85, 3) := by decide +kernel
theorem dX2_look_58 : decode cX2_look 58 = .ok (.aload_n 0, 1) := by decide +kernel
theorem dX2_look_59 : decode cX2_look 59 = .ok (.aload_n 0, 1) := by decide +kernel
theorem dX2_look_60 : decode cX2_look 60 = .ok (.getfield 56, 3) := by decide +kernel
theorem dX2_look_63 : decode cX2_look 63 = .ok (.aload_n 0, 1) := by decide +kernel
theorem dX2_look_64 : decode cX2_look 64 = .ok (.getfield 34, 3) := by decide +kernel
theorem dX2_look_67 : decode cX2_look 67 = .ok (.iload_n 2, 1) := by decide +kernel
theorem dX2_look_68 : decode cX2_look 68 = .ok (.iaload, 1) := by decide +kernel
theorem dX2_look_69 : decode cX2_look 69 = .ok (.isub, 1) := by decide +kernel
theorem dX2_look_70 : decode cX2_look 70 = .ok (.putfield 88, 3) := by decide +kernel
theorem dX2_look_73 : decode cX2_look 73 = .ok (.return_, 1) := by decide +kernel
set_option maxRecDepth 20000 in
theorem ggX2_latestSame_X2_sameTape : GoodIn wsX2_latestSame wsX2_sameTape := goodIn_r _ [15, 16, 17, 18, 19, 20, 21, 22, 23, 24, 25, 26, 27, 28, 29, 30, 31, 32, 33, 34] (by decide +kernel) (by decide +kernel)
set_option maxRecDepth 20000 in
theorem gX2_latestSame_X2_sameTape : GoodIn wsX2_latestSame (wsV RX2 119 RX2 yX2_sameTape wsX2_sameTape) := goodIn_app (goodIn_of _ (by decide +kernel)) ggX2_latestSame_X2_sameTape
theorem dX2_latestSame_0 : decode cX2_latestSame 0 = .ok (.aload_n 0, 1) := by decide +kernel
theorem dX2_latestSame_1 : decode cX2_latestSame 1 = .ok (.getfield 47, 3) := by decide +kernel
theorem dX2_latestSame_4 : decode cX2_latestSame 4 = .ok (.aload_n 0, 1) := by decide +kernel
theorem dX2_latestSame_5 : decode cX2_latestSame 5 = .ok (.getfield 18, 3) := by decide +kernel
theorem dX2_latestSame_8 : decode cX2_latestSame 8 = .ok (.invokestatic 9, 3) := by decide +kernel
theorem dX2_latestSame_11 : decode cX2_latestSame 11 = .ok (.iconst 2, 1) := by decide +kernel
theorem dX2_latestSame_12 : decode cX2_latestSame 12 = .ok (.isub, 1) := by decide +kernel
theorem dX2_latestSame_13 : decode cX2_latestSame 13 = .ok (.istore_n 1, 1) := by decide +kernel
theorem dX2_latestSame_14 : decode cX2_latestSame 14 = .ok (.iload_n 1, 1) := by decide +kernel
theorem dX2_latestSame_15 : decode cX2_latestSame 15 = .ok (.ifCond .lt 45, 3) := by decide +kernel
theorem dX2_latestSame_18 : decode cX2_latestSame 18 = .ok (.aload_n 0, 1) := by decide +kernel
theorem dX2_latestSame_19 : decode cX2_latestSame 19 = .ok (.getfield 34, 3) := by decide +kernel
theorem dX2_latestSame_22 : decode cX2_latestSame 22 = .ok (.iload_n 1, 1) := by decide +kernel
theorem dX2_latestSame_23 : decode cX2_latestSame 23 = .ok (.iaload, 1) := by decide +kernel
theorem dX2_latestSame_24 : decode cX2_latestSame 24 = .ok (.aload_n 0, 1) := by decide +kernel
theorem dX2_latestSame_25 : decode cX2_latestSame 25 = .ok (.getfield 56, 3) := by decide +kernel
theorem dX2_latestSame_28 : decode cX2_latestSame 28 = .ok (.if_icmp .ne 26, 3) := by decide +kernel
theorem dX2_latestSame_31 : decode cX2_latestSame 31 = .ok (.aload_n 0, 1) := by decide +kernel
theorem dX2_latestSame_32 : decode cX2_latestSame 32 = .ok (.getfield 38, 3) := by decide +kernel
theorem dX2_latestSame_35 : decode cX2_latestSame 35 = .ok (.iload_n 1, 1) := by decide +kernel
theorem dX2_latestSame_36 : decode cX2_latestSame 36 = .ok (.iaload, 1) := by decide +kernel
theorem dX2_latestSame_37 : decode cX2_latestSame 37 = .ok (.aload_n 0, 1) := by decide +kernel
theorem dX2_latestSame_38 : decode cX2_latestSame 38 = .ok (.getfield 53, 3) := by decide +kernel
theorem dX2_latestSame_41 : decode cX2_latestSame 41 = .ok (.if_icmp .ne 13, 3) := by decide +kernel
theorem dX2_latestSame_44 : decode cX2_latestSame 44 = .ok (.aload_n 0, 1) := by decide +kernel
theorem dX2_latestSame_45 : decode cX2_latestSame 45 = .ok (.iload_n 1, 1) := by decide +kernel
theorem dX2_latestSame_46 : decode cX2_latestSame 46 = .ok (.invokevirtual 119, 3) := by decide +kernel
theorem dX2_latestSame_49 : decode cX2_latestSame 49 = .ok (.ifCond .eq 5, 3) := by decide +kernel
theorem dX2_latestSame_52 : decode cX2_latestSame 52 = .ok (.iload_n 1, 1) := by decide +kernel
theorem dX2_latestSame_53 : decode cX2_latestSame 53 = .ok (.ireturn, 1) := by decide +kernel
theorem dX2_latestSame_54 : decode cX2_latestSame 54 = .ok (.iinc 1 (-2), 3) := by decide +kernel
theorem dX2_latestSame_57 : decode cX2_latestSame 57 = .ok (.goto (-43), 3) := by decide +kernel
theorem dX2_latestSame_60 : decode cX2_latestSame 60 = .ok (.iconst (-1), 1) := by decide +kernel
theorem dX2_latestSame_61 : decode cX2_latestSame 61 = .ok (.ireturn, 1) := by decide +kernel
theorem dX2_sameTape_0 : decode cX2_sameTape 0 = .ok (.iload_n 1, 1) := by decide +kernel
theorem dX2_sameTape_1 : decode cX2_sameTape 1 = .ok (.aload_n 0, 1) := by decide +kernel
theorem dX2_sameTape_2 : decode cX2_sameTape 2 = .ok (.getfield 24, 3) := by decide +kernel
theorem dX2_sameTape_5 : decode cX2_sameTape 5 = .ok (.imul, 1) := by decide +kernel
theorem dX2_sameTape_6 : decode cX2_sameTape 6 = .ok (.istore_n 2, 1) := by decide +kernel
theorem dX2_sameTape_7 : decode cX2_sameTape 7 = .ok (.iload_n 2, 1) := by decide +kernel
theorem dX2_sameTape_8 : decode cX2_sameTape 8 = .ok (.ifCond .lt 17, 3) := by decide +kernel
theorem dX2_sameTape_11 : decode cX2_sameTape 11 = .ok (.iload_n 2, 1) := by decide +kernel
theorem dX2_sameTape_12 : decode cX2_sameTape 12 = .ok (.aload_n 0, 1) := by decide +kernel
theorem dX2_sameTape_13 : decode cX2_sameTape 13 = .ok (.getfield 24, 3) := by decide +kernel
theorem dX2_sameTape_16 : decode cX2_sameTape 16 = .ok (.iadd, 1) := by decide +kernel
theorem dX2_sameTape_17 : decode cX2_sameTape 17 = .ok (.aload_n 0, 1) := by decide +kernel
theorem dX2_sameTape_18 : decode cX2_sameTape 18 = .ok (.getfield 31, 3) := by decide +kernel
theorem dX2_sameTape_21 : decode cX2_sameTape 21 = .ok (.arraylength, 1) := by decide +kernel
theorem dX2_sameTape_22 : decode cX2_sameTape 22 = .ok (.if_icmp .le 5, 3) := by decide +kernel
theorem dX2_sameTape_25 : decode cX2_sameTape 25 = .ok (.iconst 0, 1) := by decide +kernel
theorem dX2_sameTape_26 : decode cX2_sameTape 26 = .ok (.ireturn, 1) := by decide +kernel
theorem dX2_sameTape_27 : decode cX2_sameTape 27 = .ok (.iconst 0, 1) := by decide +kernel
theorem dX2_sameTape_28 : decode cX2_sameTape 28 = .ok (.istore_n 3, 1) := by decide +kernel
theorem dX2_sameTape_29 : decode cX2_sameTape 29 = .ok (.iload_n 3, 1) := by decide +kernel
theorem dX2_sameTape_30 : decode cX2_sameTape 30 = .ok (.aload_n 0, 1) := by decide +kernel
theorem dX2_sameTape_31 : decode cX2_sameTape 31 = .ok (.getfield 24, 3) := by decide +kernel
theorem dX2_sameTape_34 : decode cX2_sameTape 34 = .ok (.if_icmp .ge 29, 3) := by decide +kernel
theorem dX2_sameTape_37 : decode cX2_sameTape 37 = .ok (.aload_n 0, 1) := by decide +kernel
theorem dX2_sameTape_38 : decode cX2_sameTape 38 = .ok (.getfield 31, 3) := by decide +kernel
theorem dX2_sameTape_41 : decode cX2_sameTape 41 = .ok (.iload_n 2, 1) := by decide +kernel
theorem dX2_sameTape_42 : decode cX2_sameTape 42 = .ok (.iload_n 3, 1) := by decide +kernel
theorem dX2_sameTape_43 : decode cX2_sameTape 43 = .ok (.iadd, 1) := by decide +kernel
theorem dX2_sameTape_44 : decode cX2_sameTape 44 = .ok (.laload, 1) := by decide +kernel
theorem dX2_sameTape_45 : decode cX2_sameTape 45 = .ok (.aload_n 0, 1) := by decide +kernel
theorem dX2_sameTape_46 : decode cX2_sameTape 46 = .ok (.getfield 27, 3) := by decide +kernel
theorem dX2_sameTape_49 : decode cX2_sameTape 49 = .ok (.iload_n 3, 1) := by decide +kernel
theorem dX2_sameTape_50 : decode cX2_sameTape 50 = .ok (.laload, 1) := by decide +kernel
theorem dX2_sameTape_51 : decode cX2_sameTape 51 = .ok (.lcmp, 1) := by decide +kernel
theorem dX2_sameTape_52 : decode cX2_sameTape 52 = .ok (.ifCond .eq 5, 3) := by decide +kernel
theorem dX2_sameTape_55 : decode cX2_sameTape 55 = .ok (.iconst 0, 1) := by decide +kernel
theorem dX2_sameTape_56 : decode cX2_sameTape 56 = .ok (.ireturn, 1) := by decide +kernel
theorem dX2_sameTape_57 : decode cX2_sameTape 57 = .ok (.iinc 3 1, 3) := by decide +kernel
theorem dX2_sameTape_60 : decode cX2_sameTape 60 = .ok (.goto (-31), 3) := by decide +kernel
theorem dX2_sameTape_63 : decode cX2_sameTape 63 = .ok (.iconst 1, 1) := by decide +kernel
theorem dX2_sameTape_64 : decode cX2_sameTape 64 = .ok (.ireturn, 1) := by decide +kernel
set_option maxRecDepth 20000 in
theorem ggX2_latestDrift_X2_sameBehind : GoodIn wsX2_latestDrift wsX2_sameBehind := goodIn_r _ [16, 9, 17, 18, 19, 8, 20, 21, 22, 15, 23, 2, 24, 25, 26, 27, 28, 29, 30, 31, 32, 33, 34, 35, 36, 37, 38, 39] (by decide +kernel) (by decide +kernel)
set_option maxRecDepth 20000 in
theorem gX2_latestDrift_X2_sameBehind : GoodIn wsX2_latestDrift (wsV RX2 123 RX2 yX2_sameBehind wsX2_sameBehind) := goodIn_app (goodIn_of _ (by decide +kernel)) ggX2_latestDrift_X2_sameBehind
theorem dX2_latestDrift_0 : decode cX2_latestDrift 0 = .ok (.aload_n 0, 1) := by decide +kernel
theorem dX2_latestDrift_1 : decode cX2_latestDrift 1 = .ok (.getfield 47, 3) := by decide +kernel
theorem dX2_latestDrift_4 : decode cX2_latestDrift 4 = .ok (.aload_n 0, 1) := by decide +kernel
theorem dX2_latestDrift_5 : decode cX2_latestDrift 5 = .ok (.getfield 18, 3) := by decide +kernel
theorem dX2_latestDrift_8 : decode cX2_latestDrift 8 = .ok (.invokestatic 9, 3) := by decide +kernel
theorem dX2_latestDrift_11 : decode cX2_latestDrift 11 = .ok (.istore_n 1, 1) := by decide +kernel
theorem dX2_latestDrift_12 : decode cX2_latestDrift 12 = .ok (.iload_n 1, 1) := by decide +kernel
theorem dX2_latestDrift_13 : decode cX2_latestDrift 13 = .ok (.ifCond .lt 12, 3) := by decide +kernel
theorem dX2_latestDrift_16 : decode cX2_latestDrift 16 = .ok (.aload_n 0, 1) := by decide +kernel
theorem dX2_latestDrift_17 : decode cX2_latestDrift 17 = .ok (.getfield 41, 3) := by decide +kernel
theorem dX2_latestDrift_20 : decode cX2_latestDrift 20 = .ok (.iload_n 1, 1) := by decide +kernel
theorem dX2_latestDrift_21 : decode cX2_latestDrift 21 = .ok (.iaload, 1) := by decide +kernel
theorem dX2_latestDrift_22 : decode cX2_latestDrift 22 = .ok (.goto 4, 3) := by decide +kernel
theorem dX2_latestDrift_25 : decode cX2_latestDrift 25 = .ok (.iconst 0, 1) := by decide +kernel
theorem dX2_latestDrift_26 : decode cX2_latestDrift 26 = .ok (.istore_n 2, 1) := by decide +kernel
theorem dX2_latestDrift_27 : decode cX2_latestDrift 27 = .ok (.iload_n 2, 1) := by decide +kernel
theorem dX2_latestDrift_28 : decode cX2_latestDrift 28 = .ok (.ifCond .ne 5, 3) := by decide +kernel
theorem dX2_latestDrift_31 : decode cX2_latestDrift 31 = .ok (.iconst (-1), 1) := by decide +kernel
theorem dX2_latestDrift_32 : decode cX2_latestDrift 32 = .ok (.ireturn, 1) := by decide +kernel
theorem dX2_latestDrift_33 : decode cX2_latestDrift 33 = .ok (.iload_n 2, 1) := by decide +kernel
theorem dX2_latestDrift_34 : decode cX2_latestDrift 34 = .ok (.aload_n 0, 1) := by decide +kernel
theorem dX2_latestDrift_35 : decode cX2_latestDrift 35 = .ok (.getfield 56, 3) := by decide +kernel
theorem dX2_latestDrift_38 : decode cX2_latestDrift 38 = .ok (.imul, 1) := by decide +kernel
theorem dX2_latestDrift_39 : decode cX2_latestDrift 39 = .ok (.istore_n 3, 1) := by decide +kernel
theorem dX2_latestDrift_40 : decode cX2_latestDrift 40 = .ok (.iload_n 1, 1) := by decide +kernel
theorem dX2_latestDrift_41 : decode cX2_latestDrift 41 = .ok (.iconst 1, 1) := by decide +kernel
theorem dX2_latestDrift_42 : decode cX2_latestDrift 42 = .ok (.isub, 1) := by decide +kernel
theorem dX2_latestDrift_43 : decode cX2_latestDrift 43 = .ok (.istore 4, 2) := by decide +kernel
theorem dX2_latestDrift_45 : decode cX2_latestDrift 45 = .ok (.iload 4, 2) := by decide +kernel
theorem dX2_latestDrift_47 : decode cX2_latestDrift 47 = .ok (.ifCond .le 69, 3) := by decide +kernel
theorem dX2_latestDrift_50 : decode cX2_latestDrift 50 = .ok (.iload_n 2, 1) := by decide +kernel
theorem dX2_latestDrift_51 : decode cX2_latestDrift 51 = .ok (.aload_n 0, 1) := by decide +kernel
theorem dX2_latestDrift_52 : decode cX2_latestDrift 52 = .ok (.getfield 34, 3) := by decide +kernel
theorem dX2_latestDrift_55 : decode cX2_latestDrift 55 = .ok (.iload 4, 2) := by decide +kernel
theorem dX2_latestDrift_57 : decode cX2_latestDrift 57 = .ok (.iaload, 1) := by decide +kernel
theorem dX2_latestDrift_58 : decode cX2_latestDrift 58 = .ok (.imul, 1) := by decide +kernel
theorem dX2_latestDrift_59 : decode cX2_latestDrift 59 = .ok (.istore 5, 2) := by decide +kernel
theorem dX2_latestDrift_61 : decode cX2_latestDrift 61 = .ok (.iload_n 3, 1) := by decide +kernel
theorem dX2_latestDrift_62 : decode cX2_latestDrift 62 = .ok (.iload 5, 2) := by decide +kernel
theorem dX2_latestDrift_64 : decode cX2_latestDrift 64 = .ok (.invokestatic 9, 3) := by decide +kernel
theorem dX2_latestDrift_67 : decode cX2_latestDrift 67 = .ok (.istore_n 3, 1) := by decide +kernel
theorem dX2_latestDrift_68 : decode cX2_latestDrift 68 = .ok (.aload_n 0, 1) := by decide +kernel
theorem dX2_latestDrift_69 : decode cX2_latestDrift 69 = .ok (.getfield 41, 3) := by decide +kernel
theorem dX2_latestDrift_72 : decode cX2_latestDrift 72 = .ok (.iload 4, 2) := by decide +kernel
theorem dX2_latestDrift_74 : decode cX2_latestDrift 74 = .ok (.iaload, 1) := by decide +kernel
theorem dX2_latestDrift_75 : decode cX2_latestDrift 75 = .ok (.iload_n 2, 1) := by decide +kernel
theorem dX2_latestDrift_76 : decode cX2_latestDrift 76 = .ok (.if_icmp .ne 34, 3) := by decide +kernel
theorem dX2_latestDrift_79 : decode cX2_latestDrift 79 = .ok (.aload_n 0, 1) := by decide +kernel
theorem dX2_latestDrift_80 : decode cX2_latestDrift 80 = .ok (.getfield 38, 3) := by decide +kernel
theorem dX2_latestDrift_83 : decode cX2_latestDrift 83 = .ok (.iload 4, 2) := by decide +kernel
theorem dX2_latestDrift_85 : decode cX2_latestDrift 85 = .ok (.iaload, 1) := by decide +kernel
theorem dX2_latestDrift_86 : decode cX2_latestDrift 86 = .ok (.aload_n 0, 1) := by decide +kernel
theorem dX2_latestDrift_87 : decode cX2_latestDrift 87 = .ok (.getfield 53, 3) := by decide +kernel
theorem dX2_latestDrift_90 : decode cX2_latestDrift 90 = .ok (.if_icmp .ne 20, 3) := by decide +kernel
theorem dX2_latestDrift_93 : decode cX2_latestDrift 93 = .ok (.aload_n 0, 1) := by decide +kernel
theorem dX2_latestDrift_94 : decode cX2_latestDrift 94 = .ok (.iload 4, 2) := by decide +kernel
theorem dX2_latestDrift_96 : decode cX2_latestDrift 96 = .ok (.iload_n 2, 1) := by decide +kernel
theorem dX2_latestDrift_97 : decode cX2_latestDrift 97 = .ok (.iload 5, 2) := by decide +kernel
theorem dX2_latestDrift_99 : decode cX2_latestDrift 99 = .ok (.iload_n 3, 1) := by decide +kernel
theorem dX2_latestDrift_100 : decode cX2_latestDrift 100 = .ok (.isub, 1) := by decide +kernel
theorem dX2_latestDrift_101 : decode cX2_latestDrift 101 = .ok (.invokevirtual 123, 3) := by decide +kernel
theorem dX2_latestDrift_104 : decode cX2_latestDrift 104 = .ok (.ifCond .eq 6, 3) := by decide +kernel
theorem dX2_latestDrift_107 : decode cX2_latestDrift 107 = .ok (.iload 4, 2) := by decide +kernel
theorem dX2_latestDrift_109 : decode cX2_latestDrift 109 = .ok (.ireturn, 1) := by decide +kernel
theorem dX2_latestDrift_110 : decode cX2_latestDrift 110 = .ok (.iinc 4 (-1), 3) := by decide +kernel
theorem dX2_latestDrift_113 : decode cX2_latestDrift 113 = .ok (.goto (-68), 3) := by decide +kernel
theorem dX2_latestDrift_116 : decode cX2_latestDrift 116 = .ok (.iconst (-1), 1) := by decide +kernel
theorem dX2_latestDrift_117 : decode cX2_latestDrift 117 = .ok (.ireturn, 1) := by decide +kernel
set_option maxRecDepth 20000 in
theorem ggX2_sameBehind_X2_symbolIn : GoodIn wsX2_sameBehind wsX2_symbolIn := goodIn_r _ [10, 11, 12, 13, 14, 15, 16, 17, 18, 19, 20, 21, 22, 23, 24, 25, 26, 27] (by decide +kernel) (by decide +kernel)
set_option maxRecDepth 20000 in
theorem gX2_sameBehind_X2_symbolIn : GoodIn wsX2_sameBehind (wsV RX2 75 RX2 yX2_symbolIn wsX2_symbolIn) := goodIn_app (goodIn_of _ (by decide +kernel)) ggX2_sameBehind_X2_symbolIn
theorem dX2_sameBehind_0 : decode cX2_sameBehind 0 = .ok (.iload_n 1, 1) := by decide +kernel
theorem dX2_sameBehind_1 : decode cX2_sameBehind 1 = .ok (.ifCond .lt 12, 3) := by decide +kernel
theorem dX2_sameBehind_4 : decode cX2_sameBehind 4 = .ok (.iload_n 1, 1) := by decide +kernel
theorem dX2_sameBehind_5 : decode cX2_sameBehind 5 = .ok (.aload_n 0, 1) := by decide +kernel
theorem dX2_sameBehind_6 : decode cX2_sameBehind 6 = .ok (.getfield 34, 3) := by decide +kernel
theorem dX2_sameBehind_9 : decode cX2_sameBehind 9 = .ok (.arraylength, 1) := by decide +kernel
theorem dX2_sameBehind_10 : decode cX2_sameBehind 10 = .ok (.if_icmp .lt 5, 3) := by decide +kernel
