theorem dX4_ones_20 : decode cX4_ones 20 = .ok (.iinc 2 1, 3) := by decide +kernel
theorem dX4_ones_23 : decode cX4_ones 23 = .ok (.goto (-19), 3) := by decide +kernel
theorem dX4_ones_26 : decode cX4_ones 26 = .ok (.iload_n 1, 1) := by decide +kernel
theorem dX4_ones_27 : decode cX4_ones 27 = .ok (.ireturn, 1) := by decide +kernel
set_option maxRecDepth 20000 in
theorem ggX4_run_X4_refuse : GoodIn wsX4_run wsX4_refuse := goodIn_r _ [18, 1, 50, 51, 52, 53, 54, 55, 56, 57, 58, 59, 60, 61, 62, 63, 64, 65, 66, 67, 68, 69, 70, 71, 72, 73, 74, 75, 76, 77] (by decide +kernel) (by decide +kernel)
set_option maxRecDepth 20000 in
theorem gX4_run_X4_refuse : GoodIn wsX4_run (wsV RX4 62 RX4 yX4_refuse wsX4_refuse) := goodIn_app (goodIn_of _ (by decide +kernel)) ggX4_run_X4_refuse
set_option maxRecDepth 20000 in
theorem ggX4_run_X4_outcome : GoodIn wsX4_run wsX4_outcome := goodIn_r _ [22, 5, 23, 24, 25, 17, 26, 13, 6, 7, 10, 11, 8, 9, 27, 28, 29, 30, 31, 32, 33, 34, 35, 36, 37, 38, 39, 40, 41, 42, 43, 44, 45, 50, 51, 52, 53, 54, 55, 56, 57, 58, 59, 60, 61, 62, 63, 64, 65, 66, 67, 68, 69, 70, 71, 72, 73, 74, 75, 76, 77] (by decide +kernel) (by decide +kernel)
set_option maxRecDepth 20000 in
theorem gX4_run_X4_outcome : GoodIn wsX4_run (wsV RX4 103 RX4 yX4_outcome wsX4_outcome) := goodIn_app (goodIn_of _ (by decide +kernel)) ggX4_run_X4_outcome
set_option maxRecDepth 20000 in
theorem ggX4_run_X4_ones : GoodIn wsX4_run wsX4_ones := goodIn_r _ [49, 13, 50, 51, 52, 53, 54, 55, 56, 57, 58, 59, 60, 61, 62, 63, 64, 65, 66, 67, 68, 69, 70, 71, 72, 73, 74, 75, 76, 77] (by decide +kernel) (by decide +kernel)
set_option maxRecDepth 20000 in
theorem gX4_run_X4_ones : GoodIn wsX4_run (wsV RX4 107 RX4 yX4_ones wsX4_ones) := goodIn_app (goodIn_of _ (by decide +kernel)) ggX4_run_X4_ones
theorem dX4_run_0 : decode cX4_run 0 = .ok (.aload_n 0, 1) := by decide +kernel
theorem dX4_run_1 : decode cX4_run 1 = .ok (.iconst 0, 1) := by decide +kernel
theorem dX4_run_2 : decode cX4_run 2 = .ok (.putfield 59, 3) := by decide +kernel
theorem dX4_run_5 : decode cX4_run 5 = .ok (.iload_n 1, 1) := by decide +kernel
theorem dX4_run_6 : decode cX4_run 6 = .ok (.iconst 1, 1) := by decide +kernel
theorem dX4_run_7 : decode cX4_run 7 = .ok (.if_icmp .lt 10, 3) := by decide +kernel
theorem dX4_run_10 : decode cX4_run 10 = .ok (.iload_n 1, 1) := by decide +kernel
theorem dX4_run_11 : decode cX4_run 11 = .ok (.sipush 300, 3) := by decide +kernel
theorem dX4_run_14 : decode cX4_run 14 = .ok (.if_icmp .le 9, 3) := by decide +kernel
theorem dX4_run_17 : decode cX4_run 17 = .ok (.aload_n 0, 1) := by decide +kernel
theorem dX4_run_18 : decode cX4_run 18 = .ok (.iconst 1, 1) := by decide +kernel
theorem dX4_run_19 : decode cX4_run 19 = .ok (.invokevirtual 62, 3) := by decide +kernel
theorem dX4_run_22 : decode cX4_run 22 = .ok (.ireturn, 1) := by decide +kernel
theorem dX4_run_23 : decode cX4_run 23 = .ok (.aload_n 0, 1) := by decide +kernel
theorem dX4_run_24 : decode cX4_run 24 = .ok (.aload_n 0, 1) := by decide +kernel
theorem dX4_run_25 : decode cX4_run 25 = .ok (.getfield 7, 3) := by decide +kernel
theorem dX4_run_28 : decode cX4_run 28 = .ok (.iload_n 1, 1) := by decide +kernel
theorem dX4_run_29 : decode cX4_run 29 = .ok (.invokevirtual 103, 3) := by decide +kernel
theorem dX4_run_32 : decode cX4_run 32 = .ok (.istore_n 2, 1) := by decide +kernel
theorem dX4_run_33 : decode cX4_run 33 = .ok (.aload_n 0, 1) := by decide +kernel
theorem dX4_run_34 : decode cX4_run 34 = .ok (.iconst 1, 1) := by decide +kernel
theorem dX4_run_35 : decode cX4_run 35 = .ok (.putfield 66, 3) := by decide +kernel
theorem dX4_run_38 : decode cX4_run 38 = .ok (.aload_n 0, 1) := by decide +kernel
theorem dX4_run_39 : decode cX4_run 39 = .ok (.getfield 37, 3) := by decide +kernel
theorem dX4_run_42 : decode cX4_run 42 = .ok (.iconst 0, 1) := by decide +kernel
theorem dX4_run_43 : decode cX4_run 43 = .ok (.iload_n 2, 1) := by decide +kernel
theorem dX4_run_44 : decode cX4_run 44 = .ok (.iastore, 1) := by decide +kernel
theorem dX4_run_45 : decode cX4_run 45 = .ok (.aload_n 0, 1) := by decide +kernel
theorem dX4_run_46 : decode cX4_run 46 = .ok (.getfield 37, 3) := by decide +kernel
theorem dX4_run_49 : decode cX4_run 49 = .ok (.iconst 1, 1) := by decide +kernel
theorem dX4_run_50 : decode cX4_run 50 = .ok (.aload_n 0, 1) := by decide +kernel
theorem dX4_run_51 : decode cX4_run 51 = .ok (.getfield 70, 3) := by decide +kernel
theorem dX4_run_54 : decode cX4_run 54 = .ok (.iastore, 1) := by decide +kernel
theorem dX4_run_55 : decode cX4_run 55 = .ok (.aload_n 0, 1) := by decide +kernel
theorem dX4_run_56 : decode cX4_run 56 = .ok (.getfield 37, 3) := by decide +kernel
theorem dX4_run_59 : decode cX4_run 59 = .ok (.iconst 2, 1) := by decide +kernel
theorem dX4_run_60 : decode cX4_run 60 = .ok (.aload_n 0, 1) := by decide +kernel
theorem dX4_run_61 : decode cX4_run 61 = .ok (.getfield 73, 3) := by decide +kernel
theorem dX4_run_64 : decode cX4_run 64 = .ok (.iastore, 1) := by decide +kernel
theorem dX4_run_65 : decode cX4_run 65 = .ok (.aload_n 0, 1) := by decide +kernel
theorem dX4_run_66 : decode cX4_run 66 = .ok (.getfield 37, 3) := by decide +kernel
theorem dX4_run_69 : decode cX4_run 69 = .ok (.iconst 3, 1) := by decide +kernel
theorem dX4_run_70 : decode cX4_run 70 = .ok (.aload_n 0, 1) := by decide +kernel
theorem dX4_run_71 : decode cX4_run 71 = .ok (.getfield 76, 3) := by decide +kernel
theorem dX4_run_74 : decode cX4_run 74 = .ok (.iastore, 1) := by decide +kernel
theorem dX4_run_75 : decode cX4_run 75 = .ok (.aload_n 0, 1) := by decide +kernel
theorem dX4_run_76 : decode cX4_run 76 = .ok (.getfield 37, 3) := by decide +kernel
theorem dX4_run_79 : decode cX4_run 79 = .ok (.iconst 4, 1) := by decide +kernel
theorem dX4_run_80 : decode cX4_run 80 = .ok (.aload_n 0, 1) := by decide +kernel
theorem dX4_run_81 : decode cX4_run 81 = .ok (.getfield 25, 3) := by decide +kernel
theorem dX4_run_84 : decode cX4_run 84 = .ok (.aload_n 0, 1) := by decide +kernel
theorem dX4_run_85 : decode cX4_run 85 = .ok (.getfield 70, 3) := by decide +kernel
theorem dX4_run_88 : decode cX4_run 88 = .ok (.iaload, 1) := by decide +kernel
theorem dX4_run_89 : decode cX4_run 89 = .ok (.iastore, 1) := by decide +kernel
theorem dX4_run_90 : decode cX4_run 90 = .ok (.aload_n 0, 1) := by decide +kernel
theorem dX4_run_91 : decode cX4_run 91 = .ok (.getfield 37, 3) := by decide +kernel
theorem dX4_run_94 : decode cX4_run 94 = .ok (.iconst 5, 1) := by decide +kernel
theorem dX4_run_95 : decode cX4_run 95 = .ok (.aload_n 0, 1) := by decide +kernel
theorem dX4_run_96 : decode cX4_run 96 = .ok (.getfield 28, 3) := by decide +kernel
theorem dX4_run_99 : decode cX4_run 99 = .ok (.aload_n 0, 1) := by decide +kernel
theorem dX4_run_100 : decode cX4_run 100 = .ok (.getfield 70, 3) := by decide +kernel
theorem dX4_run_103 : decode cX4_run 103 = .ok (.iaload, 1) := by decide +kernel
theorem dX4_run_104 : decode cX4_run 104 = .ok (.iastore, 1) := by decide +kernel
theorem dX4_run_105 : decode cX4_run 105 = .ok (.aload_n 0, 1) := by decide +kernel
theorem dX4_run_106 : decode cX4_run 106 = .ok (.getfield 37, 3) := by decide +kernel
theorem dX4_run_109 : decode cX4_run 109 = .ok (.bipush 6, 2) := by decide +kernel
theorem dX4_run_111 : decode cX4_run 111 = .ok (.aload_n 0, 1) := by decide +kernel
theorem dX4_run_112 : decode cX4_run 112 = .ok (.invokevirtual 107, 3) := by decide +kernel
theorem dX4_run_115 : decode cX4_run 115 = .ok (.iastore, 1) := by decide +kernel
theorem dX4_run_116 : decode cX4_run 116 = .ok (.aload_n 0, 1) := by decide +kernel
theorem dX4_run_117 : decode cX4_run 117 = .ok (.getfield 37, 3) := by decide +kernel
theorem dX4_run_120 : decode cX4_run 120 = .ok (.bipush 7, 2) := by decide +kernel
theorem dX4_run_122 : decode cX4_run 122 = .ok (.aload_n 0, 1) := by decide +kernel
theorem dX4_run_123 : decode cX4_run 123 = .ok (.getfield 79, 3) := by decide +kernel
theorem dX4_run_126 : decode cX4_run 126 = .ok (.iastore, 1) := by decide +kernel
theorem dX4_run_127 : decode cX4_run 127 = .ok (.aload_n 0, 1) := by decide +kernel
theorem dX4_run_128 : decode cX4_run 128 = .ok (.getfield 37, 3) := by decide +kernel
theorem dX4_run_131 : decode cX4_run 131 = .ok (.bipush 8, 2) := by decide +kernel
theorem dX4_run_133 : decode cX4_run 133 = .ok (.aload_n 0, 1) := by decide +kernel
theorem dX4_run_134 : decode cX4_run 134 = .ok (.getfield 82, 3) := by decide +kernel
theorem dX4_run_137 : decode cX4_run 137 = .ok (.iastore, 1) := by decide +kernel
theorem dX4_run_138 : decode cX4_run 138 = .ok (.iconst 0, 1) := by decide +kernel
theorem dX4_run_139 : decode cX4_run 139 = .ok (.istore_n 3, 1) := by decide +kernel
theorem dX4_run_140 : decode cX4_run 140 = .ok (.iload_n 3, 1) := by decide +kernel
theorem dX4_run_141 : decode cX4_run 141 = .ok (.sipush 620, 3) := by decide +kernel
theorem dX4_run_144 : decode cX4_run 144 = .ok (.if_icmp .ge 21, 3) := by decide +kernel
theorem dX4_run_147 : decode cX4_run 147 = .ok (.aload_n 0, 1) := by decide +kernel
theorem dX4_run_148 : decode cX4_run 148 = .ok (.getfield 40, 3) := by decide +kernel
theorem dX4_run_151 : decode cX4_run 151 = .ok (.iload_n 3, 1) := by decide +kernel
theorem dX4_run_152 : decode cX4_run 152 = .ok (.aload_n 0, 1) := by decide +kernel
theorem dX4_run_153 : decode cX4_run 153 = .ok (.getfield 19, 3) := by decide +kernel
theorem dX4_run_156 : decode cX4_run 156 = .ok (.iload_n 3, 1) := by decide +kernel
theorem dX4_run_157 : decode cX4_run 157 = .ok (.iaload, 1) := by decide +kernel
theorem dX4_run_158 : decode cX4_run 158 = .ok (.iastore, 1) := by decide +kernel
theorem dX4_run_159 : decode cX4_run 159 = .ok (.iinc 3 1, 3) := by decide +kernel
theorem dX4_run_162 : decode cX4_run 162 = .ok (.goto (-22), 3) := by decide +kernel
theorem dX4_run_165 : decode cX4_run 165 = .ok (.iload_n 2, 1) := by decide +kernel
theorem dX4_run_166 : decode cX4_run 166 = .ok (.ireturn, 1) := by decide +kernel
set_option maxRecDepth 20000 in
theorem ggX4_figure_X4_refuse : GoodIn wsX4_figure wsX4_refuse := goodIn_r _ [8, 1, 9, 10, 11, 12, 13, 14, 15, 16, 17, 18, 19, 20, 21, 22, 23, 24, 25, 26, 27, 28, 29, 30, 31, 32, 33, 34, 35, 36] (by decide +kernel) (by decide +kernel)
set_option maxRecDepth 20000 in
theorem gX4_figure_X4_refuse : GoodIn wsX4_figure (wsV RX4 62 RX4 yX4_refuse wsX4_refuse) := goodIn_app (goodIn_of _ (by decide +kernel)) ggX4_figure_X4_refuse
theorem dX4_figure_0 : decode cX4_figure 0 = .ok (.aload_n 0, 1) := by decide +kernel
theorem dX4_figure_1 : decode cX4_figure 1 = .ok (.iconst 0, 1) := by decide +kernel
theorem dX4_figure_2 : decode cX4_figure 2 = .ok (.putfield 59, 3) := by decide +kernel
theorem dX4_figure_5 : decode cX4_figure 5 = .ok (.iload_n 1, 1) := by decide +kernel
theorem dX4_figure_6 : decode cX4_figure 6 = .ok (.ifCond .lt 9, 3) := by decide +kernel
theorem dX4_figure_9 : decode cX4_figure 9 = .ok (.iload_n 1, 1) := by decide +kernel
theorem dX4_figure_10 : decode cX4_figure 10 = .ok (.bipush 8, 2) := by decide +kernel
theorem dX4_figure_12 : decode cX4_figure 12 = .ok (.if_icmp .le 9, 3) := by decide +kernel
theorem dX4_figure_15 : decode cX4_figure 15 = .ok (.aload_n 0, 1) := by decide +kernel
theorem dX4_figure_16 : decode cX4_figure 16 = .ok (.iconst 1, 1) := by decide +kernel
theorem dX4_figure_17 : decode cX4_figure 17 = .ok (.invokevirtual 62, 3) := by decide +kernel
theorem dX4_figure_20 : decode cX4_figure 20 = .ok (.ireturn, 1) := by decide +kernel
theorem dX4_figure_21 : decode cX4_figure 21 = .ok (.aload_n 0, 1) := by decide +kernel
theorem dX4_figure_22 : decode cX4_figure 22 = .ok (.getfield 66, 3) := by decide +kernel
theorem dX4_figure_25 : decode cX4_figure 25 = .ok (.ifCond .eq 12, 3) := by decide +kernel
theorem dX4_figure_28 : decode cX4_figure 28 = .ok (.aload_n 0, 1) := by decide +kernel
theorem dX4_figure_29 : decode cX4_figure 29 = .ok (.getfield 37, 3) := by decide +kernel
theorem dX4_figure_32 : decode cX4_figure 32 = .ok (.iload_n 1, 1) := by decide +kernel
theorem dX4_figure_33 : decode cX4_figure 33 = .ok (.iaload, 1) := by decide +kernel
theorem dX4_figure_34 : decode cX4_figure 34 = .ok (.goto 8, 3) := by decide +kernel
theorem dX4_figure_37 : decode cX4_figure 37 = .ok (.aload_n 0, 1) := by decide +kernel
theorem dX4_figure_38 : decode cX4_figure 38 = .ok (.iconst 2, 1) := by decide +kernel
theorem dX4_figure_39 : decode cX4_figure 39 = .ok (.invokevirtual 62, 3) := by decide +kernel
theorem dX4_figure_42 : decode cX4_figure 42 = .ok (.ireturn, 1) := by decide +kernel
set_option maxRecDepth 20000 in
theorem ggX4_cell_X4_refuse : GoodIn wsX4_cell wsX4_refuse := goodIn_r _ [8, 1, 9, 10, 11, 12, 13, 14, 15, 16, 17, 18, 19, 20, 21, 22, 23, 24, 25, 26, 27, 28, 29, 30, 31, 32, 33, 34, 35, 36] (by decide +kernel) (by decide +kernel)
set_option maxRecDepth 20000 in
theorem gX4_cell_X4_refuse : GoodIn wsX4_cell (wsV RX4 62 RX4 yX4_refuse wsX4_refuse) := goodIn_app (goodIn_of _ (by decide +kernel)) ggX4_cell_X4_refuse
theorem dX4_cell_0 : decode cX4_cell 0 = .ok (.aload_n 0, 1) := by decide +kernel
theorem dX4_cell_1 : decode cX4_cell 1 = .ok (.iconst 0, 1) := by decide +kernel
theorem dX4_cell_2 : decode cX4_cell 2 = .ok (.putfield 59, 3) := by decide +kernel
theorem dX4_cell_5 : decode cX4_cell 5 = .ok (.aload_n 0, 1) := by decide +kernel
theorem dX4_cell_6 : decode cX4_cell 6 = .ok (.getfield 66, 3) := by decide +kernel
theorem dX4_cell_9 : decode cX4_cell 9 = .ok (.ifCond .ne 9, 3) := by decide +kernel
theorem dX4_cell_12 : decode cX4_cell 12 = .ok (.aload_n 0, 1) := by decide +kernel
theorem dX4_cell_13 : decode cX4_cell 13 = .ok (.iconst 1, 1) := by decide +kernel
theorem dX4_cell_14 : decode cX4_cell 14 = .ok (.invokevirtual 62, 3) := by decide +kernel
theorem dX4_cell_17 : decode cX4_cell 17 = .ok (.ireturn, 1) := by decide +kernel
theorem dX4_cell_18 : decode cX4_cell 18 = .ok (.iload_n 1, 1) := by decide +kernel
theorem dX4_cell_19 : decode cX4_cell 19 = .ok (.sipush (-300), 3) := by decide +kernel
theorem dX4_cell_22 : decode cX4_cell 22 = .ok (.if_icmp .lt 10, 3) := by decide +kernel
theorem dX4_cell_25 : decode cX4_cell 25 = .ok (.iload_n 1, 1) := by decide +kernel
theorem dX4_cell_26 : decode cX4_cell 26 = .ok (.sipush 300, 3) := by decide +kernel
theorem dX4_cell_29 : decode cX4_cell 29 = .ok (.if_icmp .le 7, 3) := by decide +kernel
theorem dX4_cell_32 : decode cX4_cell 32 = .ok (.iconst 0, 1) := by decide +kernel
theorem dX4_cell_33 : decode cX4_cell 33 = .ok (.goto 13, 3) := by decide +kernel
theorem dX4_cell_36 : decode cX4_cell 36 = .ok (.aload_n 0, 1) := by decide +kernel
theorem dX4_cell_37 : decode cX4_cell 37 = .ok (.getfield 40, 3) := by decide +kernel
theorem dX4_cell_40 : decode cX4_cell 40 = .ok (.sipush 310, 3) := by decide +kernel
theorem dX4_cell_43 : decode cX4_cell 43 = .ok (.iload_n 1, 1) := by decide +kernel
theorem dX4_cell_44 : decode cX4_cell 44 = .ok (.iadd, 1) := by decide +kernel
theorem dX4_cell_45 : decode cX4_cell 45 = .ok (.iaload, 1) := by decide +kernel
theorem dX4_cell_46 : decode cX4_cell 46 = .ok (.ireturn, 1) := by decide +kernel
set_option maxRecDepth 20000 in
theorem ggX4_share_X4_refuse : GoodIn wsX4_share wsX4_refuse := goodIn_r _ [8, 1, 9, 10, 11, 12, 13, 14, 15, 16, 17, 18, 19, 20, 21, 22, 23, 24, 25, 26, 27, 28, 29, 30, 31, 32, 33, 34, 35, 36] (by decide +kernel) (by decide +kernel)
set_option maxRecDepth 20000 in
theorem gX4_share_X4_refuse : GoodIn wsX4_share (wsV RX4 62 RX4 yX4_refuse wsX4_refuse) := goodIn_app (goodIn_of _ (by decide +kernel)) ggX4_share_X4_refuse
theorem dX4_share_0 : decode cX4_share 0 = .ok (.aload_n 0, 1) := by decide +kernel
theorem dX4_share_1 : decode cX4_share 1 = .ok (.iconst 0, 1) := by decide +kernel
theorem dX4_share_2 : decode cX4_share 2 = .ok (.putfield 59, 3) := by decide +kernel
theorem dX4_share_5 : decode cX4_share 5 = .ok (.aload_n 0, 1) := by decide +kernel
theorem dX4_share_6 : decode cX4_share 6 = .ok (.getfield 66, 3) := by decide +kernel
theorem dX4_share_9 : decode cX4_share 9 = .ok (.ifCond .ne 10, 3) := by decide +kernel
theorem dX4_share_12 : decode cX4_share 12 = .ok (.aload_n 0, 1) := by decide +kernel
theorem dX4_share_13 : decode cX4_share 13 = .ok (.iconst 1, 1) := by decide +kernel
theorem dX4_share_14 : decode cX4_share 14 = .ok (.invokevirtual 62, 3) := by decide +kernel
theorem dX4_share_17 : decode cX4_share 17 = .ok (.i2f, 1) := by decide +kernel
theorem dX4_share_18 : decode cX4_share 18 = .ok (.freturn, 1) := by decide +kernel
theorem dX4_share_19 : decode cX4_share 19 = .ok (.aload_n 0, 1) := by decide +kernel
theorem dX4_share_20 : decode cX4_share 20 = .ok (.getfield 37, 3) := by decide +kernel
theorem dX4_share_23 : decode cX4_share 23 = .ok (.bipush 6, 2) := by decide +kernel
theorem dX4_share_25 : decode cX4_share 25 = .ok (.iaload, 1) := by decide +kernel
theorem dX4_share_26 : decode cX4_share 26 = .ok (.i2f, 1) := by decide +kernel
theorem dX4_share_27 : decode cX4_share 27 = .ok (.aload_n 0, 1) := by decide +kernel
theorem dX4_share_28 : decode cX4_share 28 = .ok (.getfield 37, 3) := by decide +kernel
theorem dX4_share_31 : decode cX4_share 31 = .ok (.bipush 8, 2) := by decide +kernel
theorem dX4_share_33 : decode cX4_share 33 = .ok (.iaload, 1) := by decide +kernel
theorem dX4_share_34 : decode cX4_share 34 = .ok (.aload_n 0, 1) := by decide +kernel
theorem dX4_share_35 : decode cX4_share 35 = .ok (.getfield 37, 3) := by decide +kernel
theorem dX4_share_38 : decode cX4_share 38 = .ok (.bipush 7, 2) := by decide +kernel
theorem dX4_share_40 : decode cX4_share 40 = .ok (.iaload, 1) := by decide +kernel
theorem dX4_share_41 : decode cX4_share 41 = .ok (.isub, 1) := by decide +kernel
theorem dX4_share_42 : decode cX4_share 42 = .ok (.iconst 1, 1) := by decide +kernel
theorem dX4_share_43 : decode cX4_share 43 = .ok (.iadd, 1) := by decide +kernel
theorem dX4_share_44 : decode cX4_share 44 = .ok (.i2f, 1) := by decide +kernel
theorem dX4_share_45 : decode cX4_share 45 = .ok (.fdiv, 1) := by decide +kernel
theorem dX4_share_46 : decode cX4_share 46 = .ok (.freturn, 1) := by decide +kernel
theorem dX4_actions_0 : decode cX4_actions 0 = .ok (.iconst 0, 1) := by decide +kernel
theorem dX4_actions_1 : decode cX4_actions 1 = .ok (.istore_n 1, 1) := by decide +kernel
theorem dX4_actions_2 : decode cX4_actions 2 = .ok (.iconst 0, 1) := by decide +kernel
theorem dX4_actions_3 : decode cX4_actions 3 = .ok (.istore_n 2, 1) := by decide +kernel
theorem dX4_actions_4 : decode cX4_actions 4 = .ok (.iload_n 2, 1) := by decide +kernel
theorem dX4_actions_5 : decode cX4_actions 5 = .ok (.bipush 8, 2) := by decide +kernel
theorem dX4_actions_7 : decode cX4_actions 7 = .ok (.if_icmp .ge 26, 3) := by decide +kernel
theorem dX4_actions_10 : decode cX4_actions 10 = .ok (.aload_n 0, 1) := by decide +kernel
theorem dX4_actions_11 : decode cX4_actions 11 = .ok (.getfield 13, 3) := by decide +kernel
theorem dX4_actions_14 : decode cX4_actions 14 = .ok (.iload_n 2, 1) := by decide +kernel
theorem dX4_actions_15 : decode cX4_actions 15 = .ok (.iaload, 1) := by decide +kernel
theorem dX4_actions_16 : decode cX4_actions 16 = .ok (.ifCond .lt 9, 3) := by decide +kernel
theorem dX4_actions_19 : decode cX4_actions 19 = .ok (.iload_n 1, 1) := by decide +kernel
theorem dX4_actions_20 : decode cX4_actions 20 = .ok (.iconst 1, 1) := by decide +kernel
theorem dX4_actions_21 : decode cX4_actions 21 = .ok (.iadd, 1) := by decide +kernel
theorem dX4_actions_22 : decode cX4_actions 22 = .ok (.goto 4, 3) := by decide +kernel
theorem dX4_actions_25 : decode cX4_actions 25 = .ok (.iload_n 1, 1) := by decide +kernel
theorem dX4_actions_26 : decode cX4_actions 26 = .ok (.istore_n 1, 1) := by decide +kernel
theorem dX4_actions_27 : decode cX4_actions 27 = .ok (.iinc 2 1, 3) := by decide +kernel
theorem dX4_actions_30 : decode cX4_actions 30 = .ok (.goto (-26), 3) := by decide +kernel
theorem dX4_actions_33 : decode cX4_actions 33 = .ok (.iload_n 1, 1) := by decide +kernel
theorem dX4_actions_34 : decode cX4_actions 34 = .ok (.ireturn, 1) := by decide +kernel
theorem dX4_greatest_0 : decode cX4_greatest 0 = .ok (.iconst 0, 1) := by decide +kernel
theorem dX4_greatest_1 : decode cX4_greatest 1 = .ok (.istore_n 1, 1) := by decide +kernel
theorem dX4_greatest_2 : decode cX4_greatest 2 = .ok (.iconst 0, 1) := by decide +kernel
theorem dX4_greatest_3 : decode cX4_greatest 3 = .ok (.istore_n 2, 1) := by decide +kernel
theorem dX4_greatest_4 : decode cX4_greatest 4 = .ok (.iload_n 2, 1) := by decide +kernel
theorem dX4_greatest_5 : decode cX4_greatest 5 = .ok (.bipush 8, 2) := by decide +kernel
theorem dX4_greatest_7 : decode cX4_greatest 7 = .ok (.if_icmp .ge 43, 3) := by decide +kernel
theorem dX4_greatest_10 : decode cX4_greatest 10 = .ok (.aload_n 0, 1) := by decide +kernel
theorem dX4_greatest_11 : decode cX4_greatest 11 = .ok (.getfield 13, 3) := by decide +kernel
theorem dX4_greatest_14 : decode cX4_greatest 14 = .ok (.iload_n 2, 1) := by decide +kernel
theorem dX4_greatest_15 : decode cX4_greatest 15 = .ok (.iaload, 1) := by decide +kernel
theorem dX4_greatest_16 : decode cX4_greatest 16 = .ok (.ifCond .lt 26, 3) := by decide +kernel
theorem dX4_greatest_19 : decode cX4_greatest 19 = .ok (.aload_n 0, 1) := by decide +kernel
theorem dX4_greatest_20 : decode cX4_greatest 20 = .ok (.getfield 13, 3) := by decide +kernel
theorem dX4_greatest_23 : decode cX4_greatest 23 = .ok (.iload_n 2, 1) := by decide +kernel
theorem dX4_greatest_24 : decode cX4_greatest 24 = .ok (.iaload, 1) := by decide +kernel
theorem dX4_greatest_25 : decode cX4_greatest 25 = .ok (.iconst 4, 1) := by decide +kernel
theorem dX4_greatest_26 : decode cX4_greatest 26 = .ok (.idiv, 1) := by decide +kernel
theorem dX4_greatest_27 : decode cX4_greatest 27 = .ok (.iload_n 1, 1) := by decide +kernel
theorem dX4_greatest_28 : decode cX4_greatest 28 = .ok (.if_icmp .le 14, 3) := by decide +kernel
theorem dX4_greatest_31 : decode cX4_greatest 31 = .ok (.aload_n 0, 1) := by decide +kernel
theorem dX4_greatest_32 : decode cX4_greatest 32 = .ok (.getfield 13, 3) := by decide +kernel
theorem dX4_greatest_35 : decode cX4_greatest 35 = .ok (.iload_n 2, 1) := by decide +kernel
theorem dX4_greatest_36 : decode cX4_greatest 36 = .ok (.iaload, 1) := by decide +kernel
theorem dX4_greatest_37 : decode cX4_greatest 37 = .ok (.iconst 4, 1) := by decide +kernel
theorem dX4_greatest_38 : decode cX4_greatest 38 = .ok (.idiv, 1) := by decide +kernel
theorem dX4_greatest_39 : decode cX4_greatest 39 = .ok (.goto 4, 3) := by decide +kernel
theorem dX4_greatest_42 : decode cX4_greatest 42 = .ok (.iload_n 1, 1) := by decide +kernel
theorem dX4_greatest_43 : decode cX4_greatest 43 = .ok (.istore_n 1, 1) := by decide +kernel
theorem dX4_greatest_44 : decode cX4_greatest 44 = .ok (.iinc 2 1, 3) := by decide +kernel
theorem dX4_greatest_47 : decode cX4_greatest 47 = .ok (.goto (-43), 3) := by decide +kernel
theorem dX4_greatest_50 : decode cX4_greatest 50 = .ok (.iload_n 1, 1) := by decide +kernel
theorem dX4_greatest_51 : decode cX4_greatest 51 = .ok (.ireturn, 1) := by decide +kernel
set_option maxRecDepth 20000 in
theorem ggX4_take_X4_outcome : GoodIn wsX4_take wsX4_outcome := goodIn_r _ [20, 4, 21, 22, 23, 19, 24, 13, 25, 26, 27, 28, 12, 14, 29, 30, 31, 32, 33, 34, 35, 36, 37, 38, 39, 40, 41, 42, 43, 44, 45, 46, 47, 65, 66, 67, 68, 69, 70, 71, 72, 73, 74, 75, 76, 77, 78, 79, 80, 81, 82, 83, 84, 85, 86, 87, 88, 89, 90, 91, 92] (by decide +kernel) (by decide +kernel)
set_option maxRecDepth 20000 in
theorem gX4_take_X4_outcome : GoodIn wsX4_take (wsV RX4 103 RX4 yX4_outcome wsX4_outcome) := goodIn_app (goodIn_of _ (by decide +kernel)) ggX4_take_X4_outcome
set_option maxRecDepth 20000 in
theorem ggX4_take_X4_ones : GoodIn wsX4_take wsX4_ones := goodIn_r _ [51, 13, 65, 66, 67, 68, 69, 70, 71, 72, 73, 74, 75, 76, 77, 78, 79, 80, 81, 82, 83, 84, 85, 86, 87, 88, 89, 90, 91, 92] (by decide +kernel) (by decide +kernel)
set_option maxRecDepth 20000 in
theorem gX4_take_X4_ones : GoodIn wsX4_take (wsV RX4 107 RX4 yX4_ones wsX4_ones) := goodIn_app (goodIn_of _ (by decide +kernel)) ggX4_take_X4_ones
set_option maxRecDepth 20000 in
theorem ggX4_take_X4_actions : GoodIn wsX4_take wsX4_actions := goodIn_r _ [55, 1, 65, 66, 67, 68, 69, 70, 71, 72, 73, 74, 75, 76, 77, 78, 79, 80, 81, 82, 83, 84, 85, 86, 87, 88, 89, 90, 91, 92] (by decide +kernel) (by decide +kernel)
set_option maxRecDepth 20000 in
theorem gX4_take_X4_actions : GoodIn wsX4_take (wsV RX4 123 RX4 yX4_actions wsX4_actions) := goodIn_app (goodIn_of _ (by decide +kernel)) ggX4_take_X4_actions
set_option maxRecDepth 20000 in
theorem ggX4_take_X4_greatest : GoodIn wsX4_take wsX4_greatest := goodIn_r _ [59, 1, 65, 66, 67, 68, 69, 70, 71, 72, 73, 74, 75, 76, 77, 78, 79, 80, 81, 82, 83, 84, 85, 86, 87, 88, 89, 90, 91, 92] (by decide +kernel) (by decide +kernel)
set_option maxRecDepth 20000 in
theorem gX4_take_X4_greatest : GoodIn wsX4_take (wsV RX4 126 RX4 yX4_greatest wsX4_greatest) := goodIn_app (goodIn_of _ (by decide +kernel)) ggX4_take_X4_greatest
set_option maxRecDepth 20000 in
theorem ggX4_take_X4_goOn : GoodIn wsX4_take wsX4_goOn := goodIn_r _ [63, 11, 10, 1, 15, 64, 65, 66, 67, 68, 69, 70, 71, 72, 73, 74, 75, 76, 77, 78, 79, 80, 81, 82, 83, 84, 85, 86, 87, 88, 89, 90, 91, 92] (by decide +kernel) (by decide +kernel)
set_option maxRecDepth 20000 in
theorem gX4_take_X4_goOn : GoodIn wsX4_take (wsV RX4 129 RX4 yX4_goOn wsX4_goOn) := goodIn_app (goodIn_of _ (by decide +kernel)) ggX4_take_X4_goOn
theorem dX4_take_0 : decode cX4_take 0 = .ok (.aload_n 0, 1) := by decide +kernel
theorem dX4_take_1 : decode cX4_take 1 = .ok (.aload_n 0, 1) := by decide +kernel
theorem dX4_take_2 : decode cX4_take 2 = .ok (.getfield 13, 3) := by decide +kernel
theorem dX4_take_5 : decode cX4_take 5 = .ok (.bipush 120, 2) := by decide +kernel
theorem dX4_take_7 : decode cX4_take 7 = .ok (.invokevirtual 103, 3) := by decide +kernel
theorem dX4_take_10 : decode cX4_take 10 = .ok (.istore_n 1, 1) := by decide +kernel
theorem dX4_take_11 : decode cX4_take 11 = .ok (.aload_n 0, 1) := by decide +kernel
theorem dX4_take_12 : decode cX4_take 12 = .ok (.getfield 53, 3) := by decide +kernel
theorem dX4_take_15 : decode cX4_take 15 = .ok (.iload_n 1, 1) := by decide +kernel
theorem dX4_take_16 : decode cX4_take 16 = .ok (.dup2, 1) := by decide +kernel
theorem dX4_take_17 : decode cX4_take 17 = .ok (.iaload, 1) := by decide +kernel
theorem dX4_take_18 : decode cX4_take 18 = .ok (.iconst 1, 1) := by decide +kernel
theorem dX4_take_19 : decode cX4_take 19 = .ok (.iadd, 1) := by decide +kernel
theorem dX4_take_20 : decode cX4_take 20 = .ok (.iastore, 1) := by decide +kernel
theorem dX4_take_21 : decode cX4_take 21 = .ok (.iload_n 1, 1) := by decide +kernel
theorem dX4_take_22 : decode cX4_take 22 = .ok (.iconst 1, 1) := by decide +kernel
theorem dX4_take_23 : decode cX4_take 23 = .ok (.if_icmp .ne 91, 3) := by decide +kernel
theorem dX4_take_26 : decode cX4_take 26 = .ok (.aload_n 0, 1) := by decide +kernel
theorem dX4_take_27 : decode cX4_take 27 = .ok (.invokevirtual 107, 3) := by decide +kernel
theorem dX4_take_30 : decode cX4_take 30 = .ok (.istore_n 2, 1) := by decide +kernel
theorem dX4_take_31 : decode cX4_take 31 = .ok (.aload_n 0, 1) := by decide +kernel
theorem dX4_take_32 : decode cX4_take 32 = .ok (.dup, 1) := by decide +kernel
theorem dX4_take_33 : decode cX4_take 33 = .ok (.getfield 111, 3) := by decide +kernel
theorem dX4_take_36 : decode cX4_take 36 = .ok (.aload_n 0, 1) := by decide +kernel
theorem dX4_take_37 : decode cX4_take 37 = .ok (.getfield 70, 3) := by decide +kernel
theorem dX4_take_40 : decode cX4_take 40 = .ok (.iadd, 1) := by decide +kernel
theorem dX4_take_41 : decode cX4_take 41 = .ok (.putfield 111, 3) := by decide +kernel
theorem dX4_take_44 : decode cX4_take 44 = .ok (.aload_n 0, 1) := by decide +kernel
theorem dX4_take_45 : decode cX4_take 45 = .ok (.iload_n 2, 1) := by decide +kernel
theorem dX4_take_46 : decode cX4_take 46 = .ok (.aload_n 0, 1) := by decide +kernel
theorem dX4_take_47 : decode cX4_take 47 = .ok (.getfield 114, 3) := by decide +kernel
theorem dX4_take_50 : decode cX4_take 50 = .ok (.if_icmp .le 7, 3) := by decide +kernel
theorem dX4_take_53 : decode cX4_take 53 = .ok (.iload_n 2, 1) := by decide +kernel
theorem dX4_take_54 : decode cX4_take 54 = .ok (.goto 7, 3) := by decide +kernel
theorem dX4_take_57 : decode cX4_take 57 = .ok (.aload_n 0, 1) := by decide +kernel
theorem dX4_take_58 : decode cX4_take 58 = .ok (.getfield 114, 3) := by decide +kernel
theorem dX4_take_61 : decode cX4_take 61 = .ok (.putfield 114, 3) := by decide +kernel
theorem dX4_take_64 : decode cX4_take 64 = .ok (.aload_n 0, 1) := by decide +kernel
theorem dX4_take_65 : decode cX4_take 65 = .ok (.getfield 70, 3) := by decide +kernel
theorem dX4_take_68 : decode cX4_take 68 = .ok (.aload_n 0, 1) := by decide +kernel
theorem dX4_take_69 : decode cX4_take 69 = .ok (.getfield 117, 3) := by decide +kernel
theorem dX4_take_72 : decode cX4_take 72 = .ok (.if_icmp .le 42, 3) := by decide +kernel
theorem dX4_take_75 : decode cX4_take 75 = .ok (.aload_n 0, 1) := by decide +kernel
theorem dX4_take_76 : decode cX4_take 76 = .ok (.aload_n 0, 1) := by decide +kernel
theorem dX4_take_77 : decode cX4_take 77 = .ok (.getfield 70, 3) := by decide +kernel
theorem dX4_take_80 : decode cX4_take 80 = .ok (.putfield 117, 3) := by decide +kernel
theorem dX4_take_83 : decode cX4_take 83 = .ok (.aload_n 0, 1) := by decide +kernel
theorem dX4_take_84 : decode cX4_take 84 = .ok (.iload_n 2, 1) := by decide +kernel
theorem dX4_take_85 : decode cX4_take 85 = .ok (.putfield 120, 3) := by decide +kernel
theorem dX4_take_88 : decode cX4_take 88 = .ok (.iconst 0, 1) := by decide +kernel
theorem dX4_take_89 : decode cX4_take 89 = .ok (.istore_n 3, 1) := by decide +kernel
theorem dX4_take_90 : decode cX4_take 90 = .ok (.iload_n 3, 1) := by decide +kernel
theorem dX4_take_91 : decode cX4_take 91 = .ok (.bipush 8, 2) := by decide +kernel
theorem dX4_take_93 : decode cX4_take 93 = .ok (.if_icmp .ge 21, 3) := by decide +kernel
theorem dX4_take_96 : decode cX4_take 96 = .ok (.aload_n 0, 1) := by decide +kernel
theorem dX4_take_97 : decode cX4_take 97 = .ok (.getfield 16, 3) := by decide +kernel
theorem dX4_take_100 : decode cX4_take 100 = .ok (.iload_n 3, 1) := by decide +kernel
theorem dX4_take_101 : decode cX4_take 101 = .ok (.aload_n 0, 1) := by decide +kernel
theorem dX4_take_102 : decode cX4_take 102 = .ok (.getfield 13, 3) := by decide +kernel
theorem dX4_take_105 : decode cX4_take 105 = .ok (.iload_n 3, 1) := by decide +kernel
theorem dX4_take_106 : decode cX4_take 106 = .ok (.iaload, 1) := by decide +kernel
theorem dX4_take_107 : decode cX4_take 107 = .ok (.iastore, 1) := by decide +kernel
theorem dX4_take_108 : decode cX4_take 108 = .ok (.iinc 3 1, 3) := by decide +kernel
theorem dX4_take_111 : decode cX4_take 111 = .ok (.goto (-21), 3) := by decide +kernel
theorem dX4_take_114 : decode cX4_take 114 = .ok (.iload_n 1, 1) := by decide +kernel
theorem dX4_take_115 : decode cX4_take 115 = .ok (.iconst 1, 1) := by decide +kernel
theorem dX4_take_116 : decode cX4_take 116 = .ok (.if_icmp .ne 128, 3) := by decide +kernel
theorem dX4_take_119 : decode cX4_take 119 = .ok (.aload_n 0, 1) := by decide +kernel
theorem dX4_take_120 : decode cX4_take 120 = .ok (.invokevirtual 123, 3) := by decide +kernel
theorem dX4_take_123 : decode cX4_take 123 = .ok (.iconst 2, 1) := by decide +kernel
theorem dX4_take_124 : decode cX4_take 124 = .ok (.aload_n 0, 1) := by decide +kernel
theorem dX4_take_125 : decode cX4_take 125 = .ok (.getfield 56, 3) := by decide +kernel
theorem dX4_take_128 : decode cX4_take 128 = .ok (.imul, 1) := by decide +kernel
theorem dX4_take_129 : decode cX4_take 129 = .ok (.iconst 1, 1) := by decide +kernel
theorem dX4_take_130 : decode cX4_take 130 = .ok (.isub, 1) := by decide +kernel
theorem dX4_take_131 : decode cX4_take 131 = .ok (.if_icmp .ge 113, 3) := by decide +kernel
theorem dX4_take_134 : decode cX4_take 134 = .ok (.aload_n 0, 1) := by decide +kernel
theorem dX4_take_135 : decode cX4_take 135 = .ok (.invokevirtual 126, 3) := by decide +kernel
theorem dX4_take_138 : decode cX4_take 138 = .ok (.iconst 1, 1) := by decide +kernel
theorem dX4_take_139 : decode cX4_take 139 = .ok (.iadd, 1) := by decide +kernel
theorem dX4_take_140 : decode cX4_take 140 = .ok (.aload_n 0, 1) := by decide +kernel
theorem dX4_take_141 : decode cX4_take 141 = .ok (.getfield 56, 3) := by decide +kernel
theorem dX4_take_144 : decode cX4_take 144 = .ok (.if_icmp .ge 12, 3) := by decide +kernel
theorem dX4_take_147 : decode cX4_take 147 = .ok (.aload_n 0, 1) := by decide +kernel
theorem dX4_take_148 : decode cX4_take 148 = .ok (.invokevirtual 126, 3) := by decide +kernel
theorem dX4_take_151 : decode cX4_take 151 = .ok (.iconst 1, 1) := by decide +kernel
theorem dX4_take_152 : decode cX4_take 152 = .ok (.iadd, 1) := by decide +kernel
theorem dX4_take_153 : decode cX4_take 153 = .ok (.goto 9, 3) := by decide +kernel
theorem dX4_take_156 : decode cX4_take 156 = .ok (.aload_n 0, 1) := by decide +kernel
theorem dX4_take_157 : decode cX4_take 157 = .ok (.getfield 56, 3) := by decide +kernel
theorem dX4_take_160 : decode cX4_take 160 = .ok (.iconst 1, 1) := by decide +kernel
theorem dX4_take_161 : decode cX4_take 161 = .ok (.isub, 1) := by decide +kernel
theorem dX4_take_162 : decode cX4_take 162 = .ok (.istore_n 2, 1) := by decide +kernel
theorem dX4_take_163 : decode cX4_take 163 = .ok (.aload_n 0, 1) := by decide +kernel
theorem dX4_take_164 : decode cX4_take 164 = .ok (.getfield 47, 3) := by decide +kernel
theorem dX4_take_167 : decode cX4_take 167 = .ok (.aload_n 0, 1) := by decide +kernel
theorem dX4_take_168 : decode cX4_take 168 = .ok (.getfield 43, 3) := by decide +kernel
theorem dX4_take_171 : decode cX4_take 171 = .ok (.iconst 2, 1) := by decide +kernel
theorem dX4_take_172 : decode cX4_take 172 = .ok (.aload_n 0, 1) := by decide +kernel
theorem dX4_take_173 : decode cX4_take 173 = .ok (.getfield 25, 3) := by decide +kernel
theorem dX4_take_176 : decode cX4_take 176 = .ok (.aload_n 0, 1) := by decide +kernel
theorem dX4_take_177 : decode cX4_take 177 = .ok (.getfield 70, 3) := by decide +kernel
theorem dX4_take_180 : decode cX4_take 180 = .ok (.iaload, 1) := by decide +kernel
theorem dX4_take_181 : decode cX4_take 181 = .ok (.imul, 1) := by decide +kernel
theorem dX4_take_182 : decode cX4_take 182 = .ok (.aload_n 0, 1) := by decide +kernel
theorem dX4_take_183 : decode cX4_take 183 = .ok (.getfield 19, 3) := by decide +kernel
theorem dX4_take_186 : decode cX4_take 186 = .ok (.sipush 310, 3) := by decide +kernel
theorem dX4_take_189 : decode cX4_take 189 = .ok (.aload_n 0, 1) := by decide +kernel
theorem dX4_take_190 : decode cX4_take 190 = .ok (.getfield 28, 3) := by decide +kernel
theorem dX4_take_193 : decode cX4_take 193 = .ok (.aload_n 0, 1) := by decide +kernel
theorem dX4_take_194 : decode cX4_take 194 = .ok (.getfield 70, 3) := by decide +kernel
theorem dX4_take_197 : decode cX4_take 197 = .ok (.iaload, 1) := by decide +kernel
theorem dX4_take_198 : decode cX4_take 198 = .ok (.iadd, 1) := by decide +kernel
theorem dX4_take_199 : decode cX4_take 199 = .ok (.iaload, 1) := by decide +kernel
theorem dX4_take_200 : decode cX4_take 200 = .ok (.iadd, 1) := by decide +kernel
theorem dX4_take_201 : decode cX4_take 201 = .ok (.iastore, 1) := by decide +kernel
theorem dX4_take_202 : decode cX4_take 202 = .ok (.aload_n 0, 1) := by decide +kernel
theorem dX4_take_203 : decode cX4_take 203 = .ok (.getfield 50, 3) := by decide +kernel
theorem dX4_take_206 : decode cX4_take 206 = .ok (.aload_n 0, 1) := by decide +kernel
theorem dX4_take_207 : decode cX4_take 207 = .ok (.getfield 43, 3) := by decide +kernel
theorem dX4_take_210 : decode cX4_take 210 = .ok (.iconst 4, 1) := by decide +kernel
theorem dX4_take_211 : decode cX4_take 211 = .ok (.iload_n 2, 1) := by decide +kernel
theorem dX4_take_212 : decode cX4_take 212 = .ok (.imul, 1) := by decide +kernel
theorem dX4_take_213 : decode cX4_take 213 = .ok (.iconst 3, 1) := by decide +kernel
theorem dX4_take_214 : decode cX4_take 214 = .ok (.iadd, 1) := by decide +kernel
theorem dX4_take_215 : decode cX4_take 215 = .ok (.iastore, 1) := by decide +kernel
theorem dX4_take_216 : decode cX4_take 216 = .ok (.aload_n 0, 1) := by decide +kernel
theorem dX4_take_217 : decode cX4_take 217 = .ok (.getfield 13, 3) := by decide +kernel
theorem dX4_take_220 : decode cX4_take 220 = .ok (.aload_n 0, 1) := by decide +kernel
theorem dX4_take_221 : decode cX4_take 221 = .ok (.getfield 47, 3) := by decide +kernel
theorem dX4_take_224 : decode cX4_take 224 = .ok (.aload_n 0, 1) := by decide +kernel
theorem dX4_take_225 : decode cX4_take 225 = .ok (.getfield 43, 3) := by decide +kernel
theorem dX4_take_228 : decode cX4_take 228 = .ok (.iaload, 1) := by decide +kernel
theorem dX4_take_229 : decode cX4_take 229 = .ok (.iconst 0, 1) := by decide +kernel
theorem dX4_take_230 : decode cX4_take 230 = .ok (.iastore, 1) := by decide +kernel
theorem dX4_take_231 : decode cX4_take 231 = .ok (.aload_n 0, 1) := by decide +kernel
theorem dX4_take_232 : decode cX4_take 232 = .ok (.dup, 1) := by decide +kernel
theorem dX4_take_233 : decode cX4_take 233 = .ok (.getfield 43, 3) := by decide +kernel
theorem dX4_take_236 : decode cX4_take 236 = .ok (.iconst 1, 1) := by decide +kernel
theorem dX4_take_237 : decode cX4_take 237 = .ok (.iadd, 1) := by decide +kernel
theorem dX4_take_238 : decode cX4_take 238 = .ok (.putfield 43, 3) := by decide +kernel
theorem dX4_take_241 : decode cX4_take 241 = .ok (.goto 7, 3) := by decide +kernel
theorem dX4_take_244 : decode cX4_take 244 = .ok (.aload_n 0, 1) := by decide +kernel
theorem dX4_take_245 : decode cX4_take 245 = .ok (.invokevirtual 129, 3) := by decide +kernel
theorem dX4_take_248 : decode cX4_take 248 = .ok (.return_, 1) := by decide +kernel
theorem dX4_goOn_0 : decode cX4_goOn 0 = .ok (.iconst 0, 1) := by decide +kernel
theorem dX4_goOn_1 : decode cX4_goOn 1 = .ok (.istore_n 1, 1) := by decide +kernel
theorem dX4_goOn_2 : decode cX4_goOn 2 = .ok (.iload_n 1, 1) := by decide +kernel
theorem dX4_goOn_3 : decode cX4_goOn 3 = .ok (.ifCond .ne 94, 3) := by decide +kernel
theorem dX4_goOn_6 : decode cX4_goOn 6 = .ok (.aload_n 0, 1) := by decide +kernel
theorem dX4_goOn_7 : decode cX4_goOn 7 = .ok (.getfield 43, 3) := by decide +kernel
theorem dX4_goOn_10 : decode cX4_goOn 10 = .ok (.ifCond .le 87, 3) := by decide +kernel
theorem dX4_goOn_13 : decode cX4_goOn 13 = .ok (.aload_n 0, 1) := by decide +kernel
theorem dX4_goOn_14 : decode cX4_goOn 14 = .ok (.getfield 47, 3) := by decide +kernel
theorem dX4_goOn_17 : decode cX4_goOn 17 = .ok (.aload_n 0, 1) := by decide +kernel
theorem dX4_goOn_18 : decode cX4_goOn 18 = .ok (.getfield 43, 3) := by decide +kernel
theorem dX4_goOn_21 : decode cX4_goOn 21 = .ok (.iconst 1, 1) := by decide +kernel
theorem dX4_goOn_22 : decode cX4_goOn 22 = .ok (.isub, 1) := by decide +kernel
theorem dX4_goOn_23 : decode cX4_goOn 23 = .ok (.iaload, 1) := by decide +kernel
theorem dX4_goOn_24 : decode cX4_goOn 24 = .ok (.istore_n 2, 1) := by decide +kernel
theorem dX4_goOn_25 : decode cX4_goOn 25 = .ok (.aload_n 0, 1) := by decide +kernel
theorem dX4_goOn_26 : decode cX4_goOn 26 = .ok (.getfield 13, 3) := by decide +kernel
theorem dX4_goOn_29 : decode cX4_goOn 29 = .ok (.iload_n 2, 1) := by decide +kernel
theorem dX4_goOn_30 : decode cX4_goOn 30 = .ok (.iaload, 1) := by decide +kernel
theorem dX4_goOn_31 : decode cX4_goOn 31 = .ok (.aload_n 0, 1) := by decide +kernel
theorem dX4_goOn_32 : decode cX4_goOn 32 = .ok (.getfield 50, 3) := by decide +kernel
theorem dX4_goOn_35 : decode cX4_goOn 35 = .ok (.aload_n 0, 1) := by decide +kernel
theorem dX4_goOn_36 : decode cX4_goOn 36 = .ok (.getfield 43, 3) := by decide +kernel
theorem dX4_goOn_39 : decode cX4_goOn 39 = .ok (.iconst 1, 1) := by decide +kernel
theorem dX4_goOn_40 : decode cX4_goOn 40 = .ok (.isub, 1) := by decide +kernel
theorem dX4_goOn_41 : decode cX4_goOn 41 = .ok (.iaload, 1) := by decide +kernel
theorem dX4_goOn_42 : decode cX4_goOn 42 = .ok (.if_icmp .ge 7, 3) := by decide +kernel
theorem dX4_goOn_45 : decode cX4_goOn 45 = .ok (.iconst 1, 1) := by decide +kernel
theorem dX4_goOn_46 : decode cX4_goOn 46 = .ok (.goto 4, 3) := by decide +kernel
theorem dX4_goOn_49 : decode cX4_goOn 49 = .ok (.iconst 0, 1) := by decide +kernel
theorem dX4_goOn_50 : decode cX4_goOn 50 = .ok (.istore_n 1, 1) := by decide +kernel
theorem dX4_goOn_51 : decode cX4_goOn 51 = .ok (.aload_n 0, 1) := by decide +kernel
theorem dX4_goOn_52 : decode cX4_goOn 52 = .ok (.getfield 13, 3) := by decide +kernel
theorem dX4_goOn_55 : decode cX4_goOn 55 = .ok (.iload_n 2, 1) := by decide +kernel
theorem dX4_goOn_56 : decode cX4_goOn 56 = .ok (.iload_n 1, 1) := by decide +kernel
theorem dX4_goOn_57 : decode cX4_goOn 57 = .ok (.ifCond .eq 14, 3) := by decide +kernel
theorem dX4_goOn_60 : decode cX4_goOn 60 = .ok (.aload_n 0, 1) := by decide +kernel
theorem dX4_goOn_61 : decode cX4_goOn 61 = .ok (.getfield 13, 3) := by decide +kernel
theorem dX4_goOn_64 : decode cX4_goOn 64 = .ok (.iload_n 2, 1) := by decide +kernel
theorem dX4_goOn_65 : decode cX4_goOn 65 = .ok (.iaload, 1) := by decide +kernel
theorem dX4_goOn_66 : decode cX4_goOn 66 = .ok (.iconst 1, 1) := by decide +kernel
theorem dX4_goOn_67 : decode cX4_goOn 67 = .ok (.iadd, 1) := by decide +kernel
theorem dX4_goOn_68 : decode cX4_goOn 68 = .ok (.goto 4, 3) := by decide +kernel
theorem dX4_goOn_71 : decode cX4_goOn 71 = .ok (.iconst (-1), 1) := by decide +kernel
theorem dX4_goOn_72 : decode cX4_goOn 72 = .ok (.iastore, 1) := by decide +kernel
theorem dX4_goOn_73 : decode cX4_goOn 73 = .ok (.aload_n 0, 1) := by decide +kernel
theorem dX4_goOn_74 : decode cX4_goOn 74 = .ok (.iload_n 1, 1) := by decide +kernel
theorem dX4_goOn_75 : decode cX4_goOn 75 = .ok (.ifCond .eq 10, 3) := by decide +kernel
theorem dX4_goOn_78 : decode cX4_goOn 78 = .ok (.aload_n 0, 1) := by decide +kernel
theorem dX4_goOn_79 : decode cX4_goOn 79 = .ok (.getfield 43, 3) := by decide +kernel
theorem dX4_goOn_82 : decode cX4_goOn 82 = .ok (.goto 9, 3) := by decide +kernel
theorem dX4_goOn_85 : decode cX4_goOn 85 = .ok (.aload_n 0, 1) := by decide +kernel
theorem dX4_goOn_86 : decode cX4_goOn 86 = .ok (.getfield 43, 3) := by decide +kernel
theorem dX4_goOn_89 : decode cX4_goOn 89 = .ok (.iconst 1, 1) := by decide +kernel
theorem dX4_goOn_90 : decode cX4_goOn 90 = .ok (.isub, 1) := by decide +kernel
theorem dX4_goOn_91 : decode cX4_goOn 91 = .ok (.putfield 43, 3) := by decide +kernel
theorem dX4_goOn_94 : decode cX4_goOn 94 = .ok (.goto (-92), 3) := by decide +kernel
theorem dX4_goOn_97 : decode cX4_goOn 97 = .ok (.aload_n 0, 1) := by decide +kernel
theorem dX4_goOn_98 : decode cX4_goOn 98 = .ok (.iload_n 1, 1) := by decide +kernel
theorem dX4_goOn_99 : decode cX4_goOn 99 = .ok (.ifCond .ne 7, 3) := by decide +kernel
theorem dX4_goOn_102 : decode cX4_goOn 102 = .ok (.iconst 1, 1) := by decide +kernel
theorem dX4_goOn_103 : decode cX4_goOn 103 = .ok (.goto 4, 3) := by decide +kernel
theorem dX4_goOn_106 : decode cX4_goOn 106 = .ok (.iconst 0, 1) := by decide +kernel
theorem dX4_goOn_107 : decode cX4_goOn 107 = .ok (.putfield 132, 3) := by decide +kernel
theorem dX4_goOn_110 : decode cX4_goOn 110 = .ok (.return_, 1) := by decide +kernel
set_option maxRecDepth 20000 in
theorem ggX4_grow_X4_refuse : GoodIn wsX4_grow wsX4_refuse := goodIn_r _ [9, 1, 74, 75, 76, 77, 78, 79, 80, 81, 82, 83, 84, 85, 86, 87, 88, 89, 90, 91, 92, 93, 94, 95, 96, 97, 98, 99, 100, 101] (by decide +kernel) (by decide +kernel)
set_option maxRecDepth 20000 in
theorem gX4_grow_X4_refuse : GoodIn wsX4_grow (wsV RX4 62 RX4 yX4_refuse wsX4_refuse) := goodIn_app (goodIn_of _ (by decide +kernel)) ggX4_grow_X4_refuse
set_option maxRecDepth 20000 in
theorem ggX4_grow_X4_take : GoodIn wsX4_grow wsX4_take := goodIn_r _ [13, 3, 14, 15, 16, 17, 18, 19, 20, 21, 22, 2, 23, 24, 25, 26, 27, 28, 29, 8, 30, 31, 32, 33, 34, 35, 36, 37, 38, 39, 40, 41, 42, 43, 44, 45, 46, 47, 48, 49, 50, 51, 52, 53, 54, 55, 56, 57, 58, 59, 60, 61, 62, 63, 64, 65, 66, 67, 68, 69, 70, 71, 72, 73, 4, 74, 75, 76, 77, 78, 79, 80, 81, 82, 83, 84, 85, 86, 87, 88, 89, 90, 91, 92, 93, 94, 95, 96, 97, 98, 99, 100, 101] (by decide +kernel) (by decide +kernel)
set_option maxRecDepth 20000 in
theorem gX4_grow_X4_take : GoodIn wsX4_grow (wsV RX4 135 RX4 yX4_take wsX4_take) := goodIn_app (goodIn_of _ (by decide +kernel)) ggX4_grow_X4_take
theorem dX4_grow_0 : decode cX4_grow 0 = .ok (.aload_n 0, 1) := by decide +kernel
theorem dX4_grow_1 : decode cX4_grow 1 = .ok (.iconst 0, 1) := by decide +kernel
theorem dX4_grow_2 : decode cX4_grow 2 = .ok (.putfield 59, 3) := by decide +kernel
theorem dX4_grow_5 : decode cX4_grow 5 = .ok (.iload_n 1, 1) := by decide +kernel
theorem dX4_grow_6 : decode cX4_grow 6 = .ok (.iconst 1, 1) := by decide +kernel
theorem dX4_grow_7 : decode cX4_grow 7 = .ok (.if_icmp .lt 9, 3) := by decide +kernel
theorem dX4_grow_10 : decode cX4_grow 10 = .ok (.iload_n 1, 1) := by decide +kernel
theorem dX4_grow_11 : decode cX4_grow 11 = .ok (.bipush 40, 2) := by decide +kernel
theorem dX4_grow_13 : decode cX4_grow 13 = .ok (.if_icmp .le 9, 3) := by decide +kernel
theorem dX4_grow_16 : decode cX4_grow 16 = .ok (.aload_n 0, 1) := by decide +kernel
theorem dX4_grow_17 : decode cX4_grow 17 = .ok (.iconst 1, 1) := by decide +kernel
theorem dX4_grow_18 : decode cX4_grow 18 = .ok (.invokevirtual 62, 3) := by decide +kernel
theorem dX4_grow_21 : decode cX4_grow 21 = .ok (.ireturn, 1) := by decide +kernel
theorem dX4_grow_22 : decode cX4_grow 22 = .ok (.aload_n 0, 1) := by decide +kernel
theorem dX4_grow_23 : decode cX4_grow 23 = .ok (.getfield 43, 3) := by decide +kernel
theorem dX4_grow_26 : decode cX4_grow 26 = .ok (.ifCond .ge 16, 3) := by decide +kernel
theorem dX4_grow_29 : decode cX4_grow 29 = .ok (.aload_n 0, 1) := by decide +kernel
theorem dX4_grow_30 : decode cX4_grow 30 = .ok (.getfield 13, 3) := by decide +kernel
theorem dX4_grow_33 : decode cX4_grow 33 = .ok (.iconst 0, 1) := by decide +kernel
theorem dX4_grow_34 : decode cX4_grow 34 = .ok (.bipush 7, 2) := by decide +kernel
theorem dX4_grow_36 : decode cX4_grow 36 = .ok (.iastore, 1) := by decide +kernel
theorem dX4_grow_37 : decode cX4_grow 37 = .ok (.aload_n 0, 1) := by decide +kernel
theorem dX4_grow_38 : decode cX4_grow 38 = .ok (.iconst 0, 1) := by decide +kernel
theorem dX4_grow_39 : decode cX4_grow 39 = .ok (.putfield 43, 3) := by decide +kernel
theorem dX4_grow_42 : decode cX4_grow 42 = .ok (.iconst 0, 1) := by decide +kernel
theorem dX4_grow_43 : decode cX4_grow 43 = .ok (.istore_n 2, 1) := by decide +kernel
theorem dX4_grow_44 : decode cX4_grow 44 = .ok (.iload_n 2, 1) := by decide +kernel
theorem dX4_grow_45 : decode cX4_grow 45 = .ok (.iload_n 1, 1) := by decide +kernel
theorem dX4_grow_46 : decode cX4_grow 46 = .ok (.if_icmp .ge 20, 3) := by decide +kernel
theorem dX4_grow_49 : decode cX4_grow 49 = .ok (.aload_n 0, 1) := by decide +kernel
theorem dX4_grow_50 : decode cX4_grow 50 = .ok (.getfield 132, 3) := by decide +kernel
theorem dX4_grow_53 : decode cX4_grow 53 = .ok (.ifCond .ne 13, 3) := by decide +kernel
theorem dX4_grow_56 : decode cX4_grow 56 = .ok (.aload_n 0, 1) := by decide +kernel
theorem dX4_grow_57 : decode cX4_grow 57 = .ok (.invokevirtual 135, 3) := by decide +kernel
theorem dX4_grow_60 : decode cX4_grow 60 = .ok (.iinc 2 1, 3) := by decide +kernel
theorem dX4_grow_63 : decode cX4_grow 63 = .ok (.goto (-19), 3) := by decide +kernel
theorem dX4_grow_66 : decode cX4_grow 66 = .ok (.iload_n 2, 1) := by decide +kernel
theorem dX4_grow_67 : decode cX4_grow 67 = .ok (.ireturn, 1) := by decide +kernel
set_option maxRecDepth 20000 in
theorem ggX4_taken_X4_refuse : GoodIn wsX4_taken wsX4_refuse := goodIn_r _ [10, 1, 11, 12, 13, 14, 15, 16, 17, 18, 19, 20, 21, 22, 23, 24, 25, 26, 27, 28, 29, 30, 31, 32, 33, 34, 35, 36, 37, 38] (by decide +kernel) (by decide +kernel)
set_option maxRecDepth 20000 in
theorem gX4_taken_X4_refuse : GoodIn wsX4_taken (wsV RX4 62 RX4 yX4_refuse wsX4_refuse) := goodIn_app (goodIn_of _ (by decide +kernel)) ggX4_taken_X4_refuse
theorem dX4_taken_0 : decode cX4_taken 0 = .ok (.aload_n 0, 1) := by decide +kernel
theorem dX4_taken_1 : decode cX4_taken 1 = .ok (.iconst 0, 1) := by decide +kernel
theorem dX4_taken_2 : decode cX4_taken 2 = .ok (.putfield 59, 3) := by decide +kernel
theorem dX4_taken_5 : decode cX4_taken 5 = .ok (.iload_n 1, 1) := by decide +kernel
theorem dX4_taken_6 : decode cX4_taken 6 = .ok (.ifCond .lt 9, 3) := by decide +kernel
theorem dX4_taken_9 : decode cX4_taken 9 = .ok (.iload_n 1, 1) := by decide +kernel
theorem dX4_taken_10 : decode cX4_taken 10 = .ok (.bipush 6, 2) := by decide +kernel
theorem dX4_taken_12 : decode cX4_taken 12 = .ok (.if_icmp .le 9, 3) := by decide +kernel
theorem dX4_taken_15 : decode cX4_taken 15 = .ok (.aload_n 0, 1) := by decide +kernel
theorem dX4_taken_16 : decode cX4_taken 16 = .ok (.iconst 1, 1) := by decide +kernel
