theorem dX4_set_32 : decode cX4_set 32 = .ok (.iconst 4, 1) := by decide +kernel
theorem dX4_set_33 : decode cX4_set 33 = .ok (.aload_n 0, 1) := by decide +kernel
theorem dX4_set_34 : decode cX4_set 34 = .ok (.getfield 56, 3) := by decide +kernel
theorem dX4_set_37 : decode cX4_set 37 = .ok (.imul, 1) := by decide +kernel
theorem dX4_set_38 : decode cX4_set 38 = .ok (.if_icmp .lt 9, 3) := by decide +kernel
theorem dX4_set_41 : decode cX4_set 41 = .ok (.aload_n 0, 1) := by decide +kernel
theorem dX4_set_42 : decode cX4_set 42 = .ok (.iconst 1, 1) := by decide +kernel
theorem dX4_set_43 : decode cX4_set 43 = .ok (.invokevirtual 62, 3) := by decide +kernel
theorem dX4_set_46 : decode cX4_set 46 = .ok (.ireturn, 1) := by decide +kernel
theorem dX4_set_47 : decode cX4_set 47 = .ok (.aload_n 0, 1) := by decide +kernel
theorem dX4_set_48 : decode cX4_set 48 = .ok (.getfield 7, 3) := by decide +kernel
theorem dX4_set_51 : decode cX4_set 51 = .ok (.iconst 2, 1) := by decide +kernel
theorem dX4_set_52 : decode cX4_set 52 = .ok (.iload_n 1, 1) := by decide +kernel
theorem dX4_set_53 : decode cX4_set 53 = .ok (.imul, 1) := by decide +kernel
theorem dX4_set_54 : decode cX4_set 54 = .ok (.iload_n 2, 1) := by decide +kernel
theorem dX4_set_55 : decode cX4_set 55 = .ok (.iadd, 1) := by decide +kernel
theorem dX4_set_56 : decode cX4_set 56 = .ok (.iaload, 1) := by decide +kernel
theorem dX4_set_57 : decode cX4_set 57 = .ok (.istore 4, 2) := by decide +kernel
theorem dX4_set_59 : decode cX4_set 59 = .ok (.aload_n 0, 1) := by decide +kernel
theorem dX4_set_60 : decode cX4_set 60 = .ok (.getfield 7, 3) := by decide +kernel
theorem dX4_set_63 : decode cX4_set 63 = .ok (.iconst 2, 1) := by decide +kernel
theorem dX4_set_64 : decode cX4_set 64 = .ok (.iload_n 1, 1) := by decide +kernel
theorem dX4_set_65 : decode cX4_set 65 = .ok (.imul, 1) := by decide +kernel
theorem dX4_set_66 : decode cX4_set 66 = .ok (.iload_n 2, 1) := by decide +kernel
theorem dX4_set_67 : decode cX4_set 67 = .ok (.iadd, 1) := by decide +kernel
theorem dX4_set_68 : decode cX4_set 68 = .ok (.iload_n 3, 1) := by decide +kernel
theorem dX4_set_69 : decode cX4_set 69 = .ok (.iastore, 1) := by decide +kernel
theorem dX4_set_70 : decode cX4_set 70 = .ok (.aload_n 0, 1) := by decide +kernel
theorem dX4_set_71 : decode cX4_set 71 = .ok (.iconst 0, 1) := by decide +kernel
theorem dX4_set_72 : decode cX4_set 72 = .ok (.putfield 66, 3) := by decide +kernel
theorem dX4_set_75 : decode cX4_set 75 = .ok (.iload 4, 2) := by decide +kernel
theorem dX4_set_77 : decode cX4_set 77 = .ok (.ireturn, 1) := by decide +kernel
theorem dX4_begin_0 : decode cX4_begin 0 = .ok (.iconst 0, 1) := by decide +kernel
theorem dX4_begin_1 : decode cX4_begin 1 = .ok (.istore_n 1, 1) := by decide +kernel
theorem dX4_begin_2 : decode cX4_begin 2 = .ok (.iload_n 1, 1) := by decide +kernel
theorem dX4_begin_3 : decode cX4_begin 3 = .ok (.sipush 620, 3) := by decide +kernel
theorem dX4_begin_6 : decode cX4_begin 6 = .ok (.if_icmp .ge 16, 3) := by decide +kernel
theorem dX4_begin_9 : decode cX4_begin 9 = .ok (.aload_n 0, 1) := by decide +kernel
theorem dX4_begin_10 : decode cX4_begin 10 = .ok (.getfield 19, 3) := by decide +kernel
theorem dX4_begin_13 : decode cX4_begin 13 = .ok (.iload_n 1, 1) := by decide +kernel
theorem dX4_begin_14 : decode cX4_begin 14 = .ok (.iconst 0, 1) := by decide +kernel
theorem dX4_begin_15 : decode cX4_begin 15 = .ok (.iastore, 1) := by decide +kernel
theorem dX4_begin_16 : decode cX4_begin 16 = .ok (.iinc 1 1, 3) := by decide +kernel
theorem dX4_begin_19 : decode cX4_begin 19 = .ok (.goto (-17), 3) := by decide +kernel
theorem dX4_begin_22 : decode cX4_begin 22 = .ok (.aload_n 0, 1) := by decide +kernel
theorem dX4_begin_23 : decode cX4_begin 23 = .ok (.iconst 0, 1) := by decide +kernel
theorem dX4_begin_24 : decode cX4_begin 24 = .ok (.putfield 70, 3) := by decide +kernel
theorem dX4_begin_27 : decode cX4_begin 27 = .ok (.aload_n 0, 1) := by decide +kernel
theorem dX4_begin_28 : decode cX4_begin 28 = .ok (.iconst 0, 1) := by decide +kernel
theorem dX4_begin_29 : decode cX4_begin 29 = .ok (.putfield 73, 3) := by decide +kernel
theorem dX4_begin_32 : decode cX4_begin 32 = .ok (.aload_n 0, 1) := by decide +kernel
theorem dX4_begin_33 : decode cX4_begin 33 = .ok (.iconst 0, 1) := by decide +kernel
theorem dX4_begin_34 : decode cX4_begin 34 = .ok (.putfield 76, 3) := by decide +kernel
theorem dX4_begin_37 : decode cX4_begin 37 = .ok (.aload_n 0, 1) := by decide +kernel
theorem dX4_begin_38 : decode cX4_begin 38 = .ok (.iconst 0, 1) := by decide +kernel
theorem dX4_begin_39 : decode cX4_begin 39 = .ok (.putfield 79, 3) := by decide +kernel
theorem dX4_begin_42 : decode cX4_begin 42 = .ok (.aload_n 0, 1) := by decide +kernel
theorem dX4_begin_43 : decode cX4_begin 43 = .ok (.iconst 0, 1) := by decide +kernel
theorem dX4_begin_44 : decode cX4_begin 44 = .ok (.putfield 82, 3) := by decide +kernel
theorem dX4_begin_47 : decode cX4_begin 47 = .ok (.aload_n 0, 1) := by decide +kernel
theorem dX4_begin_48 : decode cX4_begin 48 = .ok (.getfield 25, 3) := by decide +kernel
theorem dX4_begin_51 : decode cX4_begin 51 = .ok (.iconst 0, 1) := by decide +kernel
theorem dX4_begin_52 : decode cX4_begin 52 = .ok (.iconst 0, 1) := by decide +kernel
theorem dX4_begin_53 : decode cX4_begin 53 = .ok (.iastore, 1) := by decide +kernel
theorem dX4_begin_54 : decode cX4_begin 54 = .ok (.aload_n 0, 1) := by decide +kernel
theorem dX4_begin_55 : decode cX4_begin 55 = .ok (.getfield 28, 3) := by decide +kernel
theorem dX4_begin_58 : decode cX4_begin 58 = .ok (.iconst 0, 1) := by decide +kernel
theorem dX4_begin_59 : decode cX4_begin 59 = .ok (.iconst 0, 1) := by decide +kernel
theorem dX4_begin_60 : decode cX4_begin 60 = .ok (.iastore, 1) := by decide +kernel
theorem dX4_begin_61 : decode cX4_begin 61 = .ok (.aload_n 0, 1) := by decide +kernel
theorem dX4_begin_62 : decode cX4_begin 62 = .ok (.getfield 31, 3) := by decide +kernel
theorem dX4_begin_65 : decode cX4_begin 65 = .ok (.iconst 0, 1) := by decide +kernel
theorem dX4_begin_66 : decode cX4_begin 66 = .ok (.iconst 0, 1) := by decide +kernel
theorem dX4_begin_67 : decode cX4_begin 67 = .ok (.iastore, 1) := by decide +kernel
theorem dX4_begin_68 : decode cX4_begin 68 = .ok (.return_, 1) := by decide +kernel
theorem dX4_step_0 : decode cX4_step 0 = .ok (.aload_n 0, 1) := by decide +kernel
theorem dX4_step_1 : decode cX4_step 1 = .ok (.getfield 28, 3) := by decide +kernel
theorem dX4_step_4 : decode cX4_step 4 = .ok (.aload_n 0, 1) := by decide +kernel
theorem dX4_step_5 : decode cX4_step 5 = .ok (.getfield 70, 3) := by decide +kernel
theorem dX4_step_8 : decode cX4_step 8 = .ok (.iaload, 1) := by decide +kernel
theorem dX4_step_9 : decode cX4_step 9 = .ok (.istore_n 2, 1) := by decide +kernel
theorem dX4_step_10 : decode cX4_step 10 = .ok (.aload_n 0, 1) := by decide +kernel
theorem dX4_step_11 : decode cX4_step 11 = .ok (.getfield 19, 3) := by decide +kernel
theorem dX4_step_14 : decode cX4_step 14 = .ok (.sipush 310, 3) := by decide +kernel
theorem dX4_step_17 : decode cX4_step 17 = .ok (.iload_n 2, 1) := by decide +kernel
theorem dX4_step_18 : decode cX4_step 18 = .ok (.iadd, 1) := by decide +kernel
theorem dX4_step_19 : decode cX4_step 19 = .ok (.iaload, 1) := by decide +kernel
theorem dX4_step_20 : decode cX4_step 20 = .ok (.istore_n 3, 1) := by decide +kernel
theorem dX4_step_21 : decode cX4_step 21 = .ok (.aload_n 1, 1) := by decide +kernel
theorem dX4_step_22 : decode cX4_step 22 = .ok (.iconst 2, 1) := by decide +kernel
theorem dX4_step_23 : decode cX4_step 23 = .ok (.aload_n 0, 1) := by decide +kernel
theorem dX4_step_24 : decode cX4_step 24 = .ok (.getfield 25, 3) := by decide +kernel
theorem dX4_step_27 : decode cX4_step 27 = .ok (.aload_n 0, 1) := by decide +kernel
theorem dX4_step_28 : decode cX4_step 28 = .ok (.getfield 70, 3) := by decide +kernel
theorem dX4_step_31 : decode cX4_step 31 = .ok (.iaload, 1) := by decide +kernel
theorem dX4_step_32 : decode cX4_step 32 = .ok (.imul, 1) := by decide +kernel
theorem dX4_step_33 : decode cX4_step 33 = .ok (.iload_n 3, 1) := by decide +kernel
theorem dX4_step_34 : decode cX4_step 34 = .ok (.iadd, 1) := by decide +kernel
theorem dX4_step_35 : decode cX4_step 35 = .ok (.iaload, 1) := by decide +kernel
theorem dX4_step_36 : decode cX4_step 36 = .ok (.istore 4, 2) := by decide +kernel
theorem dX4_step_38 : decode cX4_step 38 = .ok (.aload_n 0, 1) := by decide +kernel
theorem dX4_step_39 : decode cX4_step 39 = .ok (.dup, 1) := by decide +kernel
theorem dX4_step_40 : decode cX4_step 40 = .ok (.getfield 70, 3) := by decide +kernel
theorem dX4_step_43 : decode cX4_step 43 = .ok (.iconst 1, 1) := by decide +kernel
theorem dX4_step_44 : decode cX4_step 44 = .ok (.iadd, 1) := by decide +kernel
theorem dX4_step_45 : decode cX4_step 45 = .ok (.putfield 70, 3) := by decide +kernel
theorem dX4_step_48 : decode cX4_step 48 = .ok (.aload_n 0, 1) := by decide +kernel
theorem dX4_step_49 : decode cX4_step 49 = .ok (.getfield 25, 3) := by decide +kernel
theorem dX4_step_52 : decode cX4_step 52 = .ok (.aload_n 0, 1) := by decide +kernel
theorem dX4_step_53 : decode cX4_step 53 = .ok (.getfield 70, 3) := by decide +kernel
theorem dX4_step_56 : decode cX4_step 56 = .ok (.iload 4, 2) := by decide +kernel
theorem dX4_step_58 : decode cX4_step 58 = .ok (.ifCond .ge 17, 3) := by decide +kernel
theorem dX4_step_61 : decode cX4_step 61 = .ok (.aload_n 0, 1) := by decide +kernel
theorem dX4_step_62 : decode cX4_step 62 = .ok (.getfield 25, 3) := by decide +kernel
theorem dX4_step_65 : decode cX4_step 65 = .ok (.aload_n 0, 1) := by decide +kernel
theorem dX4_step_66 : decode cX4_step 66 = .ok (.getfield 70, 3) := by decide +kernel
theorem dX4_step_69 : decode cX4_step 69 = .ok (.iconst 1, 1) := by decide +kernel
theorem dX4_step_70 : decode cX4_step 70 = .ok (.isub, 1) := by decide +kernel
theorem dX4_step_71 : decode cX4_step 71 = .ok (.iaload, 1) := by decide +kernel
theorem dX4_step_72 : decode cX4_step 72 = .ok (.goto 7, 3) := by decide +kernel
theorem dX4_step_75 : decode cX4_step 75 = .ok (.iload 4, 2) := by decide +kernel
theorem dX4_step_77 : decode cX4_step 77 = .ok (.iconst 4, 1) := by decide +kernel
theorem dX4_step_78 : decode cX4_step 78 = .ok (.idiv, 1) := by decide +kernel
theorem dX4_step_79 : decode cX4_step 79 = .ok (.iastore, 1) := by decide +kernel
theorem dX4_step_80 : decode cX4_step 80 = .ok (.aload_n 0, 1) := by decide +kernel
theorem dX4_step_81 : decode cX4_step 81 = .ok (.getfield 28, 3) := by decide +kernel
theorem dX4_step_84 : decode cX4_step 84 = .ok (.aload_n 0, 1) := by decide +kernel
theorem dX4_step_85 : decode cX4_step 85 = .ok (.getfield 70, 3) := by decide +kernel
theorem dX4_step_88 : decode cX4_step 88 = .ok (.iload 4, 2) := by decide +kernel
theorem dX4_step_90 : decode cX4_step 90 = .ok (.ifCond .ge 7, 3) := by decide +kernel
theorem dX4_step_93 : decode cX4_step 93 = .ok (.iload_n 2, 1) := by decide +kernel
theorem dX4_step_94 : decode cX4_step 94 = .ok (.goto 19, 3) := by decide +kernel
theorem dX4_step_97 : decode cX4_step 97 = .ok (.iload 4, 2) := by decide +kernel
theorem dX4_step_99 : decode cX4_step 99 = .ok (.iconst 2, 1) := by decide +kernel
theorem dX4_step_100 : decode cX4_step 100 = .ok (.iand, 1) := by decide +kernel
theorem dX4_step_101 : decode cX4_step 101 = .ok (.ifCond .eq 9, 3) := by decide +kernel
theorem dX4_step_104 : decode cX4_step 104 = .ok (.iload_n 2, 1) := by decide +kernel
theorem dX4_step_105 : decode cX4_step 105 = .ok (.iconst 1, 1) := by decide +kernel
theorem dX4_step_106 : decode cX4_step 106 = .ok (.iadd, 1) := by decide +kernel
theorem dX4_step_107 : decode cX4_step 107 = .ok (.goto 6, 3) := by decide +kernel
theorem dX4_step_110 : decode cX4_step 110 = .ok (.iload_n 2, 1) := by decide +kernel
theorem dX4_step_111 : decode cX4_step 111 = .ok (.iconst 1, 1) := by decide +kernel
theorem dX4_step_112 : decode cX4_step 112 = .ok (.isub, 1) := by decide +kernel
theorem dX4_step_113 : decode cX4_step 113 = .ok (.iastore, 1) := by decide +kernel
theorem dX4_step_114 : decode cX4_step 114 = .ok (.aload_n 0, 1) := by decide +kernel
theorem dX4_step_115 : decode cX4_step 115 = .ok (.getfield 34, 3) := by decide +kernel
theorem dX4_step_118 : decode cX4_step 118 = .ok (.aload_n 0, 1) := by decide +kernel
theorem dX4_step_119 : decode cX4_step 119 = .ok (.getfield 70, 3) := by decide +kernel
theorem dX4_step_122 : decode cX4_step 122 = .ok (.iload 4, 2) := by decide +kernel
theorem dX4_step_124 : decode cX4_step 124 = .ok (.ifCond .lt 19, 3) := by decide +kernel
theorem dX4_step_127 : decode cX4_step 127 = .ok (.iload 4, 2) := by decide +kernel
theorem dX4_step_129 : decode cX4_step 129 = .ok (.iconst 1, 1) := by decide +kernel
theorem dX4_step_130 : decode cX4_step 130 = .ok (.iand, 1) := by decide +kernel
theorem dX4_step_131 : decode cX4_step 131 = .ok (.iload_n 3, 1) := by decide +kernel
theorem dX4_step_132 : decode cX4_step 132 = .ok (.if_icmp .eq 11, 3) := by decide +kernel
theorem dX4_step_135 : decode cX4_step 135 = .ok (.sipush 311, 3) := by decide +kernel
theorem dX4_step_138 : decode cX4_step 138 = .ok (.iload_n 2, 1) := by decide +kernel
theorem dX4_step_139 : decode cX4_step 139 = .ok (.iadd, 1) := by decide +kernel
theorem dX4_step_140 : decode cX4_step 140 = .ok (.goto 4, 3) := by decide +kernel
theorem dX4_step_143 : decode cX4_step 143 = .ok (.iconst 0, 1) := by decide +kernel
theorem dX4_step_144 : decode cX4_step 144 = .ok (.iastore, 1) := by decide +kernel
theorem dX4_step_145 : decode cX4_step 145 = .ok (.iload 4, 2) := by decide +kernel
theorem dX4_step_147 : decode cX4_step 147 = .ok (.ifCond .lt 17, 3) := by decide +kernel
theorem dX4_step_150 : decode cX4_step 150 = .ok (.aload_n 0, 1) := by decide +kernel
theorem dX4_step_151 : decode cX4_step 151 = .ok (.getfield 19, 3) := by decide +kernel
theorem dX4_step_154 : decode cX4_step 154 = .ok (.sipush 310, 3) := by decide +kernel
theorem dX4_step_157 : decode cX4_step 157 = .ok (.iload_n 2, 1) := by decide +kernel
theorem dX4_step_158 : decode cX4_step 158 = .ok (.iadd, 1) := by decide +kernel
theorem dX4_step_159 : decode cX4_step 159 = .ok (.iload 4, 2) := by decide +kernel
theorem dX4_step_161 : decode cX4_step 161 = .ok (.iconst 1, 1) := by decide +kernel
theorem dX4_step_162 : decode cX4_step 162 = .ok (.iand, 1) := by decide +kernel
theorem dX4_step_163 : decode cX4_step 163 = .ok (.iastore, 1) := by decide +kernel
theorem dX4_step_164 : decode cX4_step 164 = .ok (.aload_n 0, 1) := by decide +kernel
theorem dX4_step_165 : decode cX4_step 165 = .ok (.getfield 28, 3) := by decide +kernel
theorem dX4_step_168 : decode cX4_step 168 = .ok (.aload_n 0, 1) := by decide +kernel
theorem dX4_step_169 : decode cX4_step 169 = .ok (.getfield 70, 3) := by decide +kernel
theorem dX4_step_172 : decode cX4_step 172 = .ok (.iaload, 1) := by decide +kernel
theorem dX4_step_173 : decode cX4_step 173 = .ok (.istore 5, 2) := by decide +kernel
theorem dX4_step_175 : decode cX4_step 175 = .ok (.aload_n 0, 1) := by decide +kernel
theorem dX4_step_176 : decode cX4_step 176 = .ok (.getfield 31, 3) := by decide +kernel
theorem dX4_step_179 : decode cX4_step 179 = .ok (.aload_n 0, 1) := by decide +kernel
theorem dX4_step_180 : decode cX4_step 180 = .ok (.getfield 70, 3) := by decide +kernel
theorem dX4_step_183 : decode cX4_step 183 = .ok (.iload 5, 2) := by decide +kernel
theorem dX4_step_185 : decode cX4_step 185 = .ok (.aload_n 0, 1) := by decide +kernel
theorem dX4_step_186 : decode cX4_step 186 = .ok (.getfield 82, 3) := by decide +kernel
theorem dX4_step_189 : decode cX4_step 189 = .ok (.if_icmp .le 7, 3) := by decide +kernel
theorem dX4_step_192 : decode cX4_step 192 = .ok (.iconst 1, 1) := by decide +kernel
theorem dX4_step_193 : decode cX4_step 193 = .ok (.goto 17, 3) := by decide +kernel
theorem dX4_step_196 : decode cX4_step 196 = .ok (.iload 5, 2) := by decide +kernel
theorem dX4_step_198 : decode cX4_step 198 = .ok (.aload_n 0, 1) := by decide +kernel
theorem dX4_step_199 : decode cX4_step 199 = .ok (.getfield 79, 3) := by decide +kernel
theorem dX4_step_202 : decode cX4_step 202 = .ok (.if_icmp .ge 7, 3) := by decide +kernel
theorem dX4_step_205 : decode cX4_step 205 = .ok (.iconst (-1), 1) := by decide +kernel
theorem dX4_step_206 : decode cX4_step 206 = .ok (.goto 4, 3) := by decide +kernel
theorem dX4_step_209 : decode cX4_step 209 = .ok (.iconst 0, 1) := by decide +kernel
theorem dX4_step_210 : decode cX4_step 210 = .ok (.iastore, 1) := by decide +kernel
theorem dX4_step_211 : decode cX4_step 211 = .ok (.aload_n 0, 1) := by decide +kernel
theorem dX4_step_212 : decode cX4_step 212 = .ok (.iload 5, 2) := by decide +kernel
theorem dX4_step_214 : decode cX4_step 214 = .ok (.aload_n 0, 1) := by decide +kernel
theorem dX4_step_215 : decode cX4_step 215 = .ok (.getfield 82, 3) := by decide +kernel
theorem dX4_step_218 : decode cX4_step 218 = .ok (.if_icmp .le 8, 3) := by decide +kernel
theorem dX4_step_221 : decode cX4_step 221 = .ok (.iload 5, 2) := by decide +kernel
theorem dX4_step_223 : decode cX4_step 223 = .ok (.goto 7, 3) := by decide +kernel
theorem dX4_step_226 : decode cX4_step 226 = .ok (.aload_n 0, 1) := by decide +kernel
theorem dX4_step_227 : decode cX4_step 227 = .ok (.getfield 82, 3) := by decide +kernel
theorem dX4_step_230 : decode cX4_step 230 = .ok (.putfield 82, 3) := by decide +kernel
theorem dX4_step_233 : decode cX4_step 233 = .ok (.aload_n 0, 1) := by decide +kernel
theorem dX4_step_234 : decode cX4_step 234 = .ok (.iload 5, 2) := by decide +kernel
theorem dX4_step_236 : decode cX4_step 236 = .ok (.aload_n 0, 1) := by decide +kernel
theorem dX4_step_237 : decode cX4_step 237 = .ok (.getfield 79, 3) := by decide +kernel
theorem dX4_step_240 : decode cX4_step 240 = .ok (.if_icmp .ge 8, 3) := by decide +kernel
theorem dX4_step_243 : decode cX4_step 243 = .ok (.iload 5, 2) := by decide +kernel
theorem dX4_step_245 : decode cX4_step 245 = .ok (.goto 7, 3) := by decide +kernel
theorem dX4_step_248 : decode cX4_step 248 = .ok (.aload_n 0, 1) := by decide +kernel
theorem dX4_step_249 : decode cX4_step 249 = .ok (.getfield 79, 3) := by decide +kernel
theorem dX4_step_252 : decode cX4_step 252 = .ok (.putfield 79, 3) := by decide +kernel
theorem dX4_step_255 : decode cX4_step 255 = .ok (.iload 4, 2) := by decide +kernel
theorem dX4_step_257 : decode cX4_step 257 = .ok (.ifCond .lt 7, 3) := by decide +kernel
theorem dX4_step_260 : decode cX4_step 260 = .ok (.iconst 1, 1) := by decide +kernel
theorem dX4_step_261 : decode cX4_step 261 = .ok (.goto 4, 3) := by decide +kernel
theorem dX4_step_264 : decode cX4_step 264 = .ok (.iconst 0, 1) := by decide +kernel
theorem dX4_step_265 : decode cX4_step 265 = .ok (.ireturn, 1) := by decide +kernel
theorem dX4_cycles_0 : decode cX4_cycles 0 = .ok (.iconst 0, 1) := by decide +kernel
theorem dX4_cycles_1 : decode cX4_cycles 1 = .ok (.istore_n 1, 1) := by decide +kernel
theorem dX4_cycles_2 : decode cX4_cycles 2 = .ok (.iconst 0, 1) := by decide +kernel
theorem dX4_cycles_3 : decode cX4_cycles 3 = .ok (.istore_n 2, 1) := by decide +kernel
theorem dX4_cycles_4 : decode cX4_cycles 4 = .ok (.iload_n 2, 1) := by decide +kernel
theorem dX4_cycles_5 : decode cX4_cycles 5 = .ok (.sipush 620, 3) := by decide +kernel
theorem dX4_cycles_8 : decode cX4_cycles 8 = .ok (.if_icmp .ge 16, 3) := by decide +kernel
theorem dX4_cycles_11 : decode cX4_cycles 11 = .ok (.aload_n 0, 1) := by decide +kernel
theorem dX4_cycles_12 : decode cX4_cycles 12 = .ok (.getfield 22, 3) := by decide +kernel
theorem dX4_cycles_15 : decode cX4_cycles 15 = .ok (.iload_n 2, 1) := by decide +kernel
theorem dX4_cycles_16 : decode cX4_cycles 16 = .ok (.iconst 0, 1) := by decide +kernel
theorem dX4_cycles_17 : decode cX4_cycles 17 = .ok (.iastore, 1) := by decide +kernel
theorem dX4_cycles_18 : decode cX4_cycles 18 = .ok (.iinc 2 1, 3) := by decide +kernel
theorem dX4_cycles_21 : decode cX4_cycles 21 = .ok (.goto (-17), 3) := by decide +kernel
theorem dX4_cycles_24 : decode cX4_cycles 24 = .ok (.aload_n 0, 1) := by decide +kernel
theorem dX4_cycles_25 : decode cX4_cycles 25 = .ok (.getfield 70, 3) := by decide +kernel
theorem dX4_cycles_28 : decode cX4_cycles 28 = .ok (.iconst 1, 1) := by decide +kernel
theorem dX4_cycles_29 : decode cX4_cycles 29 = .ok (.isub, 1) := by decide +kernel
theorem dX4_cycles_30 : decode cX4_cycles 30 = .ok (.istore_n 2, 1) := by decide +kernel
theorem dX4_cycles_31 : decode cX4_cycles 31 = .ok (.iload_n 2, 1) := by decide +kernel
theorem dX4_cycles_32 : decode cX4_cycles 32 = .ok (.ifCond .lt 112, 3) := by decide +kernel
theorem dX4_cycles_35 : decode cX4_cycles 35 = .ok (.aload_n 0, 1) := by decide +kernel
theorem dX4_cycles_36 : decode cX4_cycles 36 = .ok (.getfield 34, 3) := by decide +kernel
theorem dX4_cycles_39 : decode cX4_cycles 39 = .ok (.iload_n 2, 1) := by decide +kernel
theorem dX4_cycles_40 : decode cX4_cycles 40 = .ok (.iconst 1, 1) := by decide +kernel
theorem dX4_cycles_41 : decode cX4_cycles 41 = .ok (.iadd, 1) := by decide +kernel
theorem dX4_cycles_42 : decode cX4_cycles 42 = .ok (.iaload, 1) := by decide +kernel
theorem dX4_cycles_43 : decode cX4_cycles 43 = .ok (.istore_n 3, 1) := by decide +kernel
theorem dX4_cycles_44 : decode cX4_cycles 44 = .ok (.iload_n 3, 1) := by decide +kernel
theorem dX4_cycles_45 : decode cX4_cycles 45 = .ok (.ifCond .le 41, 3) := by decide +kernel
theorem dX4_cycles_48 : decode cX4_cycles 48 = .ok (.aload_n 0, 1) := by decide +kernel
theorem dX4_cycles_49 : decode cX4_cycles 49 = .ok (.getfield 22, 3) := by decide +kernel
theorem dX4_cycles_52 : decode cX4_cycles 52 = .ok (.iload_n 3, 1) := by decide +kernel
theorem dX4_cycles_53 : decode cX4_cycles 53 = .ok (.iconst 1, 1) := by decide +kernel
theorem dX4_cycles_54 : decode cX4_cycles 54 = .ok (.isub, 1) := by decide +kernel
theorem dX4_cycles_55 : decode cX4_cycles 55 = .ok (.iconst 1, 1) := by decide +kernel
theorem dX4_cycles_56 : decode cX4_cycles 56 = .ok (.aload_n 0, 1) := by decide +kernel
theorem dX4_cycles_57 : decode cX4_cycles 57 = .ok (.getfield 22, 3) := by decide +kernel
theorem dX4_cycles_60 : decode cX4_cycles 60 = .ok (.iload_n 3, 1) := by decide +kernel
theorem dX4_cycles_61 : decode cX4_cycles 61 = .ok (.iconst 1, 1) := by decide +kernel
theorem dX4_cycles_62 : decode cX4_cycles 62 = .ok (.isub, 1) := by decide +kernel
theorem dX4_cycles_63 : decode cX4_cycles 63 = .ok (.iaload, 1) := by decide +kernel
theorem dX4_cycles_64 : decode cX4_cycles 64 = .ok (.isub, 1) := by decide +kernel
theorem dX4_cycles_65 : decode cX4_cycles 65 = .ok (.iastore, 1) := by decide +kernel
theorem dX4_cycles_66 : decode cX4_cycles 66 = .ok (.iload_n 1, 1) := by decide +kernel
theorem dX4_cycles_67 : decode cX4_cycles 67 = .ok (.aload_n 0, 1) := by decide +kernel
theorem dX4_cycles_68 : decode cX4_cycles 68 = .ok (.getfield 22, 3) := by decide +kernel
theorem dX4_cycles_71 : decode cX4_cycles 71 = .ok (.iload_n 3, 1) := by decide +kernel
theorem dX4_cycles_72 : decode cX4_cycles 72 = .ok (.iconst 1, 1) := by decide +kernel
theorem dX4_cycles_73 : decode cX4_cycles 73 = .ok (.isub, 1) := by decide +kernel
theorem dX4_cycles_74 : decode cX4_cycles 74 = .ok (.iaload, 1) := by decide +kernel
theorem dX4_cycles_75 : decode cX4_cycles 75 = .ok (.iconst 1, 1) := by decide +kernel
theorem dX4_cycles_76 : decode cX4_cycles 76 = .ok (.if_icmp .ne 7, 3) := by decide +kernel
theorem dX4_cycles_79 : decode cX4_cycles 79 = .ok (.iconst 1, 1) := by decide +kernel
theorem dX4_cycles_80 : decode cX4_cycles 80 = .ok (.goto 4, 3) := by decide +kernel
theorem dX4_cycles_83 : decode cX4_cycles 83 = .ok (.iconst (-1), 1) := by decide +kernel
theorem dX4_cycles_84 : decode cX4_cycles 84 = .ok (.iadd, 1) := by decide +kernel
theorem dX4_cycles_85 : decode cX4_cycles 85 = .ok (.istore_n 1, 1) := by decide +kernel
theorem dX4_cycles_86 : decode cX4_cycles 86 = .ok (.iload_n 1, 1) := by decide +kernel
theorem dX4_cycles_87 : decode cX4_cycles 87 = .ok (.ifCond .ne 51, 3) := by decide +kernel
theorem dX4_cycles_90 : decode cX4_cycles 90 = .ok (.aload_n 0, 1) := by decide +kernel
theorem dX4_cycles_91 : decode cX4_cycles 91 = .ok (.getfield 25, 3) := by decide +kernel
theorem dX4_cycles_94 : decode cX4_cycles 94 = .ok (.iload_n 2, 1) := by decide +kernel
theorem dX4_cycles_95 : decode cX4_cycles 95 = .ok (.iaload, 1) := by decide +kernel
theorem dX4_cycles_96 : decode cX4_cycles 96 = .ok (.aload_n 0, 1) := by decide +kernel
theorem dX4_cycles_97 : decode cX4_cycles 97 = .ok (.getfield 25, 3) := by decide +kernel
theorem dX4_cycles_100 : decode cX4_cycles 100 = .ok (.aload_n 0, 1) := by decide +kernel
theorem dX4_cycles_101 : decode cX4_cycles 101 = .ok (.getfield 70, 3) := by decide +kernel
theorem dX4_cycles_104 : decode cX4_cycles 104 = .ok (.iaload, 1) := by decide +kernel
theorem dX4_cycles_105 : decode cX4_cycles 105 = .ok (.if_icmp .ne 33, 3) := by decide +kernel
theorem dX4_cycles_108 : decode cX4_cycles 108 = .ok (.aload_n 0, 1) := by decide +kernel
theorem dX4_cycles_109 : decode cX4_cycles 109 = .ok (.getfield 28, 3) := by decide +kernel
theorem dX4_cycles_112 : decode cX4_cycles 112 = .ok (.iload_n 2, 1) := by decide +kernel
theorem dX4_cycles_113 : decode cX4_cycles 113 = .ok (.iaload, 1) := by decide +kernel
theorem dX4_cycles_114 : decode cX4_cycles 114 = .ok (.aload_n 0, 1) := by decide +kernel
theorem dX4_cycles_115 : decode cX4_cycles 115 = .ok (.getfield 28, 3) := by decide +kernel
theorem dX4_cycles_118 : decode cX4_cycles 118 = .ok (.aload_n 0, 1) := by decide +kernel
theorem dX4_cycles_119 : decode cX4_cycles 119 = .ok (.getfield 70, 3) := by decide +kernel
theorem dX4_cycles_122 : decode cX4_cycles 122 = .ok (.iaload, 1) := by decide +kernel
theorem dX4_cycles_123 : decode cX4_cycles 123 = .ok (.if_icmp .ne 15, 3) := by decide +kernel
theorem dX4_cycles_126 : decode cX4_cycles 126 = .ok (.aload_n 0, 1) := by decide +kernel
theorem dX4_cycles_127 : decode cX4_cycles 127 = .ok (.aload_n 0, 1) := by decide +kernel
theorem dX4_cycles_128 : decode cX4_cycles 128 = .ok (.getfield 70, 3) := by decide +kernel
theorem dX4_cycles_131 : decode cX4_cycles 131 = .ok (.iload_n 2, 1) := by decide +kernel
theorem dX4_cycles_132 : decode cX4_cycles 132 = .ok (.isub, 1) := by decide +kernel
theorem dX4_cycles_133 : decode cX4_cycles 133 = .ok (.putfield 73, 3) := by decide +kernel
theorem dX4_cycles_136 : decode cX4_cycles 136 = .ok (.iconst 1, 1) := by decide +kernel
theorem dX4_cycles_137 : decode cX4_cycles 137 = .ok (.ireturn, 1) := by decide +kernel
theorem dX4_cycles_138 : decode cX4_cycles 138 = .ok (.iinc 2 (-1), 3) := by decide +kernel
theorem dX4_cycles_141 : decode cX4_cycles 141 = .ok (.goto (-110), 3) := by decide +kernel
theorem dX4_cycles_144 : decode cX4_cycles 144 = .ok (.iconst 0, 1) := by decide +kernel
theorem dX4_cycles_145 : decode cX4_cycles 145 = .ok (.ireturn, 1) := by decide +kernel
set_option maxRecDepth 20000 in
theorem ggX4_drifts_X4_alike : GoodIn wsX4_drifts wsX4_alike := goodIn_r _ [14, 3, 4, 5, 2, 15, 16, 17, 18, 19, 20, 21, 22, 23, 24, 25, 26, 27, 28, 29, 30, 31, 32, 33, 34, 35, 36, 37, 38, 39, 40, 41, 42] (by decide +kernel) (by decide +kernel)
set_option maxRecDepth 20000 in
theorem gX4_drifts_X4_alike : GoodIn wsX4_drifts (wsV RX4 85 RX4 yX4_alike wsX4_alike) := goodIn_app (goodIn_of _ (by decide +kernel)) ggX4_drifts_X4_alike
theorem dX4_drifts_0 : decode cX4_drifts 0 = .ok (.aload_n 0, 1) := by decide +kernel
theorem dX4_drifts_1 : decode cX4_drifts 1 = .ok (.getfield 31, 3) := by decide +kernel
theorem dX4_drifts_4 : decode cX4_drifts 4 = .ok (.aload_n 0, 1) := by decide +kernel
theorem dX4_drifts_5 : decode cX4_drifts 5 = .ok (.getfield 70, 3) := by decide +kernel
theorem dX4_drifts_8 : decode cX4_drifts 8 = .ok (.iaload, 1) := by decide +kernel
theorem dX4_drifts_9 : decode cX4_drifts 9 = .ok (.istore_n 1, 1) := by decide +kernel
theorem dX4_drifts_10 : decode cX4_drifts 10 = .ok (.iload_n 1, 1) := by decide +kernel
theorem dX4_drifts_11 : decode cX4_drifts 11 = .ok (.ifCond .ne 5, 3) := by decide +kernel
theorem dX4_drifts_14 : decode cX4_drifts 14 = .ok (.iconst 0, 1) := by decide +kernel
theorem dX4_drifts_15 : decode cX4_drifts 15 = .ok (.ireturn, 1) := by decide +kernel
theorem dX4_drifts_16 : decode cX4_drifts 16 = .ok (.iconst 0, 1) := by decide +kernel
theorem dX4_drifts_17 : decode cX4_drifts 17 = .ok (.istore_n 2, 1) := by decide +kernel
theorem dX4_drifts_18 : decode cX4_drifts 18 = .ok (.iload_n 2, 1) := by decide +kernel
theorem dX4_drifts_19 : decode cX4_drifts 19 = .ok (.sipush 620, 3) := by decide +kernel
theorem dX4_drifts_22 : decode cX4_drifts 22 = .ok (.if_icmp .ge 21, 3) := by decide +kernel
theorem dX4_drifts_25 : decode cX4_drifts 25 = .ok (.aload_n 0, 1) := by decide +kernel
theorem dX4_drifts_26 : decode cX4_drifts 26 = .ok (.getfield 22, 3) := by decide +kernel
theorem dX4_drifts_29 : decode cX4_drifts 29 = .ok (.iload_n 2, 1) := by decide +kernel
theorem dX4_drifts_30 : decode cX4_drifts 30 = .ok (.aload_n 0, 1) := by decide +kernel
theorem dX4_drifts_31 : decode cX4_drifts 31 = .ok (.getfield 19, 3) := by decide +kernel
theorem dX4_drifts_34 : decode cX4_drifts 34 = .ok (.iload_n 2, 1) := by decide +kernel
theorem dX4_drifts_35 : decode cX4_drifts 35 = .ok (.iaload, 1) := by decide +kernel
theorem dX4_drifts_36 : decode cX4_drifts 36 = .ok (.iastore, 1) := by decide +kernel
theorem dX4_drifts_37 : decode cX4_drifts 37 = .ok (.iinc 2 1, 3) := by decide +kernel
theorem dX4_drifts_40 : decode cX4_drifts 40 = .ok (.goto (-22), 3) := by decide +kernel
theorem dX4_drifts_43 : decode cX4_drifts 43 = .ok (.aload_n 0, 1) := by decide +kernel
theorem dX4_drifts_44 : decode cX4_drifts 44 = .ok (.getfield 28, 3) := by decide +kernel
theorem dX4_drifts_47 : decode cX4_drifts 47 = .ok (.aload_n 0, 1) := by decide +kernel
theorem dX4_drifts_48 : decode cX4_drifts 48 = .ok (.getfield 70, 3) := by decide +kernel
theorem dX4_drifts_51 : decode cX4_drifts 51 = .ok (.iaload, 1) := by decide +kernel
theorem dX4_drifts_52 : decode cX4_drifts 52 = .ok (.iload_n 1, 1) := by decide +kernel
theorem dX4_drifts_53 : decode cX4_drifts 53 = .ok (.imul, 1) := by decide +kernel
theorem dX4_drifts_54 : decode cX4_drifts 54 = .ok (.istore_n 2, 1) := by decide +kernel
theorem dX4_drifts_55 : decode cX4_drifts 55 = .ok (.aload_n 0, 1) := by decide +kernel
theorem dX4_drifts_56 : decode cX4_drifts 56 = .ok (.getfield 70, 3) := by decide +kernel
theorem dX4_drifts_59 : decode cX4_drifts 59 = .ok (.iconst 1, 1) := by decide +kernel
theorem dX4_drifts_60 : decode cX4_drifts 60 = .ok (.isub, 1) := by decide +kernel
theorem dX4_drifts_61 : decode cX4_drifts 61 = .ok (.istore_n 3, 1) := by decide +kernel
theorem dX4_drifts_62 : decode cX4_drifts 62 = .ok (.iload_n 3, 1) := by decide +kernel
theorem dX4_drifts_63 : decode cX4_drifts 63 = .ok (.ifCond .le 153, 3) := by decide +kernel
theorem dX4_drifts_66 : decode cX4_drifts 66 = .ok (.aload_n 0, 1) := by decide +kernel
theorem dX4_drifts_67 : decode cX4_drifts 67 = .ok (.getfield 34, 3) := by decide +kernel
theorem dX4_drifts_70 : decode cX4_drifts 70 = .ok (.iload_n 3, 1) := by decide +kernel
theorem dX4_drifts_71 : decode cX4_drifts 71 = .ok (.iconst 1, 1) := by decide +kernel
theorem dX4_drifts_72 : decode cX4_drifts 72 = .ok (.iadd, 1) := by decide +kernel
theorem dX4_drifts_73 : decode cX4_drifts 73 = .ok (.iaload, 1) := by decide +kernel
theorem dX4_drifts_74 : decode cX4_drifts 74 = .ok (.istore 4, 2) := by decide +kernel
theorem dX4_drifts_76 : decode cX4_drifts 76 = .ok (.iload 4, 2) := by decide +kernel
theorem dX4_drifts_78 : decode cX4_drifts 78 = .ok (.ifCond .le 23, 3) := by decide +kernel
theorem dX4_drifts_81 : decode cX4_drifts 81 = .ok (.aload_n 0, 1) := by decide +kernel
theorem dX4_drifts_82 : decode cX4_drifts 82 = .ok (.getfield 22, 3) := by decide +kernel
theorem dX4_drifts_85 : decode cX4_drifts 85 = .ok (.iload 4, 2) := by decide +kernel
theorem dX4_drifts_87 : decode cX4_drifts 87 = .ok (.iconst 1, 1) := by decide +kernel
theorem dX4_drifts_88 : decode cX4_drifts 88 = .ok (.isub, 1) := by decide +kernel
theorem dX4_drifts_89 : decode cX4_drifts 89 = .ok (.iconst 1, 1) := by decide +kernel
theorem dX4_drifts_90 : decode cX4_drifts 90 = .ok (.aload_n 0, 1) := by decide +kernel
theorem dX4_drifts_91 : decode cX4_drifts 91 = .ok (.getfield 22, 3) := by decide +kernel
theorem dX4_drifts_94 : decode cX4_drifts 94 = .ok (.iload 4, 2) := by decide +kernel
theorem dX4_drifts_96 : decode cX4_drifts 96 = .ok (.iconst 1, 1) := by decide +kernel
theorem dX4_drifts_97 : decode cX4_drifts 97 = .ok (.isub, 1) := by decide +kernel
theorem dX4_drifts_98 : decode cX4_drifts 98 = .ok (.iaload, 1) := by decide +kernel
theorem dX4_drifts_99 : decode cX4_drifts 99 = .ok (.isub, 1) := by decide +kernel
theorem dX4_drifts_100 : decode cX4_drifts 100 = .ok (.iastore, 1) := by decide +kernel
theorem dX4_drifts_101 : decode cX4_drifts 101 = .ok (.aload_n 0, 1) := by decide +kernel
theorem dX4_drifts_102 : decode cX4_drifts 102 = .ok (.getfield 28, 3) := by decide +kernel
theorem dX4_drifts_105 : decode cX4_drifts 105 = .ok (.iload_n 3, 1) := by decide +kernel
theorem dX4_drifts_106 : decode cX4_drifts 106 = .ok (.iaload, 1) := by decide +kernel
theorem dX4_drifts_107 : decode cX4_drifts 107 = .ok (.iload_n 1, 1) := by decide +kernel
theorem dX4_drifts_108 : decode cX4_drifts 108 = .ok (.imul, 1) := by decide +kernel
theorem dX4_drifts_109 : decode cX4_drifts 109 = .ok (.iload_n 2, 1) := by decide +kernel
theorem dX4_drifts_110 : decode cX4_drifts 110 = .ok (.if_icmp .ge 14, 3) := by decide +kernel
theorem dX4_drifts_113 : decode cX4_drifts 113 = .ok (.aload_n 0, 1) := by decide +kernel
theorem dX4_drifts_114 : decode cX4_drifts 114 = .ok (.getfield 28, 3) := by decide +kernel
theorem dX4_drifts_117 : decode cX4_drifts 117 = .ok (.iload_n 3, 1) := by decide +kernel
theorem dX4_drifts_118 : decode cX4_drifts 118 = .ok (.iaload, 1) := by decide +kernel
theorem dX4_drifts_119 : decode cX4_drifts 119 = .ok (.iload_n 1, 1) := by decide +kernel
theorem dX4_drifts_120 : decode cX4_drifts 120 = .ok (.imul, 1) := by decide +kernel
theorem dX4_drifts_121 : decode cX4_drifts 121 = .ok (.goto 4, 3) := by decide +kernel
theorem dX4_drifts_124 : decode cX4_drifts 124 = .ok (.iload_n 2, 1) := by decide +kernel
theorem dX4_drifts_125 : decode cX4_drifts 125 = .ok (.istore_n 2, 1) := by decide +kernel
theorem dX4_drifts_126 : decode cX4_drifts 126 = .ok (.aload_n 0, 1) := by decide +kernel
theorem dX4_drifts_127 : decode cX4_drifts 127 = .ok (.getfield 31, 3) := by decide +kernel
theorem dX4_drifts_130 : decode cX4_drifts 130 = .ok (.iload_n 3, 1) := by decide +kernel
theorem dX4_drifts_131 : decode cX4_drifts 131 = .ok (.iaload, 1) := by decide +kernel
theorem dX4_drifts_132 : decode cX4_drifts 132 = .ok (.iload_n 1, 1) := by decide +kernel
theorem dX4_drifts_133 : decode cX4_drifts 133 = .ok (.if_icmp .ne 77, 3) := by decide +kernel
theorem dX4_drifts_136 : decode cX4_drifts 136 = .ok (.aload_n 0, 1) := by decide +kernel
theorem dX4_drifts_137 : decode cX4_drifts 137 = .ok (.getfield 25, 3) := by decide +kernel
theorem dX4_drifts_140 : decode cX4_drifts 140 = .ok (.iload_n 3, 1) := by decide +kernel
theorem dX4_drifts_141 : decode cX4_drifts 141 = .ok (.iaload, 1) := by decide +kernel
theorem dX4_drifts_142 : decode cX4_drifts 142 = .ok (.aload_n 0, 1) := by decide +kernel
theorem dX4_drifts_143 : decode cX4_drifts 143 = .ok (.getfield 25, 3) := by decide +kernel
theorem dX4_drifts_146 : decode cX4_drifts 146 = .ok (.aload_n 0, 1) := by decide +kernel
theorem dX4_drifts_147 : decode cX4_drifts 147 = .ok (.getfield 70, 3) := by decide +kernel
theorem dX4_drifts_150 : decode cX4_drifts 150 = .ok (.iaload, 1) := by decide +kernel
theorem dX4_drifts_151 : decode cX4_drifts 151 = .ok (.if_icmp .ne 59, 3) := by decide +kernel
theorem dX4_drifts_154 : decode cX4_drifts 154 = .ok (.aload_n 0, 1) := by decide +kernel
theorem dX4_drifts_155 : decode cX4_drifts 155 = .ok (.iload_n 1, 1) := by decide +kernel
theorem dX4_drifts_156 : decode cX4_drifts 156 = .ok (.aload_n 0, 1) := by decide +kernel
theorem dX4_drifts_157 : decode cX4_drifts 157 = .ok (.getfield 28, 3) := by decide +kernel
theorem dX4_drifts_160 : decode cX4_drifts 160 = .ok (.iload_n 3, 1) := by decide +kernel
theorem dX4_drifts_161 : decode cX4_drifts 161 = .ok (.iaload, 1) := by decide +kernel
theorem dX4_drifts_162 : decode cX4_drifts 162 = .ok (.aload_n 0, 1) := by decide +kernel
theorem dX4_drifts_163 : decode cX4_drifts 163 = .ok (.getfield 28, 3) := by decide +kernel
theorem dX4_drifts_166 : decode cX4_drifts 166 = .ok (.iload_n 3, 1) := by decide +kernel
theorem dX4_drifts_167 : decode cX4_drifts 167 = .ok (.iaload, 1) := by decide +kernel
theorem dX4_drifts_168 : decode cX4_drifts 168 = .ok (.iload_n 1, 1) := by decide +kernel
theorem dX4_drifts_169 : decode cX4_drifts 169 = .ok (.imul, 1) := by decide +kernel
theorem dX4_drifts_170 : decode cX4_drifts 170 = .ok (.iload_n 2, 1) := by decide +kernel
theorem dX4_drifts_171 : decode cX4_drifts 171 = .ok (.isub, 1) := by decide +kernel
theorem dX4_drifts_172 : decode cX4_drifts 172 = .ok (.invokevirtual 85, 3) := by decide +kernel
theorem dX4_drifts_175 : decode cX4_drifts 175 = .ok (.ifCond .eq 35, 3) := by decide +kernel
theorem dX4_drifts_178 : decode cX4_drifts 178 = .ok (.aload_n 0, 1) := by decide +kernel
theorem dX4_drifts_179 : decode cX4_drifts 179 = .ok (.aload_n 0, 1) := by decide +kernel
theorem dX4_drifts_180 : decode cX4_drifts 180 = .ok (.getfield 70, 3) := by decide +kernel
theorem dX4_drifts_183 : decode cX4_drifts 183 = .ok (.iload_n 3, 1) := by decide +kernel
theorem dX4_drifts_184 : decode cX4_drifts 184 = .ok (.isub, 1) := by decide +kernel
theorem dX4_drifts_185 : decode cX4_drifts 185 = .ok (.putfield 73, 3) := by decide +kernel
theorem dX4_drifts_188 : decode cX4_drifts 188 = .ok (.aload_n 0, 1) := by decide +kernel
theorem dX4_drifts_189 : decode cX4_drifts 189 = .ok (.aload_n 0, 1) := by decide +kernel
theorem dX4_drifts_190 : decode cX4_drifts 190 = .ok (.getfield 28, 3) := by decide +kernel
theorem dX4_drifts_193 : decode cX4_drifts 193 = .ok (.aload_n 0, 1) := by decide +kernel
theorem dX4_drifts_194 : decode cX4_drifts 194 = .ok (.getfield 70, 3) := by decide +kernel
theorem dX4_drifts_197 : decode cX4_drifts 197 = .ok (.iaload, 1) := by decide +kernel
theorem dX4_drifts_198 : decode cX4_drifts 198 = .ok (.aload_n 0, 1) := by decide +kernel
theorem dX4_drifts_199 : decode cX4_drifts 199 = .ok (.getfield 28, 3) := by decide +kernel
theorem dX4_drifts_202 : decode cX4_drifts 202 = .ok (.iload_n 3, 1) := by decide +kernel
theorem dX4_drifts_203 : decode cX4_drifts 203 = .ok (.iaload, 1) := by decide +kernel
theorem dX4_drifts_204 : decode cX4_drifts 204 = .ok (.isub, 1) := by decide +kernel
theorem dX4_drifts_205 : decode cX4_drifts 205 = .ok (.putfield 76, 3) := by decide +kernel
theorem dX4_drifts_208 : decode cX4_drifts 208 = .ok (.iconst 1, 1) := by decide +kernel
theorem dX4_drifts_209 : decode cX4_drifts 209 = .ok (.ireturn, 1) := by decide +kernel
theorem dX4_drifts_210 : decode cX4_drifts 210 = .ok (.iinc 3 (-1), 3) := by decide +kernel
theorem dX4_drifts_213 : decode cX4_drifts 213 = .ok (.goto (-151), 3) := by decide +kernel
theorem dX4_drifts_216 : decode cX4_drifts 216 = .ok (.iconst 0, 1) := by decide +kernel
theorem dX4_drifts_217 : decode cX4_drifts 217 = .ok (.ireturn, 1) := by decide +kernel
theorem dX4_alike_0 : decode cX4_alike 0 = .ok (.iconst 1, 1) := by decide +kernel
theorem dX4_alike_1 : decode cX4_alike 1 = .ok (.istore 4, 2) := by decide +kernel
theorem dX4_alike_3 : decode cX4_alike 3 = .ok (.iconst 0, 1) := by decide +kernel
theorem dX4_alike_4 : decode cX4_alike 4 = .ok (.istore 5, 2) := by decide +kernel
theorem dX4_alike_6 : decode cX4_alike 6 = .ok (.iload 5, 2) := by decide +kernel
theorem dX4_alike_8 : decode cX4_alike 8 = .ok (.iload_n 3, 1) := by decide +kernel
theorem dX4_alike_9 : decode cX4_alike 9 = .ok (.if_icmp .gt 62, 3) := by decide +kernel
theorem dX4_alike_12 : decode cX4_alike 12 = .ok (.iload 4, 2) := by decide +kernel
theorem dX4_alike_14 : decode cX4_alike 14 = .ok (.ifCond .eq 48, 3) := by decide +kernel
theorem dX4_alike_17 : decode cX4_alike 17 = .ok (.aload_n 0, 1) := by decide +kernel
theorem dX4_alike_18 : decode cX4_alike 18 = .ok (.getfield 22, 3) := by decide +kernel
theorem dX4_alike_21 : decode cX4_alike 21 = .ok (.sipush 310, 3) := by decide +kernel
theorem dX4_alike_24 : decode cX4_alike 24 = .ok (.iload_n 2, 1) := by decide +kernel
theorem dX4_alike_25 : decode cX4_alike 25 = .ok (.iadd, 1) := by decide +kernel
theorem dX4_alike_26 : decode cX4_alike 26 = .ok (.iload_n 1, 1) := by decide +kernel
theorem dX4_alike_27 : decode cX4_alike 27 = .ok (.iload 5, 2) := by decide +kernel
theorem dX4_alike_29 : decode cX4_alike 29 = .ok (.imul, 1) := by decide +kernel
theorem dX4_alike_30 : decode cX4_alike 30 = .ok (.isub, 1) := by decide +kernel
theorem dX4_alike_31 : decode cX4_alike 31 = .ok (.iaload, 1) := by decide +kernel
theorem dX4_alike_32 : decode cX4_alike 32 = .ok (.aload_n 0, 1) := by decide +kernel
theorem dX4_alike_33 : decode cX4_alike 33 = .ok (.getfield 19, 3) := by decide +kernel
theorem dX4_alike_36 : decode cX4_alike 36 = .ok (.sipush 310, 3) := by decide +kernel
theorem dX4_alike_39 : decode cX4_alike 39 = .ok (.aload_n 0, 1) := by decide +kernel
theorem dX4_alike_40 : decode cX4_alike 40 = .ok (.getfield 28, 3) := by decide +kernel
theorem dX4_alike_43 : decode cX4_alike 43 = .ok (.aload_n 0, 1) := by decide +kernel
theorem dX4_alike_44 : decode cX4_alike 44 = .ok (.getfield 70, 3) := by decide +kernel
theorem dX4_alike_47 : decode cX4_alike 47 = .ok (.iaload, 1) := by decide +kernel
theorem dX4_alike_48 : decode cX4_alike 48 = .ok (.iadd, 1) := by decide +kernel
theorem dX4_alike_49 : decode cX4_alike 49 = .ok (.iload_n 1, 1) := by decide +kernel
theorem dX4_alike_50 : decode cX4_alike 50 = .ok (.iload 5, 2) := by decide +kernel
theorem dX4_alike_52 : decode cX4_alike 52 = .ok (.imul, 1) := by decide +kernel
theorem dX4_alike_53 : decode cX4_alike 53 = .ok (.isub, 1) := by decide +kernel
theorem dX4_alike_54 : decode cX4_alike 54 = .ok (.iaload, 1) := by decide +kernel
theorem dX4_alike_55 : decode cX4_alike 55 = .ok (.if_icmp .ne 7, 3) := by decide +kernel
theorem dX4_alike_58 : decode cX4_alike 58 = .ok (.iconst 1, 1) := by decide +kernel
theorem dX4_alike_59 : decode cX4_alike 59 = .ok (.goto 4, 3) := by decide +kernel
theorem dX4_alike_62 : decode cX4_alike 62 = .ok (.iconst 0, 1) := by decide +kernel
theorem dX4_alike_63 : decode cX4_alike 63 = .ok (.istore 4, 2) := by decide +kernel
theorem dX4_alike_65 : decode cX4_alike 65 = .ok (.iinc 5 1, 3) := by decide +kernel
theorem dX4_alike_68 : decode cX4_alike 68 = .ok (.goto (-62), 3) := by decide +kernel
theorem dX4_alike_71 : decode cX4_alike 71 = .ok (.iload 4, 2) := by decide +kernel
theorem dX4_alike_73 : decode cX4_alike 73 = .ok (.ireturn, 1) := by decide +kernel
set_option maxRecDepth 20000 in
theorem ggX4_outcome_X4_begin : GoodIn wsX4_outcome wsX4_begin := goodIn_r _ [6, 7, 1, 8, 9, 10, 11, 12, 13, 14, 33, 34, 35, 36, 37, 38, 39, 40, 41, 42, 43, 44, 45, 46, 47, 48, 49, 50, 51, 52, 53, 54, 55, 56, 57, 58, 59, 60] (by decide +kernel) (by decide +kernel)
set_option maxRecDepth 20000 in
theorem gX4_outcome_X4_begin : GoodIn wsX4_outcome (wsV RX4 89 RX4 yX4_begin wsX4_begin) := goodIn_app (goodIn_of _ (by decide +kernel)) ggX4_outcome_X4_begin
set_option maxRecDepth 20000 in
theorem ggX4_outcome_X4_step : GoodIn wsX4_outcome wsX4_step := goodIn_r _ [18, 13, 1, 7, 12, 19, 14, 11, 10, 33, 34, 35, 36, 37, 38, 39, 40, 41, 42, 43, 44, 45, 46, 47, 48, 49, 50, 51, 52, 53, 54, 55, 56, 57, 58, 59, 60] (by decide +kernel) (by decide +kernel)
set_option maxRecDepth 20000 in
theorem gX4_outcome_X4_step : GoodIn wsX4_outcome (wsV RX4 92 RX4 yX4_step wsX4_step) := goodIn_app (goodIn_of _ (by decide +kernel)) ggX4_outcome_X4_step
set_option maxRecDepth 20000 in
theorem ggX4_outcome_X4_cycles : GoodIn wsX4_outcome wsX4_cycles := goodIn_r _ [23, 24, 1, 19, 12, 13, 8, 33, 34, 35, 36, 37, 38, 39, 40, 41, 42, 43, 44, 45, 46, 47, 48, 49, 50, 51, 52, 53, 54, 55, 56, 57, 58, 59, 60] (by decide +kernel) (by decide +kernel)
set_option maxRecDepth 20000 in
theorem gX4_outcome_X4_cycles : GoodIn wsX4_outcome (wsV RX4 96 RX4 yX4_cycles wsX4_cycles) := goodIn_app (goodIn_of _ (by decide +kernel)) ggX4_outcome_X4_cycles
set_option maxRecDepth 20000 in
theorem ggX4_outcome_X4_drifts : GoodIn wsX4_outcome wsX4_drifts := goodIn_r _ [28, 14, 1, 24, 7, 13, 19, 12, 8, 9, 29, 30, 31, 5, 32, 33, 34, 35, 36, 37, 38, 39, 40, 41, 42, 43, 44, 45, 46, 47, 48, 49, 50, 51, 52, 53, 54, 55, 56, 57, 58, 59, 60] (by decide +kernel) (by decide +kernel)
set_option maxRecDepth 20000 in
theorem gX4_outcome_X4_drifts : GoodIn wsX4_outcome (wsV RX4 100 RX4 yX4_drifts wsX4_drifts) := goodIn_app (goodIn_of _ (by decide +kernel)) ggX4_outcome_X4_drifts
theorem dX4_outcome_0 : decode cX4_outcome 0 = .ok (.aload_n 0, 1) := by decide +kernel
theorem dX4_outcome_1 : decode cX4_outcome 1 = .ok (.invokevirtual 89, 3) := by decide +kernel
theorem dX4_outcome_4 : decode cX4_outcome 4 = .ok (.aload_n 0, 1) := by decide +kernel
theorem dX4_outcome_5 : decode cX4_outcome 5 = .ok (.getfield 70, 3) := by decide +kernel
theorem dX4_outcome_8 : decode cX4_outcome 8 = .ok (.iload_n 2, 1) := by decide +kernel
theorem dX4_outcome_9 : decode cX4_outcome 9 = .ok (.if_icmp .ge 31, 3) := by decide +kernel
theorem dX4_outcome_12 : decode cX4_outcome 12 = .ok (.aload_n 0, 1) := by decide +kernel
theorem dX4_outcome_13 : decode cX4_outcome 13 = .ok (.aload_n 1, 1) := by decide +kernel
theorem dX4_outcome_14 : decode cX4_outcome 14 = .ok (.invokevirtual 92, 3) := by decide +kernel
theorem dX4_outcome_17 : decode cX4_outcome 17 = .ok (.ifCond .ne 5, 3) := by decide +kernel
theorem dX4_outcome_20 : decode cX4_outcome 20 = .ok (.iconst 1, 1) := by decide +kernel
theorem dX4_outcome_21 : decode cX4_outcome 21 = .ok (.ireturn, 1) := by decide +kernel
theorem dX4_outcome_22 : decode cX4_outcome 22 = .ok (.aload_n 0, 1) := by decide +kernel
theorem dX4_outcome_23 : decode cX4_outcome 23 = .ok (.invokevirtual 96, 3) := by decide +kernel
theorem dX4_outcome_26 : decode cX4_outcome 26 = .ok (.ifCond .eq 5, 3) := by decide +kernel
theorem dX4_outcome_29 : decode cX4_outcome 29 = .ok (.iconst 2, 1) := by decide +kernel
theorem dX4_outcome_30 : decode cX4_outcome 30 = .ok (.ireturn, 1) := by decide +kernel
theorem dX4_outcome_31 : decode cX4_outcome 31 = .ok (.aload_n 0, 1) := by decide +kernel
theorem dX4_outcome_32 : decode cX4_outcome 32 = .ok (.invokevirtual 100, 3) := by decide +kernel
theorem dX4_outcome_35 : decode cX4_outcome 35 = .ok (.ifCond .eq (-31), 3) := by decide +kernel
theorem dX4_outcome_38 : decode cX4_outcome 38 = .ok (.iconst 3, 1) := by decide +kernel
theorem dX4_outcome_39 : decode cX4_outcome 39 = .ok (.ireturn, 1) := by decide +kernel
theorem dX4_outcome_40 : decode cX4_outcome 40 = .ok (.iconst 0, 1) := by decide +kernel
theorem dX4_outcome_41 : decode cX4_outcome 41 = .ok (.ireturn, 1) := by decide +kernel
theorem dX4_ones_0 : decode cX4_ones 0 = .ok (.iconst 0, 1) := by decide +kernel
theorem dX4_ones_1 : decode cX4_ones 1 = .ok (.istore_n 1, 1) := by decide +kernel
theorem dX4_ones_2 : decode cX4_ones 2 = .ok (.iconst 0, 1) := by decide +kernel
theorem dX4_ones_3 : decode cX4_ones 3 = .ok (.istore_n 2, 1) := by decide +kernel
theorem dX4_ones_4 : decode cX4_ones 4 = .ok (.iload_n 2, 1) := by decide +kernel
theorem dX4_ones_5 : decode cX4_ones 5 = .ok (.sipush 620, 3) := by decide +kernel
theorem dX4_ones_8 : decode cX4_ones 8 = .ok (.if_icmp .ge 18, 3) := by decide +kernel
theorem dX4_ones_11 : decode cX4_ones 11 = .ok (.iload_n 1, 1) := by decide +kernel
theorem dX4_ones_12 : decode cX4_ones 12 = .ok (.aload_n 0, 1) := by decide +kernel
theorem dX4_ones_13 : decode cX4_ones 13 = .ok (.getfield 19, 3) := by decide +kernel
theorem dX4_ones_16 : decode cX4_ones 16 = .ok (.iload_n 2, 1) := by decide +kernel
theorem dX4_ones_17 : decode cX4_ones 17 = .ok (.iaload, 1) := by decide +kernel
theorem dX4_ones_18 : decode cX4_ones 18 = .ok (.iadd, 1) := by decide +kernel
theorem dX4_ones_19 : decode cX4_ones 19 = .ok (.istore_n 1, 1) := by decide +kernel
