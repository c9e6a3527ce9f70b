theorem dX5_addWaiting_48 : decode cX5_addWaiting 48 = .ok (.putfield 39, 3) := by decide +kernel
theorem dX5_addWaiting_51 : decode cX5_addWaiting 51 = .ok (.iinc 2 (-1), 3) := by decide +kernel
theorem dX5_addWaiting_54 : decode cX5_addWaiting 54 = .ok (.goto (-47), 3) := by decide +kernel
theorem dX5_addWaiting_57 : decode cX5_addWaiting 57 = .ok (.return_, 1) := by decide +kernel
theorem dX5_push_0 : decode cX5_push 0 = .ok (.aload_n 0, 1) := by decide +kernel
theorem dX5_push_1 : decode cX5_push 1 = .ok (.getfield 39, 3) := by decide +kernel
theorem dX5_push_4 : decode cX5_push 4 = .ok (.ifCond .lt 32, 3) := by decide +kernel
theorem dX5_push_7 : decode cX5_push 7 = .ok (.aload_n 0, 1) := by decide +kernel
theorem dX5_push_8 : decode cX5_push 8 = .ok (.getfield 39, 3) := by decide +kernel
theorem dX5_push_11 : decode cX5_push 11 = .ok (.bipush 24, 2) := by decide +kernel
theorem dX5_push_13 : decode cX5_push 13 = .ok (.if_icmp .ge 23, 3) := by decide +kernel
theorem dX5_push_16 : decode cX5_push 16 = .ok (.aload_n 0, 1) := by decide +kernel
theorem dX5_push_17 : decode cX5_push 17 = .ok (.getfield 24, 3) := by decide +kernel
theorem dX5_push_20 : decode cX5_push 20 = .ok (.aload_n 0, 1) := by decide +kernel
theorem dX5_push_21 : decode cX5_push 21 = .ok (.getfield 39, 3) := by decide +kernel
theorem dX5_push_24 : decode cX5_push 24 = .ok (.iload_n 1, 1) := by decide +kernel
theorem dX5_push_25 : decode cX5_push 25 = .ok (.iastore, 1) := by decide +kernel
theorem dX5_push_26 : decode cX5_push 26 = .ok (.aload_n 0, 1) := by decide +kernel
theorem dX5_push_27 : decode cX5_push 27 = .ok (.dup, 1) := by decide +kernel
theorem dX5_push_28 : decode cX5_push 28 = .ok (.getfield 39, 3) := by decide +kernel
theorem dX5_push_31 : decode cX5_push 31 = .ok (.iconst 1, 1) := by decide +kernel
theorem dX5_push_32 : decode cX5_push 32 = .ok (.iadd, 1) := by decide +kernel
theorem dX5_push_33 : decode cX5_push 33 = .ok (.putfield 39, 3) := by decide +kernel
theorem dX5_push_36 : decode cX5_push 36 = .ok (.return_, 1) := by decide +kernel
theorem dX5_startLaw_0 : decode cX5_startLaw 0 = .ok (.iload_n 1, 1) := by decide +kernel
theorem dX5_startLaw_1 : decode cX5_startLaw 1 = .ok (.ifCond .lt 18, 3) := by decide +kernel
theorem dX5_startLaw_4 : decode cX5_startLaw 4 = .ok (.iload_n 1, 1) := by decide +kernel
theorem dX5_startLaw_5 : decode cX5_startLaw 5 = .ok (.iconst 4, 1) := by decide +kernel
theorem dX5_startLaw_6 : decode cX5_startLaw 6 = .ok (.if_icmp .ge 13, 3) := by decide +kernel
theorem dX5_startLaw_9 : decode cX5_startLaw 9 = .ok (.aload_n 0, 1) := by decide +kernel
theorem dX5_startLaw_10 : decode cX5_startLaw 10 = .ok (.getfield 15, 3) := by decide +kernel
theorem dX5_startLaw_13 : decode cX5_startLaw 13 = .ok (.iload_n 1, 1) := by decide +kernel
theorem dX5_startLaw_14 : decode cX5_startLaw 14 = .ok (.aload_n 0, 1) := by decide +kernel
theorem dX5_startLaw_15 : decode cX5_startLaw 15 = .ok (.getfield 27, 3) := by decide +kernel
theorem dX5_startLaw_18 : decode cX5_startLaw 18 = .ok (.iastore, 1) := by decide +kernel
theorem dX5_startLaw_19 : decode cX5_startLaw 19 = .ok (.return_, 1) := by decide +kernel
theorem dX5_add_0 : decode cX5_add 0 = .ok (.aload_n 0, 1) := by decide +kernel
theorem dX5_add_1 : decode cX5_add 1 = .ok (.getfield 27, 3) := by decide +kernel
theorem dX5_add_4 : decode cX5_add 4 = .ok (.ifCond .lt 38, 3) := by decide +kernel
theorem dX5_add_7 : decode cX5_add 7 = .ok (.aload_n 0, 1) := by decide +kernel
theorem dX5_add_8 : decode cX5_add 8 = .ok (.getfield 27, 3) := by decide +kernel
theorem dX5_add_11 : decode cX5_add 11 = .ok (.sipush 420, 3) := by decide +kernel
theorem dX5_add_14 : decode cX5_add 14 = .ok (.if_icmp .ge 28, 3) := by decide +kernel
theorem dX5_add_17 : decode cX5_add 17 = .ok (.aload_n 0, 1) := by decide +kernel
theorem dX5_add_18 : decode cX5_add 18 = .ok (.getfield 9, 3) := by decide +kernel
theorem dX5_add_21 : decode cX5_add 21 = .ok (.aload_n 0, 1) := by decide +kernel
theorem dX5_add_22 : decode cX5_add 22 = .ok (.getfield 27, 3) := by decide +kernel
theorem dX5_add_25 : decode cX5_add 25 = .ok (.iload_n 1, 1) := by decide +kernel
theorem dX5_add_26 : decode cX5_add 26 = .ok (.bipush 16, 2) := by decide +kernel
theorem dX5_add_28 : decode cX5_add 28 = .ok (.ishl, 1) := by decide +kernel
theorem dX5_add_29 : decode cX5_add 29 = .ok (.iload_n 2, 1) := by decide +kernel
theorem dX5_add_30 : decode cX5_add 30 = .ok (.ior, 1) := by decide +kernel
theorem dX5_add_31 : decode cX5_add 31 = .ok (.iastore, 1) := by decide +kernel
theorem dX5_add_32 : decode cX5_add 32 = .ok (.aload_n 0, 1) := by decide +kernel
theorem dX5_add_33 : decode cX5_add 33 = .ok (.dup, 1) := by decide +kernel
theorem dX5_add_34 : decode cX5_add 34 = .ok (.getfield 27, 3) := by decide +kernel
theorem dX5_add_37 : decode cX5_add 37 = .ok (.iconst 1, 1) := by decide +kernel
theorem dX5_add_38 : decode cX5_add 38 = .ok (.iadd, 1) := by decide +kernel
theorem dX5_add_39 : decode cX5_add 39 = .ok (.putfield 27, 3) := by decide +kernel
theorem dX5_add_42 : decode cX5_add 42 = .ok (.return_, 1) := by decide +kernel
theorem dX5_aim_0 : decode cX5_aim 0 = .ok (.iload_n 1, 1) := by decide +kernel
theorem dX5_aim_1 : decode cX5_aim 1 = .ok (.ifCond .lt 20, 3) := by decide +kernel
theorem dX5_aim_4 : decode cX5_aim 4 = .ok (.iload_n 1, 1) := by decide +kernel
theorem dX5_aim_5 : decode cX5_aim 5 = .ok (.sipush 420, 3) := by decide +kernel
theorem dX5_aim_8 : decode cX5_aim 8 = .ok (.if_icmp .ge 13, 3) := by decide +kernel
theorem dX5_aim_11 : decode cX5_aim 11 = .ok (.aload_n 0, 1) := by decide +kernel
theorem dX5_aim_12 : decode cX5_aim 12 = .ok (.getfield 9, 3) := by decide +kernel
theorem dX5_aim_15 : decode cX5_aim 15 = .ok (.iload_n 1, 1) := by decide +kernel
theorem dX5_aim_16 : decode cX5_aim 16 = .ok (.ldc 73, 2) := by decide +kernel
theorem dX5_aim_18 : decode cX5_aim 18 = .ok (.iload_n 2, 1) := by decide +kernel
theorem dX5_aim_19 : decode cX5_aim 19 = .ok (.ior, 1) := by decide +kernel
theorem dX5_aim_20 : decode cX5_aim 20 = .ok (.iastore, 1) := by decide +kernel
theorem dX5_aim_21 : decode cX5_aim 21 = .ok (.return_, 1) := by decide +kernel
theorem dX5_rank_0 : decode cX5_rank 0 = .ok (.iload_n 0, 1) := by decide +kernel
theorem dX5_rank_1 : decode cX5_rank 1 = .ok (.bipush 29, 2) := by decide +kernel
theorem dX5_rank_3 : decode cX5_rank 3 = .ok (.if_icmp .eq 9, 3) := by decide +kernel
theorem dX5_rank_6 : decode cX5_rank 6 = .ok (.iload_n 0, 1) := by decide +kernel
theorem dX5_rank_7 : decode cX5_rank 7 = .ok (.bipush 30, 2) := by decide +kernel
theorem dX5_rank_9 : decode cX5_rank 9 = .ok (.if_icmp .ne 5, 3) := by decide +kernel
theorem dX5_rank_12 : decode cX5_rank 12 = .ok (.iconst 2, 1) := by decide +kernel
theorem dX5_rank_13 : decode cX5_rank 13 = .ok (.ireturn, 1) := by decide +kernel
theorem dX5_rank_14 : decode cX5_rank 14 = .ok (.iload_n 0, 1) := by decide +kernel
theorem dX5_rank_15 : decode cX5_rank 15 = .ok (.bipush 27, 2) := by decide +kernel
theorem dX5_rank_17 : decode cX5_rank 17 = .ok (.if_icmp .eq 9, 3) := by decide +kernel
theorem dX5_rank_20 : decode cX5_rank 20 = .ok (.iload_n 0, 1) := by decide +kernel
theorem dX5_rank_21 : decode cX5_rank 21 = .ok (.bipush 28, 2) := by decide +kernel
theorem dX5_rank_23 : decode cX5_rank 23 = .ok (.if_icmp .ne 7, 3) := by decide +kernel
theorem dX5_rank_26 : decode cX5_rank 26 = .ok (.iconst 1, 1) := by decide +kernel
theorem dX5_rank_27 : decode cX5_rank 27 = .ok (.goto 4, 3) := by decide +kernel
theorem dX5_rank_30 : decode cX5_rank 30 = .ok (.iconst 0, 1) := by decide +kernel
theorem dX5_rank_31 : decode cX5_rank 31 = .ok (.ireturn, 1) := by decide +kernel
theorem dX5_clearVars_0 : decode cX5_clearVars 0 = .ok (.iconst 0, 1) := by decide +kernel
theorem dX5_clearVars_1 : decode cX5_clearVars 1 = .ok (.istore_n 2, 1) := by decide +kernel
theorem dX5_clearVars_2 : decode cX5_clearVars 2 = .ok (.iload_n 2, 1) := by decide +kernel
theorem dX5_clearVars_3 : decode cX5_clearVars 3 = .ok (.bipush 9, 2) := by decide +kernel
theorem dX5_clearVars_5 : decode cX5_clearVars 5 = .ok (.if_icmp .ge 16, 3) := by decide +kernel
theorem dX5_clearVars_8 : decode cX5_clearVars 8 = .ok (.aload_n 0, 1) := by decide +kernel
theorem dX5_clearVars_9 : decode cX5_clearVars 9 = .ok (.getfield 18, 3) := by decide +kernel
theorem dX5_clearVars_12 : decode cX5_clearVars 12 = .ok (.iload_n 2, 1) := by decide +kernel
theorem dX5_clearVars_13 : decode cX5_clearVars 13 = .ok (.iconst 0, 1) := by decide +kernel
theorem dX5_clearVars_14 : decode cX5_clearVars 14 = .ok (.iastore, 1) := by decide +kernel
theorem dX5_clearVars_15 : decode cX5_clearVars 15 = .ok (.iinc 2 1, 3) := by decide +kernel
theorem dX5_clearVars_18 : decode cX5_clearVars 18 = .ok (.goto (-16), 3) := by decide +kernel
theorem dX5_clearVars_21 : decode cX5_clearVars 21 = .ok (.aload_n 0, 1) := by decide +kernel
theorem dX5_clearVars_22 : decode cX5_clearVars 22 = .ok (.getfield 18, 3) := by decide +kernel
theorem dX5_clearVars_25 : decode cX5_clearVars 25 = .ok (.iconst 1, 1) := by decide +kernel
theorem dX5_clearVars_26 : decode cX5_clearVars 26 = .ok (.iload_n 1, 1) := by decide +kernel
theorem dX5_clearVars_27 : decode cX5_clearVars 27 = .ok (.bipush 24, 2) := by decide +kernel
theorem dX5_clearVars_29 : decode cX5_clearVars 29 = .ok (.irem, 1) := by decide +kernel
theorem dX5_clearVars_30 : decode cX5_clearVars 30 = .ok (.iastore, 1) := by decide +kernel
theorem dX5_clearVars_31 : decode cX5_clearVars 31 = .ok (.aload_n 0, 1) := by decide +kernel
theorem dX5_clearVars_32 : decode cX5_clearVars 32 = .ok (.getfield 18, 3) := by decide +kernel
theorem dX5_clearVars_35 : decode cX5_clearVars 35 = .ok (.iconst 2, 1) := by decide +kernel
theorem dX5_clearVars_36 : decode cX5_clearVars 36 = .ok (.iload_n 1, 1) := by decide +kernel
theorem dX5_clearVars_37 : decode cX5_clearVars 37 = .ok (.bipush 24, 2) := by decide +kernel
theorem dX5_clearVars_39 : decode cX5_clearVars 39 = .ok (.idiv, 1) := by decide +kernel
theorem dX5_clearVars_40 : decode cX5_clearVars 40 = .ok (.iastore, 1) := by decide +kernel
theorem dX5_clearVars_41 : decode cX5_clearVars 41 = .ok (.return_, 1) := by decide +kernel
theorem dX5_answer_0 : decode cX5_answer 0 = .ok (.iload_n 1, 1) := by decide +kernel
theorem dX5_answer_1 : decode cX5_answer 1 = .ok (.ifCond .lt 17, 3) := by decide +kernel
theorem dX5_answer_4 : decode cX5_answer 4 = .ok (.iload_n 1, 1) := by decide +kernel
theorem dX5_answer_5 : decode cX5_answer 5 = .ok (.iconst 4, 1) := by decide +kernel
theorem dX5_answer_6 : decode cX5_answer 6 = .ok (.if_icmp .ge 12, 3) := by decide +kernel
theorem dX5_answer_9 : decode cX5_answer 9 = .ok (.aload_n 0, 1) := by decide +kernel
theorem dX5_answer_10 : decode cX5_answer 10 = .ok (.getfield 15, 3) := by decide +kernel
theorem dX5_answer_13 : decode cX5_answer 13 = .ok (.iload_n 1, 1) := by decide +kernel
theorem dX5_answer_14 : decode cX5_answer 14 = .ok (.iaload, 1) := by decide +kernel
theorem dX5_answer_15 : decode cX5_answer 15 = .ok (.goto 4, 3) := by decide +kernel
theorem dX5_answer_18 : decode cX5_answer 18 = .ok (.iconst 0, 1) := by decide +kernel
theorem dX5_answer_19 : decode cX5_answer 19 = .ok (.istore_n 2, 1) := by decide +kernel
theorem dX5_answer_20 : decode cX5_answer 20 = .ok (.iconst 0, 1) := by decide +kernel
theorem dX5_answer_21 : decode cX5_answer 21 = .ok (.istore_n 3, 1) := by decide +kernel
theorem dX5_answer_22 : decode cX5_answer 22 = .ok (.iconst 0, 1) := by decide +kernel
theorem dX5_answer_23 : decode cX5_answer 23 = .ok (.istore 4, 2) := by decide +kernel
theorem dX5_answer_25 : decode cX5_answer 25 = .ok (.iload 4, 2) := by decide +kernel
theorem dX5_answer_27 : decode cX5_answer 27 = .ok (.sipush 420, 3) := by decide +kernel
theorem dX5_answer_30 : decode cX5_answer 30 = .ok (.if_icmp .ge 226, 3) := by decide +kernel
theorem dX5_answer_33 : decode cX5_answer 33 = .ok (.iload_n 2, 1) := by decide +kernel
theorem dX5_answer_34 : decode cX5_answer 34 = .ok (.ifCond .lt 20, 3) := by decide +kernel
theorem dX5_answer_37 : decode cX5_answer 37 = .ok (.iload_n 2, 1) := by decide +kernel
theorem dX5_answer_38 : decode cX5_answer 38 = .ok (.sipush 420, 3) := by decide +kernel
theorem dX5_answer_41 : decode cX5_answer 41 = .ok (.if_icmp .ge 13, 3) := by decide +kernel
theorem dX5_answer_44 : decode cX5_answer 44 = .ok (.iload_n 3, 1) := by decide +kernel
theorem dX5_answer_45 : decode cX5_answer 45 = .ok (.ifCond .lt 9, 3) := by decide +kernel
theorem dX5_answer_48 : decode cX5_answer 48 = .ok (.iload_n 3, 1) := by decide +kernel
theorem dX5_answer_49 : decode cX5_answer 49 = .ok (.bipush 24, 2) := by decide +kernel
theorem dX5_answer_51 : decode cX5_answer 51 = .ok (.if_icmp .lt 5, 3) := by decide +kernel
theorem dX5_answer_54 : decode cX5_answer 54 = .ok (.iconst 0, 1) := by decide +kernel
theorem dX5_answer_55 : decode cX5_answer 55 = .ok (.ireturn, 1) := by decide +kernel
theorem dX5_answer_56 : decode cX5_answer 56 = .ok (.aload_n 0, 1) := by decide +kernel
theorem dX5_answer_57 : decode cX5_answer 57 = .ok (.getfield 9, 3) := by decide +kernel
theorem dX5_answer_60 : decode cX5_answer 60 = .ok (.iload_n 2, 1) := by decide +kernel
theorem dX5_answer_61 : decode cX5_answer 61 = .ok (.iaload, 1) := by decide +kernel
theorem dX5_answer_62 : decode cX5_answer 62 = .ok (.bipush 16, 2) := by decide +kernel
theorem dX5_answer_64 : decode cX5_answer 64 = .ok (.ishr, 1) := by decide +kernel
theorem dX5_answer_65 : decode cX5_answer 65 = .ok (.istore 5, 2) := by decide +kernel
theorem dX5_answer_67 : decode cX5_answer 67 = .ok (.aload_n 0, 1) := by decide +kernel
theorem dX5_answer_68 : decode cX5_answer 68 = .ok (.getfield 9, 3) := by decide +kernel
theorem dX5_answer_71 : decode cX5_answer 71 = .ok (.iload_n 2, 1) := by decide +kernel
theorem dX5_answer_72 : decode cX5_answer 72 = .ok (.iaload, 1) := by decide +kernel
theorem dX5_answer_73 : decode cX5_answer 73 = .ok (.ldc 74, 2) := by decide +kernel
theorem dX5_answer_75 : decode cX5_answer 75 = .ok (.iand, 1) := by decide +kernel
theorem dX5_answer_76 : decode cX5_answer 76 = .ok (.istore 6, 2) := by decide +kernel
theorem dX5_answer_78 : decode cX5_answer 78 = .ok (.iinc 2 1, 3) := by decide +kernel
theorem dX5_answer_81 : decode cX5_answer 81 = .ok (.iload 5, 2) := by decide +kernel
theorem dX5_answer_83 : decode cX5_answer 83 = .ok (.ifCond .ne 17, 3) := by decide +kernel
theorem dX5_answer_86 : decode cX5_answer 86 = .ok (.aload_n 0, 1) := by decide +kernel
theorem dX5_answer_87 : decode cX5_answer 87 = .ok (.getfield 21, 3) := by decide +kernel
theorem dX5_answer_90 : decode cX5_answer 90 = .ok (.iload_n 3, 1) := by decide +kernel
theorem dX5_answer_91 : decode cX5_answer 91 = .ok (.iload 6, 2) := by decide +kernel
theorem dX5_answer_93 : decode cX5_answer 93 = .ok (.iastore, 1) := by decide +kernel
theorem dX5_answer_94 : decode cX5_answer 94 = .ok (.iinc 3 1, 3) := by decide +kernel
theorem dX5_answer_97 : decode cX5_answer 97 = .ok (.goto 153, 3) := by decide +kernel
theorem dX5_answer_100 : decode cX5_answer 100 = .ok (.iload 5, 2) := by decide +kernel
theorem dX5_answer_102 : decode cX5_answer 102 = .ok (.iconst 1, 1) := by decide +kernel
theorem dX5_answer_103 : decode cX5_answer 103 = .ok (.if_icmp .ne 33, 3) := by decide +kernel
theorem dX5_answer_106 : decode cX5_answer 106 = .ok (.aload_n 0, 1) := by decide +kernel
theorem dX5_answer_107 : decode cX5_answer 107 = .ok (.getfield 21, 3) := by decide +kernel
theorem dX5_answer_110 : decode cX5_answer 110 = .ok (.iload_n 3, 1) := by decide +kernel
theorem dX5_answer_111 : decode cX5_answer 111 = .ok (.iload 6, 2) := by decide +kernel
theorem dX5_answer_113 : decode cX5_answer 113 = .ok (.bipush 9, 2) := by decide +kernel
theorem dX5_answer_115 : decode cX5_answer 115 = .ok (.if_icmp .ge 13, 3) := by decide +kernel
theorem dX5_answer_118 : decode cX5_answer 118 = .ok (.aload_n 0, 1) := by decide +kernel
theorem dX5_answer_119 : decode cX5_answer 119 = .ok (.getfield 18, 3) := by decide +kernel
theorem dX5_answer_122 : decode cX5_answer 122 = .ok (.iload 6, 2) := by decide +kernel
theorem dX5_answer_124 : decode cX5_answer 124 = .ok (.iaload, 1) := by decide +kernel
theorem dX5_answer_125 : decode cX5_answer 125 = .ok (.goto 4, 3) := by decide +kernel
theorem dX5_answer_128 : decode cX5_answer 128 = .ok (.iconst 0, 1) := by decide +kernel
theorem dX5_answer_129 : decode cX5_answer 129 = .ok (.iastore, 1) := by decide +kernel
theorem dX5_answer_130 : decode cX5_answer 130 = .ok (.iinc 3 1, 3) := by decide +kernel
theorem dX5_answer_133 : decode cX5_answer 133 = .ok (.goto 117, 3) := by decide +kernel
theorem dX5_answer_136 : decode cX5_answer 136 = .ok (.iload 5, 2) := by decide +kernel
theorem dX5_answer_138 : decode cX5_answer 138 = .ok (.bipush 7, 2) := by decide +kernel
theorem dX5_answer_140 : decode cX5_answer 140 = .ok (.if_icmp .eq 8, 3) := by decide +kernel
theorem dX5_answer_143 : decode cX5_answer 143 = .ok (.iload_n 3, 1) := by decide +kernel
theorem dX5_answer_144 : decode cX5_answer 144 = .ok (.iconst 2, 1) := by decide +kernel
theorem dX5_answer_145 : decode cX5_answer 145 = .ok (.if_icmp .ge 19, 3) := by decide +kernel
theorem dX5_answer_148 : decode cX5_answer 148 = .ok (.iload_n 3, 1) := by decide +kernel
theorem dX5_answer_149 : decode cX5_answer 149 = .ok (.iconst 1, 1) := by decide +kernel
theorem dX5_answer_150 : decode cX5_answer 150 = .ok (.if_icmp .ne 12, 3) := by decide +kernel
theorem dX5_answer_153 : decode cX5_answer 153 = .ok (.aload_n 0, 1) := by decide +kernel
theorem dX5_answer_154 : decode cX5_answer 154 = .ok (.getfield 21, 3) := by decide +kernel
theorem dX5_answer_157 : decode cX5_answer 157 = .ok (.iconst 0, 1) := by decide +kernel
theorem dX5_answer_158 : decode cX5_answer 158 = .ok (.iaload, 1) := by decide +kernel
theorem dX5_answer_159 : decode cX5_answer 159 = .ok (.goto 4, 3) := by decide +kernel
theorem dX5_answer_162 : decode cX5_answer 162 = .ok (.iconst 0, 1) := by decide +kernel
theorem dX5_answer_163 : decode cX5_answer 163 = .ok (.ireturn, 1) := by decide +kernel
theorem dX5_answer_164 : decode cX5_answer 164 = .ok (.iload 5, 2) := by decide +kernel
theorem dX5_answer_166 : decode cX5_answer 166 = .ok (.bipush 6, 2) := by decide +kernel
theorem dX5_answer_168 : decode cX5_answer 168 = .ok (.if_icmp .ne 33, 3) := by decide +kernel
theorem dX5_answer_171 : decode cX5_answer 171 = .ok (.iinc 3 (-2), 3) := by decide +kernel
theorem dX5_answer_174 : decode cX5_answer 174 = .ok (.aload_n 0, 1) := by decide +kernel
theorem dX5_answer_175 : decode cX5_answer 175 = .ok (.getfield 21, 3) := by decide +kernel
theorem dX5_answer_178 : decode cX5_answer 178 = .ok (.iload_n 3, 1) := by decide +kernel
theorem dX5_answer_179 : decode cX5_answer 179 = .ok (.iaload, 1) := by decide +kernel
theorem dX5_answer_180 : decode cX5_answer 180 = .ok (.aload_n 0, 1) := by decide +kernel
theorem dX5_answer_181 : decode cX5_answer 181 = .ok (.getfield 21, 3) := by decide +kernel
theorem dX5_answer_184 : decode cX5_answer 184 = .ok (.iload_n 3, 1) := by decide +kernel
theorem dX5_answer_185 : decode cX5_answer 185 = .ok (.iconst 1, 1) := by decide +kernel
theorem dX5_answer_186 : decode cX5_answer 186 = .ok (.iadd, 1) := by decide +kernel
theorem dX5_answer_187 : decode cX5_answer 187 = .ok (.iaload, 1) := by decide +kernel
theorem dX5_answer_188 : decode cX5_answer 188 = .ok (.if_icmp .ge 7, 3) := by decide +kernel
theorem dX5_answer_191 : decode cX5_answer 191 = .ok (.iload_n 2, 1) := by decide +kernel
theorem dX5_answer_192 : decode cX5_answer 192 = .ok (.goto 5, 3) := by decide +kernel
theorem dX5_answer_195 : decode cX5_answer 195 = .ok (.iload 6, 2) := by decide +kernel
theorem dX5_answer_197 : decode cX5_answer 197 = .ok (.istore_n 2, 1) := by decide +kernel
theorem dX5_answer_198 : decode cX5_answer 198 = .ok (.goto 52, 3) := by decide +kernel
theorem dX5_answer_201 : decode cX5_answer 201 = .ok (.iload 5, 2) := by decide +kernel
theorem dX5_answer_203 : decode cX5_answer 203 = .ok (.iconst 5, 1) := by decide +kernel
theorem dX5_answer_204 : decode cX5_answer 204 = .ok (.if_icmp .ne 16, 3) := by decide +kernel
theorem dX5_answer_207 : decode cX5_answer 207 = .ok (.aload_n 0, 1) := by decide +kernel
theorem dX5_answer_208 : decode cX5_answer 208 = .ok (.getfield 21, 3) := by decide +kernel
theorem dX5_answer_211 : decode cX5_answer 211 = .ok (.iload_n 3, 1) := by decide +kernel
theorem dX5_answer_212 : decode cX5_answer 212 = .ok (.iconst 1, 1) := by decide +kernel
theorem dX5_answer_213 : decode cX5_answer 213 = .ok (.isub, 1) := by decide +kernel
theorem dX5_answer_214 : decode cX5_answer 214 = .ok (.iaload, 1) := by decide +kernel
theorem dX5_answer_215 : decode cX5_answer 215 = .ok (.ifCond .ne 5, 3) := by decide +kernel
theorem dX5_answer_218 : decode cX5_answer 218 = .ok (.iconst 0, 1) := by decide +kernel
theorem dX5_answer_219 : decode cX5_answer 219 = .ok (.ireturn, 1) := by decide +kernel
theorem dX5_answer_220 : decode cX5_answer 220 = .ok (.iinc 3 (-1), 3) := by decide +kernel
theorem dX5_answer_223 : decode cX5_answer 223 = .ok (.aload_n 0, 1) := by decide +kernel
theorem dX5_answer_224 : decode cX5_answer 224 = .ok (.getfield 21, 3) := by decide +kernel
theorem dX5_answer_227 : decode cX5_answer 227 = .ok (.iload_n 3, 1) := by decide +kernel
theorem dX5_answer_228 : decode cX5_answer 228 = .ok (.iconst 1, 1) := by decide +kernel
theorem dX5_answer_229 : decode cX5_answer 229 = .ok (.isub, 1) := by decide +kernel
theorem dX5_answer_230 : decode cX5_answer 230 = .ok (.iload 5, 2) := by decide +kernel
theorem dX5_answer_232 : decode cX5_answer 232 = .ok (.aload_n 0, 1) := by decide +kernel
theorem dX5_answer_233 : decode cX5_answer 233 = .ok (.getfield 21, 3) := by decide +kernel
theorem dX5_answer_236 : decode cX5_answer 236 = .ok (.iload_n 3, 1) := by decide +kernel
theorem dX5_answer_237 : decode cX5_answer 237 = .ok (.iconst 1, 1) := by decide +kernel
theorem dX5_answer_238 : decode cX5_answer 238 = .ok (.isub, 1) := by decide +kernel
theorem dX5_answer_239 : decode cX5_answer 239 = .ok (.iaload, 1) := by decide +kernel
theorem dX5_answer_240 : decode cX5_answer 240 = .ok (.aload_n 0, 1) := by decide +kernel
theorem dX5_answer_241 : decode cX5_answer 241 = .ok (.getfield 21, 3) := by decide +kernel
theorem dX5_answer_244 : decode cX5_answer 244 = .ok (.iload_n 3, 1) := by decide +kernel
theorem dX5_answer_245 : decode cX5_answer 245 = .ok (.iaload, 1) := by decide +kernel
theorem dX5_answer_246 : decode cX5_answer 246 = .ok (.invokestatic 75, 3) := by decide +kernel
theorem dX5_answer_249 : decode cX5_answer 249 = .ok (.iastore, 1) := by decide +kernel
theorem dX5_answer_250 : decode cX5_answer 250 = .ok (.iinc 4 1, 3) := by decide +kernel
theorem dX5_answer_253 : decode cX5_answer 253 = .ok (.goto (-228), 3) := by decide +kernel
theorem dX5_answer_256 : decode cX5_answer 256 = .ok (.iconst 0, 1) := by decide +kernel
theorem dX5_answer_257 : decode cX5_answer 257 = .ok (.ireturn, 1) := by decide +kernel
theorem dX5_joined_0 : decode cX5_joined 0 = .ok (.iload_n 0, 1) := by decide +kernel
theorem dX5_joined_1 : decode cX5_joined 1 = .ok (.tableswitch 39 2 4 #[27, 31, 35], 27) := by decide +kernel
theorem dX5_joined_28 : decode cX5_joined 28 = .ok (.iload_n 1, 1) := by decide +kernel
theorem dX5_joined_29 : decode cX5_joined 29 = .ok (.iload_n 2, 1) := by decide +kernel
theorem dX5_joined_30 : decode cX5_joined 30 = .ok (.iadd, 1) := by decide +kernel
theorem dX5_joined_31 : decode cX5_joined 31 = .ok (.ireturn, 1) := by decide +kernel
theorem dX5_joined_32 : decode cX5_joined 32 = .ok (.iload_n 1, 1) := by decide +kernel
theorem dX5_joined_33 : decode cX5_joined 33 = .ok (.iload_n 2, 1) := by decide +kernel
theorem dX5_joined_34 : decode cX5_joined 34 = .ok (.isub, 1) := by decide +kernel
theorem dX5_joined_35 : decode cX5_joined 35 = .ok (.ireturn, 1) := by decide +kernel
theorem dX5_joined_36 : decode cX5_joined 36 = .ok (.iload_n 1, 1) := by decide +kernel
theorem dX5_joined_37 : decode cX5_joined 37 = .ok (.iload_n 2, 1) := by decide +kernel
theorem dX5_joined_38 : decode cX5_joined 38 = .ok (.imul, 1) := by decide +kernel
theorem dX5_joined_39 : decode cX5_joined 39 = .ok (.ireturn, 1) := by decide +kernel
theorem dX5_joined_40 : decode cX5_joined 40 = .ok (.iload_n 2, 1) := by decide +kernel
theorem dX5_joined_41 : decode cX5_joined 41 = .ok (.ifCond .ne 7, 3) := by decide +kernel
theorem dX5_joined_44 : decode cX5_joined 44 = .ok (.iconst 0, 1) := by decide +kernel
theorem dX5_joined_45 : decode cX5_joined 45 = .ok (.goto 6, 3) := by decide +kernel
theorem dX5_joined_48 : decode cX5_joined 48 = .ok (.iload_n 1, 1) := by decide +kernel
theorem dX5_joined_49 : decode cX5_joined 49 = .ok (.iload_n 2, 1) := by decide +kernel
theorem dX5_joined_50 : decode cX5_joined 50 = .ok (.idiv, 1) := by decide +kernel
theorem dX5_joined_51 : decode cX5_joined 51 = .ok (.ireturn, 1) := by decide +kernel
theorem dX6_init_0 : decode cX6_init 0 = .ok (.aload_n 0, 1) := by decide +kernel
theorem dX6_init_1 : decode cX6_init 1 = .ok (.invokespecial 3, 3) := by decide +kernel
theorem dX6_init_4 : decode cX6_init 4 = .ok (.aload_n 0, 1) := by decide +kernel
theorem dX6_init_5 : decode cX6_init 5 = .ok (.bipush 30, 2) := by decide +kernel
theorem dX6_init_7 : decode cX6_init 7 = .ok (.anewarray 9, 3) := by decide +kernel
theorem dX6_init_10 : decode cX6_init 10 = .ok (.putfield 11, 3) := by decide +kernel
theorem dX6_init_13 : decode cX6_init 13 = .ok (.iconst 0, 1) := by decide +kernel
theorem dX6_init_14 : decode cX6_init 14 = .ok (.istore_n 1, 1) := by decide +kernel
theorem dX6_init_15 : decode cX6_init 15 = .ok (.iload_n 1, 1) := by decide +kernel
theorem dX6_init_16 : decode cX6_init 16 = .ok (.bipush 30, 2) := by decide +kernel
theorem dX6_init_18 : decode cX6_init 18 = .ok (.if_icmp .ge 22, 3) := by decide +kernel
theorem dX6_init_21 : decode cX6_init 21 = .ok (.aload_n 0, 1) := by decide +kernel
theorem dX6_init_22 : decode cX6_init 22 = .ok (.getfield 11, 3) := by decide +kernel
theorem dX6_init_25 : decode cX6_init 25 = .ok (.iload_n 1, 1) := by decide +kernel
theorem dX6_init_26 : decode cX6_init 26 = .ok (.new 9, 3) := by decide +kernel
theorem dX6_init_29 : decode cX6_init 29 = .ok (.dup, 1) := by decide +kernel
theorem dX6_init_30 : decode cX6_init 30 = .ok (.invokespecial 17, 3) := by decide +kernel
theorem dX6_init_33 : decode cX6_init 33 = .ok (.aastore, 1) := by decide +kernel
theorem dX6_init_34 : decode cX6_init 34 = .ok (.iinc 1 1, 3) := by decide +kernel
theorem dX6_init_37 : decode cX6_init 37 = .ok (.goto (-22), 3) := by decide +kernel
theorem dX6_init_40 : decode cX6_init 40 = .ok (.return_, 1) := by decide +kernel
theorem dX6_empty_0 : decode cX6_empty 0 = .ok (.aload_n 0, 1) := by decide +kernel
theorem dX6_empty_1 : decode cX6_empty 1 = .ok (.iconst 0, 1) := by decide +kernel
theorem dX6_empty_2 : decode cX6_empty 2 = .ok (.putfield 18, 3) := by decide +kernel
theorem dX6_empty_5 : decode cX6_empty 5 = .ok (.return_, 1) := by decide +kernel
theorem dX6_keep_0 : decode cX6_keep 0 = .ok (.aload_n 0, 1) := by decide +kernel
theorem dX6_keep_1 : decode cX6_keep 1 = .ok (.getfield 22, 3) := by decide +kernel
theorem dX6_keep_4 : decode cX6_keep 4 = .ok (.ifCond .lt 53, 3) := by decide +kernel
theorem dX6_keep_7 : decode cX6_keep 7 = .ok (.aload_n 0, 1) := by decide +kernel
theorem dX6_keep_8 : decode cX6_keep 8 = .ok (.getfield 22, 3) := by decide +kernel
theorem dX6_keep_11 : decode cX6_keep 11 = .ok (.bipush 30, 2) := by decide +kernel
theorem dX6_keep_13 : decode cX6_keep 13 = .ok (.if_icmp .ge 44, 3) := by decide +kernel
theorem dX6_keep_16 : decode cX6_keep 16 = .ok (.aload_n 0, 1) := by decide +kernel
theorem dX6_keep_17 : decode cX6_keep 17 = .ok (.getfield 11, 3) := by decide +kernel
theorem dX6_keep_20 : decode cX6_keep 20 = .ok (.aload_n 0, 1) := by decide +kernel
theorem dX6_keep_21 : decode cX6_keep 21 = .ok (.getfield 22, 3) := by decide +kernel
theorem dX6_keep_24 : decode cX6_keep 24 = .ok (.aaload, 1) := by decide +kernel
theorem dX6_keep_25 : decode cX6_keep 25 = .ok (.aload_n 1, 1) := by decide +kernel
theorem dX6_keep_26 : decode cX6_keep 26 = .ok (.invokevirtual 25, 3) := by decide +kernel
theorem dX6_keep_29 : decode cX6_keep 29 = .ok (.aload_n 0, 1) := by decide +kernel
theorem dX6_keep_30 : decode cX6_keep 30 = .ok (.aload_n 0, 1) := by decide +kernel
theorem dX6_keep_31 : decode cX6_keep 31 = .ok (.getfield 22, 3) := by decide +kernel
theorem dX6_keep_34 : decode cX6_keep 34 = .ok (.iconst 1, 1) := by decide +kernel
theorem dX6_keep_35 : decode cX6_keep 35 = .ok (.iadd, 1) := by decide +kernel
theorem dX6_keep_36 : decode cX6_keep 36 = .ok (.bipush 30, 2) := by decide +kernel
theorem dX6_keep_38 : decode cX6_keep 38 = .ok (.irem, 1) := by decide +kernel
theorem dX6_keep_39 : decode cX6_keep 39 = .ok (.putfield 22, 3) := by decide +kernel
theorem dX6_keep_42 : decode cX6_keep 42 = .ok (.aload_n 0, 1) := by decide +kernel
theorem dX6_keep_43 : decode cX6_keep 43 = .ok (.aload_n 0, 1) := by decide +kernel
theorem dX6_keep_44 : decode cX6_keep 44 = .ok (.getfield 18, 3) := by decide +kernel
theorem dX6_keep_47 : decode cX6_keep 47 = .ok (.iconst 1, 1) := by decide +kernel
theorem dX6_keep_48 : decode cX6_keep 48 = .ok (.iadd, 1) := by decide +kernel
theorem dX6_keep_49 : decode cX6_keep 49 = .ok (.bipush 30, 2) := by decide +kernel
theorem dX6_keep_51 : decode cX6_keep 51 = .ok (.invokestatic 29, 3) := by decide +kernel
theorem dX6_keep_54 : decode cX6_keep 54 = .ok (.putfield 18, 3) := by decide +kernel
theorem dX6_keep_57 : decode cX6_keep 57 = .ok (.return_, 1) := by decide +kernel
theorem dX6_giveBack_0 : decode cX6_giveBack 0 = .ok (.aload_n 0, 1) := by decide +kernel
theorem dX6_giveBack_1 : decode cX6_giveBack 1 = .ok (.getfield 22, 3) := by decide +kernel
theorem dX6_giveBack_4 : decode cX6_giveBack 4 = .ok (.bipush 30, 2) := by decide +kernel
theorem dX6_giveBack_6 : decode cX6_giveBack 6 = .ok (.iadd, 1) := by decide +kernel
theorem dX6_giveBack_7 : decode cX6_giveBack 7 = .ok (.iconst 1, 1) := by decide +kernel
theorem dX6_giveBack_8 : decode cX6_giveBack 8 = .ok (.isub, 1) := by decide +kernel
theorem dX6_giveBack_9 : decode cX6_giveBack 9 = .ok (.bipush 30, 2) := by decide +kernel
theorem dX6_giveBack_11 : decode cX6_giveBack 11 = .ok (.irem, 1) := by decide +kernel
theorem dX6_giveBack_12 : decode cX6_giveBack 12 = .ok (.istore_n 2, 1) := by decide +kernel
theorem dX6_giveBack_13 : decode cX6_giveBack 13 = .ok (.aload_n 0, 1) := by decide +kernel
theorem dX6_giveBack_14 : decode cX6_giveBack 14 = .ok (.getfield 18, 3) := by decide +kernel
theorem dX6_giveBack_17 : decode cX6_giveBack 17 = .ok (.ifCond .le 7, 3) := by decide +kernel
theorem dX6_giveBack_20 : decode cX6_giveBack 20 = .ok (.iload_n 2, 1) := by decide +kernel
theorem dX6_giveBack_21 : decode cX6_giveBack 21 = .ok (.ifCond .ge 5, 3) := by decide +kernel
theorem dX6_giveBack_24 : decode cX6_giveBack 24 = .ok (.iconst 0, 1) := by decide +kernel
theorem dX6_giveBack_25 : decode cX6_giveBack 25 = .ok (.ireturn, 1) := by decide +kernel
theorem dX6_giveBack_26 : decode cX6_giveBack 26 = .ok (.aload_n 1, 1) := by decide +kernel
theorem dX6_giveBack_27 : decode cX6_giveBack 27 = .ok (.aload_n 0, 1) := by decide +kernel
theorem dX6_giveBack_28 : decode cX6_giveBack 28 = .ok (.getfield 11, 3) := by decide +kernel
theorem dX6_giveBack_31 : decode cX6_giveBack 31 = .ok (.iload_n 2, 1) := by decide +kernel
theorem dX6_giveBack_32 : decode cX6_giveBack 32 = .ok (.aaload, 1) := by decide +kernel
theorem dX6_giveBack_33 : decode cX6_giveBack 33 = .ok (.invokevirtual 25, 3) := by decide +kernel
theorem dX6_giveBack_36 : decode cX6_giveBack 36 = .ok (.aload_n 0, 1) := by decide +kernel
theorem dX6_giveBack_37 : decode cX6_giveBack 37 = .ok (.iload_n 2, 1) := by decide +kernel
theorem dX6_giveBack_38 : decode cX6_giveBack 38 = .ok (.putfield 22, 3) := by decide +kernel
theorem dX6_giveBack_41 : decode cX6_giveBack 41 = .ok (.aload_n 0, 1) := by decide +kernel
theorem dX6_giveBack_42 : decode cX6_giveBack 42 = .ok (.dup, 1) := by decide +kernel
theorem dX6_giveBack_43 : decode cX6_giveBack 43 = .ok (.getfield 18, 3) := by decide +kernel
theorem dX6_giveBack_46 : decode cX6_giveBack 46 = .ok (.iconst 1, 1) := by decide +kernel
theorem dX6_giveBack_47 : decode cX6_giveBack 47 = .ok (.isub, 1) := by decide +kernel
theorem dX6_giveBack_48 : decode cX6_giveBack 48 = .ok (.putfield 18, 3) := by decide +kernel
theorem dX6_giveBack_51 : decode cX6_giveBack 51 = .ok (.iconst 1, 1) := by decide +kernel
theorem dX6_giveBack_52 : decode cX6_giveBack 52 = .ok (.ireturn, 1) := by decide +kernel
theorem dX7_init_0 : decode cX7_init 0 = .ok (.aload_n 0, 1) := by decide +kernel
theorem dX7_init_1 : decode cX7_init 1 = .ok (.invokespecial 3, 3) := by decide +kernel
theorem dX7_init_4 : decode cX7_init 4 = .ok (.aload_n 0, 1) := by decide +kernel
theorem dX7_init_5 : decode cX7_init 5 = .ok (.bipush 40, 2) := by decide +kernel
theorem dX7_init_7 : decode cX7_init 7 = .ok (.newarray .int, 2) := by decide +kernel
theorem dX7_init_9 : decode cX7_init 9 = .ok (.putfield 9, 3) := by decide +kernel
theorem dX7_init_12 : decode cX7_init 12 = .ok (.aload_n 0, 1) := by decide +kernel
theorem dX7_init_13 : decode cX7_init 13 = .ok (.bipush 40, 2) := by decide +kernel
theorem dX7_init_15 : decode cX7_init 15 = .ok (.newarray .int, 2) := by decide +kernel
theorem dX7_init_17 : decode cX7_init 17 = .ok (.putfield 15, 3) := by decide +kernel
theorem dX7_init_20 : decode cX7_init 20 = .ok (.aload_n 0, 1) := by decide +kernel
theorem dX7_init_21 : decode cX7_init 21 = .ok (.iconst 4, 1) := by decide +kernel
theorem dX7_init_22 : decode cX7_init 22 = .ok (.newarray .int, 2) := by decide +kernel
theorem dX7_init_24 : decode cX7_init 24 = .ok (.putfield 18, 3) := by decide +kernel
theorem dX7_init_27 : decode cX7_init 27 = .ok (.aload_n 0, 1) := by decide +kernel
theorem dX7_init_28 : decode cX7_init 28 = .ok (.iconst 4, 1) := by decide +kernel
theorem dX7_init_29 : decode cX7_init 29 = .ok (.newarray .int, 2) := by decide +kernel
theorem dX7_init_31 : decode cX7_init 31 = .ok (.putfield 21, 3) := by decide +kernel
theorem dX7_init_34 : decode cX7_init 34 = .ok (.aload_n 0, 1) := by decide +kernel
theorem dX7_init_35 : decode cX7_init 35 = .ok (.bipush 6, 2) := by decide +kernel
theorem dX7_init_37 : decode cX7_init 37 = .ok (.newarray .int, 2) := by decide +kernel
theorem dX7_init_39 : decode cX7_init 39 = .ok (.putfield 24, 3) := by decide +kernel
theorem dX7_init_42 : decode cX7_init 42 = .ok (.aload_n 0, 1) := by decide +kernel
theorem dX7_init_43 : decode cX7_init 43 = .ok (.bipush 6, 2) := by decide +kernel
theorem dX7_init_45 : decode cX7_init 45 = .ok (.newarray .int, 2) := by decide +kernel
theorem dX7_init_47 : decode cX7_init 47 = .ok (.putfield 27, 3) := by decide +kernel
theorem dX7_init_50 : decode cX7_init 50 = .ok (.aload_n 0, 1) := by decide +kernel
theorem dX7_init_51 : decode cX7_init 51 = .ok (.bipush 6, 2) := by decide +kernel
theorem dX7_init_53 : decode cX7_init 53 = .ok (.newarray .int, 2) := by decide +kernel
theorem dX7_init_55 : decode cX7_init 55 = .ok (.putfield 30, 3) := by decide +kernel
theorem dX7_init_58 : decode cX7_init 58 = .ok (.aload_n 0, 1) := by decide +kernel
theorem dX7_init_59 : decode cX7_init 59 = .ok (.bipush 6, 2) := by decide +kernel
theorem dX7_init_61 : decode cX7_init 61 = .ok (.newarray .int, 2) := by decide +kernel
theorem dX7_init_63 : decode cX7_init 63 = .ok (.putfield 33, 3) := by decide +kernel
theorem dX7_init_66 : decode cX7_init 66 = .ok (.aload_n 0, 1) := by decide +kernel
theorem dX7_init_67 : decode cX7_init 67 = .ok (.new 36, 3) := by decide +kernel
theorem dX7_init_70 : decode cX7_init 70 = .ok (.dup, 1) := by decide +kernel
theorem dX7_init_71 : decode cX7_init 71 = .ok (.invokespecial 38, 3) := by decide +kernel
theorem dX7_init_74 : decode cX7_init 74 = .ok (.putfield 39, 3) := by decide +kernel
theorem dX7_init_77 : decode cX7_init 77 = .ok (.aload_n 0, 1) := by decide +kernel
theorem dX7_init_78 : decode cX7_init 78 = .ok (.invokevirtual 43, 3) := by decide +kernel
theorem dX7_init_81 : decode cX7_init 81 = .ok (.return_, 1) := by decide +kernel
theorem dX7_clear_0 : decode cX7_clear 0 = .ok (.aload_n 0, 1) := by decide +kernel
theorem dX7_clear_1 : decode cX7_clear 1 = .ok (.iconst 0, 1) := by decide +kernel
theorem dX7_clear_2 : decode cX7_clear 2 = .ok (.putfield 46, 3) := by decide +kernel
theorem dX7_clear_5 : decode cX7_clear 5 = .ok (.aload_n 0, 1) := by decide +kernel
theorem dX7_clear_6 : decode cX7_clear 6 = .ok (.iconst 0, 1) := by decide +kernel
theorem dX7_clear_7 : decode cX7_clear 7 = .ok (.putfield 50, 3) := by decide +kernel
theorem dX7_clear_10 : decode cX7_clear 10 = .ok (.aload_n 0, 1) := by decide +kernel
theorem dX7_clear_11 : decode cX7_clear 11 = .ok (.iconst 0, 1) := by decide +kernel
theorem dX7_clear_12 : decode cX7_clear 12 = .ok (.putfield 53, 3) := by decide +kernel
theorem dX7_clear_15 : decode cX7_clear 15 = .ok (.aload_n 0, 1) := by decide +kernel
theorem dX7_clear_16 : decode cX7_clear 16 = .ok (.iconst 0, 1) := by decide +kernel
theorem dX7_clear_17 : decode cX7_clear 17 = .ok (.putfield 56, 3) := by decide +kernel
theorem dX7_clear_20 : decode cX7_clear 20 = .ok (.aload_n 0, 1) := by decide +kernel
theorem dX7_clear_21 : decode cX7_clear 21 = .ok (.iconst 0, 1) := by decide +kernel
theorem dX7_clear_22 : decode cX7_clear 22 = .ok (.putfield 59, 3) := by decide +kernel
theorem dX7_clear_25 : decode cX7_clear 25 = .ok (.aload_n 0, 1) := by decide +kernel
theorem dX7_clear_26 : decode cX7_clear 26 = .ok (.iconst 0, 1) := by decide +kernel
theorem dX7_clear_27 : decode cX7_clear 27 = .ok (.putfield 62, 3) := by decide +kernel
theorem dX7_clear_30 : decode cX7_clear 30 = .ok (.aload_n 0, 1) := by decide +kernel
theorem dX7_clear_31 : decode cX7_clear 31 = .ok (.iconst 3, 1) := by decide +kernel
theorem dX7_clear_32 : decode cX7_clear 32 = .ok (.putfield 65, 3) := by decide +kernel
theorem dX7_clear_35 : decode cX7_clear 35 = .ok (.aload_n 0, 1) := by decide +kernel
theorem dX7_clear_36 : decode cX7_clear 36 = .ok (.iconst 0, 1) := by decide +kernel
theorem dX7_clear_37 : decode cX7_clear 37 = .ok (.putfield 68, 3) := by decide +kernel
theorem dX7_clear_40 : decode cX7_clear 40 = .ok (.aload_n 0, 1) := by decide +kernel
theorem dX7_clear_41 : decode cX7_clear 41 = .ok (.getfield 9, 3) := by decide +kernel
theorem dX7_clear_44 : decode cX7_clear 44 = .ok (.iconst (-1), 1) := by decide +kernel
theorem dX7_clear_45 : decode cX7_clear 45 = .ok (.invokestatic 71, 3) := by decide +kernel
theorem dX7_clear_48 : decode cX7_clear 48 = .ok (.aload_n 0, 1) := by decide +kernel
theorem dX7_clear_49 : decode cX7_clear 49 = .ok (.getfield 15, 3) := by decide +kernel
theorem dX7_clear_52 : decode cX7_clear 52 = .ok (.iconst 0, 1) := by decide +kernel
theorem dX7_clear_53 : decode cX7_clear 53 = .ok (.invokestatic 71, 3) := by decide +kernel
theorem dX7_clear_56 : decode cX7_clear 56 = .ok (.aload_n 0, 1) := by decide +kernel
theorem dX7_clear_57 : decode cX7_clear 57 = .ok (.getfield 18, 3) := by decide +kernel
theorem dX7_clear_60 : decode cX7_clear 60 = .ok (.iconst 0, 1) := by decide +kernel
theorem dX7_clear_61 : decode cX7_clear 61 = .ok (.invokestatic 71, 3) := by decide +kernel
theorem dX7_clear_64 : decode cX7_clear 64 = .ok (.aload_n 0, 1) := by decide +kernel
theorem dX7_clear_65 : decode cX7_clear 65 = .ok (.getfield 21, 3) := by decide +kernel
theorem dX7_clear_68 : decode cX7_clear 68 = .ok (.iconst 0, 1) := by decide +kernel
theorem dX7_clear_69 : decode cX7_clear 69 = .ok (.invokestatic 71, 3) := by decide +kernel
theorem dX7_clear_72 : decode cX7_clear 72 = .ok (.aload_n 0, 1) := by decide +kernel
theorem dX7_clear_73 : decode cX7_clear 73 = .ok (.getfield 39, 3) := by decide +kernel
theorem dX7_clear_76 : decode cX7_clear 76 = .ok (.invokevirtual 75, 3) := by decide +kernel
theorem dX7_clear_79 : decode cX7_clear 79 = .ok (.return_, 1) := by decide +kernel
theorem dX7_putCell_0 : decode cX7_putCell 0 = .ok (.iload_n 1, 1) := by decide +kernel
theorem dX7_putCell_1 : decode cX7_putCell 1 = .ok (.ifCond .lt 30, 3) := by decide +kernel
theorem dX7_putCell_4 : decode cX7_putCell 4 = .ok (.iload_n 1, 1) := by decide +kernel
theorem dX7_putCell_5 : decode cX7_putCell 5 = .ok (.bipush 8, 2) := by decide +kernel
theorem dX7_putCell_7 : decode cX7_putCell 7 = .ok (.if_icmp .ge 24, 3) := by decide +kernel
theorem dX7_putCell_10 : decode cX7_putCell 10 = .ok (.iload_n 2, 1) := by decide +kernel
theorem dX7_putCell_11 : decode cX7_putCell 11 = .ok (.ifCond .lt 20, 3) := by decide +kernel
theorem dX7_putCell_14 : decode cX7_putCell 14 = .ok (.iload_n 2, 1) := by decide +kernel
theorem dX7_putCell_15 : decode cX7_putCell 15 = .ok (.iconst 5, 1) := by decide +kernel
theorem dX7_putCell_16 : decode cX7_putCell 16 = .ok (.if_icmp .ge 15, 3) := by decide +kernel
theorem dX7_putCell_19 : decode cX7_putCell 19 = .ok (.aload_n 0, 1) := by decide +kernel
theorem dX7_putCell_20 : decode cX7_putCell 20 = .ok (.getfield 9, 3) := by decide +kernel
theorem dX7_putCell_23 : decode cX7_putCell 23 = .ok (.iload_n 2, 1) := by decide +kernel
theorem dX7_putCell_24 : decode cX7_putCell 24 = .ok (.bipush 8, 2) := by decide +kernel
theorem dX7_putCell_26 : decode cX7_putCell 26 = .ok (.imul, 1) := by decide +kernel
theorem dX7_putCell_27 : decode cX7_putCell 27 = .ok (.iload_n 1, 1) := by decide +kernel
theorem dX7_putCell_28 : decode cX7_putCell 28 = .ok (.iadd, 1) := by decide +kernel
theorem dX7_putCell_29 : decode cX7_putCell 29 = .ok (.iload_n 3, 1) := by decide +kernel
theorem dX7_putCell_30 : decode cX7_putCell 30 = .ok (.iastore, 1) := by decide +kernel
theorem dX7_putCell_31 : decode cX7_putCell 31 = .ok (.return_, 1) := by decide +kernel
theorem dX7_cellAt_0 : decode cX7_cellAt 0 = .ok (.iload_n 1, 1) := by decide +kernel
theorem dX7_cellAt_1 : decode cX7_cellAt 1 = .ok (.ifCond .lt 23, 3) := by decide +kernel
theorem dX7_cellAt_4 : decode cX7_cellAt 4 = .ok (.iload_n 1, 1) := by decide +kernel
theorem dX7_cellAt_5 : decode cX7_cellAt 5 = .ok (.aload_n 0, 1) := by decide +kernel
theorem dX7_cellAt_6 : decode cX7_cellAt 6 = .ok (.getfield 46, 3) := by decide +kernel
theorem dX7_cellAt_9 : decode cX7_cellAt 9 = .ok (.if_icmp .ge 15, 3) := by decide +kernel
theorem dX7_cellAt_12 : decode cX7_cellAt 12 = .ok (.iload_n 2, 1) := by decide +kernel
theorem dX7_cellAt_13 : decode cX7_cellAt 13 = .ok (.ifCond .lt 11, 3) := by decide +kernel
theorem dX7_cellAt_16 : decode cX7_cellAt 16 = .ok (.iload_n 2, 1) := by decide +kernel
theorem dX7_cellAt_17 : decode cX7_cellAt 17 = .ok (.aload_n 0, 1) := by decide +kernel
theorem dX7_cellAt_18 : decode cX7_cellAt 18 = .ok (.getfield 50, 3) := by decide +kernel
theorem dX7_cellAt_21 : decode cX7_cellAt 21 = .ok (.if_icmp .lt 7, 3) := by decide +kernel
theorem dX7_cellAt_24 : decode cX7_cellAt 24 = .ok (.iconst (-1), 1) := by decide +kernel
theorem dX7_cellAt_25 : decode cX7_cellAt 25 = .ok (.goto 9, 3) := by decide +kernel
theorem dX7_cellAt_28 : decode cX7_cellAt 28 = .ok (.iload_n 2, 1) := by decide +kernel
theorem dX7_cellAt_29 : decode cX7_cellAt 29 = .ok (.bipush 8, 2) := by decide +kernel
theorem dX7_cellAt_31 : decode cX7_cellAt 31 = .ok (.imul, 1) := by decide +kernel
theorem dX7_cellAt_32 : decode cX7_cellAt 32 = .ok (.iload_n 1, 1) := by decide +kernel
theorem dX7_cellAt_33 : decode cX7_cellAt 33 = .ok (.iadd, 1) := by decide +kernel
theorem dX7_cellAt_34 : decode cX7_cellAt 34 = .ok (.ireturn, 1) := by decide +kernel
theorem dX7_toldCell_0 : decode cX7_toldCell 0 = .ok (.iload_n 1, 1) := by decide +kernel
theorem dX7_toldCell_1 : decode cX7_toldCell 1 = .ok (.ifCond .ge 7, 3) := by decide +kernel
theorem dX7_toldCell_4 : decode cX7_toldCell 4 = .ok (.iconst (-1), 1) := by decide +kernel
theorem dX7_toldCell_5 : decode cX7_toldCell 5 = .ok (.goto 15, 3) := by decide +kernel
theorem dX7_toldCell_8 : decode cX7_toldCell 8 = .ok (.aload_n 0, 1) := by decide +kernel
theorem dX7_toldCell_9 : decode cX7_toldCell 9 = .ok (.iload_n 1, 1) := by decide +kernel
theorem dX7_toldCell_10 : decode cX7_toldCell 10 = .ok (.bipush 10, 2) := by decide +kernel
theorem dX7_toldCell_12 : decode cX7_toldCell 12 = .ok (.irem, 1) := by decide +kernel
theorem dX7_toldCell_13 : decode cX7_toldCell 13 = .ok (.iload_n 1, 1) := by decide +kernel
theorem dX7_toldCell_14 : decode cX7_toldCell 14 = .ok (.bipush 10, 2) := by decide +kernel
theorem dX7_toldCell_16 : decode cX7_toldCell 16 = .ok (.idiv, 1) := by decide +kernel
theorem dX7_toldCell_17 : decode cX7_toldCell 17 = .ok (.invokevirtual 76, 3) := by decide +kernel
theorem dX7_toldCell_20 : decode cX7_toldCell 20 = .ok (.ireturn, 1) := by decide +kernel
theorem dX7_isLand_0 : decode cX7_isLand 0 = .ok (.iload_n 1, 1) := by decide +kernel
theorem dX7_isLand_1 : decode cX7_isLand 1 = .ok (.ifCond .lt 23, 3) := by decide +kernel
theorem dX7_isLand_4 : decode cX7_isLand 4 = .ok (.iload_n 1, 1) := by decide +kernel
theorem dX7_isLand_5 : decode cX7_isLand 5 = .ok (.bipush 40, 2) := by decide +kernel
theorem dX7_isLand_7 : decode cX7_isLand 7 = .ok (.if_icmp .ge 17, 3) := by decide +kernel
theorem dX7_isLand_10 : decode cX7_isLand 10 = .ok (.aload_n 0, 1) := by decide +kernel
theorem dX7_isLand_11 : decode cX7_isLand 11 = .ok (.getfield 9, 3) := by decide +kernel
theorem dX7_isLand_14 : decode cX7_isLand 14 = .ok (.iload_n 1, 1) := by decide +kernel
theorem dX7_isLand_15 : decode cX7_isLand 15 = .ok (.iaload, 1) := by decide +kernel
theorem dX7_isLand_16 : decode cX7_isLand 16 = .ok (.iconst (-1), 1) := by decide +kernel
theorem dX7_isLand_17 : decode cX7_isLand 17 = .ok (.if_icmp .eq 7, 3) := by decide +kernel
theorem dX7_isLand_20 : decode cX7_isLand 20 = .ok (.iconst 1, 1) := by decide +kernel
theorem dX7_isLand_21 : decode cX7_isLand 21 = .ok (.goto 4, 3) := by decide +kernel
theorem dX7_isLand_24 : decode cX7_isLand 24 = .ok (.iconst 0, 1) := by decide +kernel
theorem dX7_isLand_25 : decode cX7_isLand 25 = .ok (.ireturn, 1) := by decide +kernel
theorem dX7_hasHolding_0 : decode cX7_hasHolding 0 = .ok (.iload_n 1, 1) := by decide +kernel
theorem dX7_hasHolding_1 : decode cX7_hasHolding 1 = .ok (.ifCond .lt 20, 3) := by decide +kernel
theorem dX7_hasHolding_4 : decode cX7_hasHolding 4 = .ok (.iload_n 1, 1) := by decide +kernel
theorem dX7_hasHolding_5 : decode cX7_hasHolding 5 = .ok (.aload_n 0, 1) := by decide +kernel
theorem dX7_hasHolding_6 : decode cX7_hasHolding 6 = .ok (.getfield 53, 3) := by decide +kernel
theorem dX7_hasHolding_9 : decode cX7_hasHolding 9 = .ok (.if_icmp .ge 12, 3) := by decide +kernel
theorem dX7_hasHolding_12 : decode cX7_hasHolding 12 = .ok (.iload_n 1, 1) := by decide +kernel
theorem dX7_hasHolding_13 : decode cX7_hasHolding 13 = .ok (.iconst 4, 1) := by decide +kernel
theorem dX7_hasHolding_14 : decode cX7_hasHolding 14 = .ok (.if_icmp .ge 7, 3) := by decide +kernel
theorem dX7_hasHolding_17 : decode cX7_hasHolding 17 = .ok (.iconst 1, 1) := by decide +kernel
theorem dX7_hasHolding_18 : decode cX7_hasHolding 18 = .ok (.goto 4, 3) := by decide +kernel
theorem dX7_hasHolding_21 : decode cX7_hasHolding 21 = .ok (.iconst 0, 1) := by decide +kernel
theorem dX7_hasHolding_22 : decode cX7_hasHolding 22 = .ok (.ireturn, 1) := by decide +kernel
theorem dX7_hasHoldingsOfAllCells_0 : decode cX7_hasHoldingsOfAllCells 0 = .ok (.iconst 0, 1) := by decide +kernel
theorem dX7_hasHoldingsOfAllCells_1 : decode cX7_hasHoldingsOfAllCells 1 = .ok (.istore_n 1, 1) := by decide +kernel
theorem dX7_hasHoldingsOfAllCells_2 : decode cX7_hasHoldingsOfAllCells 2 = .ok (.iload_n 1, 1) := by decide +kernel
theorem dX7_hasHoldingsOfAllCells_3 : decode cX7_hasHoldingsOfAllCells 3 = .ok (.bipush 40, 2) := by decide +kernel
theorem dX7_hasHoldingsOfAllCells_5 : decode cX7_hasHoldingsOfAllCells 5 = .ok (.if_icmp .ge 35, 3) := by decide +kernel
theorem dX7_hasHoldingsOfAllCells_8 : decode cX7_hasHoldingsOfAllCells 8 = .ok (.aload_n 0, 1) := by decide +kernel
theorem dX7_hasHoldingsOfAllCells_9 : decode cX7_hasHoldingsOfAllCells 9 = .ok (.getfield 9, 3) := by decide +kernel
theorem dX7_hasHoldingsOfAllCells_12 : decode cX7_hasHoldingsOfAllCells 12 = .ok (.iload_n 1, 1) := by decide +kernel
theorem dX7_hasHoldingsOfAllCells_13 : decode cX7_hasHoldingsOfAllCells 13 = .ok (.iaload, 1) := by decide +kernel
theorem dX7_hasHoldingsOfAllCells_14 : decode cX7_hasHoldingsOfAllCells 14 = .ok (.aload_n 0, 1) := by decide +kernel
theorem dX7_hasHoldingsOfAllCells_15 : decode cX7_hasHoldingsOfAllCells 15 = .ok (.getfield 53, 3) := by decide +kernel
theorem dX7_hasHoldingsOfAllCells_18 : decode cX7_hasHoldingsOfAllCells 18 = .ok (.if_icmp .lt 16, 3) := by decide +kernel
theorem dX7_hasHoldingsOfAllCells_21 : decode cX7_hasHoldingsOfAllCells 21 = .ok (.aload_n 0, 1) := by decide +kernel
theorem dX7_hasHoldingsOfAllCells_22 : decode cX7_hasHoldingsOfAllCells 22 = .ok (.getfield 9, 3) := by decide +kernel
theorem dX7_hasHoldingsOfAllCells_25 : decode cX7_hasHoldingsOfAllCells 25 = .ok (.iload_n 1, 1) := by decide +kernel
theorem dX7_hasHoldingsOfAllCells_26 : decode cX7_hasHoldingsOfAllCells 26 = .ok (.iaload, 1) := by decide +kernel
theorem dX7_hasHoldingsOfAllCells_27 : decode cX7_hasHoldingsOfAllCells 27 = .ok (.bipush 9, 2) := by decide +kernel
theorem dX7_hasHoldingsOfAllCells_29 : decode cX7_hasHoldingsOfAllCells 29 = .ok (.if_icmp .eq 5, 3) := by decide +kernel
theorem dX7_hasHoldingsOfAllCells_32 : decode cX7_hasHoldingsOfAllCells 32 = .ok (.iconst 0, 1) := by decide +kernel
theorem dX7_hasHoldingsOfAllCells_33 : decode cX7_hasHoldingsOfAllCells 33 = .ok (.ireturn, 1) := by decide +kernel
theorem dX7_hasHoldingsOfAllCells_34 : decode cX7_hasHoldingsOfAllCells 34 = .ok (.iinc 1 1, 3) := by decide +kernel
theorem dX7_hasHoldingsOfAllCells_37 : decode cX7_hasHoldingsOfAllCells 37 = .ok (.goto (-35), 3) := by decide +kernel
theorem dX7_hasHoldingsOfAllCells_40 : decode cX7_hasHoldingsOfAllCells 40 = .ok (.iconst 1, 1) := by decide +kernel
theorem dX7_hasHoldingsOfAllCells_41 : decode cX7_hasHoldingsOfAllCells 41 = .ok (.ireturn, 1) := by decide +kernel
theorem dX7_hasUse_0 : decode cX7_hasUse 0 = .ok (.iload_n 1, 1) := by decide +kernel
theorem dX7_hasUse_1 : decode cX7_hasUse 1 = .ok (.ifCond .lt 21, 3) := by decide +kernel
theorem dX7_hasUse_4 : decode cX7_hasUse 4 = .ok (.iload_n 1, 1) := by decide +kernel
theorem dX7_hasUse_5 : decode cX7_hasUse 5 = .ok (.aload_n 0, 1) := by decide +kernel
theorem dX7_hasUse_6 : decode cX7_hasUse 6 = .ok (.getfield 56, 3) := by decide +kernel
theorem dX7_hasUse_9 : decode cX7_hasUse 9 = .ok (.if_icmp .ge 13, 3) := by decide +kernel
theorem dX7_hasUse_12 : decode cX7_hasUse 12 = .ok (.iload_n 1, 1) := by decide +kernel
theorem dX7_hasUse_13 : decode cX7_hasUse 13 = .ok (.bipush 6, 2) := by decide +kernel
theorem dX7_hasUse_15 : decode cX7_hasUse 15 = .ok (.if_icmp .ge 7, 3) := by decide +kernel
theorem dX7_hasUse_18 : decode cX7_hasUse 18 = .ok (.iconst 1, 1) := by decide +kernel
theorem dX7_hasUse_19 : decode cX7_hasUse 19 = .ok (.goto 4, 3) := by decide +kernel
theorem dX7_hasUse_22 : decode cX7_hasUse 22 = .ok (.iconst 0, 1) := by decide +kernel
theorem dX7_hasUse_23 : decode cX7_hasUse 23 = .ok (.ireturn, 1) := by decide +kernel
theorem dX7_isHourOf_0 : decode cX7_isHourOf 0 = .ok (.iload_n 2, 1) := by decide +kernel
theorem dX7_isHourOf_1 : decode cX7_isHourOf 1 = .ok (.bipush 24, 2) := by decide +kernel
theorem dX7_isHourOf_3 : decode cX7_isHourOf 3 = .ok (.irem, 1) := by decide +kernel
theorem dX7_isHourOf_4 : decode cX7_isHourOf 4 = .ok (.istore_n 3, 1) := by decide +kernel
theorem dX7_isHourOf_5 : decode cX7_isHourOf 5 = .ok (.aload_n 0, 1) := by decide +kernel
theorem dX7_isHourOf_6 : decode cX7_isHourOf 6 = .ok (.iload_n 1, 1) := by decide +kernel
theorem dX7_isHourOf_7 : decode cX7_isHourOf 7 = .ok (.invokevirtual 80, 3) := by decide +kernel
theorem dX7_isHourOf_10 : decode cX7_isHourOf 10 = .ok (.ifCond .eq 27, 3) := by decide +kernel
theorem dX7_isHourOf_13 : decode cX7_isHourOf 13 = .ok (.aload_n 0, 1) := by decide +kernel
theorem dX7_isHourOf_14 : decode cX7_isHourOf 14 = .ok (.getfield 27, 3) := by decide +kernel
theorem dX7_isHourOf_17 : decode cX7_isHourOf 17 = .ok (.iload_n 1, 1) := by decide +kernel
theorem dX7_isHourOf_18 : decode cX7_isHourOf 18 = .ok (.iaload, 1) := by decide +kernel
theorem dX7_isHourOf_19 : decode cX7_isHourOf 19 = .ok (.iload_n 3, 1) := by decide +kernel
theorem dX7_isHourOf_20 : decode cX7_isHourOf 20 = .ok (.if_icmp .gt 17, 3) := by decide +kernel
theorem dX7_isHourOf_23 : decode cX7_isHourOf 23 = .ok (.iload_n 3, 1) := by decide +kernel
theorem dX7_isHourOf_24 : decode cX7_isHourOf 24 = .ok (.aload_n 0, 1) := by decide +kernel
theorem dX7_isHourOf_25 : decode cX7_isHourOf 25 = .ok (.getfield 30, 3) := by decide +kernel
theorem dX7_isHourOf_28 : decode cX7_isHourOf 28 = .ok (.iload_n 1, 1) := by decide +kernel
theorem dX7_isHourOf_29 : decode cX7_isHourOf 29 = .ok (.iaload, 1) := by decide +kernel
theorem dX7_isHourOf_30 : decode cX7_isHourOf 30 = .ok (.if_icmp .gt 7, 3) := by decide +kernel
theorem dX7_isHourOf_33 : decode cX7_isHourOf 33 = .ok (.iconst 1, 1) := by decide +kernel
theorem dX7_isHourOf_34 : decode cX7_isHourOf 34 = .ok (.goto 4, 3) := by decide +kernel
theorem dX7_isHourOf_37 : decode cX7_isHourOf 37 = .ok (.iconst 0, 1) := by decide +kernel
theorem dX7_isHourOf_38 : decode cX7_isHourOf 38 = .ok (.ireturn, 1) := by decide +kernel
theorem dX8_init_0 : decode cX8_init 0 = .ok (.aload_n 0, 1) := by decide +kernel
theorem dX8_init_1 : decode cX8_init 1 = .ok (.invokespecial 3, 3) := by decide +kernel
theorem dX8_init_4 : decode cX8_init 4 = .ok (.aload_n 0, 1) := by decide +kernel
theorem dX8_init_5 : decode cX8_init 5 = .ok (.bipush 40, 2) := by decide +kernel
theorem dX8_init_7 : decode cX8_init 7 = .ok (.newarray .int, 2) := by decide +kernel
theorem dX8_init_9 : decode cX8_init 9 = .ok (.putfield 9, 3) := by decide +kernel
theorem dX8_init_12 : decode cX8_init 12 = .ok (.return_, 1) := by decide +kernel
theorem dX8_passHour_0 : decode cX8_passHour 0 = .ok (.aload_n 0, 1) := by decide +kernel
theorem dX8_passHour_1 : decode cX8_passHour 1 = .ok (.aload_n 1, 1) := by decide +kernel
theorem dX8_passHour_2 : decode cX8_passHour 2 = .ok (.aload_n 2, 1) := by decide +kernel
theorem dX8_passHour_3 : decode cX8_passHour 3 = .ok (.getfield 15, 3) := by decide +kernel
theorem dX8_passHour_6 : decode cX8_passHour 6 = .ok (.invokevirtual 21, 3) := by decide +kernel
theorem dX8_passHour_9 : decode cX8_passHour 9 = .ok (.istore 5, 2) := by decide +kernel
theorem dX8_passHour_11 : decode cX8_passHour 11 = .ok (.iload 5, 2) := by decide +kernel
theorem dX8_passHour_13 : decode cX8_passHour 13 = .ok (.ifCond .le 32, 3) := by decide +kernel
theorem dX8_passHour_16 : decode cX8_passHour 16 = .ok (.aload_n 0, 1) := by decide +kernel
theorem dX8_passHour_17 : decode cX8_passHour 17 = .ok (.aload_n 1, 1) := by decide +kernel
theorem dX8_passHour_18 : decode cX8_passHour 18 = .ok (.aload_n 2, 1) := by decide +kernel
theorem dX8_passHour_19 : decode cX8_passHour 19 = .ok (.iload 5, 2) := by decide +kernel
theorem dX8_passHour_21 : decode cX8_passHour 21 = .ok (.invokevirtual 25, 3) := by decide +kernel
theorem dX8_passHour_24 : decode cX8_passHour 24 = .ok (.aload_n 0, 1) := by decide +kernel
theorem dX8_passHour_25 : decode cX8_passHour 25 = .ok (.aload_n 1, 1) := by decide +kernel
theorem dX8_passHour_26 : decode cX8_passHour 26 = .ok (.iload_n 3, 1) := by decide +kernel
theorem dX8_passHour_27 : decode cX8_passHour 27 = .ok (.aload_n 2, 1) := by decide +kernel
theorem dX8_passHour_28 : decode cX8_passHour 28 = .ok (.getfield 15, 3) := by decide +kernel
theorem dX8_passHour_31 : decode cX8_passHour 31 = .ok (.invokevirtual 29, 3) := by decide +kernel
theorem dX8_passHour_34 : decode cX8_passHour 34 = .ok (.ifCond .eq 11, 3) := by decide +kernel
theorem dX8_passHour_37 : decode cX8_passHour 37 = .ok (.aload_n 0, 1) := by decide +kernel
theorem dX8_passHour_38 : decode cX8_passHour 38 = .ok (.aload_n 1, 1) := by decide +kernel
theorem dX8_passHour_39 : decode cX8_passHour 39 = .ok (.aload_n 2, 1) := by decide +kernel
theorem dX8_passHour_40 : decode cX8_passHour 40 = .ok (.iload 5, 2) := by decide +kernel
theorem dX8_passHour_42 : decode cX8_passHour 42 = .ok (.invokevirtual 25, 3) := by decide +kernel
theorem dX8_passHour_45 : decode cX8_passHour 45 = .ok (.aload_n 0, 1) := by decide +kernel
theorem dX8_passHour_46 : decode cX8_passHour 46 = .ok (.aload_n 1, 1) := by decide +kernel
theorem dX8_passHour_47 : decode cX8_passHour 47 = .ok (.aload_n 2, 1) := by decide +kernel
theorem dX8_passHour_48 : decode cX8_passHour 48 = .ok (.iload 4, 2) := by decide +kernel
theorem dX8_passHour_50 : decode cX8_passHour 50 = .ok (.invokevirtual 33, 3) := by decide +kernel
theorem dX8_passHour_53 : decode cX8_passHour 53 = .ok (.aload_n 2, 1) := by decide +kernel
theorem dX8_passHour_54 : decode cX8_passHour 54 = .ok (.dup, 1) := by decide +kernel
theorem dX8_passHour_55 : decode cX8_passHour 55 = .ok (.getfield 15, 3) := by decide +kernel
theorem dX8_passHour_58 : decode cX8_passHour 58 = .ok (.iconst 1, 1) := by decide +kernel
theorem dX8_passHour_59 : decode cX8_passHour 59 = .ok (.iadd, 1) := by decide +kernel
theorem dX8_passHour_60 : decode cX8_passHour 60 = .ok (.putfield 15, 3) := by decide +kernel
theorem dX8_passHour_63 : decode cX8_passHour 63 = .ok (.aload_n 2, 1) := by decide +kernel
theorem dX8_passHour_64 : decode cX8_passHour 64 = .ok (.getfield 15, 3) := by decide +kernel
theorem dX8_passHour_67 : decode cX8_passHour 67 = .ok (.bipush 24, 2) := by decide +kernel
theorem dX8_passHour_69 : decode cX8_passHour 69 = .ok (.irem, 1) := by decide +kernel
theorem dX8_passHour_70 : decode cX8_passHour 70 = .ok (.ifCond .ne 9, 3) := by decide +kernel
theorem dX8_passHour_73 : decode cX8_passHour 73 = .ok (.aload_n 0, 1) := by decide +kernel
theorem dX8_passHour_74 : decode cX8_passHour 74 = .ok (.aload_n 1, 1) := by decide +kernel
theorem dX8_passHour_75 : decode cX8_passHour 75 = .ok (.aload_n 2, 1) := by decide +kernel
theorem dX8_passHour_76 : decode cX8_passHour 76 = .ok (.invokevirtual 36, 3) := by decide +kernel
theorem dX8_passHour_79 : decode cX8_passHour 79 = .ok (.return_, 1) := by decide +kernel
theorem dX8_beginHour_0 : decode cX8_beginHour 0 = .ok (.aload_n 1, 1) := by decide +kernel
theorem dX8_beginHour_1 : decode cX8_beginHour 1 = .ok (.getfield 40, 3) := by decide +kernel
theorem dX8_beginHour_4 : decode cX8_beginHour 4 = .ok (.astore_n 3, 1) := by decide +kernel
theorem dX8_beginHour_5 : decode cX8_beginHour 5 = .ok (.aload_n 3, 1) := by decide +kernel
theorem dX8_beginHour_6 : decode cX8_beginHour 6 = .ok (.iload_n 2, 1) := by decide +kernel
theorem dX8_beginHour_7 : decode cX8_beginHour 7 = .ok (.invokevirtual 46, 3) := by decide +kernel
theorem dX8_beginHour_10 : decode cX8_beginHour 10 = .ok (.aload_n 3, 1) := by decide +kernel
theorem dX8_beginHour_11 : decode cX8_beginHour 11 = .ok (.iconst 0, 1) := by decide +kernel
theorem dX8_beginHour_12 : decode cX8_beginHour 12 = .ok (.invokevirtual 52, 3) := by decide +kernel
theorem dX8_beginHour_15 : decode cX8_beginHour 15 = .ok (.iconst 5, 1) := by decide +kernel
theorem dX8_beginHour_16 : decode cX8_beginHour 16 = .ok (.irem, 1) := by decide +kernel
theorem dX8_beginHour_17 : decode cX8_beginHour 17 = .ok (.iconst 0, 1) := by decide +kernel
theorem dX8_beginHour_18 : decode cX8_beginHour 18 = .ok (.invokestatic 56, 3) := by decide +kernel
theorem dX8_beginHour_21 : decode cX8_beginHour 21 = .ok (.istore 4, 2) := by decide +kernel
theorem dX8_beginHour_23 : decode cX8_beginHour 23 = .ok (.aload_n 3, 1) := by decide +kernel
theorem dX8_beginHour_24 : decode cX8_beginHour 24 = .ok (.getfield 62, 3) := by decide +kernel
theorem dX8_beginHour_27 : decode cX8_beginHour 27 = .ok (.bipush 8, 2) := by decide +kernel
theorem dX8_beginHour_29 : decode cX8_beginHour 29 = .ok (.iload 4, 2) := by decide +kernel
theorem dX8_beginHour_31 : decode cX8_beginHour 31 = .ok (.iastore, 1) := by decide +kernel
theorem dX8_beginHour_32 : decode cX8_beginHour 32 = .ok (.iload 4, 2) := by decide +kernel
theorem dX8_beginHour_34 : decode cX8_beginHour 34 = .ok (.ireturn, 1) := by decide +kernel
theorem dX8_isGust_0 : decode cX8_isGust 0 = .ok (.iload_n 2, 1) := by decide +kernel
theorem dX8_isGust_1 : decode cX8_isGust 1 = .ok (.bipush 105, 2) := by decide +kernel
theorem dX8_isGust_3 : decode cX8_isGust 3 = .ok (.invokestatic 65, 3) := by decide +kernel
theorem dX8_isGust_6 : decode cX8_isGust 6 = .ok (.iconst 4, 1) := by decide +kernel
theorem dX8_isGust_7 : decode cX8_isGust 7 = .ok (.iload_n 3, 1) := by decide +kernel
theorem dX8_isGust_8 : decode cX8_isGust 8 = .ok (.imul, 1) := by decide +kernel
theorem dX8_isGust_9 : decode cX8_isGust 9 = .ok (.invokestatic 65, 3) := by decide +kernel
theorem dX8_isGust_12 : decode cX8_isGust 12 = .ok (.istore 4, 2) := by decide +kernel
theorem dX8_isGust_14 : decode cX8_isGust 14 = .ok (.iload 4, 2) := by decide +kernel
theorem dX8_isGust_16 : decode cX8_isGust 16 = .ok (.iconst 1, 1) := by decide +kernel
theorem dX8_isGust_17 : decode cX8_isGust 17 = .ok (.iushr, 1) := by decide +kernel
theorem dX8_isGust_18 : decode cX8_isGust 18 = .ok (.bipush 100, 2) := by decide +kernel
theorem dX8_isGust_20 : decode cX8_isGust 20 = .ok (.irem, 1) := by decide +kernel
theorem dX8_isGust_21 : decode cX8_isGust 21 = .ok (.aload_n 1, 1) := by decide +kernel
theorem dX8_isGust_22 : decode cX8_isGust 22 = .ok (.getfield 68, 3) := by decide +kernel
theorem dX8_isGust_25 : decode cX8_isGust 25 = .ok (.if_icmp .ge 7, 3) := by decide +kernel
theorem dX8_isGust_28 : decode cX8_isGust 28 = .ok (.iconst 1, 1) := by decide +kernel
theorem dX8_isGust_29 : decode cX8_isGust 29 = .ok (.goto 4, 3) := by decide +kernel
theorem dX8_isGust_32 : decode cX8_isGust 32 = .ok (.iconst 0, 1) := by decide +kernel
theorem dX8_isGust_33 : decode cX8_isGust 33 = .ok (.ireturn, 1) := by decide +kernel
theorem dX8_mixed_0 : decode cX8_mixed 0 = .ok (.iload_n 0, 1) := by decide +kernel
theorem dX8_mixed_1 : decode cX8_mixed 1 = .ok (.iload_n 1, 1) := by decide +kernel
theorem dX8_mixed_2 : decode cX8_mixed 2 = .ok (.ixor, 1) := by decide +kernel
theorem dX8_mixed_3 : decode cX8_mixed 3 = .ok (.ldc 71, 2) := by decide +kernel
theorem dX8_mixed_5 : decode cX8_mixed 5 = .ok (.imul, 1) := by decide +kernel
theorem dX8_mixed_6 : decode cX8_mixed 6 = .ok (.sipush 12345, 3) := by decide +kernel
theorem dX8_mixed_9 : decode cX8_mixed 9 = .ok (.iadd, 1) := by decide +kernel
theorem dX8_mixed_10 : decode cX8_mixed 10 = .ok (.istore_n 2, 1) := by decide +kernel
theorem dX8_mixed_11 : decode cX8_mixed 11 = .ok (.iload_n 2, 1) := by decide +kernel
theorem dX8_mixed_12 : decode cX8_mixed 12 = .ok (.iload_n 2, 1) := by decide +kernel
theorem dX8_mixed_13 : decode cX8_mixed 13 = .ok (.bipush 15, 2) := by decide +kernel
theorem dX8_mixed_15 : decode cX8_mixed 15 = .ok (.iushr, 1) := by decide +kernel
theorem dX8_mixed_16 : decode cX8_mixed 16 = .ok (.ixor, 1) := by decide +kernel
theorem dX8_mixed_17 : decode cX8_mixed 17 = .ok (.ireturn, 1) := by decide +kernel
theorem dX8_step_0 : decode cX8_step 0 = .ok (.aload_n 0, 1) := by decide +kernel
theorem dX8_step_1 : decode cX8_step 1 = .ok (.getfield 9, 3) := by decide +kernel
theorem dX8_step_4 : decode cX8_step 4 = .ok (.iconst 0, 1) := by decide +kernel
theorem dX8_step_5 : decode cX8_step 5 = .ok (.invokestatic 72, 3) := by decide +kernel
theorem dX8_step_8 : decode cX8_step 8 = .ok (.iconst 0, 1) := by decide +kernel
theorem dX8_step_9 : decode cX8_step 9 = .ok (.istore 4, 2) := by decide +kernel
theorem dX8_step_11 : decode cX8_step 11 = .ok (.iload 4, 2) := by decide +kernel
theorem dX8_step_13 : decode cX8_step 13 = .ok (.bipush 40, 2) := by decide +kernel
theorem dX8_step_15 : decode cX8_step 15 = .ok (.if_icmp .ge 99, 3) := by decide +kernel
theorem dX8_step_18 : decode cX8_step 18 = .ok (.aload_n 2, 1) := by decide +kernel
theorem dX8_step_19 : decode cX8_step 19 = .ok (.getfield 76, 3) := by decide +kernel
theorem dX8_step_22 : decode cX8_step 22 = .ok (.iload 4, 2) := by decide +kernel
theorem dX8_step_24 : decode cX8_step 24 = .ok (.iaload, 1) := by decide +kernel
theorem dX8_step_25 : decode cX8_step 25 = .ok (.istore 5, 2) := by decide +kernel
theorem dX8_step_27 : decode cX8_step 27 = .ok (.iload 5, 2) := by decide +kernel
theorem dX8_step_29 : decode cX8_step 29 = .ok (.ifCond .le 79, 3) := by decide +kernel
theorem dX8_step_32 : decode cX8_step 32 = .ok (.aload_n 0, 1) := by decide +kernel
theorem dX8_step_33 : decode cX8_step 33 = .ok (.aload_n 1, 1) := by decide +kernel
theorem dX8_step_34 : decode cX8_step 34 = .ok (.aload_n 2, 1) := by decide +kernel
theorem dX8_step_35 : decode cX8_step 35 = .ok (.iload 4, 2) := by decide +kernel
theorem dX8_step_37 : decode cX8_step 37 = .ok (.iconst 1, 1) := by decide +kernel
theorem dX8_step_38 : decode cX8_step 38 = .ok (.invokevirtual 79, 3) := by decide +kernel
theorem dX8_step_41 : decode cX8_step 41 = .ok (.istore 6, 2) := by decide +kernel
theorem dX8_step_43 : decode cX8_step 43 = .ok (.aload_n 1, 1) := by decide +kernel
theorem dX8_step_44 : decode cX8_step 44 = .ok (.iload 4, 2) := by decide +kernel
theorem dX8_step_46 : decode cX8_step 46 = .ok (.bipush 8, 2) := by decide +kernel
theorem dX8_step_48 : decode cX8_step 48 = .ok (.irem, 1) := by decide +kernel
theorem dX8_step_49 : decode cX8_step 49 = .ok (.iload_n 3, 1) := by decide +kernel
theorem dX8_step_50 : decode cX8_step 50 = .ok (.invokestatic 83, 3) := by decide +kernel
theorem dX8_step_53 : decode cX8_step 53 = .ok (.iadd, 1) := by decide +kernel
theorem dX8_step_54 : decode cX8_step 54 = .ok (.iload 4, 2) := by decide +kernel
theorem dX8_step_56 : decode cX8_step 56 = .ok (.bipush 8, 2) := by decide +kernel
theorem dX8_step_58 : decode cX8_step 58 = .ok (.idiv, 1) := by decide +kernel
theorem dX8_step_59 : decode cX8_step 59 = .ok (.iload_n 3, 1) := by decide +kernel
theorem dX8_step_60 : decode cX8_step 60 = .ok (.invokestatic 86, 3) := by decide +kernel
theorem dX8_step_63 : decode cX8_step 63 = .ok (.iadd, 1) := by decide +kernel
theorem dX8_step_64 : decode cX8_step 64 = .ok (.invokevirtual 89, 3) := by decide +kernel
theorem dX8_step_67 : decode cX8_step 67 = .ok (.istore 7, 2) := by decide +kernel
theorem dX8_step_69 : decode cX8_step 69 = .ok (.aload_n 0, 1) := by decide +kernel
theorem dX8_step_70 : decode cX8_step 70 = .ok (.getfield 9, 3) := by decide +kernel
theorem dX8_step_73 : decode cX8_step 73 = .ok (.iload 4, 2) := by decide +kernel
theorem dX8_step_75 : decode cX8_step 75 = .ok (.dup2, 1) := by decide +kernel
theorem dX8_step_76 : decode cX8_step 76 = .ok (.iaload, 1) := by decide +kernel
theorem dX8_step_77 : decode cX8_step 77 = .ok (.iload 5, 2) := by decide +kernel
theorem dX8_step_79 : decode cX8_step 79 = .ok (.iload 6, 2) := by decide +kernel
theorem dX8_step_81 : decode cX8_step 81 = .ok (.isub, 1) := by decide +kernel
theorem dX8_step_82 : decode cX8_step 82 = .ok (.iadd, 1) := by decide +kernel
theorem dX8_step_83 : decode cX8_step 83 = .ok (.iastore, 1) := by decide +kernel
theorem dX8_step_84 : decode cX8_step 84 = .ok (.iload 7, 2) := by decide +kernel
theorem dX8_step_86 : decode cX8_step 86 = .ok (.ifCond .lt 22, 3) := by decide +kernel
theorem dX8_step_89 : decode cX8_step 89 = .ok (.iload 7, 2) := by decide +kernel
theorem dX8_step_91 : decode cX8_step 91 = .ok (.bipush 40, 2) := by decide +kernel
theorem dX8_step_93 : decode cX8_step 93 = .ok (.if_icmp .ge 15, 3) := by decide +kernel
theorem dX8_step_96 : decode cX8_step 96 = .ok (.aload_n 0, 1) := by decide +kernel
theorem dX8_step_97 : decode cX8_step 97 = .ok (.getfield 9, 3) := by decide +kernel
theorem dX8_step_100 : decode cX8_step 100 = .ok (.iload 7, 2) := by decide +kernel
theorem dX8_step_102 : decode cX8_step 102 = .ok (.dup2, 1) := by decide +kernel
theorem dX8_step_103 : decode cX8_step 103 = .ok (.iaload, 1) := by decide +kernel
theorem dX8_step_104 : decode cX8_step 104 = .ok (.iload 6, 2) := by decide +kernel
theorem dX8_step_106 : decode cX8_step 106 = .ok (.iadd, 1) := by decide +kernel
theorem dX8_step_107 : decode cX8_step 107 = .ok (.iastore, 1) := by decide +kernel
theorem dX8_step_108 : decode cX8_step 108 = .ok (.iinc 4 1, 3) := by decide +kernel
theorem dX8_step_111 : decode cX8_step 111 = .ok (.goto (-100), 3) := by decide +kernel
theorem dX8_step_114 : decode cX8_step 114 = .ok (.aload_n 0, 1) := by decide +kernel
theorem dX8_step_115 : decode cX8_step 115 = .ok (.getfield 9, 3) := by decide +kernel
theorem dX8_step_118 : decode cX8_step 118 = .ok (.aload_n 2, 1) := by decide +kernel
theorem dX8_step_119 : decode cX8_step 119 = .ok (.getfield 76, 3) := by decide +kernel
theorem dX8_step_122 : decode cX8_step 122 = .ok (.invokestatic 92, 3) := by decide +kernel
theorem dX8_step_125 : decode cX8_step 125 = .ok (.return_, 1) := by decide +kernel
theorem dX8_thinAll_0 : decode cX8_thinAll 0 = .ok (.iconst 0, 1) := by decide +kernel
theorem dX8_thinAll_1 : decode cX8_thinAll 1 = .ok (.istore 4, 2) := by decide +kernel
theorem dX8_thinAll_3 : decode cX8_thinAll 3 = .ok (.iload 4, 2) := by decide +kernel
theorem dX8_thinAll_5 : decode cX8_thinAll 5 = .ok (.bipush 40, 2) := by decide +kernel
theorem dX8_thinAll_7 : decode cX8_thinAll 7 = .ok (.if_icmp .ge 68, 3) := by decide +kernel
theorem dX8_thinAll_10 : decode cX8_thinAll 10 = .ok (.aload_n 2, 1) := by decide +kernel
theorem dX8_thinAll_11 : decode cX8_thinAll 11 = .ok (.getfield 76, 3) := by decide +kernel
theorem dX8_thinAll_14 : decode cX8_thinAll 14 = .ok (.iload 4, 2) := by decide +kernel
theorem dX8_thinAll_16 : decode cX8_thinAll 16 = .ok (.iaload, 1) := by decide +kernel
theorem dX8_thinAll_17 : decode cX8_thinAll 17 = .ok (.ifCond .le 52, 3) := by decide +kernel
theorem dX8_thinAll_20 : decode cX8_thinAll 20 = .ok (.aload_n 2, 1) := by decide +kernel
theorem dX8_thinAll_21 : decode cX8_thinAll 21 = .ok (.getfield 76, 3) := by decide +kernel
theorem dX8_thinAll_24 : decode cX8_thinAll 24 = .ok (.iload 4, 2) := by decide +kernel
theorem dX8_thinAll_26 : decode cX8_thinAll 26 = .ok (.iaload, 1) := by decide +kernel
theorem dX8_thinAll_27 : decode cX8_thinAll 27 = .ok (.aload_n 0, 1) := by decide +kernel
theorem dX8_thinAll_28 : decode cX8_thinAll 28 = .ok (.aload_n 1, 1) := by decide +kernel
theorem dX8_thinAll_29 : decode cX8_thinAll 29 = .ok (.aload_n 2, 1) := by decide +kernel
theorem dX8_thinAll_30 : decode cX8_thinAll 30 = .ok (.iload 4, 2) := by decide +kernel
theorem dX8_thinAll_32 : decode cX8_thinAll 32 = .ok (.iconst 2, 1) := by decide +kernel
theorem dX8_thinAll_33 : decode cX8_thinAll 33 = .ok (.invokevirtual 79, 3) := by decide +kernel
theorem dX8_thinAll_36 : decode cX8_thinAll 36 = .ok (.isub, 1) := by decide +kernel
theorem dX8_thinAll_37 : decode cX8_thinAll 37 = .ok (.istore 5, 2) := by decide +kernel
theorem dX8_thinAll_39 : decode cX8_thinAll 39 = .ok (.aload_n 2, 1) := by decide +kernel
theorem dX8_thinAll_40 : decode cX8_thinAll 40 = .ok (.getfield 76, 3) := by decide +kernel
theorem dX8_thinAll_43 : decode cX8_thinAll 43 = .ok (.iload 4, 2) := by decide +kernel
theorem dX8_thinAll_45 : decode cX8_thinAll 45 = .ok (.iload 4, 2) := by decide +kernel
theorem dX8_thinAll_47 : decode cX8_thinAll 47 = .ok (.iload_n 3, 1) := by decide +kernel
theorem dX8_thinAll_48 : decode cX8_thinAll 48 = .ok (.if_icmp .ne 13, 3) := by decide +kernel
theorem dX8_thinAll_51 : decode cX8_thinAll 51 = .ok (.iload 5, 2) := by decide +kernel
theorem dX8_thinAll_53 : decode cX8_thinAll 53 = .ok (.aload_n 1, 1) := by decide +kernel
theorem dX8_thinAll_54 : decode cX8_thinAll 54 = .ok (.getfield 96, 3) := by decide +kernel
theorem dX8_thinAll_57 : decode cX8_thinAll 57 = .ok (.isub, 1) := by decide +kernel
theorem dX8_thinAll_58 : decode cX8_thinAll 58 = .ok (.goto 5, 3) := by decide +kernel
theorem dX8_thinAll_61 : decode cX8_thinAll 61 = .ok (.iload 5, 2) := by decide +kernel
theorem dX8_thinAll_63 : decode cX8_thinAll 63 = .ok (.bipush 99, 2) := by decide +kernel
theorem dX8_thinAll_65 : decode cX8_thinAll 65 = .ok (.invokestatic 99, 3) := by decide +kernel
theorem dX8_thinAll_68 : decode cX8_thinAll 68 = .ok (.iastore, 1) := by decide +kernel
theorem dX8_thinAll_69 : decode cX8_thinAll 69 = .ok (.iinc 4 1, 3) := by decide +kernel
theorem dX8_thinAll_72 : decode cX8_thinAll 72 = .ok (.goto (-69), 3) := by decide +kernel
theorem dX8_thinAll_75 : decode cX8_thinAll 75 = .ok (.return_, 1) := by decide +kernel
theorem dX8_ofCell_0 : decode cX8_ofCell 0 = .ok (.iload_n 3, 1) := by decide +kernel
theorem dX8_ofCell_1 : decode cX8_ofCell 1 = .ok (.ifCond .lt 9, 3) := by decide +kernel
theorem dX8_ofCell_4 : decode cX8_ofCell 4 = .ok (.iload_n 3, 1) := by decide +kernel
theorem dX8_ofCell_5 : decode cX8_ofCell 5 = .ok (.bipush 40, 2) := by decide +kernel
theorem dX8_ofCell_7 : decode cX8_ofCell 7 = .ok (.if_icmp .lt 5, 3) := by decide +kernel
theorem dX8_ofCell_10 : decode cX8_ofCell 10 = .ok (.iconst 0, 1) := by decide +kernel
theorem dX8_ofCell_11 : decode cX8_ofCell 11 = .ok (.ireturn, 1) := by decide +kernel
theorem dX8_ofCell_12 : decode cX8_ofCell 12 = .ok (.aload_n 1, 1) := by decide +kernel
theorem dX8_ofCell_13 : decode cX8_ofCell 13 = .ok (.getfield 40, 3) := by decide +kernel
theorem dX8_ofCell_16 : decode cX8_ofCell 16 = .ok (.astore 5, 2) := by decide +kernel
theorem dX8_ofCell_18 : decode cX8_ofCell 18 = .ok (.aload 5, 2) := by decide +kernel
theorem dX8_ofCell_20 : decode cX8_ofCell 20 = .ok (.getfield 62, 3) := by decide +kernel
theorem dX8_ofCell_23 : decode cX8_ofCell 23 = .ok (.iconst 0, 1) := by decide +kernel
theorem dX8_ofCell_24 : decode cX8_ofCell 24 = .ok (.aload_n 2, 1) := by decide +kernel
theorem dX8_ofCell_25 : decode cX8_ofCell 25 = .ok (.getfield 76, 3) := by decide +kernel
theorem dX8_ofCell_28 : decode cX8_ofCell 28 = .ok (.iload_n 3, 1) := by decide +kernel
theorem dX8_ofCell_29 : decode cX8_ofCell 29 = .ok (.iaload, 1) := by decide +kernel
theorem dX8_ofCell_30 : decode cX8_ofCell 30 = .ok (.iastore, 1) := by decide +kernel
theorem dX8_ofCell_31 : decode cX8_ofCell 31 = .ok (.aload 5, 2) := by decide +kernel
theorem dX8_ofCell_33 : decode cX8_ofCell 33 = .ok (.getfield 62, 3) := by decide +kernel
theorem dX8_ofCell_36 : decode cX8_ofCell 36 = .ok (.iconst 3, 1) := by decide +kernel
theorem dX8_ofCell_37 : decode cX8_ofCell 37 = .ok (.iload_n 3, 1) := by decide +kernel
theorem dX8_ofCell_38 : decode cX8_ofCell 38 = .ok (.bipush 8, 2) := by decide +kernel
theorem dX8_ofCell_40 : decode cX8_ofCell 40 = .ok (.irem, 1) := by decide +kernel
theorem dX8_ofCell_41 : decode cX8_ofCell 41 = .ok (.iastore, 1) := by decide +kernel
theorem dX8_ofCell_42 : decode cX8_ofCell 42 = .ok (.aload 5, 2) := by decide +kernel
theorem dX8_ofCell_44 : decode cX8_ofCell 44 = .ok (.getfield 62, 3) := by decide +kernel
theorem dX8_ofCell_47 : decode cX8_ofCell 47 = .ok (.iconst 4, 1) := by decide +kernel
theorem dX8_ofCell_48 : decode cX8_ofCell 48 = .ok (.iload_n 3, 1) := by decide +kernel
theorem dX8_ofCell_49 : decode cX8_ofCell 49 = .ok (.bipush 8, 2) := by decide +kernel
theorem dX8_ofCell_51 : decode cX8_ofCell 51 = .ok (.idiv, 1) := by decide +kernel
theorem dX8_ofCell_52 : decode cX8_ofCell 52 = .ok (.iastore, 1) := by decide +kernel
theorem dX8_ofCell_53 : decode cX8_ofCell 53 = .ok (.aload 5, 2) := by decide +kernel
theorem dX8_ofCell_55 : decode cX8_ofCell 55 = .ok (.getfield 62, 3) := by decide +kernel
theorem dX8_ofCell_58 : decode cX8_ofCell 58 = .ok (.iconst 5, 1) := by decide +kernel
theorem dX8_ofCell_59 : decode cX8_ofCell 59 = .ok (.aload_n 2, 1) := by decide +kernel
theorem dX8_ofCell_60 : decode cX8_ofCell 60 = .ok (.getfield 102, 3) := by decide +kernel
theorem dX8_ofCell_63 : decode cX8_ofCell 63 = .ok (.iload_n 3, 1) := by decide +kernel
theorem dX8_ofCell_64 : decode cX8_ofCell 64 = .ok (.iaload, 1) := by decide +kernel
theorem dX8_ofCell_65 : decode cX8_ofCell 65 = .ok (.iastore, 1) := by decide +kernel
theorem dX8_ofCell_66 : decode cX8_ofCell 66 = .ok (.aload 5, 2) := by decide +kernel
theorem dX8_ofCell_68 : decode cX8_ofCell 68 = .ok (.iload 4, 2) := by decide +kernel
theorem dX8_ofCell_70 : decode cX8_ofCell 70 = .ok (.invokevirtual 52, 3) := by decide +kernel
theorem dX8_ofCell_73 : decode cX8_ofCell 73 = .ok (.aload_n 2, 1) := by decide +kernel
theorem dX8_ofCell_74 : decode cX8_ofCell 74 = .ok (.getfield 76, 3) := by decide +kernel
theorem dX8_ofCell_77 : decode cX8_ofCell 77 = .ok (.iload_n 3, 1) := by decide +kernel
theorem dX8_ofCell_78 : decode cX8_ofCell 78 = .ok (.iaload, 1) := by decide +kernel
theorem dX8_ofCell_79 : decode cX8_ofCell 79 = .ok (.invokestatic 99, 3) := by decide +kernel
theorem dX8_ofCell_82 : decode cX8_ofCell 82 = .ok (.ireturn, 1) := by decide +kernel
theorem dX8_giveAll_0 : decode cX8_giveAll 0 = .ok (.aload_n 1, 1) := by decide +kernel
theorem dX8_giveAll_1 : decode cX8_giveAll 1 = .ok (.getfield 40, 3) := by decide +kernel
theorem dX8_giveAll_4 : decode cX8_giveAll 4 = .ok (.astore_n 3, 1) := by decide +kernel
theorem dX8_giveAll_5 : decode cX8_giveAll 5 = .ok (.aload_n 3, 1) := by decide +kernel
theorem dX8_giveAll_6 : decode cX8_giveAll 6 = .ok (.aload_n 2, 1) := by decide +kernel
theorem dX8_giveAll_7 : decode cX8_giveAll 7 = .ok (.getfield 15, 3) := by decide +kernel
theorem dX8_giveAll_10 : decode cX8_giveAll 10 = .ok (.invokevirtual 46, 3) := by decide +kernel
theorem dX8_giveAll_13 : decode cX8_giveAll 13 = .ok (.iconst 0, 1) := by decide +kernel
theorem dX8_giveAll_14 : decode cX8_giveAll 14 = .ok (.istore 4, 2) := by decide +kernel
theorem dX8_giveAll_16 : decode cX8_giveAll 16 = .ok (.iload 4, 2) := by decide +kernel
theorem dX8_giveAll_18 : decode cX8_giveAll 18 = .ok (.aload_n 1, 1) := by decide +kernel
theorem dX8_giveAll_19 : decode cX8_giveAll 19 = .ok (.getfield 105, 3) := by decide +kernel
theorem dX8_giveAll_22 : decode cX8_giveAll 22 = .ok (.if_icmp .ge 94, 3) := by decide +kernel
theorem dX8_giveAll_25 : decode cX8_giveAll 25 = .ok (.iload 4, 2) := by decide +kernel
theorem dX8_giveAll_27 : decode cX8_giveAll 27 = .ok (.iconst 4, 1) := by decide +kernel
theorem dX8_giveAll_28 : decode cX8_giveAll 28 = .ok (.if_icmp .ge 88, 3) := by decide +kernel
theorem dX8_giveAll_31 : decode cX8_giveAll 31 = .ok (.aload_n 3, 1) := by decide +kernel
theorem dX8_giveAll_32 : decode cX8_giveAll 32 = .ok (.getfield 62, 3) := by decide +kernel
theorem dX8_giveAll_35 : decode cX8_giveAll 35 = .ok (.iconst 5, 1) := by decide +kernel
theorem dX8_giveAll_36 : decode cX8_giveAll 36 = .ok (.iload 4, 2) := by decide +kernel
theorem dX8_giveAll_38 : decode cX8_giveAll 38 = .ok (.iastore, 1) := by decide +kernel
theorem dX8_giveAll_39 : decode cX8_giveAll 39 = .ok (.aload_n 3, 1) := by decide +kernel
theorem dX8_giveAll_40 : decode cX8_giveAll 40 = .ok (.getfield 62, 3) := by decide +kernel
theorem dX8_giveAll_43 : decode cX8_giveAll 43 = .ok (.bipush 6, 2) := by decide +kernel
theorem dX8_giveAll_45 : decode cX8_giveAll 45 = .ok (.aload_n 2, 1) := by decide +kernel
theorem dX8_giveAll_46 : decode cX8_giveAll 46 = .ok (.getfield 108, 3) := by decide +kernel
theorem dX8_giveAll_49 : decode cX8_giveAll 49 = .ok (.iload 4, 2) := by decide +kernel
theorem dX8_giveAll_51 : decode cX8_giveAll 51 = .ok (.iaload, 1) := by decide +kernel
theorem dX8_giveAll_52 : decode cX8_giveAll 52 = .ok (.iastore, 1) := by decide +kernel
theorem dX8_giveAll_53 : decode cX8_giveAll 53 = .ok (.aload_n 3, 1) := by decide +kernel
theorem dX8_giveAll_54 : decode cX8_giveAll 54 = .ok (.getfield 62, 3) := by decide +kernel
theorem dX8_giveAll_57 : decode cX8_giveAll 57 = .ok (.bipush 7, 2) := by decide +kernel
theorem dX8_giveAll_59 : decode cX8_giveAll 59 = .ok (.aload_n 1, 1) := by decide +kernel
theorem dX8_giveAll_60 : decode cX8_giveAll 60 = .ok (.getfield 111, 3) := by decide +kernel
theorem dX8_giveAll_63 : decode cX8_giveAll 63 = .ok (.iload 4, 2) := by decide +kernel
theorem dX8_giveAll_65 : decode cX8_giveAll 65 = .ok (.iaload, 1) := by decide +kernel
theorem dX8_giveAll_66 : decode cX8_giveAll 66 = .ok (.iastore, 1) := by decide +kernel
theorem dX8_giveAll_67 : decode cX8_giveAll 67 = .ok (.aload_n 3, 1) := by decide +kernel
theorem dX8_giveAll_68 : decode cX8_giveAll 68 = .ok (.getfield 62, 3) := by decide +kernel
theorem dX8_giveAll_71 : decode cX8_giveAll 71 = .ok (.iconst 0, 1) := by decide +kernel
theorem dX8_giveAll_72 : decode cX8_giveAll 72 = .ok (.aload_n 2, 1) := by decide +kernel
theorem dX8_giveAll_73 : decode cX8_giveAll 73 = .ok (.iload 4, 2) := by decide +kernel
theorem dX8_giveAll_75 : decode cX8_giveAll 75 = .ok (.invokevirtual 114, 3) := by decide +kernel
theorem dX8_giveAll_78 : decode cX8_giveAll 78 = .ok (.iastore, 1) := by decide +kernel
theorem dX8_giveAll_79 : decode cX8_giveAll 79 = .ok (.aload_n 2, 1) := by decide +kernel
theorem dX8_giveAll_80 : decode cX8_giveAll 80 = .ok (.getfield 108, 3) := by decide +kernel
theorem dX8_giveAll_83 : decode cX8_giveAll 83 = .ok (.iload 4, 2) := by decide +kernel
theorem dX8_giveAll_85 : decode cX8_giveAll 85 = .ok (.aload_n 2, 1) := by decide +kernel
theorem dX8_giveAll_86 : decode cX8_giveAll 86 = .ok (.getfield 108, 3) := by decide +kernel
theorem dX8_giveAll_89 : decode cX8_giveAll 89 = .ok (.iload 4, 2) := by decide +kernel
theorem dX8_giveAll_91 : decode cX8_giveAll 91 = .ok (.iaload, 1) := by decide +kernel
theorem dX8_giveAll_92 : decode cX8_giveAll 92 = .ok (.aload_n 3, 1) := by decide +kernel
theorem dX8_giveAll_93 : decode cX8_giveAll 93 = .ok (.iconst 3, 1) := by decide +kernel
theorem dX8_giveAll_94 : decode cX8_giveAll 94 = .ok (.invokevirtual 52, 3) := by decide +kernel
theorem dX8_giveAll_97 : decode cX8_giveAll 97 = .ok (.bipush 99, 2) := by decide +kernel
theorem dX8_giveAll_99 : decode cX8_giveAll 99 = .ok (.invokestatic 99, 3) := by decide +kernel
theorem dX8_giveAll_102 : decode cX8_giveAll 102 = .ok (.iadd, 1) := by decide +kernel
theorem dX8_giveAll_103 : decode cX8_giveAll 103 = .ok (.sipush 999, 3) := by decide +kernel
theorem dX8_giveAll_106 : decode cX8_giveAll 106 = .ok (.invokestatic 117, 3) := by decide +kernel
theorem dX8_giveAll_109 : decode cX8_giveAll 109 = .ok (.iastore, 1) := by decide +kernel
theorem dX8_giveAll_110 : decode cX8_giveAll 110 = .ok (.iinc 4 1, 3) := by decide +kernel
theorem dX8_giveAll_113 : decode cX8_giveAll 113 = .ok (.goto (-97), 3) := by decide +kernel
theorem dX8_giveAll_116 : decode cX8_giveAll 116 = .ok (.return_, 1) := by decide +kernel
theorem dX9_init_0 : decode cX9_init 0 = .ok (.aload_n 0, 1) := by decide +kernel
theorem dX9_init_1 : decode cX9_init 1 = .ok (.invokespecial 3, 3) := by decide +kernel
theorem dX9_init_4 : decode cX9_init 4 = .ok (.aload_n 0, 1) := by decide +kernel
theorem dX9_init_5 : decode cX9_init 5 = .ok (.sipush 2000, 3) := by decide +kernel
theorem dX9_init_8 : decode cX9_init 8 = .ok (.newarray .byte, 2) := by decide +kernel
theorem dX9_init_10 : decode cX9_init 10 = .ok (.putfield 9, 3) := by decide +kernel
theorem dX9_init_13 : decode cX9_init 13 = .ok (.return_, 1) := by decide +kernel
theorem dX9_putWord_0 : decode cX9_putWord 0 = .ok (.bipush 24, 2) := by decide +kernel
theorem dX9_putWord_2 : decode cX9_putWord 2 = .ok (.istore_n 2, 1) := by decide +kernel
theorem dX9_putWord_3 : decode cX9_putWord 3 = .ok (.iload_n 2, 1) := by decide +kernel
theorem dX9_putWord_4 : decode cX9_putWord 4 = .ok (.ifCond .lt 49, 3) := by decide +kernel
theorem dX9_putWord_7 : decode cX9_putWord 7 = .ok (.aload_n 0, 1) := by decide +kernel
theorem dX9_putWord_8 : decode cX9_putWord 8 = .ok (.getfield 15, 3) := by decide +kernel
theorem dX9_putWord_11 : decode cX9_putWord 11 = .ok (.ifCond .lt 36, 3) := by decide +kernel
theorem dX9_putWord_14 : decode cX9_putWord 14 = .ok (.aload_n 0, 1) := by decide +kernel
theorem dX9_putWord_15 : decode cX9_putWord 15 = .ok (.getfield 15, 3) := by decide +kernel
theorem dX9_putWord_18 : decode cX9_putWord 18 = .ok (.sipush 2000, 3) := by decide +kernel
theorem dX9_putWord_21 : decode cX9_putWord 21 = .ok (.if_icmp .ge 26, 3) := by decide +kernel
theorem dX9_putWord_24 : decode cX9_putWord 24 = .ok (.aload_n 0, 1) := by decide +kernel
theorem dX9_putWord_25 : decode cX9_putWord 25 = .ok (.getfield 9, 3) := by decide +kernel
theorem dX9_putWord_28 : decode cX9_putWord 28 = .ok (.aload_n 0, 1) := by decide +kernel
theorem dX9_putWord_29 : decode cX9_putWord 29 = .ok (.getfield 15, 3) := by decide +kernel
theorem dX9_putWord_32 : decode cX9_putWord 32 = .ok (.iload_n 1, 1) := by decide +kernel
theorem dX9_putWord_33 : decode cX9_putWord 33 = .ok (.iload_n 2, 1) := by decide +kernel
theorem dX9_putWord_34 : decode cX9_putWord 34 = .ok (.iushr, 1) := by decide +kernel
theorem dX9_putWord_35 : decode cX9_putWord 35 = .ok (.i2b, 1) := by decide +kernel
theorem dX9_putWord_36 : decode cX9_putWord 36 = .ok (.bastore, 1) := by decide +kernel
theorem dX9_putWord_37 : decode cX9_putWord 37 = .ok (.aload_n 0, 1) := by decide +kernel
theorem dX9_putWord_38 : decode cX9_putWord 38 = .ok (.dup, 1) := by decide +kernel
theorem dX9_putWord_39 : decode cX9_putWord 39 = .ok (.getfield 15, 3) := by decide +kernel
theorem dX9_putWord_42 : decode cX9_putWord 42 = .ok (.iconst 1, 1) := by decide +kernel
theorem dX9_putWord_43 : decode cX9_putWord 43 = .ok (.iadd, 1) := by decide +kernel
theorem dX9_putWord_44 : decode cX9_putWord 44 = .ok (.putfield 15, 3) := by decide +kernel
theorem dX9_putWord_47 : decode cX9_putWord 47 = .ok (.iinc 2 (-8), 3) := by decide +kernel
theorem dX9_putWord_50 : decode cX9_putWord 50 = .ok (.goto (-47), 3) := by decide +kernel
theorem dX9_putWord_53 : decode cX9_putWord 53 = .ok (.return_, 1) := by decide +kernel
theorem dX9_byteAt_0 : decode cX9_byteAt 0 = .ok (.iload_n 1, 1) := by decide +kernel
theorem dX9_byteAt_1 : decode cX9_byteAt 1 = .ok (.ifCond .lt 18, 3) := by decide +kernel
theorem dX9_byteAt_4 : decode cX9_byteAt 4 = .ok (.iload_n 1, 1) := by decide +kernel
theorem dX9_byteAt_5 : decode cX9_byteAt 5 = .ok (.aload_n 0, 1) := by decide +kernel
theorem dX9_byteAt_6 : decode cX9_byteAt 6 = .ok (.getfield 15, 3) := by decide +kernel
theorem dX9_byteAt_9 : decode cX9_byteAt 9 = .ok (.if_icmp .ge 10, 3) := by decide +kernel
theorem dX9_byteAt_12 : decode cX9_byteAt 12 = .ok (.iload_n 1, 1) := by decide +kernel
theorem dX9_byteAt_13 : decode cX9_byteAt 13 = .ok (.sipush 2000, 3) := by decide +kernel
theorem dX9_byteAt_16 : decode cX9_byteAt 16 = .ok (.if_icmp .lt 7, 3) := by decide +kernel
theorem dX9_byteAt_19 : decode cX9_byteAt 19 = .ok (.iconst (-1), 1) := by decide +kernel
theorem dX9_byteAt_20 : decode cX9_byteAt 20 = .ok (.goto 13, 3) := by decide +kernel
theorem dX9_byteAt_23 : decode cX9_byteAt 23 = .ok (.aload_n 0, 1) := by decide +kernel
theorem dX9_byteAt_24 : decode cX9_byteAt 24 = .ok (.getfield 9, 3) := by decide +kernel
theorem dX9_byteAt_27 : decode cX9_byteAt 27 = .ok (.iload_n 1, 1) := by decide +kernel
theorem dX9_byteAt_28 : decode cX9_byteAt 28 = .ok (.baload, 1) := by decide +kernel
theorem dX9_byteAt_29 : decode cX9_byteAt 29 = .ok (.sipush 255, 3) := by decide +kernel
theorem dX9_byteAt_32 : decode cX9_byteAt 32 = .ok (.iand, 1) := by decide +kernel
theorem dX9_byteAt_33 : decode cX9_byteAt 33 = .ok (.ireturn, 1) := by decide +kernel
theorem dX10_init_0 : decode cX10_init 0 = .ok (.aload_n 0, 1) := by decide +kernel
theorem dX10_init_1 : decode cX10_init 1 = .ok (.invokespecial 3, 3) := by decide +kernel
theorem dX10_init_4 : decode cX10_init 4 = .ok (.aload_n 0, 1) := by decide +kernel
theorem dX10_init_5 : decode cX10_init 5 = .ok (.bipush 23, 2) := by decide +kernel
theorem dX10_init_7 : decode cX10_init 7 = .ok (.newarray .long, 2) := by decide +kernel
theorem dX10_init_9 : decode cX10_init 9 = .ok (.putfield 9, 3) := by decide +kernel
theorem dX10_init_12 : decode cX10_init 12 = .ok (.aload_n 0, 1) := by decide +kernel
theorem dX10_init_13 : decode cX10_init 13 = .ok (.sipush 401, 3) := by decide +kernel
theorem dX10_init_16 : decode cX10_init 16 = .ok (.newarray .int, 2) := by decide +kernel
theorem dX10_init_18 : decode cX10_init 18 = .ok (.putfield 15, 3) := by decide +kernel
theorem dX10_init_21 : decode cX10_init 21 = .ok (.aload_n 0, 1) := by decide +kernel
theorem dX10_init_22 : decode cX10_init 22 = .ok (.sipush 401, 3) := by decide +kernel
theorem dX10_init_25 : decode cX10_init 25 = .ok (.newarray .long, 2) := by decide +kernel
theorem dX10_init_27 : decode cX10_init 27 = .ok (.putfield 19, 3) := by decide +kernel
theorem dX10_init_30 : decode cX10_init 30 = .ok (.aload_n 0, 1) := by decide +kernel
theorem dX10_init_31 : decode cX10_init 31 = .ok (.sipush 401, 3) := by decide +kernel
theorem dX10_init_34 : decode cX10_init 34 = .ok (.newarray .int, 2) := by decide +kernel
theorem dX10_init_36 : decode cX10_init 36 = .ok (.putfield 22, 3) := by decide +kernel
theorem dX10_init_39 : decode cX10_init 39 = .ok (.aload_n 0, 1) := by decide +kernel
theorem dX10_init_40 : decode cX10_init 40 = .ok (.iconst (-1), 1) := by decide +kernel
theorem dX10_init_41 : decode cX10_init 41 = .ok (.putfield 25, 3) := by decide +kernel
theorem dX10_init_44 : decode cX10_init 44 = .ok (.iconst 0, 1) := by decide +kernel
theorem dX10_init_45 : decode cX10_init 45 = .ok (.istore_n 1, 1) := by decide +kernel
theorem dX10_init_46 : decode cX10_init 46 = .ok (.lconst 0, 1) := by decide +kernel
theorem dX10_init_47 : decode cX10_init 47 = .ok (.lstore_n 2, 1) := by decide +kernel
theorem dX10_init_48 : decode cX10_init 48 = .ok (.iconst 0, 1) := by decide +kernel
theorem dX10_init_49 : decode cX10_init 49 = .ok (.istore 4, 2) := by decide +kernel
theorem dX10_init_51 : decode cX10_init 51 = .ok (.iload 4, 2) := by decide +kernel
theorem dX10_init_53 : decode cX10_init 53 = .ok (.ldc 29, 2) := by decide +kernel
theorem dX10_init_55 : decode cX10_init 55 = .ok (.invokevirtual 31, 3) := by decide +kernel
theorem dX10_init_58 : decode cX10_init 58 = .ok (.if_icmp .ge 53, 3) := by decide +kernel
theorem dX10_init_61 : decode cX10_init 61 = .ok (.ldc 29, 2) := by decide +kernel
theorem dX10_init_63 : decode cX10_init 63 = .ok (.iload 4, 2) := by decide +kernel
theorem dX10_init_65 : decode cX10_init 65 = .ok (.invokevirtual 37, 3) := by decide +kernel
theorem dX10_init_68 : decode cX10_init 68 = .ok (.istore 5, 2) := by decide +kernel
theorem dX10_init_70 : decode cX10_init 70 = .ok (.iload 5, 2) := by decide +kernel
theorem dX10_init_72 : decode cX10_init 72 = .ok (.bipush 32, 2) := by decide +kernel
theorem dX10_init_74 : decode cX10_init 74 = .ok (.if_icmp .eq 13, 3) := by decide +kernel
theorem dX10_init_77 : decode cX10_init 77 = .ok (.lload_n 2, 1) := by decide +kernel
theorem dX10_init_78 : decode cX10_init 78 = .ok (.iload 5, 2) := by decide +kernel
theorem dX10_init_80 : decode cX10_init 80 = .ok (.invokestatic 41, 3) := by decide +kernel
theorem dX10_init_83 : decode cX10_init 83 = .ok (.lstore_n 2, 1) := by decide +kernel
theorem dX10_init_84 : decode cX10_init 84 = .ok (.goto 21, 3) := by decide +kernel
theorem dX10_init_87 : decode cX10_init 87 = .ok (.iload_n 1, 1) := by decide +kernel
theorem dX10_init_88 : decode cX10_init 88 = .ok (.bipush 23, 2) := by decide +kernel
theorem dX10_init_90 : decode cX10_init 90 = .ok (.if_icmp .ge 15, 3) := by decide +kernel
theorem dX10_init_93 : decode cX10_init 93 = .ok (.aload_n 0, 1) := by decide +kernel
theorem dX10_init_94 : decode cX10_init 94 = .ok (.getfield 9, 3) := by decide +kernel
theorem dX10_init_97 : decode cX10_init 97 = .ok (.iload_n 1, 1) := by decide +kernel
theorem dX10_init_98 : decode cX10_init 98 = .ok (.lload_n 2, 1) := by decide +kernel
theorem dX10_init_99 : decode cX10_init 99 = .ok (.lastore, 1) := by decide +kernel
theorem dX10_init_100 : decode cX10_init 100 = .ok (.iinc 1 1, 3) := by decide +kernel
theorem dX10_init_103 : decode cX10_init 103 = .ok (.lconst 0, 1) := by decide +kernel
theorem dX10_init_104 : decode cX10_init 104 = .ok (.lstore_n 2, 1) := by decide +kernel
theorem dX10_init_105 : decode cX10_init 105 = .ok (.iinc 4 1, 3) := by decide +kernel
theorem dX10_init_108 : decode cX10_init 108 = .ok (.goto (-57), 3) := by decide +kernel
theorem dX10_init_111 : decode cX10_init 111 = .ok (.return_, 1) := by decide +kernel
theorem dX10_scan_0 : decode cX10_scan 0 = .ok (.aload_n 0, 1) := by decide +kernel
theorem dX10_scan_1 : decode cX10_scan 1 = .ok (.iconst 0, 1) := by decide +kernel
theorem dX10_scan_2 : decode cX10_scan 2 = .ok (.putfield 45, 3) := by decide +kernel
theorem dX10_scan_5 : decode cX10_scan 5 = .ok (.aload_n 0, 1) := by decide +kernel
theorem dX10_scan_6 : decode cX10_scan 6 = .ok (.iconst 0, 1) := by decide +kernel
theorem dX10_scan_7 : decode cX10_scan 7 = .ok (.putfield 48, 3) := by decide +kernel
theorem dX10_scan_10 : decode cX10_scan 10 = .ok (.aload_n 0, 1) := by decide +kernel
theorem dX10_scan_11 : decode cX10_scan 11 = .ok (.iconst (-1), 1) := by decide +kernel
theorem dX10_scan_12 : decode cX10_scan 12 = .ok (.putfield 25, 3) := by decide +kernel
theorem dX10_scan_15 : decode cX10_scan 15 = .ok (.aload_n 0, 1) := by decide +kernel
theorem dX10_scan_16 : decode cX10_scan 16 = .ok (.aload_n 1, 1) := by decide +kernel
theorem dX10_scan_17 : decode cX10_scan 17 = .ok (.getfield 51, 3) := by decide +kernel
theorem dX10_scan_20 : decode cX10_scan 20 = .ok (.putfield 55, 3) := by decide +kernel
theorem dX10_scan_23 : decode cX10_scan 23 = .ok (.iconst 0, 1) := by decide +kernel
theorem dX10_scan_24 : decode cX10_scan 24 = .ok (.istore_n 2, 1) := by decide +kernel
theorem dX10_scan_25 : decode cX10_scan 25 = .ok (.iconst 1, 1) := by decide +kernel
theorem dX10_scan_26 : decode cX10_scan 26 = .ok (.istore_n 3, 1) := by decide +kernel
theorem dX10_scan_27 : decode cX10_scan 27 = .ok (.iconst 0, 1) := by decide +kernel
theorem dX10_scan_28 : decode cX10_scan 28 = .ok (.istore 4, 2) := by decide +kernel
theorem dX10_scan_30 : decode cX10_scan 30 = .ok (.iload 4, 2) := by decide +kernel
theorem dX10_scan_32 : decode cX10_scan 32 = .ok (.sipush 400, 3) := by decide +kernel
theorem dX10_scan_35 : decode cX10_scan 35 = .ok (.if_icmp .gt 41, 3) := by decide +kernel
theorem dX10_scan_38 : decode cX10_scan 38 = .ok (.iload_n 3, 1) := by decide +kernel
theorem dX10_scan_39 : decode cX10_scan 39 = .ok (.ifCond .eq 37, 3) := by decide +kernel
theorem dX10_scan_42 : decode cX10_scan 42 = .ok (.aload_n 0, 1) := by decide +kernel
theorem dX10_scan_43 : decode cX10_scan 43 = .ok (.aload_n 1, 1) := by decide +kernel
theorem dX10_scan_44 : decode cX10_scan 44 = .ok (.aload_n 1, 1) := by decide +kernel
theorem dX10_scan_45 : decode cX10_scan 45 = .ok (.iload_n 2, 1) := by decide +kernel
theorem dX10_scan_46 : decode cX10_scan 46 = .ok (.invokestatic 58, 3) := by decide +kernel
theorem dX10_scan_49 : decode cX10_scan 49 = .ok (.invokevirtual 62, 3) := by decide +kernel
theorem dX10_scan_52 : decode cX10_scan 52 = .ok (.istore_n 2, 1) := by decide +kernel
theorem dX10_scan_53 : decode cX10_scan 53 = .ok (.aload_n 0, 1) := by decide +kernel
theorem dX10_scan_54 : decode cX10_scan 54 = .ok (.iload 4, 2) := by decide +kernel
theorem dX10_scan_56 : decode cX10_scan 56 = .ok (.invokevirtual 65, 3) := by decide +kernel
theorem dX10_scan_59 : decode cX10_scan 59 = .ok (.bipush 34, 2) := by decide +kernel
theorem dX10_scan_61 : decode cX10_scan 61 = .ok (.if_icmp .ge 7, 3) := by decide +kernel
theorem dX10_scan_64 : decode cX10_scan 64 = .ok (.iconst 1, 1) := by decide +kernel
theorem dX10_scan_65 : decode cX10_scan 65 = .ok (.goto 4, 3) := by decide +kernel
theorem dX10_scan_68 : decode cX10_scan 68 = .ok (.iconst 0, 1) := by decide +kernel
theorem dX10_scan_69 : decode cX10_scan 69 = .ok (.istore_n 3, 1) := by decide +kernel
theorem dX10_scan_70 : decode cX10_scan 70 = .ok (.iinc 4 1, 3) := by decide +kernel
theorem dX10_scan_73 : decode cX10_scan 73 = .ok (.goto (-43), 3) := by decide +kernel
theorem dX10_scan_76 : decode cX10_scan 76 = .ok (.return_, 1) := by decide +kernel
theorem dX10_fail_0 : decode cX10_fail 0 = .ok (.aload_n 0, 1) := by decide +kernel
theorem dX10_fail_1 : decode cX10_fail 1 = .ok (.getfield 48, 3) := by decide +kernel
theorem dX10_fail_4 : decode cX10_fail 4 = .ok (.ifCond .ne 13, 3) := by decide +kernel
theorem dX10_fail_7 : decode cX10_fail 7 = .ok (.aload_n 0, 1) := by decide +kernel
theorem dX10_fail_8 : decode cX10_fail 8 = .ok (.iload_n 1, 1) := by decide +kernel
theorem dX10_fail_9 : decode cX10_fail 9 = .ok (.putfield 48, 3) := by decide +kernel
theorem dX10_fail_12 : decode cX10_fail 12 = .ok (.aload_n 0, 1) := by decide +kernel
theorem dX10_fail_13 : decode cX10_fail 13 = .ok (.iload_n 2, 1) := by decide +kernel
theorem dX10_fail_14 : decode cX10_fail 14 = .ok (.putfield 25, 3) := by decide +kernel
theorem dX10_fail_17 : decode cX10_fail 17 = .ok (.return_, 1) := by decide +kernel
theorem dX10_kindAt_0 : decode cX10_kindAt 0 = .ok (.iload_n 1, 1) := by decide +kernel
theorem dX10_kindAt_1 : decode cX10_kindAt 1 = .ok (.ifCond .lt 18, 3) := by decide +kernel
theorem dX10_kindAt_4 : decode cX10_kindAt 4 = .ok (.iload_n 1, 1) := by decide +kernel
theorem dX10_kindAt_5 : decode cX10_kindAt 5 = .ok (.aload_n 0, 1) := by decide +kernel
theorem dX10_kindAt_6 : decode cX10_kindAt 6 = .ok (.getfield 45, 3) := by decide +kernel
theorem dX10_kindAt_9 : decode cX10_kindAt 9 = .ok (.if_icmp .ge 10, 3) := by decide +kernel
theorem dX10_kindAt_12 : decode cX10_kindAt 12 = .ok (.iload_n 1, 1) := by decide +kernel
theorem dX10_kindAt_13 : decode cX10_kindAt 13 = .ok (.sipush 400, 3) := by decide +kernel
theorem dX10_kindAt_16 : decode cX10_kindAt 16 = .ok (.if_icmp .le 8, 3) := by decide +kernel
theorem dX10_kindAt_19 : decode cX10_kindAt 19 = .ok (.bipush 34, 2) := by decide +kernel
theorem dX10_kindAt_21 : decode cX10_kindAt 21 = .ok (.goto 9, 3) := by decide +kernel
theorem dX10_kindAt_24 : decode cX10_kindAt 24 = .ok (.aload_n 0, 1) := by decide +kernel
theorem dX10_kindAt_25 : decode cX10_kindAt 25 = .ok (.getfield 15, 3) := by decide +kernel
theorem dX10_kindAt_28 : decode cX10_kindAt 28 = .ok (.iload_n 1, 1) := by decide +kernel
theorem dX10_kindAt_29 : decode cX10_kindAt 29 = .ok (.iaload, 1) := by decide +kernel
theorem dX10_kindAt_30 : decode cX10_kindAt 30 = .ok (.ireturn, 1) := by decide +kernel
theorem dX10_valueAt_0 : decode cX10_valueAt 0 = .ok (.iload_n 1, 1) := by decide +kernel
theorem dX10_valueAt_1 : decode cX10_valueAt 1 = .ok (.ifCond .lt 18, 3) := by decide +kernel
theorem dX10_valueAt_4 : decode cX10_valueAt 4 = .ok (.iload_n 1, 1) := by decide +kernel
theorem dX10_valueAt_5 : decode cX10_valueAt 5 = .ok (.aload_n 0, 1) := by decide +kernel
theorem dX10_valueAt_6 : decode cX10_valueAt 6 = .ok (.getfield 45, 3) := by decide +kernel
theorem dX10_valueAt_9 : decode cX10_valueAt 9 = .ok (.if_icmp .ge 10, 3) := by decide +kernel
theorem dX10_valueAt_12 : decode cX10_valueAt 12 = .ok (.iload_n 1, 1) := by decide +kernel
theorem dX10_valueAt_13 : decode cX10_valueAt 13 = .ok (.sipush 400, 3) := by decide +kernel
theorem dX10_valueAt_16 : decode cX10_valueAt 16 = .ok (.if_icmp .le 7, 3) := by decide +kernel
theorem dX10_valueAt_19 : decode cX10_valueAt 19 = .ok (.lconst 0, 1) := by decide +kernel
theorem dX10_valueAt_20 : decode cX10_valueAt 20 = .ok (.goto 9, 3) := by decide +kernel
theorem dX10_valueAt_23 : decode cX10_valueAt 23 = .ok (.aload_n 0, 1) := by decide +kernel
theorem dX10_valueAt_24 : decode cX10_valueAt 24 = .ok (.getfield 19, 3) := by decide +kernel
theorem dX10_valueAt_27 : decode cX10_valueAt 27 = .ok (.iload_n 1, 1) := by decide +kernel
theorem dX10_valueAt_28 : decode cX10_valueAt 28 = .ok (.laload, 1) := by decide +kernel
theorem dX10_valueAt_29 : decode cX10_valueAt 29 = .ok (.lreturn, 1) := by decide +kernel
theorem dX10_placeAt_0 : decode cX10_placeAt 0 = .ok (.iload_n 1, 1) := by decide +kernel
theorem dX10_placeAt_1 : decode cX10_placeAt 1 = .ok (.ifCond .lt 18, 3) := by decide +kernel
theorem dX10_placeAt_4 : decode cX10_placeAt 4 = .ok (.iload_n 1, 1) := by decide +kernel
theorem dX10_placeAt_5 : decode cX10_placeAt 5 = .ok (.aload_n 0, 1) := by decide +kernel
theorem dX10_placeAt_6 : decode cX10_placeAt 6 = .ok (.getfield 45, 3) := by decide +kernel
theorem dX10_placeAt_9 : decode cX10_placeAt 9 = .ok (.if_icmp .ge 10, 3) := by decide +kernel
theorem dX10_placeAt_12 : decode cX10_placeAt 12 = .ok (.iload_n 1, 1) := by decide +kernel
theorem dX10_placeAt_13 : decode cX10_placeAt 13 = .ok (.sipush 400, 3) := by decide +kernel
theorem dX10_placeAt_16 : decode cX10_placeAt 16 = .ok (.if_icmp .le 10, 3) := by decide +kernel
theorem dX10_placeAt_19 : decode cX10_placeAt 19 = .ok (.aload_n 0, 1) := by decide +kernel
theorem dX10_placeAt_20 : decode cX10_placeAt 20 = .ok (.getfield 55, 3) := by decide +kernel
theorem dX10_placeAt_23 : decode cX10_placeAt 23 = .ok (.goto 9, 3) := by decide +kernel
theorem dX10_placeAt_26 : decode cX10_placeAt 26 = .ok (.aload_n 0, 1) := by decide +kernel
theorem dX10_placeAt_27 : decode cX10_placeAt 27 = .ok (.getfield 22, 3) := by decide +kernel
theorem dX10_placeAt_30 : decode cX10_placeAt 30 = .ok (.iload_n 1, 1) := by decide +kernel
theorem dX10_placeAt_31 : decode cX10_placeAt 31 = .ok (.iaload, 1) := by decide +kernel
theorem dX10_placeAt_32 : decode cX10_placeAt 32 = .ok (.ireturn, 1) := by decide +kernel
theorem dX10_scanToken_0 : decode cX10_scanToken 0 = .ok (.aload_n 1, 1) := by decide +kernel
theorem dX10_scanToken_1 : decode cX10_scanToken 1 = .ok (.iload_n 2, 1) := by decide +kernel
theorem dX10_scanToken_2 : decode cX10_scanToken 2 = .ok (.invokevirtual 69, 3) := by decide +kernel
theorem dX10_scanToken_5 : decode cX10_scanToken 5 = .ok (.istore_n 3, 1) := by decide +kernel
theorem dX10_scanToken_6 : decode cX10_scanToken 6 = .ok (.iload_n 3, 1) := by decide +kernel
theorem dX10_scanToken_7 : decode cX10_scanToken 7 = .ok (.invokestatic 72, 3) := by decide +kernel
theorem dX10_scanToken_10 : decode cX10_scanToken 10 = .ok (.ifCond .eq 10, 3) := by decide +kernel
theorem dX10_scanToken_13 : decode cX10_scanToken 13 = .ok (.aload_n 0, 1) := by decide +kernel
theorem dX10_scanToken_14 : decode cX10_scanToken 14 = .ok (.aload_n 1, 1) := by decide +kernel
theorem dX10_scanToken_15 : decode cX10_scanToken 15 = .ok (.iload_n 2, 1) := by decide +kernel
theorem dX10_scanToken_16 : decode cX10_scanToken 16 = .ok (.invokevirtual 76, 3) := by decide +kernel
theorem dX10_scanToken_19 : decode cX10_scanToken 19 = .ok (.ireturn, 1) := by decide +kernel
theorem dX10_scanToken_20 : decode cX10_scanToken 20 = .ok (.iload_n 3, 1) := by decide +kernel
theorem dX10_scanToken_21 : decode cX10_scanToken 21 = .ok (.invokestatic 79, 3) := by decide +kernel
theorem dX10_scanToken_24 : decode cX10_scanToken 24 = .ok (.ifCond .eq 10, 3) := by decide +kernel
theorem dX10_scanToken_27 : decode cX10_scanToken 27 = .ok (.aload_n 0, 1) := by decide +kernel
theorem dX10_scanToken_28 : decode cX10_scanToken 28 = .ok (.aload_n 1, 1) := by decide +kernel
theorem dX10_scanToken_29 : decode cX10_scanToken 29 = .ok (.iload_n 2, 1) := by decide +kernel
theorem dX10_scanToken_30 : decode cX10_scanToken 30 = .ok (.invokevirtual 82, 3) := by decide +kernel
theorem dX10_scanToken_33 : decode cX10_scanToken 33 = .ok (.ireturn, 1) := by decide +kernel
theorem dX10_scanToken_34 : decode cX10_scanToken 34 = .ok (.iload_n 3, 1) := by decide +kernel
theorem dX10_scanToken_35 : decode cX10_scanToken 35 = .ok (.iconst (-1), 1) := by decide +kernel
theorem dX10_scanToken_36 : decode cX10_scanToken 36 = .ok (.if_icmp .ne 7, 3) := by decide +kernel
theorem dX10_scanToken_39 : decode cX10_scanToken 39 = .ok (.iconst (-1), 1) := by decide +kernel
theorem dX10_scanToken_40 : decode cX10_scanToken 40 = .ok (.goto 10, 3) := by decide +kernel
theorem dX10_scanToken_43 : decode cX10_scanToken 43 = .ok (.ldc 85, 2) := by decide +kernel
theorem dX10_scanToken_45 : decode cX10_scanToken 45 = .ok (.iload_n 3, 1) := by decide +kernel
theorem dX10_scanToken_46 : decode cX10_scanToken 46 = .ok (.i2c, 1) := by decide +kernel
theorem dX10_scanToken_47 : decode cX10_scanToken 47 = .ok (.invokevirtual 87, 3) := by decide +kernel
theorem dX10_scanToken_50 : decode cX10_scanToken 50 = .ok (.istore 4, 2) := by decide +kernel
theorem dX10_scanToken_52 : decode cX10_scanToken 52 = .ok (.iload_n 3, 1) := by decide +kernel
theorem dX10_scanToken_53 : decode cX10_scanToken 53 = .ok (.iconst (-1), 1) := by decide +kernel
theorem dX10_scanToken_54 : decode cX10_scanToken 54 = .ok (.if_icmp .ne 14, 3) := by decide +kernel
theorem dX10_scanToken_57 : decode cX10_scanToken 57 = .ok (.aload_n 0, 1) := by decide +kernel
theorem dX10_scanToken_58 : decode cX10_scanToken 58 = .ok (.bipush 34, 2) := by decide +kernel
theorem dX10_scanToken_60 : decode cX10_scanToken 60 = .ok (.lconst 0, 1) := by decide +kernel
theorem dX10_scanToken_61 : decode cX10_scanToken 61 = .ok (.iload_n 2, 1) := by decide +kernel
theorem dX10_scanToken_62 : decode cX10_scanToken 62 = .ok (.invokevirtual 90, 3) := by decide +kernel
theorem dX10_scanToken_65 : decode cX10_scanToken 65 = .ok (.goto 24, 3) := by decide +kernel
theorem dX10_scanToken_68 : decode cX10_scanToken 68 = .ok (.aload_n 0, 1) := by decide +kernel
theorem dX10_scanToken_69 : decode cX10_scanToken 69 = .ok (.iload 4, 2) := by decide +kernel
theorem dX10_scanToken_71 : decode cX10_scanToken 71 = .ok (.ifCond .ge 8, 3) := by decide +kernel
theorem dX10_scanToken_74 : decode cX10_scanToken 74 = .ok (.bipush 35, 2) := by decide +kernel
theorem dX10_scanToken_76 : decode cX10_scanToken 76 = .ok (.goto 8, 3) := by decide +kernel
theorem dX10_scanToken_79 : decode cX10_scanToken 79 = .ok (.bipush 25, 2) := by decide +kernel
theorem dX10_scanToken_81 : decode cX10_scanToken 81 = .ok (.iload 4, 2) := by decide +kernel
theorem dX10_scanToken_83 : decode cX10_scanToken 83 = .ok (.iadd, 1) := by decide +kernel
theorem dX10_scanToken_84 : decode cX10_scanToken 84 = .ok (.lconst 0, 1) := by decide +kernel
theorem dX10_scanToken_85 : decode cX10_scanToken 85 = .ok (.iload_n 2, 1) := by decide +kernel
theorem dX10_scanToken_86 : decode cX10_scanToken 86 = .ok (.invokevirtual 90, 3) := by decide +kernel
theorem dX10_scanToken_89 : decode cX10_scanToken 89 = .ok (.iload_n 2, 1) := by decide +kernel
theorem dX10_scanToken_90 : decode cX10_scanToken 90 = .ok (.iconst 1, 1) := by decide +kernel
theorem dX10_scanToken_91 : decode cX10_scanToken 91 = .ok (.iadd, 1) := by decide +kernel
theorem dX10_scanToken_92 : decode cX10_scanToken 92 = .ok (.ireturn, 1) := by decide +kernel
theorem dX10_scanLetters_0 : decode cX10_scanLetters 0 = .ok (.iload_n 2, 1) := by decide +kernel
theorem dX10_scanLetters_1 : decode cX10_scanLetters 1 = .ok (.istore_n 3, 1) := by decide +kernel
theorem dX10_scanLetters_2 : decode cX10_scanLetters 2 = .ok (.lconst 0, 1) := by decide +kernel
theorem dX10_scanLetters_3 : decode cX10_scanLetters 3 = .ok (.lstore 4, 2) := by decide +kernel
theorem dX10_scanLetters_5 : decode cX10_scanLetters 5 = .ok (.iconst 0, 1) := by decide +kernel
theorem dX10_scanLetters_6 : decode cX10_scanLetters 6 = .ok (.istore 6, 2) := by decide +kernel
theorem dX10_scanLetters_8 : decode cX10_scanLetters 8 = .ok (.iload 6, 2) := by decide +kernel
theorem dX10_scanLetters_10 : decode cX10_scanLetters 10 = .ok (.sipush 2000, 3) := by decide +kernel
theorem dX10_scanLetters_13 : decode cX10_scanLetters 13 = .ok (.if_icmp .ge 35, 3) := by decide +kernel
theorem dX10_scanLetters_16 : decode cX10_scanLetters 16 = .ok (.aload_n 1, 1) := by decide +kernel
theorem dX10_scanLetters_17 : decode cX10_scanLetters 17 = .ok (.iload_n 3, 1) := by decide +kernel
theorem dX10_scanLetters_18 : decode cX10_scanLetters 18 = .ok (.invokevirtual 69, 3) := by decide +kernel
theorem dX10_scanLetters_21 : decode cX10_scanLetters 21 = .ok (.invokestatic 72, 3) := by decide +kernel
theorem dX10_scanLetters_24 : decode cX10_scanLetters 24 = .ok (.ifCond .eq 24, 3) := by decide +kernel
theorem dX10_scanLetters_27 : decode cX10_scanLetters 27 = .ok (.lload 4, 2) := by decide +kernel
theorem dX10_scanLetters_29 : decode cX10_scanLetters 29 = .ok (.aload_n 1, 1) := by decide +kernel
theorem dX10_scanLetters_30 : decode cX10_scanLetters 30 = .ok (.iload_n 3, 1) := by decide +kernel
theorem dX10_scanLetters_31 : decode cX10_scanLetters 31 = .ok (.invokevirtual 69, 3) := by decide +kernel
theorem dX10_scanLetters_34 : decode cX10_scanLetters 34 = .ok (.invokestatic 41, 3) := by decide +kernel
theorem dX10_scanLetters_37 : decode cX10_scanLetters 37 = .ok (.lstore 4, 2) := by decide +kernel
theorem dX10_scanLetters_39 : decode cX10_scanLetters 39 = .ok (.iinc 3 1, 3) := by decide +kernel
theorem dX10_scanLetters_42 : decode cX10_scanLetters 42 = .ok (.iinc 6 1, 3) := by decide +kernel
theorem dX10_scanLetters_45 : decode cX10_scanLetters 45 = .ok (.goto (-37), 3) := by decide +kernel
theorem dX10_scanLetters_48 : decode cX10_scanLetters 48 = .ok (.aload_n 0, 1) := by decide +kernel
theorem dX10_scanLetters_49 : decode cX10_scanLetters 49 = .ok (.iload_n 3, 1) := by decide +kernel
theorem dX10_scanLetters_50 : decode cX10_scanLetters 50 = .ok (.iload_n 2, 1) := by decide +kernel
theorem dX10_scanLetters_51 : decode cX10_scanLetters 51 = .ok (.isub, 1) := by decide +kernel
theorem dX10_scanLetters_52 : decode cX10_scanLetters 52 = .ok (.bipush 8, 2) := by decide +kernel
theorem dX10_scanLetters_54 : decode cX10_scanLetters 54 = .ok (.if_icmp .le 8, 3) := by decide +kernel
theorem dX10_scanLetters_57 : decode cX10_scanLetters 57 = .ok (.bipush 35, 2) := by decide +kernel
theorem dX10_scanLetters_59 : decode cX10_scanLetters 59 = .ok (.goto 9, 3) := by decide +kernel
theorem dX10_scanLetters_62 : decode cX10_scanLetters 62 = .ok (.aload_n 0, 1) := by decide +kernel
theorem dX10_scanLetters_63 : decode cX10_scanLetters 63 = .ok (.lload 4, 2) := by decide +kernel
theorem dX10_scanLetters_65 : decode cX10_scanLetters 65 = .ok (.invokevirtual 94, 3) := by decide +kernel
theorem dX10_scanLetters_68 : decode cX10_scanLetters 68 = .ok (.lload 4, 2) := by decide +kernel
theorem dX10_scanLetters_70 : decode cX10_scanLetters 70 = .ok (.iload_n 2, 1) := by decide +kernel
theorem dX10_scanLetters_71 : decode cX10_scanLetters 71 = .ok (.invokevirtual 90, 3) := by decide +kernel
theorem dX10_scanLetters_74 : decode cX10_scanLetters 74 = .ok (.iload_n 3, 1) := by decide +kernel
theorem dX10_scanLetters_75 : decode cX10_scanLetters 75 = .ok (.ireturn, 1) := by decide +kernel
theorem dX10_scanDigits_0 : decode cX10_scanDigits 0 = .ok (.iload_n 2, 1) := by decide +kernel
theorem dX10_scanDigits_1 : decode cX10_scanDigits 1 = .ok (.istore_n 3, 1) := by decide +kernel
theorem dX10_scanDigits_2 : decode cX10_scanDigits 2 = .ok (.lconst 0, 1) := by decide +kernel
theorem dX10_scanDigits_3 : decode cX10_scanDigits 3 = .ok (.lstore 4, 2) := by decide +kernel
theorem dX10_scanDigits_5 : decode cX10_scanDigits 5 = .ok (.iconst 0, 1) := by decide +kernel
theorem dX10_scanDigits_6 : decode cX10_scanDigits 6 = .ok (.istore 6, 2) := by decide +kernel
theorem dX10_scanDigits_8 : decode cX10_scanDigits 8 = .ok (.iload 6, 2) := by decide +kernel
theorem dX10_scanDigits_10 : decode cX10_scanDigits 10 = .ok (.sipush 2000, 3) := by decide +kernel
theorem dX10_scanDigits_13 : decode cX10_scanDigits 13 = .ok (.if_icmp .ge 42, 3) := by decide +kernel
theorem dX10_scanDigits_16 : decode cX10_scanDigits 16 = .ok (.aload_n 1, 1) := by decide +kernel
theorem dX10_scanDigits_17 : decode cX10_scanDigits 17 = .ok (.iload_n 3, 1) := by decide +kernel
theorem dX10_scanDigits_18 : decode cX10_scanDigits 18 = .ok (.invokevirtual 69, 3) := by decide +kernel
theorem dX10_scanDigits_21 : decode cX10_scanDigits 21 = .ok (.invokestatic 79, 3) := by decide +kernel
theorem dX10_scanDigits_24 : decode cX10_scanDigits 24 = .ok (.ifCond .eq 31, 3) := by decide +kernel
theorem dX10_scanDigits_27 : decode cX10_scanDigits 27 = .ok (.lload 4, 2) := by decide +kernel
theorem dX10_scanDigits_29 : decode cX10_scanDigits 29 = .ok (.ldc2_w 98, 3) := by decide +kernel
theorem dX10_scanDigits_32 : decode cX10_scanDigits 32 = .ok (.lmul, 1) := by decide +kernel
theorem dX10_scanDigits_33 : decode cX10_scanDigits 33 = .ok (.aload_n 1, 1) := by decide +kernel
theorem dX10_scanDigits_34 : decode cX10_scanDigits 34 = .ok (.iload_n 3, 1) := by decide +kernel
theorem dX10_scanDigits_35 : decode cX10_scanDigits 35 = .ok (.invokevirtual 69, 3) := by decide +kernel
theorem dX10_scanDigits_38 : decode cX10_scanDigits 38 = .ok (.i2l, 1) := by decide +kernel
theorem dX10_scanDigits_39 : decode cX10_scanDigits 39 = .ok (.ladd, 1) := by decide +kernel
theorem dX10_scanDigits_40 : decode cX10_scanDigits 40 = .ok (.ldc2_w 100, 3) := by decide +kernel
theorem dX10_scanDigits_43 : decode cX10_scanDigits 43 = .ok (.lsub, 1) := by decide +kernel
theorem dX10_scanDigits_44 : decode cX10_scanDigits 44 = .ok (.lstore 4, 2) := by decide +kernel
theorem dX10_scanDigits_46 : decode cX10_scanDigits 46 = .ok (.iinc 3 1, 3) := by decide +kernel
theorem dX10_scanDigits_49 : decode cX10_scanDigits 49 = .ok (.iinc 6 1, 3) := by decide +kernel
theorem dX10_scanDigits_52 : decode cX10_scanDigits 52 = .ok (.goto (-44), 3) := by decide +kernel
theorem dX10_scanDigits_55 : decode cX10_scanDigits 55 = .ok (.aload_n 0, 1) := by decide +kernel
theorem dX10_scanDigits_56 : decode cX10_scanDigits 56 = .ok (.iload_n 3, 1) := by decide +kernel
theorem dX10_scanDigits_57 : decode cX10_scanDigits 57 = .ok (.iload_n 2, 1) := by decide +kernel
theorem dX10_scanDigits_58 : decode cX10_scanDigits 58 = .ok (.isub, 1) := by decide +kernel
theorem dX10_scanDigits_59 : decode cX10_scanDigits 59 = .ok (.iconst 4, 1) := by decide +kernel
theorem dX10_scanDigits_60 : decode cX10_scanDigits 60 = .ok (.if_icmp .le 8, 3) := by decide +kernel
theorem dX10_scanDigits_63 : decode cX10_scanDigits 63 = .ok (.bipush 35, 2) := by decide +kernel
theorem dX10_scanDigits_65 : decode cX10_scanDigits 65 = .ok (.goto 5, 3) := by decide +kernel
theorem dX10_scanDigits_68 : decode cX10_scanDigits 68 = .ok (.bipush 24, 2) := by decide +kernel
theorem dX10_scanDigits_70 : decode cX10_scanDigits 70 = .ok (.lload 4, 2) := by decide +kernel
theorem dX10_scanDigits_72 : decode cX10_scanDigits 72 = .ok (.iload_n 2, 1) := by decide +kernel
theorem dX10_scanDigits_73 : decode cX10_scanDigits 73 = .ok (.invokevirtual 90, 3) := by decide +kernel
theorem dX10_scanDigits_76 : decode cX10_scanDigits 76 = .ok (.iload_n 3, 1) := by decide +kernel
theorem dX10_scanDigits_77 : decode cX10_scanDigits 77 = .ok (.ireturn, 1) := by decide +kernel
theorem dX10_put_0 : decode cX10_put 0 = .ok (.aload_n 0, 1) := by decide +kernel
theorem dX10_put_1 : decode cX10_put 1 = .ok (.getfield 45, 3) := by decide +kernel
theorem dX10_put_4 : decode cX10_put 4 = .ok (.ifCond .lt 54, 3) := by decide +kernel
theorem dX10_put_7 : decode cX10_put 7 = .ok (.aload_n 0, 1) := by decide +kernel
theorem dX10_put_8 : decode cX10_put 8 = .ok (.getfield 45, 3) := by decide +kernel
theorem dX10_put_11 : decode cX10_put 11 = .ok (.sipush 400, 3) := by decide +kernel
theorem dX10_put_14 : decode cX10_put 14 = .ok (.if_icmp .gt 44, 3) := by decide +kernel
theorem dX10_put_17 : decode cX10_put 17 = .ok (.aload_n 0, 1) := by decide +kernel
theorem dX10_put_18 : decode cX10_put 18 = .ok (.getfield 15, 3) := by decide +kernel
theorem dX10_put_21 : decode cX10_put 21 = .ok (.aload_n 0, 1) := by decide +kernel
theorem dX10_put_22 : decode cX10_put 22 = .ok (.getfield 45, 3) := by decide +kernel
theorem dX10_put_25 : decode cX10_put 25 = .ok (.iload_n 1, 1) := by decide +kernel
theorem dX10_put_26 : decode cX10_put 26 = .ok (.iastore, 1) := by decide +kernel
theorem dX10_put_27 : decode cX10_put 27 = .ok (.aload_n 0, 1) := by decide +kernel
theorem dX10_put_28 : decode cX10_put 28 = .ok (.getfield 19, 3) := by decide +kernel
theorem dX10_put_31 : decode cX10_put 31 = .ok (.aload_n 0, 1) := by decide +kernel
theorem dX10_put_32 : decode cX10_put 32 = .ok (.getfield 45, 3) := by decide +kernel
theorem dX10_put_35 : decode cX10_put 35 = .ok (.lload_n 2, 1) := by decide +kernel
theorem dX10_put_36 : decode cX10_put 36 = .ok (.lastore, 1) := by decide +kernel
theorem dX10_put_37 : decode cX10_put 37 = .ok (.aload_n 0, 1) := by decide +kernel
theorem dX10_put_38 : decode cX10_put 38 = .ok (.getfield 22, 3) := by decide +kernel
theorem dX10_put_41 : decode cX10_put 41 = .ok (.aload_n 0, 1) := by decide +kernel
theorem dX10_put_42 : decode cX10_put 42 = .ok (.getfield 45, 3) := by decide +kernel
theorem dX10_put_45 : decode cX10_put 45 = .ok (.iload 4, 2) := by decide +kernel
theorem dX10_put_47 : decode cX10_put 47 = .ok (.iastore, 1) := by decide +kernel
theorem dX10_put_48 : decode cX10_put 48 = .ok (.aload_n 0, 1) := by decide +kernel
theorem dX10_put_49 : decode cX10_put 49 = .ok (.dup, 1) := by decide +kernel
theorem dX10_put_50 : decode cX10_put 50 = .ok (.getfield 45, 3) := by decide +kernel
theorem dX10_put_53 : decode cX10_put 53 = .ok (.iconst 1, 1) := by decide +kernel
theorem dX10_put_54 : decode cX10_put 54 = .ok (.iadd, 1) := by decide +kernel
theorem dX10_put_55 : decode cX10_put 55 = .ok (.putfield 45, 3) := by decide +kernel
theorem dX10_put_58 : decode cX10_put 58 = .ok (.return_, 1) := by decide +kernel
theorem dX10_kindOf_0 : decode cX10_kindOf 0 = .ok (.iconst 0, 1) := by decide +kernel
theorem dX10_kindOf_1 : decode cX10_kindOf 1 = .ok (.istore_n 3, 1) := by decide +kernel
theorem dX10_kindOf_2 : decode cX10_kindOf 2 = .ok (.iload_n 3, 1) := by decide +kernel
theorem dX10_kindOf_3 : decode cX10_kindOf 3 = .ok (.bipush 23, 2) := by decide +kernel
theorem dX10_kindOf_5 : decode cX10_kindOf 5 = .ok (.if_icmp .ge 22, 3) := by decide +kernel
theorem dX10_kindOf_8 : decode cX10_kindOf 8 = .ok (.aload_n 0, 1) := by decide +kernel
theorem dX10_kindOf_9 : decode cX10_kindOf 9 = .ok (.getfield 9, 3) := by decide +kernel
theorem dX10_kindOf_12 : decode cX10_kindOf 12 = .ok (.iload_n 3, 1) := by decide +kernel
theorem dX10_kindOf_13 : decode cX10_kindOf 13 = .ok (.laload, 1) := by decide +kernel
theorem dX10_kindOf_14 : decode cX10_kindOf 14 = .ok (.lload_n 1, 1) := by decide +kernel
theorem dX10_kindOf_15 : decode cX10_kindOf 15 = .ok (.lcmp, 1) := by decide +kernel
theorem dX10_kindOf_16 : decode cX10_kindOf 16 = .ok (.ifCond .ne 5, 3) := by decide +kernel
theorem dX10_kindOf_19 : decode cX10_kindOf 19 = .ok (.iload_n 3, 1) := by decide +kernel
theorem dX10_kindOf_20 : decode cX10_kindOf 20 = .ok (.ireturn, 1) := by decide +kernel
theorem dX10_kindOf_21 : decode cX10_kindOf 21 = .ok (.iinc 3 1, 3) := by decide +kernel
theorem dX10_kindOf_24 : decode cX10_kindOf 24 = .ok (.goto (-22), 3) := by decide +kernel
theorem dX10_kindOf_27 : decode cX10_kindOf 27 = .ok (.bipush 23, 2) := by decide +kernel
theorem dX10_kindOf_29 : decode cX10_kindOf 29 = .ok (.ireturn, 1) := by decide +kernel
theorem dX10_pastBlanks_0 : decode cX10_pastBlanks 0 = .ok (.iload_n 1, 1) := by decide +kernel
theorem dX10_pastBlanks_1 : decode cX10_pastBlanks 1 = .ok (.istore_n 2, 1) := by decide +kernel
theorem dX10_pastBlanks_2 : decode cX10_pastBlanks 2 = .ok (.iconst 0, 1) := by decide +kernel
theorem dX10_pastBlanks_3 : decode cX10_pastBlanks 3 = .ok (.istore_n 3, 1) := by decide +kernel
theorem dX10_pastBlanks_4 : decode cX10_pastBlanks 4 = .ok (.iload_n 3, 1) := by decide +kernel
theorem dX10_pastBlanks_5 : decode cX10_pastBlanks 5 = .ok (.sipush 2000, 3) := by decide +kernel
theorem dX10_pastBlanks_8 : decode cX10_pastBlanks 8 = .ok (.if_icmp .ge 23, 3) := by decide +kernel
theorem dX10_pastBlanks_11 : decode cX10_pastBlanks 11 = .ok (.aload_n 0, 1) := by decide +kernel
theorem dX10_pastBlanks_12 : decode cX10_pastBlanks 12 = .ok (.iload_n 2, 1) := by decide +kernel
theorem dX10_pastBlanks_13 : decode cX10_pastBlanks 13 = .ok (.invokevirtual 69, 3) := by decide +kernel
theorem dX10_pastBlanks_16 : decode cX10_pastBlanks 16 = .ok (.invokestatic 102, 3) := by decide +kernel
theorem dX10_pastBlanks_19 : decode cX10_pastBlanks 19 = .ok (.ifCond .eq 12, 3) := by decide +kernel
theorem dX10_pastBlanks_22 : decode cX10_pastBlanks 22 = .ok (.iinc 2 1, 3) := by decide +kernel
theorem dX10_pastBlanks_25 : decode cX10_pastBlanks 25 = .ok (.iinc 3 1, 3) := by decide +kernel
theorem dX10_pastBlanks_28 : decode cX10_pastBlanks 28 = .ok (.goto (-24), 3) := by decide +kernel
theorem dX10_pastBlanks_31 : decode cX10_pastBlanks 31 = .ok (.iload_n 2, 1) := by decide +kernel
theorem dX10_pastBlanks_32 : decode cX10_pastBlanks 32 = .ok (.ireturn, 1) := by decide +kernel
theorem dX10_isBlank_0 : decode cX10_isBlank 0 = .ok (.iload_n 0, 1) := by decide +kernel
theorem dX10_isBlank_1 : decode cX10_isBlank 1 = .ok (.bipush 9, 2) := by decide +kernel
theorem dX10_isBlank_3 : decode cX10_isBlank 3 = .ok (.if_icmp .eq 21, 3) := by decide +kernel
theorem dX10_isBlank_6 : decode cX10_isBlank 6 = .ok (.iload_n 0, 1) := by decide +kernel
theorem dX10_isBlank_7 : decode cX10_isBlank 7 = .ok (.bipush 10, 2) := by decide +kernel
theorem dX10_isBlank_9 : decode cX10_isBlank 9 = .ok (.if_icmp .eq 15, 3) := by decide +kernel
theorem dX10_isBlank_12 : decode cX10_isBlank 12 = .ok (.iload_n 0, 1) := by decide +kernel
theorem dX10_isBlank_13 : decode cX10_isBlank 13 = .ok (.bipush 13, 2) := by decide +kernel
theorem dX10_isBlank_15 : decode cX10_isBlank 15 = .ok (.if_icmp .eq 9, 3) := by decide +kernel
theorem dX10_isBlank_18 : decode cX10_isBlank 18 = .ok (.iload_n 0, 1) := by decide +kernel
theorem dX10_isBlank_19 : decode cX10_isBlank 19 = .ok (.bipush 32, 2) := by decide +kernel
theorem dX10_isBlank_21 : decode cX10_isBlank 21 = .ok (.if_icmp .ne 7, 3) := by decide +kernel
theorem dX10_isBlank_24 : decode cX10_isBlank 24 = .ok (.iconst 1, 1) := by decide +kernel
theorem dX10_isBlank_25 : decode cX10_isBlank 25 = .ok (.goto 4, 3) := by decide +kernel
theorem dX10_isBlank_28 : decode cX10_isBlank 28 = .ok (.iconst 0, 1) := by decide +kernel
theorem dX10_isBlank_29 : decode cX10_isBlank 29 = .ok (.ireturn, 1) := by decide +kernel
theorem dX10_isLetter_0 : decode cX10_isLetter 0 = .ok (.iload_n 0, 1) := by decide +kernel
theorem dX10_isLetter_1 : decode cX10_isLetter 1 = .ok (.bipush 97, 2) := by decide +kernel
theorem dX10_isLetter_3 : decode cX10_isLetter 3 = .ok (.if_icmp .lt 13, 3) := by decide +kernel
theorem dX10_isLetter_6 : decode cX10_isLetter 6 = .ok (.iload_n 0, 1) := by decide +kernel
theorem dX10_isLetter_7 : decode cX10_isLetter 7 = .ok (.bipush 122, 2) := by decide +kernel
theorem dX10_isLetter_9 : decode cX10_isLetter 9 = .ok (.if_icmp .gt 7, 3) := by decide +kernel
theorem dX10_isLetter_12 : decode cX10_isLetter 12 = .ok (.iconst 1, 1) := by decide +kernel
theorem dX10_isLetter_13 : decode cX10_isLetter 13 = .ok (.goto 4, 3) := by decide +kernel
theorem dX10_isLetter_16 : decode cX10_isLetter 16 = .ok (.iconst 0, 1) := by decide +kernel
theorem dX10_isLetter_17 : decode cX10_isLetter 17 = .ok (.ireturn, 1) := by decide +kernel
theorem dX10_isDigit_0 : decode cX10_isDigit 0 = .ok (.iload_n 0, 1) := by decide +kernel
theorem dX10_isDigit_1 : decode cX10_isDigit 1 = .ok (.bipush 48, 2) := by decide +kernel
theorem dX10_isDigit_3 : decode cX10_isDigit 3 = .ok (.if_icmp .lt 13, 3) := by decide +kernel
theorem dX10_isDigit_6 : decode cX10_isDigit 6 = .ok (.iload_n 0, 1) := by decide +kernel
theorem dX10_isDigit_7 : decode cX10_isDigit 7 = .ok (.bipush 57, 2) := by decide +kernel
theorem dX10_isDigit_9 : decode cX10_isDigit 9 = .ok (.if_icmp .gt 7, 3) := by decide +kernel
theorem dX10_isDigit_12 : decode cX10_isDigit 12 = .ok (.iconst 1, 1) := by decide +kernel
theorem dX10_isDigit_13 : decode cX10_isDigit 13 = .ok (.goto 4, 3) := by decide +kernel
theorem dX10_isDigit_16 : decode cX10_isDigit 16 = .ok (.iconst 0, 1) := by decide +kernel
theorem dX10_isDigit_17 : decode cX10_isDigit 17 = .ok (.ireturn, 1) := by decide +kernel
theorem dX10_keyWith_0 : decode cX10_keyWith 0 = .ok (.lload_n 0, 1) := by decide +kernel
theorem dX10_keyWith_1 : decode cX10_keyWith 1 = .ok (.iconst 5, 1) := by decide +kernel
theorem dX10_keyWith_2 : decode cX10_keyWith 2 = .ok (.lshl, 1) := by decide +kernel
theorem dX10_keyWith_3 : decode cX10_keyWith 3 = .ok (.iload_n 2, 1) := by decide +kernel
theorem dX10_keyWith_4 : decode cX10_keyWith 4 = .ok (.bipush 97, 2) := by decide +kernel
theorem dX10_keyWith_6 : decode cX10_keyWith 6 = .ok (.isub, 1) := by decide +kernel
theorem dX10_keyWith_7 : decode cX10_keyWith 7 = .ok (.iconst 1, 1) := by decide +kernel
theorem dX10_keyWith_8 : decode cX10_keyWith 8 = .ok (.iadd, 1) := by decide +kernel
theorem dX10_keyWith_9 : decode cX10_keyWith 9 = .ok (.i2l, 1) := by decide +kernel
theorem dX10_keyWith_10 : decode cX10_keyWith 10 = .ok (.lor, 1) := by decide +kernel
theorem dX10_keyWith_11 : decode cX10_keyWith 11 = .ok (.lreturn, 1) := by decide +kernel
theorem dX10_lettersOf_0 : decode cX10_lettersOf 0 = .ok (.iconst 0, 1) := by decide +kernel
theorem dX10_lettersOf_1 : decode cX10_lettersOf 1 = .ok (.istore_n 2, 1) := by decide +kernel
theorem dX10_lettersOf_2 : decode cX10_lettersOf 2 = .ok (.iconst 0, 1) := by decide +kernel
theorem dX10_lettersOf_3 : decode cX10_lettersOf 3 = .ok (.istore_n 3, 1) := by decide +kernel
theorem dX10_lettersOf_4 : decode cX10_lettersOf 4 = .ok (.iload_n 3, 1) := by decide +kernel
theorem dX10_lettersOf_5 : decode cX10_lettersOf 5 = .ok (.bipush 8, 2) := by decide +kernel
theorem dX10_lettersOf_7 : decode cX10_lettersOf 7 = .ok (.if_icmp .ge 22, 3) := by decide +kernel
theorem dX10_lettersOf_10 : decode cX10_lettersOf 10 = .ok (.lload_n 0, 1) := by decide +kernel
theorem dX10_lettersOf_11 : decode cX10_lettersOf 11 = .ok (.iconst 5, 1) := by decide +kernel
theorem dX10_lettersOf_12 : decode cX10_lettersOf 12 = .ok (.iload_n 3, 1) := by decide +kernel
theorem dX10_lettersOf_13 : decode cX10_lettersOf 13 = .ok (.imul, 1) := by decide +kernel
theorem dX10_lettersOf_14 : decode cX10_lettersOf 14 = .ok (.lushr, 1) := by decide +kernel
theorem dX10_lettersOf_15 : decode cX10_lettersOf 15 = .ok (.lconst 0, 1) := by decide +kernel
theorem dX10_lettersOf_16 : decode cX10_lettersOf 16 = .ok (.lcmp, 1) := by decide +kernel
theorem dX10_lettersOf_17 : decode cX10_lettersOf 17 = .ok (.ifCond .eq 12, 3) := by decide +kernel
theorem dX10_lettersOf_20 : decode cX10_lettersOf 20 = .ok (.iinc 2 1, 3) := by decide +kernel
theorem dX10_lettersOf_23 : decode cX10_lettersOf 23 = .ok (.iinc 3 1, 3) := by decide +kernel
theorem dX10_lettersOf_26 : decode cX10_lettersOf 26 = .ok (.goto (-22), 3) := by decide +kernel
theorem dX10_lettersOf_29 : decode cX10_lettersOf 29 = .ok (.iload_n 2, 1) := by decide +kernel
theorem dX10_lettersOf_30 : decode cX10_lettersOf 30 = .ok (.ireturn, 1) := by decide +kernel
theorem dX11_init_0 : decode cX11_init 0 = .ok (.aload_n 0, 1) := by decide +kernel
theorem dX11_init_1 : decode cX11_init 1 = .ok (.invokespecial 3, 3) := by decide +kernel
theorem dX11_init_4 : decode cX11_init 4 = .ok (.aload_n 0, 1) := by decide +kernel
theorem dX11_init_5 : decode cX11_init 5 = .ok (.new 9, 3) := by decide +kernel
theorem dX11_init_8 : decode cX11_init 8 = .ok (.dup, 1) := by decide +kernel
theorem dX11_init_9 : decode cX11_init 9 = .ok (.invokespecial 11, 3) := by decide +kernel
theorem dX11_init_12 : decode cX11_init 12 = .ok (.putfield 12, 3) := by decide +kernel
theorem dX11_init_15 : decode cX11_init 15 = .ok (.aload_n 0, 1) := by decide +kernel
theorem dX11_init_16 : decode cX11_init 16 = .ok (.new 16, 3) := by decide +kernel
theorem dX11_init_19 : decode cX11_init 19 = .ok (.dup, 1) := by decide +kernel
theorem dX11_init_20 : decode cX11_init 20 = .ok (.invokespecial 18, 3) := by decide +kernel
theorem dX11_init_23 : decode cX11_init 23 = .ok (.putfield 19, 3) := by decide +kernel
theorem dX11_init_26 : decode cX11_init 26 = .ok (.aload_n 0, 1) := by decide +kernel
theorem dX11_init_27 : decode cX11_init 27 = .ok (.new 23, 3) := by decide +kernel
theorem dX11_init_30 : decode cX11_init 30 = .ok (.dup, 1) := by decide +kernel
theorem dX11_init_31 : decode cX11_init 31 = .ok (.invokespecial 25, 3) := by decide +kernel
theorem dX11_init_34 : decode cX11_init 34 = .ok (.putfield 26, 3) := by decide +kernel
theorem dX11_init_37 : decode cX11_init 37 = .ok (.aload_n 0, 1) := by decide +kernel
theorem dX11_init_38 : decode cX11_init 38 = .ok (.new 30, 3) := by decide +kernel
theorem dX11_init_41 : decode cX11_init 41 = .ok (.dup, 1) := by decide +kernel
theorem dX11_init_42 : decode cX11_init 42 = .ok (.invokespecial 32, 3) := by decide +kernel
theorem dX11_init_45 : decode cX11_init 45 = .ok (.putfield 33, 3) := by decide +kernel
theorem dX11_init_48 : decode cX11_init 48 = .ok (.aload_n 0, 1) := by decide +kernel
theorem dX11_init_49 : decode cX11_init 49 = .ok (.new 37, 3) := by decide +kernel
theorem dX11_init_52 : decode cX11_init 52 = .ok (.dup, 1) := by decide +kernel
theorem dX11_init_53 : decode cX11_init 53 = .ok (.invokespecial 39, 3) := by decide +kernel
theorem dX11_init_56 : decode cX11_init 56 = .ok (.putfield 40, 3) := by decide +kernel
theorem dX11_init_59 : decode cX11_init 59 = .ok (.aload_n 0, 1) := by decide +kernel
theorem dX11_init_60 : decode cX11_init 60 = .ok (.new 44, 3) := by decide +kernel
theorem dX11_init_63 : decode cX11_init 63 = .ok (.dup, 1) := by decide +kernel
theorem dX11_init_64 : decode cX11_init 64 = .ok (.invokespecial 46, 3) := by decide +kernel
theorem dX11_init_67 : decode cX11_init 67 = .ok (.putfield 47, 3) := by decide +kernel
theorem dX11_init_70 : decode cX11_init 70 = .ok (.aload_n 0, 1) := by decide +kernel
theorem dX11_init_71 : decode cX11_init 71 = .ok (.new 44, 3) := by decide +kernel
theorem dX11_init_74 : decode cX11_init 74 = .ok (.dup, 1) := by decide +kernel
theorem dX11_init_75 : decode cX11_init 75 = .ok (.invokespecial 46, 3) := by decide +kernel
theorem dX11_init_78 : decode cX11_init 78 = .ok (.putfield 51, 3) := by decide +kernel
theorem dX11_init_81 : decode cX11_init 81 = .ok (.aload_n 0, 1) := by decide +kernel
theorem dX11_init_82 : decode cX11_init 82 = .ok (.new 54, 3) := by decide +kernel
theorem dX11_init_85 : decode cX11_init 85 = .ok (.dup, 1) := by decide +kernel
theorem dX11_init_86 : decode cX11_init 86 = .ok (.invokespecial 56, 3) := by decide +kernel
theorem dX11_init_89 : decode cX11_init 89 = .ok (.putfield 57, 3) := by decide +kernel
theorem dX11_init_92 : decode cX11_init 92 = .ok (.aload_n 0, 1) := by decide +kernel
theorem dX11_init_93 : decode cX11_init 93 = .ok (.iconst 3, 1) := by decide +kernel
theorem dX11_init_94 : decode cX11_init 94 = .ok (.anewarray 44, 3) := by decide +kernel
theorem dX11_init_97 : decode cX11_init 97 = .ok (.putfield 61, 3) := by decide +kernel
theorem dX11_init_100 : decode cX11_init 100 = .ok (.aload_n 0, 1) := by decide +kernel
theorem dX11_init_101 : decode cX11_init 101 = .ok (.iconst 3, 1) := by decide +kernel
theorem dX11_init_102 : decode cX11_init 102 = .ok (.newarray .boolean, 2) := by decide +kernel
theorem dX11_init_104 : decode cX11_init 104 = .ok (.putfield 65, 3) := by decide +kernel
theorem dX11_init_107 : decode cX11_init 107 = .ok (.aload_n 0, 1) := by decide +kernel
theorem dX11_init_108 : decode cX11_init 108 = .ok (.new 69, 3) := by decide +kernel
theorem dX11_init_111 : decode cX11_init 111 = .ok (.dup, 1) := by decide +kernel
theorem dX11_init_112 : decode cX11_init 112 = .ok (.invokespecial 71, 3) := by decide +kernel
theorem dX11_init_115 : decode cX11_init 115 = .ok (.putfield 72, 3) := by decide +kernel
theorem dX11_init_118 : decode cX11_init 118 = .ok (.aload_n 0, 1) := by decide +kernel
theorem dX11_init_119 : decode cX11_init 119 = .ok (.new 76, 3) := by decide +kernel
theorem dX11_init_122 : decode cX11_init 122 = .ok (.dup, 1) := by decide +kernel
theorem dX11_init_123 : decode cX11_init 123 = .ok (.invokespecial 78, 3) := by decide +kernel
theorem dX11_init_126 : decode cX11_init 126 = .ok (.putfield 79, 3) := by decide +kernel
theorem dX11_init_129 : decode cX11_init 129 = .ok (.aload_n 0, 1) := by decide +kernel
theorem dX11_init_130 : decode cX11_init 130 = .ok (.new 83, 3) := by decide +kernel
theorem dX11_init_133 : decode cX11_init 133 = .ok (.dup, 1) := by decide +kernel
theorem dX11_init_134 : decode cX11_init 134 = .ok (.invokespecial 85, 3) := by decide +kernel
theorem dX11_init_137 : decode cX11_init 137 = .ok (.putfield 86, 3) := by decide +kernel
theorem dX11_init_140 : decode cX11_init 140 = .ok (.aload_n 0, 1) := by decide +kernel
theorem dX11_init_141 : decode cX11_init 141 = .ok (.new 83, 3) := by decide +kernel
theorem dX11_init_144 : decode cX11_init 144 = .ok (.dup, 1) := by decide +kernel
theorem dX11_init_145 : decode cX11_init 145 = .ok (.invokespecial 85, 3) := by decide +kernel
theorem dX11_init_148 : decode cX11_init 148 = .ok (.putfield 90, 3) := by decide +kernel
theorem dX11_init_151 : decode cX11_init 151 = .ok (.iconst 0, 1) := by decide +kernel
theorem dX11_init_152 : decode cX11_init 152 = .ok (.istore_n 1, 1) := by decide +kernel
theorem dX11_init_153 : decode cX11_init 153 = .ok (.iload_n 1, 1) := by decide +kernel
theorem dX11_init_154 : decode cX11_init 154 = .ok (.iconst 3, 1) := by decide +kernel
theorem dX11_init_155 : decode cX11_init 155 = .ok (.if_icmp .ge 22, 3) := by decide +kernel
theorem dX11_init_158 : decode cX11_init 158 = .ok (.aload_n 0, 1) := by decide +kernel
theorem dX11_init_159 : decode cX11_init 159 = .ok (.getfield 61, 3) := by decide +kernel
theorem dX11_init_162 : decode cX11_init 162 = .ok (.iload_n 1, 1) := by decide +kernel
theorem dX11_init_163 : decode cX11_init 163 = .ok (.new 44, 3) := by decide +kernel
theorem dX11_init_166 : decode cX11_init 166 = .ok (.dup, 1) := by decide +kernel
theorem dX11_init_167 : decode cX11_init 167 = .ok (.invokespecial 46, 3) := by decide +kernel
theorem dX11_init_170 : decode cX11_init 170 = .ok (.aastore, 1) := by decide +kernel
theorem dX11_init_171 : decode cX11_init 171 = .ok (.iinc 1 1, 3) := by decide +kernel
theorem dX11_init_174 : decode cX11_init 174 = .ok (.goto (-21), 3) := by decide +kernel
theorem dX11_init_177 : decode cX11_init 177 = .ok (.aload_n 0, 1) := by decide +kernel
theorem dX11_init_178 : decode cX11_init 178 = .ok (.getfield 47, 3) := by decide +kernel
theorem dX11_init_181 : decode cX11_init 181 = .ok (.aload_n 0, 1) := by decide +kernel
theorem dX11_init_182 : decode cX11_init 182 = .ok (.getfield 86, 3) := by decide +kernel
theorem dX11_init_185 : decode cX11_init 185 = .ok (.invokevirtual 93, 3) := by decide +kernel
theorem dX11_init_188 : decode cX11_init 188 = .ok (.return_, 1) := by decide +kernel
theorem dX11_feed_0 : decode cX11_feed 0 = .ok (.aload_n 0, 1) := by decide +kernel
theorem dX11_feed_1 : decode cX11_feed 1 = .ok (.getfield 12, 3) := by decide +kernel
theorem dX11_feed_4 : decode cX11_feed 4 = .ok (.getfield 97, 3) := by decide +kernel
theorem dX11_feed_7 : decode cX11_feed 7 = .ok (.bipush 20, 2) := by decide +kernel
theorem dX11_feed_9 : decode cX11_feed 9 = .ok (.iadd, 1) := by decide +kernel
theorem dX11_feed_10 : decode cX11_feed 10 = .ok (.sipush 2000, 3) := by decide +kernel
theorem dX11_feed_13 : decode cX11_feed 13 = .ok (.if_icmp .le 5, 3) := by decide +kernel
theorem dX11_feed_16 : decode cX11_feed 16 = .ok (.iconst (-1), 1) := by decide +kernel
theorem dX11_feed_17 : decode cX11_feed 17 = .ok (.ireturn, 1) := by decide +kernel
theorem dX11_feed_18 : decode cX11_feed 18 = .ok (.aload_n 0, 1) := by decide +kernel
theorem dX11_feed_19 : decode cX11_feed 19 = .ok (.getfield 12, 3) := by decide +kernel
theorem dX11_feed_22 : decode cX11_feed 22 = .ok (.iload_n 1, 1) := by decide +kernel
theorem dX11_feed_23 : decode cX11_feed 23 = .ok (.invokevirtual 101, 3) := by decide +kernel
theorem dX11_feed_26 : decode cX11_feed 26 = .ok (.aload_n 0, 1) := by decide +kernel
theorem dX11_feed_27 : decode cX11_feed 27 = .ok (.getfield 12, 3) := by decide +kernel
theorem dX11_feed_30 : decode cX11_feed 30 = .ok (.iload_n 2, 1) := by decide +kernel
theorem dX11_feed_31 : decode cX11_feed 31 = .ok (.invokevirtual 101, 3) := by decide +kernel
theorem dX11_feed_34 : decode cX11_feed 34 = .ok (.aload_n 0, 1) := by decide +kernel
theorem dX11_feed_35 : decode cX11_feed 35 = .ok (.getfield 12, 3) := by decide +kernel
theorem dX11_feed_38 : decode cX11_feed 38 = .ok (.iload_n 3, 1) := by decide +kernel
theorem dX11_feed_39 : decode cX11_feed 39 = .ok (.invokevirtual 101, 3) := by decide +kernel
theorem dX11_feed_42 : decode cX11_feed 42 = .ok (.aload_n 0, 1) := by decide +kernel
theorem dX11_feed_43 : decode cX11_feed 43 = .ok (.getfield 12, 3) := by decide +kernel
theorem dX11_feed_46 : decode cX11_feed 46 = .ok (.iload 4, 2) := by decide +kernel
theorem dX11_feed_48 : decode cX11_feed 48 = .ok (.invokevirtual 101, 3) := by decide +kernel
theorem dX11_feed_51 : decode cX11_feed 51 = .ok (.aload_n 0, 1) := by decide +kernel
theorem dX11_feed_52 : decode cX11_feed 52 = .ok (.getfield 12, 3) := by decide +kernel
theorem dX11_feed_55 : decode cX11_feed 55 = .ok (.iload 5, 2) := by decide +kernel
theorem dX11_feed_57 : decode cX11_feed 57 = .ok (.invokevirtual 101, 3) := by decide +kernel
theorem dX11_feed_60 : decode cX11_feed 60 = .ok (.aload_n 0, 1) := by decide +kernel
theorem dX11_feed_61 : decode cX11_feed 61 = .ok (.getfield 12, 3) := by decide +kernel
theorem dX11_feed_64 : decode cX11_feed 64 = .ok (.getfield 97, 3) := by decide +kernel
theorem dX11_feed_67 : decode cX11_feed 67 = .ok (.ireturn, 1) := by decide +kernel
theorem dX11_back_0 : decode cX11_back 0 = .ok (.iload_n 1, 1) := by decide +kernel
theorem dX11_back_1 : decode cX11_back 1 = .ok (.ifCond .lt 14, 3) := by decide +kernel
theorem dX11_back_4 : decode cX11_back 4 = .ok (.iload_n 1, 1) := by decide +kernel
theorem dX11_back_5 : decode cX11_back 5 = .ok (.aload_n 0, 1) := by decide +kernel
theorem dX11_back_6 : decode cX11_back 6 = .ok (.getfield 12, 3) := by decide +kernel
theorem dX11_back_9 : decode cX11_back 9 = .ok (.getfield 97, 3) := by decide +kernel
theorem dX11_back_12 : decode cX11_back 12 = .ok (.if_icmp .le 5, 3) := by decide +kernel
theorem dX11_back_15 : decode cX11_back 15 = .ok (.iconst (-1), 1) := by decide +kernel
theorem dX11_back_16 : decode cX11_back 16 = .ok (.ireturn, 1) := by decide +kernel
theorem dX11_back_17 : decode cX11_back 17 = .ok (.aload_n 0, 1) := by decide +kernel
theorem dX11_back_18 : decode cX11_back 18 = .ok (.getfield 12, 3) := by decide +kernel
theorem dX11_back_21 : decode cX11_back 21 = .ok (.dup, 1) := by decide +kernel
theorem dX11_back_22 : decode cX11_back 22 = .ok (.getfield 97, 3) := by decide +kernel
theorem dX11_back_25 : decode cX11_back 25 = .ok (.iload_n 1, 1) := by decide +kernel
theorem dX11_back_26 : decode cX11_back 26 = .ok (.isub, 1) := by decide +kernel
theorem dX11_back_27 : decode cX11_back 27 = .ok (.putfield 97, 3) := by decide +kernel
theorem dX11_back_30 : decode cX11_back 30 = .ok (.aload_n 0, 1) := by decide +kernel
theorem dX11_back_31 : decode cX11_back 31 = .ok (.getfield 12, 3) := by decide +kernel
theorem dX11_back_34 : decode cX11_back 34 = .ok (.getfield 97, 3) := by decide +kernel
theorem dX11_back_37 : decode cX11_back 37 = .ok (.ireturn, 1) := by decide +kernel
theorem dX11_read_0 : decode cX11_read 0 = .ok (.aload_n 0, 1) := by decide +kernel
theorem dX11_read_1 : decode cX11_read 1 = .ok (.getfield 19, 3) := by decide +kernel
theorem dX11_read_4 : decode cX11_read 4 = .ok (.aload_n 0, 1) := by decide +kernel
theorem dX11_read_5 : decode cX11_read 5 = .ok (.getfield 12, 3) := by decide +kernel
theorem dX11_read_8 : decode cX11_read 8 = .ok (.invokevirtual 105, 3) := by decide +kernel
theorem dX11_read_11 : decode cX11_read 11 = .ok (.aload_n 0, 1) := by decide +kernel
theorem dX11_read_12 : decode cX11_read 12 = .ok (.getfield 26, 3) := by decide +kernel
theorem dX11_read_15 : decode cX11_read 15 = .ok (.aload_n 0, 1) := by decide +kernel
theorem dX11_read_16 : decode cX11_read 16 = .ok (.getfield 19, 3) := by decide +kernel
theorem dX11_read_19 : decode cX11_read 19 = .ok (.invokevirtual 109, 3) := by decide +kernel
theorem dX11_read_22 : decode cX11_read 22 = .ok (.aload_n 0, 1) := by decide +kernel
theorem dX11_read_23 : decode cX11_read 23 = .ok (.getfield 19, 3) := by decide +kernel
theorem dX11_read_26 : decode cX11_read 26 = .ok (.getfield 113, 3) := by decide +kernel
theorem dX11_read_29 : decode cX11_read 29 = .ok (.ifCond .ne 18, 3) := by decide +kernel
theorem dX11_read_32 : decode cX11_read 32 = .ok (.aload_n 0, 1) := by decide +kernel
theorem dX11_read_33 : decode cX11_read 33 = .ok (.getfield 33, 3) := by decide +kernel
theorem dX11_read_36 : decode cX11_read 36 = .ok (.aload_n 0, 1) := by decide +kernel
theorem dX11_read_37 : decode cX11_read 37 = .ok (.getfield 90, 3) := by decide +kernel
theorem dX11_read_40 : decode cX11_read 40 = .ok (.aload_n 0, 1) := by decide +kernel
theorem dX11_read_41 : decode cX11_read 41 = .ok (.getfield 19, 3) := by decide +kernel
theorem dX11_read_44 : decode cX11_read 44 = .ok (.invokevirtual 116, 3) := by decide +kernel
theorem dX11_read_47 : decode cX11_read 47 = .ok (.aload_n 0, 1) := by decide +kernel
theorem dX11_read_48 : decode cX11_read 48 = .ok (.getfield 12, 3) := by decide +kernel
theorem dX11_read_51 : decode cX11_read 51 = .ok (.iconst 0, 1) := by decide +kernel
theorem dX11_read_52 : decode cX11_read 52 = .ok (.putfield 97, 3) := by decide +kernel
theorem dX11_read_55 : decode cX11_read 55 = .ok (.aload_n 0, 1) := by decide +kernel
theorem dX11_read_56 : decode cX11_read 56 = .ok (.getfield 19, 3) := by decide +kernel
theorem dX11_read_59 : decode cX11_read 59 = .ok (.getfield 113, 3) := by decide +kernel
theorem dX11_read_62 : decode cX11_read 62 = .ok (.ifCond .ne 7, 3) := by decide +kernel
theorem dX11_read_65 : decode cX11_read 65 = .ok (.aload_n 0, 1) := by decide +kernel
theorem dX11_read_66 : decode cX11_read 66 = .ok (.invokevirtual 120, 3) := by decide +kernel
theorem dX11_read_69 : decode cX11_read 69 = .ok (.aload_n 0, 1) := by decide +kernel
theorem dX11_read_70 : decode cX11_read 70 = .ok (.getfield 19, 3) := by decide +kernel
theorem dX11_read_73 : decode cX11_read 73 = .ok (.getfield 113, 3) := by decide +kernel
theorem dX11_read_76 : decode cX11_read 76 = .ok (.ireturn, 1) := by decide +kernel
theorem dX11_place_0 : decode cX11_place 0 = .ok (.aload_n 0, 1) := by decide +kernel
theorem dX11_place_1 : decode cX11_place 1 = .ok (.getfield 19, 3) := by decide +kernel
theorem dX11_place_4 : decode cX11_place 4 = .ok (.getfield 123, 3) := by decide +kernel
theorem dX11_place_7 : decode cX11_place 7 = .ok (.ireturn, 1) := by decide +kernel
theorem dX11_cell_0 : decode cX11_cell 0 = .ok (.aload_n 0, 1) := by decide +kernel
theorem dX11_cell_1 : decode cX11_cell 1 = .ok (.getfield 86, 3) := by decide +kernel
theorem dX11_cell_4 : decode cX11_cell 4 = .ok (.iload_n 1, 1) := by decide +kernel
theorem dX11_cell_5 : decode cX11_cell 5 = .ok (.iload_n 2, 1) := by decide +kernel
theorem dX11_cell_6 : decode cX11_cell 6 = .ok (.invokevirtual 126, 3) := by decide +kernel
theorem dX11_cell_9 : decode cX11_cell 9 = .ok (.istore 4, 2) := by decide +kernel
theorem dX11_cell_11 : decode cX11_cell 11 = .ok (.iload 4, 2) := by decide +kernel
theorem dX11_cell_13 : decode cX11_cell 13 = .ok (.ifCond .lt 10, 3) := by decide +kernel
theorem dX11_cell_16 : decode cX11_cell 16 = .ok (.iload 4, 2) := by decide +kernel
theorem dX11_cell_18 : decode cX11_cell 18 = .ok (.bipush 40, 2) := by decide +kernel
theorem dX11_cell_20 : decode cX11_cell 20 = .ok (.if_icmp .lt 6, 3) := by decide +kernel
theorem dX11_cell_23 : decode cX11_cell 23 = .ok (.bipush (-100), 2) := by decide +kernel
theorem dX11_cell_25 : decode cX11_cell 25 = .ok (.ireturn, 1) := by decide +kernel
theorem dX11_cell_26 : decode cX11_cell 26 = .ok (.iload_n 3, 1) := by decide +kernel
theorem dX11_cell_27 : decode cX11_cell 27 = .ok (.tableswitch 127 0 3 #[29, 40, 51, 89], 29) := by decide +kernel
theorem dX11_cell_56 : decode cX11_cell 56 = .ok (.aload_n 0, 1) := by decide +kernel
theorem dX11_cell_57 : decode cX11_cell 57 = .ok (.getfield 47, 3) := by decide +kernel
theorem dX11_cell_60 : decode cX11_cell 60 = .ok (.getfield 130, 3) := by decide +kernel
theorem dX11_cell_63 : decode cX11_cell 63 = .ok (.iload 4, 2) := by decide +kernel
theorem dX11_cell_65 : decode cX11_cell 65 = .ok (.iaload, 1) := by decide +kernel
theorem dX11_cell_66 : decode cX11_cell 66 = .ok (.ireturn, 1) := by decide +kernel
theorem dX11_cell_67 : decode cX11_cell 67 = .ok (.aload_n 0, 1) := by decide +kernel
theorem dX11_cell_68 : decode cX11_cell 68 = .ok (.getfield 47, 3) := by decide +kernel
theorem dX11_cell_71 : decode cX11_cell 71 = .ok (.getfield 134, 3) := by decide +kernel
theorem dX11_cell_74 : decode cX11_cell 74 = .ok (.iload 4, 2) := by decide +kernel
theorem dX11_cell_76 : decode cX11_cell 76 = .ok (.iaload, 1) := by decide +kernel
theorem dX11_cell_77 : decode cX11_cell 77 = .ok (.ireturn, 1) := by decide +kernel
theorem dX11_cell_78 : decode cX11_cell 78 = .ok (.aload_n 0, 1) := by decide +kernel
theorem dX11_cell_79 : decode cX11_cell 79 = .ok (.getfield 40, 3) := by decide +kernel
theorem dX11_cell_82 : decode cX11_cell 82 = .ok (.aload_n 0, 1) := by decide +kernel
theorem dX11_cell_83 : decode cX11_cell 83 = .ok (.getfield 86, 3) := by decide +kernel
theorem dX11_cell_86 : decode cX11_cell 86 = .ok (.aload_n 0, 1) := by decide +kernel
theorem dX11_cell_87 : decode cX11_cell 87 = .ok (.getfield 47, 3) := by decide +kernel
theorem dX11_cell_90 : decode cX11_cell 90 = .ok (.getfield 137, 3) := by decide +kernel
theorem dX11_cell_93 : decode cX11_cell 93 = .ok (.invokevirtual 140, 3) := by decide +kernel
theorem dX11_cell_96 : decode cX11_cell 96 = .ok (.pop, 1) := by decide +kernel
theorem dX11_cell_97 : decode cX11_cell 97 = .ok (.aload_n 0, 1) := by decide +kernel
theorem dX11_cell_98 : decode cX11_cell 98 = .ok (.getfield 40, 3) := by decide +kernel
theorem dX11_cell_101 : decode cX11_cell 101 = .ok (.aload_n 0, 1) := by decide +kernel
theorem dX11_cell_102 : decode cX11_cell 102 = .ok (.getfield 86, 3) := by decide +kernel
theorem dX11_cell_105 : decode cX11_cell 105 = .ok (.aload_n 0, 1) := by decide +kernel
theorem dX11_cell_106 : decode cX11_cell 106 = .ok (.getfield 47, 3) := by decide +kernel
theorem dX11_cell_109 : decode cX11_cell 109 = .ok (.iload 4, 2) := by decide +kernel
theorem dX11_cell_111 : decode cX11_cell 111 = .ok (.iconst 1, 1) := by decide +kernel
theorem dX11_cell_112 : decode cX11_cell 112 = .ok (.invokevirtual 144, 3) := by decide +kernel
theorem dX11_cell_115 : decode cX11_cell 115 = .ok (.ireturn, 1) := by decide +kernel
theorem dX11_cell_116 : decode cX11_cell 116 = .ok (.aload_n 0, 1) := by decide +kernel
theorem dX11_cell_117 : decode cX11_cell 117 = .ok (.getfield 40, 3) := by decide +kernel
theorem dX11_cell_120 : decode cX11_cell 120 = .ok (.aload_n 0, 1) := by decide +kernel
theorem dX11_cell_121 : decode cX11_cell 121 = .ok (.getfield 86, 3) := by decide +kernel
theorem dX11_cell_124 : decode cX11_cell 124 = .ok (.aload_n 0, 1) := by decide +kernel
theorem dX11_cell_125 : decode cX11_cell 125 = .ok (.getfield 47, 3) := by decide +kernel
theorem dX11_cell_128 : decode cX11_cell 128 = .ok (.getfield 137, 3) := by decide +kernel
theorem dX11_cell_131 : decode cX11_cell 131 = .ok (.invokevirtual 140, 3) := by decide +kernel
theorem dX11_cell_134 : decode cX11_cell 134 = .ok (.pop, 1) := by decide +kernel
theorem dX11_cell_135 : decode cX11_cell 135 = .ok (.aload_n 0, 1) := by decide +kernel
theorem dX11_cell_136 : decode cX11_cell 136 = .ok (.getfield 40, 3) := by decide +kernel
theorem dX11_cell_139 : decode cX11_cell 139 = .ok (.aload_n 0, 1) := by decide +kernel
theorem dX11_cell_140 : decode cX11_cell 140 = .ok (.getfield 86, 3) := by decide +kernel
theorem dX11_cell_143 : decode cX11_cell 143 = .ok (.aload_n 0, 1) := by decide +kernel
theorem dX11_cell_144 : decode cX11_cell 144 = .ok (.getfield 47, 3) := by decide +kernel
theorem dX11_cell_147 : decode cX11_cell 147 = .ok (.iload 4, 2) := by decide +kernel
theorem dX11_cell_149 : decode cX11_cell 149 = .ok (.iconst 2, 1) := by decide +kernel
theorem dX11_cell_150 : decode cX11_cell 150 = .ok (.invokevirtual 144, 3) := by decide +kernel
theorem dX11_cell_153 : decode cX11_cell 153 = .ok (.ireturn, 1) := by decide +kernel
theorem dX11_cell_154 : decode cX11_cell 154 = .ok (.bipush (-100), 2) := by decide +kernel
theorem dX11_cell_156 : decode cX11_cell 156 = .ok (.ireturn, 1) := by decide +kernel
theorem dX11_holding_0 : decode cX11_holding 0 = .ok (.aload_n 0, 1) := by decide +kernel
theorem dX11_holding_1 : decode cX11_holding 1 = .ok (.getfield 86, 3) := by decide +kernel
theorem dX11_holding_4 : decode cX11_holding 4 = .ok (.iload_n 1, 1) := by decide +kernel
theorem dX11_holding_5 : decode cX11_holding 5 = .ok (.invokevirtual 148, 3) := by decide +kernel
theorem dX11_holding_8 : decode cX11_holding 8 = .ok (.ifCond .ne 6, 3) := by decide +kernel
theorem dX11_holding_11 : decode cX11_holding 11 = .ok (.ldc 152, 2) := by decide +kernel
theorem dX11_holding_13 : decode cX11_holding 13 = .ok (.ireturn, 1) := by decide +kernel
theorem dX11_holding_14 : decode cX11_holding 14 = .ok (.iload_n 2, 1) := by decide +kernel
theorem dX11_holding_15 : decode cX11_holding 15 = .ok (.tableswitch 112 0 6 #[41, 51, 61, 70, 79, 93, 103], 41) := by decide +kernel
theorem dX11_holding_56 : decode cX11_holding 56 = .ok (.aload_n 0, 1) := by decide +kernel
theorem dX11_holding_57 : decode cX11_holding 57 = .ok (.getfield 86, 3) := by decide +kernel
theorem dX11_holding_60 : decode cX11_holding 60 = .ok (.getfield 153, 3) := by decide +kernel
theorem dX11_holding_63 : decode cX11_holding 63 = .ok (.iload_n 1, 1) := by decide +kernel
theorem dX11_holding_64 : decode cX11_holding 64 = .ok (.iaload, 1) := by decide +kernel
theorem dX11_holding_65 : decode cX11_holding 65 = .ok (.ireturn, 1) := by decide +kernel
theorem dX11_holding_66 : decode cX11_holding 66 = .ok (.aload_n 0, 1) := by decide +kernel
theorem dX11_holding_67 : decode cX11_holding 67 = .ok (.getfield 47, 3) := by decide +kernel
theorem dX11_holding_70 : decode cX11_holding 70 = .ok (.getfield 156, 3) := by decide +kernel
theorem dX11_holding_73 : decode cX11_holding 73 = .ok (.iload_n 1, 1) := by decide +kernel
theorem dX11_holding_74 : decode cX11_holding 74 = .ok (.iaload, 1) := by decide +kernel
theorem dX11_holding_75 : decode cX11_holding 75 = .ok (.ireturn, 1) := by decide +kernel
theorem dX11_holding_76 : decode cX11_holding 76 = .ok (.aload_n 0, 1) := by decide +kernel
theorem dX11_holding_77 : decode cX11_holding 77 = .ok (.getfield 47, 3) := by decide +kernel
theorem dX11_holding_80 : decode cX11_holding 80 = .ok (.iload_n 1, 1) := by decide +kernel
theorem dX11_holding_81 : decode cX11_holding 81 = .ok (.invokevirtual 159, 3) := by decide +kernel
theorem dX11_holding_84 : decode cX11_holding 84 = .ok (.ireturn, 1) := by decide +kernel
theorem dX11_holding_85 : decode cX11_holding 85 = .ok (.aload_n 0, 1) := by decide +kernel
theorem dX11_holding_86 : decode cX11_holding 86 = .ok (.getfield 47, 3) := by decide +kernel
theorem dX11_holding_89 : decode cX11_holding 89 = .ok (.iload_n 1, 1) := by decide +kernel
theorem dX11_holding_90 : decode cX11_holding 90 = .ok (.invokevirtual 163, 3) := by decide +kernel
theorem dX11_holding_93 : decode cX11_holding 93 = .ok (.ireturn, 1) := by decide +kernel
theorem dX11_holding_94 : decode cX11_holding 94 = .ok (.aload_n 0, 1) := by decide +kernel
theorem dX11_holding_95 : decode cX11_holding 95 = .ok (.iload_n 1, 1) := by decide +kernel
theorem dX11_holding_96 : decode cX11_holding 96 = .ok (.invokevirtual 166, 3) := by decide +kernel
theorem dX11_holding_99 : decode cX11_holding 99 = .ok (.ifCond .eq 7, 3) := by decide +kernel
theorem dX11_holding_102 : decode cX11_holding 102 = .ok (.iconst 1, 1) := by decide +kernel
theorem dX11_holding_103 : decode cX11_holding 103 = .ok (.goto 4, 3) := by decide +kernel
theorem dX11_holding_106 : decode cX11_holding 106 = .ok (.iconst 0, 1) := by decide +kernel
theorem dX11_holding_107 : decode cX11_holding 107 = .ok (.ireturn, 1) := by decide +kernel
theorem dX11_holding_108 : decode cX11_holding 108 = .ok (.aload_n 0, 1) := by decide +kernel
theorem dX11_holding_109 : decode cX11_holding 109 = .ok (.getfield 47, 3) := by decide +kernel
theorem dX11_holding_112 : decode cX11_holding 112 = .ok (.getfield 169, 3) := by decide +kernel
theorem dX11_holding_115 : decode cX11_holding 115 = .ok (.iload_n 1, 1) := by decide +kernel
theorem dX11_holding_116 : decode cX11_holding 116 = .ok (.iaload, 1) := by decide +kernel
theorem dX11_holding_117 : decode cX11_holding 117 = .ok (.ireturn, 1) := by decide +kernel
theorem dX11_holding_118 : decode cX11_holding 118 = .ok (.aload_n 0, 1) := by decide +kernel
theorem dX11_holding_119 : decode cX11_holding 119 = .ok (.getfield 47, 3) := by decide +kernel
theorem dX11_holding_122 : decode cX11_holding 122 = .ok (.iload_n 1, 1) := by decide +kernel
theorem dX11_holding_123 : decode cX11_holding 123 = .ok (.invokevirtual 172, 3) := by decide +kernel
theorem dX11_holding_126 : decode cX11_holding 126 = .ok (.ireturn, 1) := by decide +kernel
theorem dX11_holding_127 : decode cX11_holding 127 = .ok (.ldc 152, 2) := by decide +kernel
theorem dX11_holding_129 : decode cX11_holding 129 = .ok (.ireturn, 1) := by decide +kernel
theorem dX11_use_0 : decode cX11_use 0 = .ok (.aload_n 0, 1) := by decide +kernel
theorem dX11_use_1 : decode cX11_use 1 = .ok (.getfield 86, 3) := by decide +kernel
theorem dX11_use_4 : decode cX11_use 4 = .ok (.iload_n 1, 1) := by decide +kernel
theorem dX11_use_5 : decode cX11_use 5 = .ok (.invokevirtual 175, 3) := by decide +kernel
theorem dX11_use_8 : decode cX11_use 8 = .ok (.ifCond .ne 5, 3) := by decide +kernel
theorem dX11_use_11 : decode cX11_use 11 = .ok (.iconst (-1), 1) := by decide +kernel
theorem dX11_use_12 : decode cX11_use 12 = .ok (.ireturn, 1) := by decide +kernel
theorem dX11_use_13 : decode cX11_use 13 = .ok (.iload_n 2, 1) := by decide +kernel
theorem dX11_use_14 : decode cX11_use 14 = .ok (.tableswitch 98 0 4 #[34, 44, 54, 64, 74], 34) := by decide +kernel
theorem dX11_use_48 : decode cX11_use 48 = .ok (.aload_n 0, 1) := by decide +kernel
theorem dX11_use_49 : decode cX11_use 49 = .ok (.getfield 86, 3) := by decide +kernel
theorem dX11_use_52 : decode cX11_use 52 = .ok (.getfield 178, 3) := by decide +kernel
theorem dX11_use_55 : decode cX11_use 55 = .ok (.iload_n 1, 1) := by decide +kernel
theorem dX11_use_56 : decode cX11_use 56 = .ok (.iaload, 1) := by decide +kernel
theorem dX11_use_57 : decode cX11_use 57 = .ok (.ireturn, 1) := by decide +kernel
theorem dX11_use_58 : decode cX11_use 58 = .ok (.aload_n 0, 1) := by decide +kernel
theorem dX11_use_59 : decode cX11_use 59 = .ok (.getfield 86, 3) := by decide +kernel
theorem dX11_use_62 : decode cX11_use 62 = .ok (.getfield 181, 3) := by decide +kernel
theorem dX11_use_65 : decode cX11_use 65 = .ok (.iload_n 1, 1) := by decide +kernel
theorem dX11_use_66 : decode cX11_use 66 = .ok (.iaload, 1) := by decide +kernel
theorem dX11_use_67 : decode cX11_use 67 = .ok (.ireturn, 1) := by decide +kernel
theorem dX11_use_68 : decode cX11_use 68 = .ok (.aload_n 0, 1) := by decide +kernel
theorem dX11_use_69 : decode cX11_use 69 = .ok (.getfield 86, 3) := by decide +kernel
theorem dX11_use_72 : decode cX11_use 72 = .ok (.getfield 184, 3) := by decide +kernel
theorem dX11_use_75 : decode cX11_use 75 = .ok (.iload_n 1, 1) := by decide +kernel
theorem dX11_use_76 : decode cX11_use 76 = .ok (.iaload, 1) := by decide +kernel
theorem dX11_use_77 : decode cX11_use 77 = .ok (.ireturn, 1) := by decide +kernel
theorem dX11_use_78 : decode cX11_use 78 = .ok (.aload_n 0, 1) := by decide +kernel
theorem dX11_use_79 : decode cX11_use 79 = .ok (.getfield 86, 3) := by decide +kernel
theorem dX11_use_82 : decode cX11_use 82 = .ok (.getfield 187, 3) := by decide +kernel
theorem dX11_use_85 : decode cX11_use 85 = .ok (.iload_n 1, 1) := by decide +kernel
theorem dX11_use_86 : decode cX11_use 86 = .ok (.iaload, 1) := by decide +kernel
theorem dX11_use_87 : decode cX11_use 87 = .ok (.ireturn, 1) := by decide +kernel
theorem dX11_use_88 : decode cX11_use 88 = .ok (.aload_n 0, 1) := by decide +kernel
theorem dX11_use_89 : decode cX11_use 89 = .ok (.getfield 86, 3) := by decide +kernel
theorem dX11_use_92 : decode cX11_use 92 = .ok (.iload_n 1, 1) := by decide +kernel
theorem dX11_use_93 : decode cX11_use 93 = .ok (.aload_n 0, 1) := by decide +kernel
theorem dX11_use_94 : decode cX11_use 94 = .ok (.getfield 47, 3) := by decide +kernel
theorem dX11_use_97 : decode cX11_use 97 = .ok (.getfield 137, 3) := by decide +kernel
theorem dX11_use_100 : decode cX11_use 100 = .ok (.invokevirtual 190, 3) := by decide +kernel
theorem dX11_use_103 : decode cX11_use 103 = .ok (.ifCond .eq 7, 3) := by decide +kernel
theorem dX11_use_106 : decode cX11_use 106 = .ok (.iconst 1, 1) := by decide +kernel
theorem dX11_use_107 : decode cX11_use 107 = .ok (.goto 4, 3) := by decide +kernel
theorem dX11_use_110 : decode cX11_use 110 = .ok (.iconst 0, 1) := by decide +kernel
theorem dX11_use_111 : decode cX11_use 111 = .ok (.ireturn, 1) := by decide +kernel
theorem dX11_use_112 : decode cX11_use 112 = .ok (.iconst (-1), 1) := by decide +kernel
theorem dX11_use_113 : decode cX11_use 113 = .ok (.ireturn, 1) := by decide +kernel
theorem dX11_draw_0 : decode cX11_draw 0 = .ok (.aload_n 0, 1) := by decide +kernel
theorem dX11_draw_1 : decode cX11_draw 1 = .ok (.getfield 86, 3) := by decide +kernel
theorem dX11_draw_4 : decode cX11_draw 4 = .ok (.iload_n 2, 1) := by decide +kernel
theorem dX11_draw_5 : decode cX11_draw 5 = .ok (.iload_n 3, 1) := by decide +kernel
theorem dX11_draw_6 : decode cX11_draw 6 = .ok (.invokevirtual 126, 3) := by decide +kernel
theorem dX11_draw_9 : decode cX11_draw 9 = .ok (.istore 5, 2) := by decide +kernel
theorem dX11_draw_11 : decode cX11_draw 11 = .ok (.aload_n 0, 1) := by decide +kernel
theorem dX11_draw_12 : decode cX11_draw 12 = .ok (.getfield 86, 3) := by decide +kernel
theorem dX11_draw_15 : decode cX11_draw 15 = .ok (.iload_n 1, 1) := by decide +kernel
theorem dX11_draw_16 : decode cX11_draw 16 = .ok (.invokevirtual 148, 3) := by decide +kernel
theorem dX11_draw_19 : decode cX11_draw 19 = .ok (.ifCond .eq 28, 3) := by decide +kernel
theorem dX11_draw_22 : decode cX11_draw 22 = .ok (.iload 5, 2) := by decide +kernel
theorem dX11_draw_24 : decode cX11_draw 24 = .ok (.ifCond .lt 23, 3) := by decide +kernel
theorem dX11_draw_27 : decode cX11_draw 27 = .ok (.iload 5, 2) := by decide +kernel
theorem dX11_draw_29 : decode cX11_draw 29 = .ok (.bipush 40, 2) := by decide +kernel
theorem dX11_draw_31 : decode cX11_draw 31 = .ok (.if_icmp .ge 16, 3) := by decide +kernel
theorem dX11_draw_34 : decode cX11_draw 34 = .ok (.iload 4, 2) := by decide +kernel
theorem dX11_draw_36 : decode cX11_draw 36 = .ok (.iconst 1, 1) := by decide +kernel
theorem dX11_draw_37 : decode cX11_draw 37 = .ok (.if_icmp .lt 10, 3) := by decide +kernel
theorem dX11_draw_40 : decode cX11_draw 40 = .ok (.iload 4, 2) := by decide +kernel
theorem dX11_draw_42 : decode cX11_draw 42 = .ok (.bipush 99, 2) := by decide +kernel
theorem dX11_draw_44 : decode cX11_draw 44 = .ok (.if_icmp .le 5, 3) := by decide +kernel
theorem dX11_draw_47 : decode cX11_draw 47 = .ok (.iconst (-1), 1) := by decide +kernel
theorem dX11_draw_48 : decode cX11_draw 48 = .ok (.ireturn, 1) := by decide +kernel
theorem dX11_draw_49 : decode cX11_draw 49 = .ok (.aload_n 0, 1) := by decide +kernel
theorem dX11_draw_50 : decode cX11_draw 50 = .ok (.getfield 47, 3) := by decide +kernel
theorem dX11_draw_53 : decode cX11_draw 53 = .ok (.getfield 134, 3) := by decide +kernel
theorem dX11_draw_56 : decode cX11_draw 56 = .ok (.iload 5, 2) := by decide +kernel
theorem dX11_draw_58 : decode cX11_draw 58 = .ok (.iaload, 1) := by decide +kernel
theorem dX11_draw_59 : decode cX11_draw 59 = .ok (.iload_n 1, 1) := by decide +kernel
theorem dX11_draw_60 : decode cX11_draw 60 = .ok (.if_icmp .ne 35, 3) := by decide +kernel
theorem dX11_draw_63 : decode cX11_draw 63 = .ok (.aload_n 0, 1) := by decide +kernel
theorem dX11_draw_64 : decode cX11_draw 64 = .ok (.getfield 47, 3) := by decide +kernel
theorem dX11_draw_67 : decode cX11_draw 67 = .ok (.getfield 156, 3) := by decide +kernel
theorem dX11_draw_70 : decode cX11_draw 70 = .ok (.iload_n 1, 1) := by decide +kernel
theorem dX11_draw_71 : decode cX11_draw 71 = .ok (.iaload, 1) := by decide +kernel
theorem dX11_draw_72 : decode cX11_draw 72 = .ok (.iload 4, 2) := by decide +kernel
theorem dX11_draw_74 : decode cX11_draw 74 = .ok (.if_icmp .lt 21, 3) := by decide +kernel
theorem dX11_draw_77 : decode cX11_draw 77 = .ok (.aload_n 0, 1) := by decide +kernel
theorem dX11_draw_78 : decode cX11_draw 78 = .ok (.getfield 47, 3) := by decide +kernel
theorem dX11_draw_81 : decode cX11_draw 81 = .ok (.getfield 130, 3) := by decide +kernel
theorem dX11_draw_84 : decode cX11_draw 84 = .ok (.iload 5, 2) := by decide +kernel
theorem dX11_draw_86 : decode cX11_draw 86 = .ok (.iaload, 1) := by decide +kernel
theorem dX11_draw_87 : decode cX11_draw 87 = .ok (.iload 4, 2) := by decide +kernel
theorem dX11_draw_89 : decode cX11_draw 89 = .ok (.iadd, 1) := by decide +kernel
theorem dX11_draw_90 : decode cX11_draw 90 = .ok (.bipush 99, 2) := by decide +kernel
theorem dX11_draw_92 : decode cX11_draw 92 = .ok (.if_icmp .le 6, 3) := by decide +kernel
theorem dX11_draw_95 : decode cX11_draw 95 = .ok (.bipush (-2), 2) := by decide +kernel
theorem dX11_draw_97 : decode cX11_draw 97 = .ok (.ireturn, 1) := by decide +kernel
theorem dX11_draw_98 : decode cX11_draw 98 = .ok (.aload_n 0, 1) := by decide +kernel
theorem dX11_draw_99 : decode cX11_draw 99 = .ok (.getfield 57, 3) := by decide +kernel
theorem dX11_draw_102 : decode cX11_draw 102 = .ok (.aload_n 0, 1) := by decide +kernel
theorem dX11_draw_103 : decode cX11_draw 103 = .ok (.getfield 47, 3) := by decide +kernel
theorem dX11_draw_106 : decode cX11_draw 106 = .ok (.invokevirtual 194, 3) := by decide +kernel
theorem dX11_draw_109 : decode cX11_draw 109 = .ok (.aload_n 0, 1) := by decide +kernel
theorem dX11_draw_110 : decode cX11_draw 110 = .ok (.getfield 47, 3) := by decide +kernel
theorem dX11_draw_113 : decode cX11_draw 113 = .ok (.getfield 156, 3) := by decide +kernel
theorem dX11_draw_116 : decode cX11_draw 116 = .ok (.iload_n 1, 1) := by decide +kernel
theorem dX11_draw_117 : decode cX11_draw 117 = .ok (.dup2, 1) := by decide +kernel
theorem dX11_draw_118 : decode cX11_draw 118 = .ok (.iaload, 1) := by decide +kernel
theorem dX11_draw_119 : decode cX11_draw 119 = .ok (.iload 4, 2) := by decide +kernel
theorem dX11_draw_121 : decode cX11_draw 121 = .ok (.isub, 1) := by decide +kernel
theorem dX11_draw_122 : decode cX11_draw 122 = .ok (.iastore, 1) := by decide +kernel
theorem dX11_draw_123 : decode cX11_draw 123 = .ok (.aload_n 0, 1) := by decide +kernel
theorem dX11_draw_124 : decode cX11_draw 124 = .ok (.getfield 47, 3) := by decide +kernel
theorem dX11_draw_127 : decode cX11_draw 127 = .ok (.getfield 169, 3) := by decide +kernel
theorem dX11_draw_130 : decode cX11_draw 130 = .ok (.iload_n 1, 1) := by decide +kernel
theorem dX11_draw_131 : decode cX11_draw 131 = .ok (.dup2, 1) := by decide +kernel
theorem dX11_draw_132 : decode cX11_draw 132 = .ok (.iaload, 1) := by decide +kernel
theorem dX11_draw_133 : decode cX11_draw 133 = .ok (.iload 4, 2) := by decide +kernel
theorem dX11_draw_135 : decode cX11_draw 135 = .ok (.iadd, 1) := by decide +kernel
theorem dX11_draw_136 : decode cX11_draw 136 = .ok (.iastore, 1) := by decide +kernel
theorem dX11_draw_137 : decode cX11_draw 137 = .ok (.aload_n 0, 1) := by decide +kernel
theorem dX11_draw_138 : decode cX11_draw 138 = .ok (.getfield 47, 3) := by decide +kernel
theorem dX11_draw_141 : decode cX11_draw 141 = .ok (.getfield 130, 3) := by decide +kernel
theorem dX11_draw_144 : decode cX11_draw 144 = .ok (.iload 5, 2) := by decide +kernel
theorem dX11_draw_146 : decode cX11_draw 146 = .ok (.dup2, 1) := by decide +kernel
theorem dX11_draw_147 : decode cX11_draw 147 = .ok (.iaload, 1) := by decide +kernel
theorem dX11_draw_148 : decode cX11_draw 148 = .ok (.iload 4, 2) := by decide +kernel
theorem dX11_draw_150 : decode cX11_draw 150 = .ok (.iadd, 1) := by decide +kernel
theorem dX11_draw_151 : decode cX11_draw 151 = .ok (.iastore, 1) := by decide +kernel
theorem dX11_draw_152 : decode cX11_draw 152 = .ok (.aload_n 0, 1) := by decide +kernel
theorem dX11_draw_153 : decode cX11_draw 153 = .ok (.getfield 47, 3) := by decide +kernel
theorem dX11_draw_156 : decode cX11_draw 156 = .ok (.getfield 130, 3) := by decide +kernel
theorem dX11_draw_159 : decode cX11_draw 159 = .ok (.iload 5, 2) := by decide +kernel
theorem dX11_draw_161 : decode cX11_draw 161 = .ok (.iaload, 1) := by decide +kernel
theorem dX11_draw_162 : decode cX11_draw 162 = .ok (.ireturn, 1) := by decide +kernel
theorem dX11_lend_0 : decode cX11_lend 0 = .ok (.aload_n 0, 1) := by decide +kernel
theorem dX11_lend_1 : decode cX11_lend 1 = .ok (.iload_n 1, 1) := by decide +kernel
theorem dX11_lend_2 : decode cX11_lend 2 = .ok (.iload_n 2, 1) := by decide +kernel
theorem dX11_lend_3 : decode cX11_lend 3 = .ok (.invokevirtual 198, 3) := by decide +kernel
theorem dX11_lend_6 : decode cX11_lend 6 = .ok (.ifCond .eq 15, 3) := by decide +kernel
theorem dX11_lend_9 : decode cX11_lend 9 = .ok (.iload_n 3, 1) := by decide +kernel
theorem dX11_lend_10 : decode cX11_lend 10 = .ok (.iconst 1, 1) := by decide +kernel
theorem dX11_lend_11 : decode cX11_lend 11 = .ok (.if_icmp .lt 10, 3) := by decide +kernel
theorem dX11_lend_14 : decode cX11_lend 14 = .ok (.iload_n 3, 1) := by decide +kernel
theorem dX11_lend_15 : decode cX11_lend 15 = .ok (.sipush 999, 3) := by decide +kernel
theorem dX11_lend_18 : decode cX11_lend 18 = .ok (.if_icmp .le 5, 3) := by decide +kernel
theorem dX11_lend_21 : decode cX11_lend 21 = .ok (.iconst (-1), 1) := by decide +kernel
theorem dX11_lend_22 : decode cX11_lend 22 = .ok (.ireturn, 1) := by decide +kernel
theorem dX11_lend_23 : decode cX11_lend 23 = .ok (.aload_n 0, 1) := by decide +kernel
theorem dX11_lend_24 : decode cX11_lend 24 = .ok (.getfield 47, 3) := by decide +kernel
theorem dX11_lend_27 : decode cX11_lend 27 = .ok (.getfield 156, 3) := by decide +kernel
theorem dX11_lend_30 : decode cX11_lend 30 = .ok (.iload_n 1, 1) := by decide +kernel
theorem dX11_lend_31 : decode cX11_lend 31 = .ok (.iaload, 1) := by decide +kernel
theorem dX11_lend_32 : decode cX11_lend 32 = .ok (.iload_n 3, 1) := by decide +kernel
theorem dX11_lend_33 : decode cX11_lend 33 = .ok (.if_icmp .lt 20, 3) := by decide +kernel
theorem dX11_lend_36 : decode cX11_lend 36 = .ok (.aload_n 0, 1) := by decide +kernel
theorem dX11_lend_37 : decode cX11_lend 37 = .ok (.getfield 47, 3) := by decide +kernel
theorem dX11_lend_40 : decode cX11_lend 40 = .ok (.getfield 156, 3) := by decide +kernel
theorem dX11_lend_43 : decode cX11_lend 43 = .ok (.iload_n 2, 1) := by decide +kernel
theorem dX11_lend_44 : decode cX11_lend 44 = .ok (.iaload, 1) := by decide +kernel
theorem dX11_lend_45 : decode cX11_lend 45 = .ok (.iload_n 3, 1) := by decide +kernel
theorem dX11_lend_46 : decode cX11_lend 46 = .ok (.iadd, 1) := by decide +kernel
theorem dX11_lend_47 : decode cX11_lend 47 = .ok (.sipush 999, 3) := by decide +kernel
theorem dX11_lend_50 : decode cX11_lend 50 = .ok (.if_icmp .le 6, 3) := by decide +kernel
theorem dX11_lend_53 : decode cX11_lend 53 = .ok (.bipush (-2), 2) := by decide +kernel
theorem dX11_lend_55 : decode cX11_lend 55 = .ok (.ireturn, 1) := by decide +kernel
theorem dX11_lend_56 : decode cX11_lend 56 = .ok (.aload_n 0, 1) := by decide +kernel
theorem dX11_lend_57 : decode cX11_lend 57 = .ok (.getfield 57, 3) := by decide +kernel
theorem dX11_lend_60 : decode cX11_lend 60 = .ok (.aload_n 0, 1) := by decide +kernel
theorem dX11_lend_61 : decode cX11_lend 61 = .ok (.getfield 47, 3) := by decide +kernel
theorem dX11_lend_64 : decode cX11_lend 64 = .ok (.invokevirtual 194, 3) := by decide +kernel
theorem dX11_lend_67 : decode cX11_lend 67 = .ok (.aload_n 0, 1) := by decide +kernel
theorem dX11_lend_68 : decode cX11_lend 68 = .ok (.getfield 47, 3) := by decide +kernel
theorem dX11_lend_71 : decode cX11_lend 71 = .ok (.getfield 156, 3) := by decide +kernel
theorem dX11_lend_74 : decode cX11_lend 74 = .ok (.iload_n 1, 1) := by decide +kernel
theorem dX11_lend_75 : decode cX11_lend 75 = .ok (.dup2, 1) := by decide +kernel
theorem dX11_lend_76 : decode cX11_lend 76 = .ok (.iaload, 1) := by decide +kernel
theorem dX11_lend_77 : decode cX11_lend 77 = .ok (.iload_n 3, 1) := by decide +kernel
theorem dX11_lend_78 : decode cX11_lend 78 = .ok (.isub, 1) := by decide +kernel
theorem dX11_lend_79 : decode cX11_lend 79 = .ok (.iastore, 1) := by decide +kernel
theorem dX11_lend_80 : decode cX11_lend 80 = .ok (.aload_n 0, 1) := by decide +kernel
theorem dX11_lend_81 : decode cX11_lend 81 = .ok (.getfield 47, 3) := by decide +kernel
theorem dX11_lend_84 : decode cX11_lend 84 = .ok (.getfield 156, 3) := by decide +kernel
theorem dX11_lend_87 : decode cX11_lend 87 = .ok (.iload_n 2, 1) := by decide +kernel
theorem dX11_lend_88 : decode cX11_lend 88 = .ok (.dup2, 1) := by decide +kernel
theorem dX11_lend_89 : decode cX11_lend 89 = .ok (.iaload, 1) := by decide +kernel
theorem dX11_lend_90 : decode cX11_lend 90 = .ok (.iload_n 3, 1) := by decide +kernel
theorem dX11_lend_91 : decode cX11_lend 91 = .ok (.iadd, 1) := by decide +kernel
theorem dX11_lend_92 : decode cX11_lend 92 = .ok (.iastore, 1) := by decide +kernel
theorem dX11_lend_93 : decode cX11_lend 93 = .ok (.aload_n 0, 1) := by decide +kernel
theorem dX11_lend_94 : decode cX11_lend 94 = .ok (.getfield 47, 3) := by decide +kernel
theorem dX11_lend_97 : decode cX11_lend 97 = .ok (.iload_n 1, 1) := by decide +kernel
theorem dX11_lend_98 : decode cX11_lend 98 = .ok (.iload_n 2, 1) := by decide +kernel
theorem dX11_lend_99 : decode cX11_lend 99 = .ok (.iload_n 3, 1) := by decide +kernel
theorem dX11_lend_100 : decode cX11_lend 100 = .ok (.invokevirtual 201, 3) := by decide +kernel
theorem dX11_lend_103 : decode cX11_lend 103 = .ok (.aload_n 0, 1) := by decide +kernel
theorem dX11_lend_104 : decode cX11_lend 104 = .ok (.getfield 47, 3) := by decide +kernel
theorem dX11_lend_107 : decode cX11_lend 107 = .ok (.getfield 156, 3) := by decide +kernel
theorem dX11_lend_110 : decode cX11_lend 110 = .ok (.iload_n 1, 1) := by decide +kernel
theorem dX11_lend_111 : decode cX11_lend 111 = .ok (.iaload, 1) := by decide +kernel
theorem dX11_lend_112 : decode cX11_lend 112 = .ok (.ireturn, 1) := by decide +kernel
theorem dX11_move_0 : decode cX11_move 0 = .ok (.aload_n 0, 1) := by decide +kernel
theorem dX11_move_1 : decode cX11_move 1 = .ok (.getfield 86, 3) := by decide +kernel
theorem dX11_move_4 : decode cX11_move 4 = .ok (.iload_n 1, 1) := by decide +kernel
theorem dX11_move_5 : decode cX11_move 5 = .ok (.iload_n 2, 1) := by decide +kernel
theorem dX11_move_6 : decode cX11_move 6 = .ok (.invokevirtual 126, 3) := by decide +kernel
theorem dX11_move_9 : decode cX11_move 9 = .ok (.istore 4, 2) := by decide +kernel
theorem dX11_move_11 : decode cX11_move 11 = .ok (.iload 4, 2) := by decide +kernel
theorem dX11_move_13 : decode cX11_move 13 = .ok (.ifCond .lt 26, 3) := by decide +kernel
theorem dX11_move_16 : decode cX11_move 16 = .ok (.iload 4, 2) := by decide +kernel
theorem dX11_move_18 : decode cX11_move 18 = .ok (.bipush 40, 2) := by decide +kernel
theorem dX11_move_20 : decode cX11_move 20 = .ok (.if_icmp .ge 19, 3) := by decide +kernel
theorem dX11_move_23 : decode cX11_move 23 = .ok (.iload_n 3, 1) := by decide +kernel
theorem dX11_move_24 : decode cX11_move 24 = .ok (.iconst (-1), 1) := by decide +kernel
theorem dX11_move_25 : decode cX11_move 25 = .ok (.if_icmp .eq 16, 3) := by decide +kernel
theorem dX11_move_28 : decode cX11_move 28 = .ok (.aload_n 0, 1) := by decide +kernel
theorem dX11_move_29 : decode cX11_move 29 = .ok (.getfield 86, 3) := by decide +kernel
theorem dX11_move_32 : decode cX11_move 32 = .ok (.iload_n 3, 1) := by decide +kernel
theorem dX11_move_33 : decode cX11_move 33 = .ok (.invokevirtual 148, 3) := by decide +kernel
theorem dX11_move_36 : decode cX11_move 36 = .ok (.ifCond .ne 5, 3) := by decide +kernel
theorem dX11_move_39 : decode cX11_move 39 = .ok (.iconst 0, 1) := by decide +kernel
theorem dX11_move_40 : decode cX11_move 40 = .ok (.ireturn, 1) := by decide +kernel
theorem dX11_move_41 : decode cX11_move 41 = .ok (.iload_n 3, 1) := by decide +kernel
theorem dX11_move_42 : decode cX11_move 42 = .ok (.iconst (-1), 1) := by decide +kernel
theorem dX11_move_43 : decode cX11_move 43 = .ok (.if_icmp .ne 8, 3) := by decide +kernel
theorem dX11_move_46 : decode cX11_move 46 = .ok (.bipush 9, 2) := by decide +kernel
theorem dX11_move_48 : decode cX11_move 48 = .ok (.goto 4, 3) := by decide +kernel
theorem dX11_move_51 : decode cX11_move 51 = .ok (.iload_n 3, 1) := by decide +kernel
theorem dX11_move_52 : decode cX11_move 52 = .ok (.istore 5, 2) := by decide +kernel
theorem dX11_move_54 : decode cX11_move 54 = .ok (.aload_n 0, 1) := by decide +kernel
theorem dX11_move_55 : decode cX11_move 55 = .ok (.getfield 47, 3) := by decide +kernel
theorem dX11_move_58 : decode cX11_move 58 = .ok (.getfield 134, 3) := by decide +kernel
theorem dX11_move_61 : decode cX11_move 61 = .ok (.iload 4, 2) := by decide +kernel
theorem dX11_move_63 : decode cX11_move 63 = .ok (.iaload, 1) := by decide +kernel
theorem dX11_move_64 : decode cX11_move 64 = .ok (.iload 5, 2) := by decide +kernel
theorem dX11_move_66 : decode cX11_move 66 = .ok (.if_icmp .ne 5, 3) := by decide +kernel
theorem dX11_move_69 : decode cX11_move 69 = .ok (.iconst 0, 1) := by decide +kernel
theorem dX11_move_70 : decode cX11_move 70 = .ok (.ireturn, 1) := by decide +kernel
theorem dX11_move_71 : decode cX11_move 71 = .ok (.aload_n 0, 1) := by decide +kernel
theorem dX11_move_72 : decode cX11_move 72 = .ok (.getfield 57, 3) := by decide +kernel
theorem dX11_move_75 : decode cX11_move 75 = .ok (.aload_n 0, 1) := by decide +kernel
theorem dX11_move_76 : decode cX11_move 76 = .ok (.getfield 47, 3) := by decide +kernel
theorem dX11_move_79 : decode cX11_move 79 = .ok (.invokevirtual 194, 3) := by decide +kernel
theorem dX11_move_82 : decode cX11_move 82 = .ok (.aload_n 0, 1) := by decide +kernel
theorem dX11_move_83 : decode cX11_move 83 = .ok (.getfield 47, 3) := by decide +kernel
theorem dX11_move_86 : decode cX11_move 86 = .ok (.getfield 134, 3) := by decide +kernel
theorem dX11_move_89 : decode cX11_move 89 = .ok (.iload 4, 2) := by decide +kernel
theorem dX11_move_91 : decode cX11_move 91 = .ok (.iload 5, 2) := by decide +kernel
theorem dX11_move_93 : decode cX11_move 93 = .ok (.iastore, 1) := by decide +kernel
theorem dX11_move_94 : decode cX11_move 94 = .ok (.iconst 1, 1) := by decide +kernel
theorem dX11_move_95 : decode cX11_move 95 = .ok (.ireturn, 1) := by decide +kernel
theorem dX11_hours_0 : decode cX11_hours 0 = .ok (.iload_n 1, 1) := by decide +kernel
theorem dX11_hours_1 : decode cX11_hours 1 = .ok (.ifCond .lt 9, 3) := by decide +kernel
theorem dX11_hours_4 : decode cX11_hours 4 = .ok (.iload_n 1, 1) := by decide +kernel
theorem dX11_hours_5 : decode cX11_hours 5 = .ok (.bipush 48, 2) := by decide +kernel
theorem dX11_hours_7 : decode cX11_hours 7 = .ok (.if_icmp .le 5, 3) := by decide +kernel
theorem dX11_hours_10 : decode cX11_hours 10 = .ok (.iconst (-1), 1) := by decide +kernel
theorem dX11_hours_11 : decode cX11_hours 11 = .ok (.ireturn, 1) := by decide +kernel
theorem dX11_hours_12 : decode cX11_hours 12 = .ok (.iload_n 1, 1) := by decide +kernel
theorem dX11_hours_13 : decode cX11_hours 13 = .ok (.ifCond .le 48, 3) := by decide +kernel
theorem dX11_hours_16 : decode cX11_hours 16 = .ok (.aload_n 0, 1) := by decide +kernel
theorem dX11_hours_17 : decode cX11_hours 17 = .ok (.getfield 57, 3) := by decide +kernel
theorem dX11_hours_20 : decode cX11_hours 20 = .ok (.aload_n 0, 1) := by decide +kernel
theorem dX11_hours_21 : decode cX11_hours 21 = .ok (.getfield 47, 3) := by decide +kernel
theorem dX11_hours_24 : decode cX11_hours 24 = .ok (.invokevirtual 194, 3) := by decide +kernel
theorem dX11_hours_27 : decode cX11_hours 27 = .ok (.aload_n 0, 1) := by decide +kernel
theorem dX11_hours_28 : decode cX11_hours 28 = .ok (.getfield 51, 3) := by decide +kernel
theorem dX11_hours_31 : decode cX11_hours 31 = .ok (.aload_n 0, 1) := by decide +kernel
theorem dX11_hours_32 : decode cX11_hours 32 = .ok (.getfield 47, 3) := by decide +kernel
theorem dX11_hours_35 : decode cX11_hours 35 = .ok (.invokevirtual 205, 3) := by decide +kernel
theorem dX11_hours_38 : decode cX11_hours 38 = .ok (.aload_n 0, 1) := by decide +kernel
theorem dX11_hours_39 : decode cX11_hours 39 = .ok (.iload_n 1, 1) := by decide +kernel
theorem dX11_hours_40 : decode cX11_hours 40 = .ok (.aload_n 0, 1) := by decide +kernel
theorem dX11_hours_41 : decode cX11_hours 41 = .ok (.getfield 86, 3) := by decide +kernel
theorem dX11_hours_44 : decode cX11_hours 44 = .ok (.getfield 208, 3) := by decide +kernel
theorem dX11_hours_47 : decode cX11_hours 47 = .ok (.invokevirtual 211, 3) := by decide +kernel
theorem dX11_hours_50 : decode cX11_hours 50 = .ok (.aload_n 0, 1) := by decide +kernel
theorem dX11_hours_51 : decode cX11_hours 51 = .ok (.getfield 47, 3) := by decide +kernel
theorem dX11_hours_54 : decode cX11_hours 54 = .ok (.aload_n 0, 1) := by decide +kernel
theorem dX11_hours_55 : decode cX11_hours 55 = .ok (.getfield 51, 3) := by decide +kernel
theorem dX11_hours_58 : decode cX11_hours 58 = .ok (.invokevirtual 205, 3) := by decide +kernel
theorem dX11_hours_61 : decode cX11_hours 61 = .ok (.aload_n 0, 1) := by decide +kernel
theorem dX11_hours_62 : decode cX11_hours 62 = .ok (.getfield 47, 3) := by decide +kernel
theorem dX11_hours_65 : decode cX11_hours 65 = .ok (.getfield 137, 3) := by decide +kernel
theorem dX11_hours_68 : decode cX11_hours 68 = .ok (.ireturn, 1) := by decide +kernel
theorem dX11_undo_0 : decode cX11_undo 0 = .ok (.aload_n 0, 1) := by decide +kernel
theorem dX11_undo_1 : decode cX11_undo 1 = .ok (.getfield 57, 3) := by decide +kernel
theorem dX11_undo_4 : decode cX11_undo 4 = .ok (.aload_n 0, 1) := by decide +kernel
theorem dX11_undo_5 : decode cX11_undo 5 = .ok (.getfield 47, 3) := by decide +kernel
theorem dX11_undo_8 : decode cX11_undo 8 = .ok (.invokevirtual 215, 3) := by decide +kernel
theorem dX11_undo_11 : decode cX11_undo 11 = .ok (.ireturn, 1) := by decide +kernel
theorem dX11_then_0 : decode cX11_then 0 = .ok (.aload_n 0, 1) := by decide +kernel
theorem dX11_then_1 : decode cX11_then 1 = .ok (.getfield 86, 3) := by decide +kernel
theorem dX11_then_4 : decode cX11_then 4 = .ok (.iload_n 1, 1) := by decide +kernel
theorem dX11_then_5 : decode cX11_then 5 = .ok (.iload_n 2, 1) := by decide +kernel
theorem dX11_then_6 : decode cX11_then 6 = .ok (.invokevirtual 126, 3) := by decide +kernel
theorem dX11_then_9 : decode cX11_then 9 = .ok (.istore 4, 2) := by decide +kernel
theorem dX11_then_11 : decode cX11_then 11 = .ok (.iload 4, 2) := by decide +kernel
theorem dX11_then_13 : decode cX11_then 13 = .ok (.ifCond .lt 17, 3) := by decide +kernel
theorem dX11_then_16 : decode cX11_then 16 = .ok (.iload 4, 2) := by decide +kernel
theorem dX11_then_18 : decode cX11_then 18 = .ok (.bipush 40, 2) := by decide +kernel
theorem dX11_then_20 : decode cX11_then 20 = .ok (.if_icmp .ge 10, 3) := by decide +kernel
theorem dX11_then_23 : decode cX11_then 23 = .ok (.iload_n 3, 1) := by decide +kernel
theorem dX11_then_24 : decode cX11_then 24 = .ok (.invokestatic 219, 3) := by decide +kernel
theorem dX11_then_27 : decode cX11_then 27 = .ok (.ifCond .ne 5, 3) := by decide +kernel
theorem dX11_then_30 : decode cX11_then 30 = .ok (.iconst (-1), 1) := by decide +kernel
theorem dX11_then_31 : decode cX11_then 31 = .ok (.ireturn, 1) := by decide +kernel
theorem dX11_then_32 : decode cX11_then 32 = .ok (.aload_n 0, 1) := by decide +kernel
theorem dX11_then_33 : decode cX11_then 33 = .ok (.getfield 51, 3) := by decide +kernel
theorem dX11_then_36 : decode cX11_then 36 = .ok (.aload_n 0, 1) := by decide +kernel
theorem dX11_then_37 : decode cX11_then 37 = .ok (.getfield 47, 3) := by decide +kernel
theorem dX11_then_40 : decode cX11_then 40 = .ok (.invokevirtual 205, 3) := by decide +kernel
theorem dX11_then_43 : decode cX11_then 43 = .ok (.aload_n 0, 1) := by decide +kernel
theorem dX11_then_44 : decode cX11_then 44 = .ok (.iload_n 3, 1) := by decide +kernel
theorem dX11_then_45 : decode cX11_then 45 = .ok (.aload_n 0, 1) := by decide +kernel
theorem dX11_then_46 : decode cX11_then 46 = .ok (.getfield 86, 3) := by decide +kernel
theorem dX11_then_49 : decode cX11_then 49 = .ok (.getfield 208, 3) := by decide +kernel
theorem dX11_then_52 : decode cX11_then 52 = .ok (.invokevirtual 211, 3) := by decide +kernel
theorem dX11_then_55 : decode cX11_then 55 = .ok (.aload_n 0, 1) := by decide +kernel
theorem dX11_then_56 : decode cX11_then 56 = .ok (.getfield 51, 3) := by decide +kernel
theorem dX11_then_59 : decode cX11_then 59 = .ok (.getfield 130, 3) := by decide +kernel
theorem dX11_then_62 : decode cX11_then 62 = .ok (.iload 4, 2) := by decide +kernel
theorem dX11_then_64 : decode cX11_then 64 = .ok (.iaload, 1) := by decide +kernel
theorem dX11_then_65 : decode cX11_then 65 = .ok (.ireturn, 1) := by decide +kernel
theorem dX11_all_0 : decode cX11_all 0 = .ok (.iload_n 1, 1) := by decide +kernel
theorem dX11_all_1 : decode cX11_all 1 = .ok (.invokestatic 219, 3) := by decide +kernel
theorem dX11_all_4 : decode cX11_all 4 = .ok (.ifCond .eq 27, 3) := by decide +kernel
theorem dX11_all_7 : decode cX11_all 7 = .ok (.iload_n 2, 1) := by decide +kernel
theorem dX11_all_8 : decode cX11_all 8 = .ok (.ifCond .lt 23, 3) := by decide +kernel
theorem dX11_all_11 : decode cX11_all 11 = .ok (.iload_n 2, 1) := by decide +kernel
theorem dX11_all_12 : decode cX11_all 12 = .ok (.iconst 2, 1) := by decide +kernel
theorem dX11_all_13 : decode cX11_all 13 = .ok (.if_icmp .gt 18, 3) := by decide +kernel
theorem dX11_all_16 : decode cX11_all 16 = .ok (.iload_n 2, 1) := by decide +kernel
theorem dX11_all_17 : decode cX11_all 17 = .ok (.ifCond .le 16, 3) := by decide +kernel
theorem dX11_all_20 : decode cX11_all 20 = .ok (.aload_n 0, 1) := by decide +kernel
theorem dX11_all_21 : decode cX11_all 21 = .ok (.getfield 86, 3) := by decide +kernel
theorem dX11_all_24 : decode cX11_all 24 = .ok (.iload_n 3, 1) := by decide +kernel
theorem dX11_all_25 : decode cX11_all 25 = .ok (.invokevirtual 148, 3) := by decide +kernel
theorem dX11_all_28 : decode cX11_all 28 = .ok (.ifCond .ne 5, 3) := by decide +kernel
theorem dX11_all_31 : decode cX11_all 31 = .ok (.iconst (-1), 1) := by decide +kernel
theorem dX11_all_32 : decode cX11_all 32 = .ok (.ireturn, 1) := by decide +kernel
theorem dX11_all_33 : decode cX11_all 33 = .ok (.aload_n 0, 1) := by decide +kernel
theorem dX11_all_34 : decode cX11_all 34 = .ok (.getfield 51, 3) := by decide +kernel
theorem dX11_all_37 : decode cX11_all 37 = .ok (.aload_n 0, 1) := by decide +kernel
theorem dX11_all_38 : decode cX11_all 38 = .ok (.getfield 47, 3) := by decide +kernel
theorem dX11_all_41 : decode cX11_all 41 = .ok (.invokevirtual 205, 3) := by decide +kernel
theorem dX11_all_44 : decode cX11_all 44 = .ok (.aload_n 0, 1) := by decide +kernel
theorem dX11_all_45 : decode cX11_all 45 = .ok (.iload_n 1, 1) := by decide +kernel
theorem dX11_all_46 : decode cX11_all 46 = .ok (.aload_n 0, 1) := by decide +kernel
theorem dX11_all_47 : decode cX11_all 47 = .ok (.getfield 86, 3) := by decide +kernel
theorem dX11_all_50 : decode cX11_all 50 = .ok (.getfield 208, 3) := by decide +kernel
theorem dX11_all_53 : decode cX11_all 53 = .ok (.invokevirtual 211, 3) := by decide +kernel
theorem dX11_all_56 : decode cX11_all 56 = .ok (.iload_n 2, 1) := by decide +kernel
theorem dX11_all_57 : decode cX11_all 57 = .ok (.ifCond .ne 11, 3) := by decide +kernel
theorem dX11_all_60 : decode cX11_all 60 = .ok (.aload_n 0, 1) := by decide +kernel
theorem dX11_all_61 : decode cX11_all 61 = .ok (.getfield 51, 3) := by decide +kernel
theorem dX11_all_64 : decode cX11_all 64 = .ok (.invokevirtual 222, 3) := by decide +kernel
theorem dX11_all_67 : decode cX11_all 67 = .ok (.ireturn, 1) := by decide +kernel
theorem dX11_all_68 : decode cX11_all 68 = .ok (.iload_n 2, 1) := by decide +kernel
theorem dX11_all_69 : decode cX11_all 69 = .ok (.iconst 1, 1) := by decide +kernel
theorem dX11_all_70 : decode cX11_all 70 = .ok (.if_icmp .ne 14, 3) := by decide +kernel
theorem dX11_all_73 : decode cX11_all 73 = .ok (.aload_n 0, 1) := by decide +kernel
theorem dX11_all_74 : decode cX11_all 74 = .ok (.getfield 51, 3) := by decide +kernel
theorem dX11_all_77 : decode cX11_all 77 = .ok (.iload_n 3, 1) := by decide +kernel
theorem dX11_all_78 : decode cX11_all 78 = .ok (.invokevirtual 163, 3) := by decide +kernel
theorem dX11_all_81 : decode cX11_all 81 = .ok (.goto 11, 3) := by decide +kernel
theorem dX11_all_84 : decode cX11_all 84 = .ok (.aload_n 0, 1) := by decide +kernel
theorem dX11_all_85 : decode cX11_all 85 = .ok (.getfield 51, 3) := by decide +kernel
theorem dX11_all_88 : decode cX11_all 88 = .ok (.iload_n 3, 1) := by decide +kernel
theorem dX11_all_89 : decode cX11_all 89 = .ok (.invokevirtual 226, 3) := by decide +kernel
theorem dX11_all_92 : decode cX11_all 92 = .ok (.ireturn, 1) := by decide +kernel
theorem dX11_thickest_0 : decode cX11_thickest 0 = .ok (.iload_n 1, 1) := by decide +kernel
theorem dX11_thickest_1 : decode cX11_thickest 1 = .ok (.invokestatic 219, 3) := by decide +kernel
theorem dX11_thickest_4 : decode cX11_thickest 4 = .ok (.ifCond .eq 12, 3) := by decide +kernel
theorem dX11_thickest_7 : decode cX11_thickest 7 = .ok (.iload_n 2, 1) := by decide +kernel
theorem dX11_thickest_8 : decode cX11_thickest 8 = .ok (.ifCond .lt 8, 3) := by decide +kernel
theorem dX11_thickest_11 : decode cX11_thickest 11 = .ok (.iload_n 2, 1) := by decide +kernel
theorem dX11_thickest_12 : decode cX11_thickest 12 = .ok (.iconst 1, 1) := by decide +kernel
theorem dX11_thickest_13 : decode cX11_thickest 13 = .ok (.if_icmp .le 5, 3) := by decide +kernel
theorem dX11_thickest_16 : decode cX11_thickest 16 = .ok (.iconst (-1), 1) := by decide +kernel
theorem dX11_thickest_17 : decode cX11_thickest 17 = .ok (.ireturn, 1) := by decide +kernel
theorem dX11_thickest_18 : decode cX11_thickest 18 = .ok (.aload_n 0, 1) := by decide +kernel
theorem dX11_thickest_19 : decode cX11_thickest 19 = .ok (.getfield 51, 3) := by decide +kernel
theorem dX11_thickest_22 : decode cX11_thickest 22 = .ok (.aload_n 0, 1) := by decide +kernel
theorem dX11_thickest_23 : decode cX11_thickest 23 = .ok (.getfield 47, 3) := by decide +kernel
theorem dX11_thickest_26 : decode cX11_thickest 26 = .ok (.invokevirtual 205, 3) := by decide +kernel
theorem dX11_thickest_29 : decode cX11_thickest 29 = .ok (.aload_n 0, 1) := by decide +kernel
theorem dX11_thickest_30 : decode cX11_thickest 30 = .ok (.iload_n 1, 1) := by decide +kernel
