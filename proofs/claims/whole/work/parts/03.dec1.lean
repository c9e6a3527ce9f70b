theorem dX0_init_0 : decode cX0_init 0 = .ok (.aload_n 0, 1) := by decide +kernel
theorem dX0_init_1 : decode cX0_init 1 = .ok (.invokespecial 3, 3) := by decide +kernel
theorem dX0_init_4 : decode cX0_init 4 = .ok (.aload_n 0, 1) := by decide +kernel
theorem dX0_init_5 : decode cX0_init 5 = .ok (.iconst 4, 1) := by decide +kernel
theorem dX0_init_6 : decode cX0_init 6 = .ok (.newarray .long, 2) := by decide +kernel
theorem dX0_init_8 : decode cX0_init 8 = .ok (.putfield 9, 3) := by decide +kernel
theorem dX0_init_11 : decode cX0_init 11 = .ok (.aload_n 0, 1) := by decide +kernel
theorem dX0_init_12 : decode cX0_init 12 = .ok (.bipush 6, 2) := by decide +kernel
theorem dX0_init_14 : decode cX0_init 14 = .ok (.newarray .long, 2) := by decide +kernel
theorem dX0_init_16 : decode cX0_init 16 = .ok (.putfield 15, 3) := by decide +kernel
theorem dX0_init_19 : decode cX0_init 19 = .ok (.return_, 1) := by decide +kernel
theorem dX0_fillPlan_0 : decode cX0_fillPlan 0 = .ok (.aload_n 1, 1) := by decide +kernel
theorem dX0_fillPlan_1 : decode cX0_fillPlan 1 = .ok (.invokevirtual 18, 3) := by decide +kernel
theorem dX0_fillPlan_4 : decode cX0_fillPlan 4 = .ok (.aload_n 0, 1) := by decide +kernel
theorem dX0_fillPlan_5 : decode cX0_fillPlan 5 = .ok (.iconst (-1), 1) := by decide +kernel
theorem dX0_fillPlan_6 : decode cX0_fillPlan 6 = .ok (.putfield 23, 3) := by decide +kernel
theorem dX0_fillPlan_9 : decode cX0_fillPlan 9 = .ok (.aload_n 0, 1) := by decide +kernel
theorem dX0_fillPlan_10 : decode cX0_fillPlan 10 = .ok (.iconst (-1), 1) := by decide +kernel
theorem dX0_fillPlan_11 : decode cX0_fillPlan 11 = .ok (.putfield 27, 3) := by decide +kernel
theorem dX0_fillPlan_14 : decode cX0_fillPlan 14 = .ok (.aload_n 0, 1) := by decide +kernel
theorem dX0_fillPlan_15 : decode cX0_fillPlan 15 = .ok (.iconst 0, 1) := by decide +kernel
theorem dX0_fillPlan_16 : decode cX0_fillPlan 16 = .ok (.putfield 30, 3) := by decide +kernel
theorem dX0_fillPlan_19 : decode cX0_fillPlan 19 = .ok (.iconst 0, 1) := by decide +kernel
theorem dX0_fillPlan_20 : decode cX0_fillPlan 20 = .ok (.istore_n 3, 1) := by decide +kernel
theorem dX0_fillPlan_21 : decode cX0_fillPlan 21 = .ok (.iload_n 3, 1) := by decide +kernel
theorem dX0_fillPlan_22 : decode cX0_fillPlan 22 = .ok (.sipush 400, 3) := by decide +kernel
theorem dX0_fillPlan_25 : decode cX0_fillPlan 25 = .ok (.if_icmp .ge 48, 3) := by decide +kernel
theorem dX0_fillPlan_28 : decode cX0_fillPlan 28 = .ok (.aload_n 2, 1) := by decide +kernel
theorem dX0_fillPlan_29 : decode cX0_fillPlan 29 = .ok (.getfield 33, 3) := by decide +kernel
theorem dX0_fillPlan_32 : decode cX0_fillPlan 32 = .ok (.ifCond .ne 41, 3) := by decide +kernel
theorem dX0_fillPlan_35 : decode cX0_fillPlan 35 = .ok (.aload_n 2, 1) := by decide +kernel
theorem dX0_fillPlan_36 : decode cX0_fillPlan 36 = .ok (.aload_n 0, 1) := by decide +kernel
theorem dX0_fillPlan_37 : decode cX0_fillPlan 37 = .ok (.getfield 30, 3) := by decide +kernel
theorem dX0_fillPlan_40 : decode cX0_fillPlan 40 = .ok (.invokevirtual 38, 3) := by decide +kernel
theorem dX0_fillPlan_43 : decode cX0_fillPlan 43 = .ok (.bipush 34, 2) := by decide +kernel
theorem dX0_fillPlan_45 : decode cX0_fillPlan 45 = .ok (.if_icmp .eq 28, 3) := by decide +kernel
theorem dX0_fillPlan_48 : decode cX0_fillPlan 48 = .ok (.aload_n 0, 1) := by decide +kernel
theorem dX0_fillPlan_49 : decode cX0_fillPlan 49 = .ok (.aload_n 1, 1) := by decide +kernel
theorem dX0_fillPlan_50 : decode cX0_fillPlan 50 = .ok (.aload_n 2, 1) := by decide +kernel
theorem dX0_fillPlan_51 : decode cX0_fillPlan 51 = .ok (.aload_n 2, 1) := by decide +kernel
theorem dX0_fillPlan_52 : decode cX0_fillPlan 52 = .ok (.aload_n 0, 1) := by decide +kernel
theorem dX0_fillPlan_53 : decode cX0_fillPlan 53 = .ok (.getfield 30, 3) := by decide +kernel
theorem dX0_fillPlan_56 : decode cX0_fillPlan 56 = .ok (.invokevirtual 38, 3) := by decide +kernel
theorem dX0_fillPlan_59 : decode cX0_fillPlan 59 = .ok (.invokevirtual 42, 3) := by decide +kernel
theorem dX0_fillPlan_62 : decode cX0_fillPlan 62 = .ok (.aload_n 0, 1) := by decide +kernel
theorem dX0_fillPlan_63 : decode cX0_fillPlan 63 = .ok (.aload_n 2, 1) := by decide +kernel
theorem dX0_fillPlan_64 : decode cX0_fillPlan 64 = .ok (.invokevirtual 46, 3) := by decide +kernel
theorem dX0_fillPlan_67 : decode cX0_fillPlan 67 = .ok (.iinc 3 1, 3) := by decide +kernel
theorem dX0_fillPlan_70 : decode cX0_fillPlan 70 = .ok (.goto (-49), 3) := by decide +kernel
theorem dX0_fillPlan_73 : decode cX0_fillPlan 73 = .ok (.aload_n 1, 1) := by decide +kernel
theorem dX0_fillPlan_74 : decode cX0_fillPlan 74 = .ok (.invokevirtual 50, 3) := by decide +kernel
theorem dX0_fillPlan_77 : decode cX0_fillPlan 77 = .ok (.ifCond .eq 25, 3) := by decide +kernel
theorem dX0_fillPlan_80 : decode cX0_fillPlan 80 = .ok (.aload_n 0, 1) := by decide +kernel
theorem dX0_fillPlan_81 : decode cX0_fillPlan 81 = .ok (.getfield 23, 3) := by decide +kernel
theorem dX0_fillPlan_84 : decode cX0_fillPlan 84 = .ok (.aload_n 1, 1) := by decide +kernel
theorem dX0_fillPlan_85 : decode cX0_fillPlan 85 = .ok (.getfield 54, 3) := by decide +kernel
theorem dX0_fillPlan_88 : decode cX0_fillPlan 88 = .ok (.if_icmp .ge 14, 3) := by decide +kernel
theorem dX0_fillPlan_91 : decode cX0_fillPlan 91 = .ok (.aload_n 0, 1) := by decide +kernel
theorem dX0_fillPlan_92 : decode cX0_fillPlan 92 = .ok (.getfield 27, 3) := by decide +kernel
theorem dX0_fillPlan_95 : decode cX0_fillPlan 95 = .ok (.aload_n 1, 1) := by decide +kernel
theorem dX0_fillPlan_96 : decode cX0_fillPlan 96 = .ok (.getfield 57, 3) := by decide +kernel
theorem dX0_fillPlan_99 : decode cX0_fillPlan 99 = .ok (.if_icmp .lt 13, 3) := by decide +kernel
theorem dX0_fillPlan_102 : decode cX0_fillPlan 102 = .ok (.aload_n 2, 1) := by decide +kernel
theorem dX0_fillPlan_103 : decode cX0_fillPlan 103 = .ok (.bipush 6, 2) := by decide +kernel
theorem dX0_fillPlan_105 : decode cX0_fillPlan 105 = .ok (.aload_n 2, 1) := by decide +kernel
theorem dX0_fillPlan_106 : decode cX0_fillPlan 106 = .ok (.getfield 60, 3) := by decide +kernel
theorem dX0_fillPlan_109 : decode cX0_fillPlan 109 = .ok (.invokevirtual 63, 3) := by decide +kernel
theorem dX0_fillPlan_112 : decode cX0_fillPlan 112 = .ok (.return_, 1) := by decide +kernel
theorem dX0_skipTell_0 : decode cX0_skipTell 0 = .ok (.iconst 0, 1) := by decide +kernel
theorem dX0_skipTell_1 : decode cX0_skipTell 1 = .ok (.istore_n 2, 1) := by decide +kernel
theorem dX0_skipTell_2 : decode cX0_skipTell 2 = .ok (.iload_n 2, 1) := by decide +kernel
theorem dX0_skipTell_3 : decode cX0_skipTell 3 = .ok (.sipush 400, 3) := by decide +kernel
theorem dX0_skipTell_6 : decode cX0_skipTell 6 = .ok (.if_icmp .ge 45, 3) := by decide +kernel
theorem dX0_skipTell_9 : decode cX0_skipTell 9 = .ok (.aload_n 1, 1) := by decide +kernel
theorem dX0_skipTell_10 : decode cX0_skipTell 10 = .ok (.aload_n 0, 1) := by decide +kernel
theorem dX0_skipTell_11 : decode cX0_skipTell 11 = .ok (.getfield 30, 3) := by decide +kernel
theorem dX0_skipTell_14 : decode cX0_skipTell 14 = .ok (.invokevirtual 38, 3) := by decide +kernel
theorem dX0_skipTell_17 : decode cX0_skipTell 17 = .ok (.bipush 34, 2) := by decide +kernel
theorem dX0_skipTell_19 : decode cX0_skipTell 19 = .ok (.if_icmp .ge 32, 3) := by decide +kernel
theorem dX0_skipTell_22 : decode cX0_skipTell 22 = .ok (.aload_n 1, 1) := by decide +kernel
theorem dX0_skipTell_23 : decode cX0_skipTell 23 = .ok (.aload_n 0, 1) := by decide +kernel
theorem dX0_skipTell_24 : decode cX0_skipTell 24 = .ok (.getfield 30, 3) := by decide +kernel
theorem dX0_skipTell_27 : decode cX0_skipTell 27 = .ok (.invokevirtual 38, 3) := by decide +kernel
theorem dX0_skipTell_30 : decode cX0_skipTell 30 = .ok (.bipush 25, 2) := by decide +kernel
theorem dX0_skipTell_32 : decode cX0_skipTell 32 = .ok (.if_icmp .eq 19, 3) := by decide +kernel
theorem dX0_skipTell_35 : decode cX0_skipTell 35 = .ok (.aload_n 0, 1) := by decide +kernel
theorem dX0_skipTell_36 : decode cX0_skipTell 36 = .ok (.dup, 1) := by decide +kernel
theorem dX0_skipTell_37 : decode cX0_skipTell 37 = .ok (.getfield 30, 3) := by decide +kernel
theorem dX0_skipTell_40 : decode cX0_skipTell 40 = .ok (.iconst 1, 1) := by decide +kernel
theorem dX0_skipTell_41 : decode cX0_skipTell 41 = .ok (.iadd, 1) := by decide +kernel
theorem dX0_skipTell_42 : decode cX0_skipTell 42 = .ok (.putfield 30, 3) := by decide +kernel
theorem dX0_skipTell_45 : decode cX0_skipTell 45 = .ok (.iinc 2 1, 3) := by decide +kernel
theorem dX0_skipTell_48 : decode cX0_skipTell 48 = .ok (.goto (-46), 3) := by decide +kernel
theorem dX0_skipTell_51 : decode cX0_skipTell 51 = .ok (.aload_n 0, 1) := by decide +kernel
theorem dX0_skipTell_52 : decode cX0_skipTell 52 = .ok (.dup, 1) := by decide +kernel
theorem dX0_skipTell_53 : decode cX0_skipTell 53 = .ok (.getfield 30, 3) := by decide +kernel
theorem dX0_skipTell_56 : decode cX0_skipTell 56 = .ok (.iconst 1, 1) := by decide +kernel
theorem dX0_skipTell_57 : decode cX0_skipTell 57 = .ok (.iadd, 1) := by decide +kernel
theorem dX0_skipTell_58 : decode cX0_skipTell 58 = .ok (.putfield 30, 3) := by decide +kernel
theorem dX0_skipTell_61 : decode cX0_skipTell 61 = .ok (.return_, 1) := by decide +kernel
theorem dX0_fillTell_0 : decode cX0_fillTell 0 = .ok (.iload_n 3, 1) := by decide +kernel
theorem dX0_fillTell_1 : decode cX0_fillTell 1 = .ok (.tableswitch 159 0 10 #[59, 68, 77, 86, 159, 159, 159, 159, 95, 116, 137], 59) := by decide +kernel
theorem dX0_fillTell_60 : decode cX0_fillTell 60 = .ok (.aload_n 0, 1) := by decide +kernel
theorem dX0_fillTell_61 : decode cX0_fillTell 61 = .ok (.aload_n 1, 1) := by decide +kernel
theorem dX0_fillTell_62 : decode cX0_fillTell 62 = .ok (.aload_n 2, 1) := by decide +kernel
theorem dX0_fillTell_63 : decode cX0_fillTell 63 = .ok (.invokevirtual 67, 3) := by decide +kernel
theorem dX0_fillTell_66 : decode cX0_fillTell 66 = .ok (.goto 111, 3) := by decide +kernel
theorem dX0_fillTell_69 : decode cX0_fillTell 69 = .ok (.aload_n 0, 1) := by decide +kernel
theorem dX0_fillTell_70 : decode cX0_fillTell 70 = .ok (.aload_n 1, 1) := by decide +kernel
theorem dX0_fillTell_71 : decode cX0_fillTell 71 = .ok (.aload_n 2, 1) := by decide +kernel
theorem dX0_fillTell_72 : decode cX0_fillTell 72 = .ok (.invokevirtual 71, 3) := by decide +kernel
theorem dX0_fillTell_75 : decode cX0_fillTell 75 = .ok (.goto 102, 3) := by decide +kernel
theorem dX0_fillTell_78 : decode cX0_fillTell 78 = .ok (.aload_n 0, 1) := by decide +kernel
theorem dX0_fillTell_79 : decode cX0_fillTell 79 = .ok (.aload_n 1, 1) := by decide +kernel
theorem dX0_fillTell_80 : decode cX0_fillTell 80 = .ok (.aload_n 2, 1) := by decide +kernel
theorem dX0_fillTell_81 : decode cX0_fillTell 81 = .ok (.invokevirtual 74, 3) := by decide +kernel
theorem dX0_fillTell_84 : decode cX0_fillTell 84 = .ok (.goto 93, 3) := by decide +kernel
theorem dX0_fillTell_87 : decode cX0_fillTell 87 = .ok (.aload_n 0, 1) := by decide +kernel
theorem dX0_fillTell_88 : decode cX0_fillTell 88 = .ok (.aload_n 1, 1) := by decide +kernel
theorem dX0_fillTell_89 : decode cX0_fillTell 89 = .ok (.aload_n 2, 1) := by decide +kernel
theorem dX0_fillTell_90 : decode cX0_fillTell 90 = .ok (.invokevirtual 77, 3) := by decide +kernel
theorem dX0_fillTell_93 : decode cX0_fillTell 93 = .ok (.goto 84, 3) := by decide +kernel
theorem dX0_fillTell_96 : decode cX0_fillTell 96 = .ok (.aload_n 1, 1) := by decide +kernel
theorem dX0_fillTell_97 : decode cX0_fillTell 97 = .ok (.aload_n 0, 1) := by decide +kernel
theorem dX0_fillTell_98 : decode cX0_fillTell 98 = .ok (.aload_n 2, 1) := by decide +kernel
theorem dX0_fillTell_99 : decode cX0_fillTell 99 = .ok (.aload_n 0, 1) := by decide +kernel
theorem dX0_fillTell_100 : decode cX0_fillTell 100 = .ok (.getfield 30, 3) := by decide +kernel
theorem dX0_fillTell_103 : decode cX0_fillTell 103 = .ok (.iconst 1, 1) := by decide +kernel
theorem dX0_fillTell_104 : decode cX0_fillTell 104 = .ok (.iadd, 1) := by decide +kernel
theorem dX0_fillTell_105 : decode cX0_fillTell 105 = .ok (.iconst 0, 1) := by decide +kernel
theorem dX0_fillTell_106 : decode cX0_fillTell 106 = .ok (.bipush 100, 2) := by decide +kernel
theorem dX0_fillTell_108 : decode cX0_fillTell 108 = .ok (.invokevirtual 80, 3) := by decide +kernel
theorem dX0_fillTell_111 : decode cX0_fillTell 111 = .ok (.putfield 84, 3) := by decide +kernel
theorem dX0_fillTell_114 : decode cX0_fillTell 114 = .ok (.goto 63, 3) := by decide +kernel
theorem dX0_fillTell_117 : decode cX0_fillTell 117 = .ok (.aload_n 1, 1) := by decide +kernel
theorem dX0_fillTell_118 : decode cX0_fillTell 118 = .ok (.aload_n 0, 1) := by decide +kernel
theorem dX0_fillTell_119 : decode cX0_fillTell 119 = .ok (.aload_n 2, 1) := by decide +kernel
theorem dX0_fillTell_120 : decode cX0_fillTell 120 = .ok (.aload_n 0, 1) := by decide +kernel
theorem dX0_fillTell_121 : decode cX0_fillTell 121 = .ok (.getfield 30, 3) := by decide +kernel
theorem dX0_fillTell_124 : decode cX0_fillTell 124 = .ok (.iconst 1, 1) := by decide +kernel
theorem dX0_fillTell_125 : decode cX0_fillTell 125 = .ok (.iadd, 1) := by decide +kernel
theorem dX0_fillTell_126 : decode cX0_fillTell 126 = .ok (.iconst 0, 1) := by decide +kernel
theorem dX0_fillTell_127 : decode cX0_fillTell 127 = .ok (.bipush 99, 2) := by decide +kernel
theorem dX0_fillTell_129 : decode cX0_fillTell 129 = .ok (.invokevirtual 80, 3) := by decide +kernel
theorem dX0_fillTell_132 : decode cX0_fillTell 132 = .ok (.putfield 87, 3) := by decide +kernel
theorem dX0_fillTell_135 : decode cX0_fillTell 135 = .ok (.goto 42, 3) := by decide +kernel
theorem dX0_fillTell_138 : decode cX0_fillTell 138 = .ok (.aload_n 1, 1) := by decide +kernel
theorem dX0_fillTell_139 : decode cX0_fillTell 139 = .ok (.aload_n 0, 1) := by decide +kernel
theorem dX0_fillTell_140 : decode cX0_fillTell 140 = .ok (.aload_n 2, 1) := by decide +kernel
theorem dX0_fillTell_141 : decode cX0_fillTell 141 = .ok (.aload_n 0, 1) := by decide +kernel
theorem dX0_fillTell_142 : decode cX0_fillTell 142 = .ok (.getfield 30, 3) := by decide +kernel
theorem dX0_fillTell_145 : decode cX0_fillTell 145 = .ok (.iconst 1, 1) := by decide +kernel
theorem dX0_fillTell_146 : decode cX0_fillTell 146 = .ok (.iadd, 1) := by decide +kernel
theorem dX0_fillTell_147 : decode cX0_fillTell 147 = .ok (.iconst 0, 1) := by decide +kernel
theorem dX0_fillTell_148 : decode cX0_fillTell 148 = .ok (.sipush 9999, 3) := by decide +kernel
theorem dX0_fillTell_151 : decode cX0_fillTell 151 = .ok (.invokevirtual 80, 3) := by decide +kernel
theorem dX0_fillTell_154 : decode cX0_fillTell 154 = .ok (.putfield 90, 3) := by decide +kernel
theorem dX0_fillTell_157 : decode cX0_fillTell 157 = .ok (.goto 20, 3) := by decide +kernel
theorem dX0_fillTell_160 : decode cX0_fillTell 160 = .ok (.aload_n 1, 1) := by decide +kernel
theorem dX0_fillTell_161 : decode cX0_fillTell 161 = .ok (.getfield 93, 3) := by decide +kernel
theorem dX0_fillTell_164 : decode cX0_fillTell 164 = .ok (.aload_n 2, 1) := by decide +kernel
theorem dX0_fillTell_165 : decode cX0_fillTell 165 = .ok (.aload_n 0, 1) := by decide +kernel
theorem dX0_fillTell_166 : decode cX0_fillTell 166 = .ok (.getfield 30, 3) := by decide +kernel
theorem dX0_fillTell_169 : decode cX0_fillTell 169 = .ok (.iconst 2, 1) := by decide +kernel
theorem dX0_fillTell_170 : decode cX0_fillTell 170 = .ok (.iadd, 1) := by decide +kernel
theorem dX0_fillTell_171 : decode cX0_fillTell 171 = .ok (.iload_n 3, 1) := by decide +kernel
theorem dX0_fillTell_172 : decode cX0_fillTell 172 = .ok (.iconst 4, 1) := by decide +kernel
theorem dX0_fillTell_173 : decode cX0_fillTell 173 = .ok (.isub, 1) := by decide +kernel
theorem dX0_fillTell_174 : decode cX0_fillTell 174 = .ok (.invokevirtual 97, 3) := by decide +kernel
theorem dX0_fillTell_177 : decode cX0_fillTell 177 = .ok (.return_, 1) := by decide +kernel
theorem dX0_fillRow_0 : decode cX0_fillRow 0 = .ok (.aload_n 2, 1) := by decide +kernel
theorem dX0_fillRow_1 : decode cX0_fillRow 1 = .ok (.aload_n 0, 1) := by decide +kernel
theorem dX0_fillRow_2 : decode cX0_fillRow 2 = .ok (.getfield 30, 3) := by decide +kernel
theorem dX0_fillRow_5 : decode cX0_fillRow 5 = .ok (.iconst 1, 1) := by decide +kernel
theorem dX0_fillRow_6 : decode cX0_fillRow 6 = .ok (.iadd, 1) := by decide +kernel
theorem dX0_fillRow_7 : decode cX0_fillRow 7 = .ok (.invokevirtual 103, 3) := by decide +kernel
theorem dX0_fillRow_10 : decode cX0_fillRow 10 = .ok (.lstore_n 3, 1) := by decide +kernel
theorem dX0_fillRow_11 : decode cX0_fillRow 11 = .ok (.lload_n 3, 1) := by decide +kernel
theorem dX0_fillRow_12 : decode cX0_fillRow 12 = .ok (.invokestatic 107, 3) := by decide +kernel
theorem dX0_fillRow_15 : decode cX0_fillRow 15 = .ok (.istore 5, 2) := by decide +kernel
theorem dX0_fillRow_17 : decode cX0_fillRow 17 = .ok (.aload_n 1, 1) := by decide +kernel
theorem dX0_fillRow_18 : decode cX0_fillRow 18 = .ok (.getfield 57, 3) := by decide +kernel
theorem dX0_fillRow_21 : decode cX0_fillRow 21 = .ok (.ifCond .le 28, 3) := by decide +kernel
theorem dX0_fillRow_24 : decode cX0_fillRow 24 = .ok (.iload 5, 2) := by decide +kernel
theorem dX0_fillRow_26 : decode cX0_fillRow 26 = .ok (.aload_n 1, 1) := by decide +kernel
theorem dX0_fillRow_27 : decode cX0_fillRow 27 = .ok (.getfield 54, 3) := by decide +kernel
theorem dX0_fillRow_30 : decode cX0_fillRow 30 = .ok (.if_icmp .eq 19, 3) := by decide +kernel
theorem dX0_fillRow_33 : decode cX0_fillRow 33 = .ok (.aload_n 2, 1) := by decide +kernel
theorem dX0_fillRow_34 : decode cX0_fillRow 34 = .ok (.bipush 6, 2) := by decide +kernel
theorem dX0_fillRow_36 : decode cX0_fillRow 36 = .ok (.aload_n 2, 1) := by decide +kernel
theorem dX0_fillRow_37 : decode cX0_fillRow 37 = .ok (.aload_n 0, 1) := by decide +kernel
theorem dX0_fillRow_38 : decode cX0_fillRow 38 = .ok (.getfield 30, 3) := by decide +kernel
theorem dX0_fillRow_41 : decode cX0_fillRow 41 = .ok (.iconst 1, 1) := by decide +kernel
theorem dX0_fillRow_42 : decode cX0_fillRow 42 = .ok (.iadd, 1) := by decide +kernel
theorem dX0_fillRow_43 : decode cX0_fillRow 43 = .ok (.invokevirtual 111, 3) := by decide +kernel
theorem dX0_fillRow_46 : decode cX0_fillRow 46 = .ok (.invokevirtual 63, 3) := by decide +kernel
theorem dX0_fillRow_49 : decode cX0_fillRow 49 = .ok (.iload 5, 2) := by decide +kernel
theorem dX0_fillRow_51 : decode cX0_fillRow 51 = .ok (.iconst 1, 1) := by decide +kernel
theorem dX0_fillRow_52 : decode cX0_fillRow 52 = .ok (.isub, 1) := by decide +kernel
theorem dX0_fillRow_53 : decode cX0_fillRow 53 = .ok (.istore 6, 2) := by decide +kernel
theorem dX0_fillRow_55 : decode cX0_fillRow 55 = .ok (.iload 6, 2) := by decide +kernel
theorem dX0_fillRow_57 : decode cX0_fillRow 57 = .ok (.ifCond .lt 58, 3) := by decide +kernel
theorem dX0_fillRow_60 : decode cX0_fillRow 60 = .ok (.lload_n 3, 1) := by decide +kernel
theorem dX0_fillRow_61 : decode cX0_fillRow 61 = .ok (.ldc2_w 114, 3) := by decide +kernel
theorem dX0_fillRow_64 : decode cX0_fillRow 64 = .ok (.land, 1) := by decide +kernel
theorem dX0_fillRow_65 : decode cX0_fillRow 65 = .ok (.l2i, 1) := by decide +kernel
theorem dX0_fillRow_66 : decode cX0_fillRow 66 = .ok (.invokestatic 116, 3) := by decide +kernel
theorem dX0_fillRow_69 : decode cX0_fillRow 69 = .ok (.istore 7, 2) := by decide +kernel
theorem dX0_fillRow_71 : decode cX0_fillRow 71 = .ok (.lload_n 3, 1) := by decide +kernel
theorem dX0_fillRow_72 : decode cX0_fillRow 72 = .ok (.iconst 5, 1) := by decide +kernel
theorem dX0_fillRow_73 : decode cX0_fillRow 73 = .ok (.lushr, 1) := by decide +kernel
theorem dX0_fillRow_74 : decode cX0_fillRow 74 = .ok (.lstore_n 3, 1) := by decide +kernel
theorem dX0_fillRow_75 : decode cX0_fillRow 75 = .ok (.iload 7, 2) := by decide +kernel
theorem dX0_fillRow_77 : decode cX0_fillRow 77 = .ok (.iconst (-1), 1) := by decide +kernel
theorem dX0_fillRow_78 : decode cX0_fillRow 78 = .ok (.if_icmp .ne 19, 3) := by decide +kernel
theorem dX0_fillRow_81 : decode cX0_fillRow 81 = .ok (.aload_n 2, 1) := by decide +kernel
theorem dX0_fillRow_82 : decode cX0_fillRow 82 = .ok (.bipush 6, 2) := by decide +kernel
theorem dX0_fillRow_84 : decode cX0_fillRow 84 = .ok (.aload_n 2, 1) := by decide +kernel
theorem dX0_fillRow_85 : decode cX0_fillRow 85 = .ok (.aload_n 0, 1) := by decide +kernel
theorem dX0_fillRow_86 : decode cX0_fillRow 86 = .ok (.getfield 30, 3) := by decide +kernel
theorem dX0_fillRow_89 : decode cX0_fillRow 89 = .ok (.iconst 1, 1) := by decide +kernel
theorem dX0_fillRow_90 : decode cX0_fillRow 90 = .ok (.iadd, 1) := by decide +kernel
theorem dX0_fillRow_91 : decode cX0_fillRow 91 = .ok (.invokevirtual 111, 3) := by decide +kernel
theorem dX0_fillRow_94 : decode cX0_fillRow 94 = .ok (.invokevirtual 63, 3) := by decide +kernel
theorem dX0_fillRow_97 : decode cX0_fillRow 97 = .ok (.aload_n 1, 1) := by decide +kernel
theorem dX0_fillRow_98 : decode cX0_fillRow 98 = .ok (.iload 6, 2) := by decide +kernel
theorem dX0_fillRow_100 : decode cX0_fillRow 100 = .ok (.aload_n 1, 1) := by decide +kernel
theorem dX0_fillRow_101 : decode cX0_fillRow 101 = .ok (.getfield 57, 3) := by decide +kernel
theorem dX0_fillRow_104 : decode cX0_fillRow 104 = .ok (.iload 7, 2) := by decide +kernel
theorem dX0_fillRow_106 : decode cX0_fillRow 106 = .ok (.invokevirtual 119, 3) := by decide +kernel
theorem dX0_fillRow_109 : decode cX0_fillRow 109 = .ok (.iinc 6 (-1), 3) := by decide +kernel
theorem dX0_fillRow_112 : decode cX0_fillRow 112 = .ok (.goto (-57), 3) := by decide +kernel
theorem dX0_fillRow_115 : decode cX0_fillRow 115 = .ok (.aload_n 1, 1) := by decide +kernel
theorem dX0_fillRow_116 : decode cX0_fillRow 116 = .ok (.iload 5, 2) := by decide +kernel
theorem dX0_fillRow_118 : decode cX0_fillRow 118 = .ok (.putfield 54, 3) := by decide +kernel
theorem dX0_fillRow_121 : decode cX0_fillRow 121 = .ok (.aload_n 1, 1) := by decide +kernel
theorem dX0_fillRow_122 : decode cX0_fillRow 122 = .ok (.dup, 1) := by decide +kernel
theorem dX0_fillRow_123 : decode cX0_fillRow 123 = .ok (.getfield 57, 3) := by decide +kernel
theorem dX0_fillRow_126 : decode cX0_fillRow 126 = .ok (.iconst 1, 1) := by decide +kernel
theorem dX0_fillRow_127 : decode cX0_fillRow 127 = .ok (.iadd, 1) := by decide +kernel
theorem dX0_fillRow_128 : decode cX0_fillRow 128 = .ok (.putfield 57, 3) := by decide +kernel
theorem dX0_fillRow_131 : decode cX0_fillRow 131 = .ok (.return_, 1) := by decide +kernel
theorem dX0_fillHolding_0 : decode cX0_fillHolding 0 = .ok (.aload_n 0, 1) := by decide +kernel
theorem dX0_fillHolding_1 : decode cX0_fillHolding 1 = .ok (.aload_n 1, 1) := by decide +kernel
theorem dX0_fillHolding_2 : decode cX0_fillHolding 2 = .ok (.aload_n 2, 1) := by decide +kernel
theorem dX0_fillHolding_3 : decode cX0_fillHolding 3 = .ok (.aload_n 0, 1) := by decide +kernel
theorem dX0_fillHolding_4 : decode cX0_fillHolding 4 = .ok (.getfield 30, 3) := by decide +kernel
theorem dX0_fillHolding_7 : decode cX0_fillHolding 7 = .ok (.iconst 1, 1) := by decide +kernel
theorem dX0_fillHolding_8 : decode cX0_fillHolding 8 = .ok (.iadd, 1) := by decide +kernel
theorem dX0_fillHolding_9 : decode cX0_fillHolding 9 = .ok (.invokevirtual 123, 3) := by decide +kernel
theorem dX0_fillHolding_12 : decode cX0_fillHolding 12 = .ok (.aload_n 0, 1) := by decide +kernel
theorem dX0_fillHolding_13 : decode cX0_fillHolding 13 = .ok (.aload_n 2, 1) := by decide +kernel
theorem dX0_fillHolding_14 : decode cX0_fillHolding 14 = .ok (.aload_n 0, 1) := by decide +kernel
theorem dX0_fillHolding_15 : decode cX0_fillHolding 15 = .ok (.getfield 30, 3) := by decide +kernel
theorem dX0_fillHolding_18 : decode cX0_fillHolding 18 = .ok (.iconst 2, 1) := by decide +kernel
theorem dX0_fillHolding_19 : decode cX0_fillHolding 19 = .ok (.iadd, 1) := by decide +kernel
theorem dX0_fillHolding_20 : decode cX0_fillHolding 20 = .ok (.iconst 0, 1) := by decide +kernel
theorem dX0_fillHolding_21 : decode cX0_fillHolding 21 = .ok (.bipush 99, 2) := by decide +kernel
theorem dX0_fillHolding_23 : decode cX0_fillHolding 23 = .ok (.invokevirtual 80, 3) := by decide +kernel
theorem dX0_fillHolding_26 : decode cX0_fillHolding 26 = .ok (.istore_n 3, 1) := by decide +kernel
theorem dX0_fillHolding_27 : decode cX0_fillHolding 27 = .ok (.aload_n 0, 1) := by decide +kernel
theorem dX0_fillHolding_28 : decode cX0_fillHolding 28 = .ok (.aload_n 2, 1) := by decide +kernel
theorem dX0_fillHolding_29 : decode cX0_fillHolding 29 = .ok (.aload_n 0, 1) := by decide +kernel
theorem dX0_fillHolding_30 : decode cX0_fillHolding 30 = .ok (.getfield 30, 3) := by decide +kernel
theorem dX0_fillHolding_33 : decode cX0_fillHolding 33 = .ok (.iconst 3, 1) := by decide +kernel
theorem dX0_fillHolding_34 : decode cX0_fillHolding 34 = .ok (.iadd, 1) := by decide +kernel
theorem dX0_fillHolding_35 : decode cX0_fillHolding 35 = .ok (.iconst 0, 1) := by decide +kernel
theorem dX0_fillHolding_36 : decode cX0_fillHolding 36 = .ok (.sipush 999, 3) := by decide +kernel
theorem dX0_fillHolding_39 : decode cX0_fillHolding 39 = .ok (.invokevirtual 80, 3) := by decide +kernel
theorem dX0_fillHolding_42 : decode cX0_fillHolding 42 = .ok (.istore 4, 2) := by decide +kernel
theorem dX0_fillHolding_44 : decode cX0_fillHolding 44 = .ok (.aload_n 1, 1) := by decide +kernel
theorem dX0_fillHolding_45 : decode cX0_fillHolding 45 = .ok (.getfield 126, 3) := by decide +kernel
theorem dX0_fillHolding_48 : decode cX0_fillHolding 48 = .ok (.istore 5, 2) := by decide +kernel
theorem dX0_fillHolding_50 : decode cX0_fillHolding 50 = .ok (.iload 5, 2) := by decide +kernel
theorem dX0_fillHolding_52 : decode cX0_fillHolding 52 = .ok (.ifCond .lt 53, 3) := by decide +kernel
theorem dX0_fillHolding_55 : decode cX0_fillHolding 55 = .ok (.iload 5, 2) := by decide +kernel
theorem dX0_fillHolding_57 : decode cX0_fillHolding 57 = .ok (.iconst 4, 1) := by decide +kernel
theorem dX0_fillHolding_58 : decode cX0_fillHolding 58 = .ok (.if_icmp .ge 47, 3) := by decide +kernel
theorem dX0_fillHolding_61 : decode cX0_fillHolding 61 = .ok (.aload_n 0, 1) := by decide +kernel
theorem dX0_fillHolding_62 : decode cX0_fillHolding 62 = .ok (.getfield 9, 3) := by decide +kernel
theorem dX0_fillHolding_65 : decode cX0_fillHolding 65 = .ok (.iload 5, 2) := by decide +kernel
theorem dX0_fillHolding_67 : decode cX0_fillHolding 67 = .ok (.aload_n 2, 1) := by decide +kernel
theorem dX0_fillHolding_68 : decode cX0_fillHolding 68 = .ok (.aload_n 0, 1) := by decide +kernel
theorem dX0_fillHolding_69 : decode cX0_fillHolding 69 = .ok (.getfield 30, 3) := by decide +kernel
theorem dX0_fillHolding_72 : decode cX0_fillHolding 72 = .ok (.iconst 1, 1) := by decide +kernel
theorem dX0_fillHolding_73 : decode cX0_fillHolding 73 = .ok (.iadd, 1) := by decide +kernel
theorem dX0_fillHolding_74 : decode cX0_fillHolding 74 = .ok (.invokevirtual 103, 3) := by decide +kernel
theorem dX0_fillHolding_77 : decode cX0_fillHolding 77 = .ok (.lastore, 1) := by decide +kernel
theorem dX0_fillHolding_78 : decode cX0_fillHolding 78 = .ok (.aload_n 1, 1) := by decide +kernel
theorem dX0_fillHolding_79 : decode cX0_fillHolding 79 = .ok (.getfield 129, 3) := by decide +kernel
theorem dX0_fillHolding_82 : decode cX0_fillHolding 82 = .ok (.iload 5, 2) := by decide +kernel
theorem dX0_fillHolding_84 : decode cX0_fillHolding 84 = .ok (.iload_n 3, 1) := by decide +kernel
theorem dX0_fillHolding_85 : decode cX0_fillHolding 85 = .ok (.iastore, 1) := by decide +kernel
theorem dX0_fillHolding_86 : decode cX0_fillHolding 86 = .ok (.aload_n 1, 1) := by decide +kernel
theorem dX0_fillHolding_87 : decode cX0_fillHolding 87 = .ok (.getfield 133, 3) := by decide +kernel
theorem dX0_fillHolding_90 : decode cX0_fillHolding 90 = .ok (.iload 5, 2) := by decide +kernel
theorem dX0_fillHolding_92 : decode cX0_fillHolding 92 = .ok (.iload 4, 2) := by decide +kernel
theorem dX0_fillHolding_94 : decode cX0_fillHolding 94 = .ok (.iastore, 1) := by decide +kernel
theorem dX0_fillHolding_95 : decode cX0_fillHolding 95 = .ok (.aload_n 1, 1) := by decide +kernel
theorem dX0_fillHolding_96 : decode cX0_fillHolding 96 = .ok (.dup, 1) := by decide +kernel
theorem dX0_fillHolding_97 : decode cX0_fillHolding 97 = .ok (.getfield 126, 3) := by decide +kernel
theorem dX0_fillHolding_100 : decode cX0_fillHolding 100 = .ok (.iconst 1, 1) := by decide +kernel
theorem dX0_fillHolding_101 : decode cX0_fillHolding 101 = .ok (.iadd, 1) := by decide +kernel
theorem dX0_fillHolding_102 : decode cX0_fillHolding 102 = .ok (.putfield 126, 3) := by decide +kernel
theorem dX0_fillHolding_105 : decode cX0_fillHolding 105 = .ok (.return_, 1) := by decide +kernel
theorem dX0_fillUse_0 : decode cX0_fillUse 0 = .ok (.aload_n 0, 1) := by decide +kernel
theorem dX0_fillUse_1 : decode cX0_fillUse 1 = .ok (.aload_n 1, 1) := by decide +kernel
theorem dX0_fillUse_2 : decode cX0_fillUse 2 = .ok (.aload_n 2, 1) := by decide +kernel
theorem dX0_fillUse_3 : decode cX0_fillUse 3 = .ok (.aload_n 0, 1) := by decide +kernel
theorem dX0_fillUse_4 : decode cX0_fillUse 4 = .ok (.getfield 30, 3) := by decide +kernel
theorem dX0_fillUse_7 : decode cX0_fillUse 7 = .ok (.iconst 1, 1) := by decide +kernel
theorem dX0_fillUse_8 : decode cX0_fillUse 8 = .ok (.iadd, 1) := by decide +kernel
theorem dX0_fillUse_9 : decode cX0_fillUse 9 = .ok (.invokevirtual 123, 3) := by decide +kernel
theorem dX0_fillUse_12 : decode cX0_fillUse 12 = .ok (.aload_n 0, 1) := by decide +kernel
theorem dX0_fillUse_13 : decode cX0_fillUse 13 = .ok (.aload_n 1, 1) := by decide +kernel
theorem dX0_fillUse_14 : decode cX0_fillUse 14 = .ok (.aload_n 2, 1) := by decide +kernel
theorem dX0_fillUse_15 : decode cX0_fillUse 15 = .ok (.aload_n 0, 1) := by decide +kernel
theorem dX0_fillUse_16 : decode cX0_fillUse 16 = .ok (.getfield 30, 3) := by decide +kernel
theorem dX0_fillUse_19 : decode cX0_fillUse 19 = .ok (.iconst 2, 1) := by decide +kernel
theorem dX0_fillUse_20 : decode cX0_fillUse 20 = .ok (.iadd, 1) := by decide +kernel
theorem dX0_fillUse_21 : decode cX0_fillUse 21 = .ok (.invokevirtual 103, 3) := by decide +kernel
theorem dX0_fillUse_24 : decode cX0_fillUse 24 = .ok (.invokevirtual 136, 3) := by decide +kernel
theorem dX0_fillUse_27 : decode cX0_fillUse 27 = .ok (.istore_n 3, 1) := by decide +kernel
theorem dX0_fillUse_28 : decode cX0_fillUse 28 = .ok (.iload_n 3, 1) := by decide +kernel
theorem dX0_fillUse_29 : decode cX0_fillUse 29 = .ok (.iconst (-1), 1) := by decide +kernel
theorem dX0_fillUse_30 : decode cX0_fillUse 30 = .ok (.if_icmp .ne 18, 3) := by decide +kernel
theorem dX0_fillUse_33 : decode cX0_fillUse 33 = .ok (.aload_n 2, 1) := by decide +kernel
theorem dX0_fillUse_34 : decode cX0_fillUse 34 = .ok (.iconst 4, 1) := by decide +kernel
theorem dX0_fillUse_35 : decode cX0_fillUse 35 = .ok (.aload_n 2, 1) := by decide +kernel
theorem dX0_fillUse_36 : decode cX0_fillUse 36 = .ok (.aload_n 0, 1) := by decide +kernel
theorem dX0_fillUse_37 : decode cX0_fillUse 37 = .ok (.getfield 30, 3) := by decide +kernel
theorem dX0_fillUse_40 : decode cX0_fillUse 40 = .ok (.iconst 2, 1) := by decide +kernel
theorem dX0_fillUse_41 : decode cX0_fillUse 41 = .ok (.iadd, 1) := by decide +kernel
theorem dX0_fillUse_42 : decode cX0_fillUse 42 = .ok (.invokevirtual 111, 3) := by decide +kernel
theorem dX0_fillUse_45 : decode cX0_fillUse 45 = .ok (.invokevirtual 63, 3) := by decide +kernel
theorem dX0_fillUse_48 : decode cX0_fillUse 48 = .ok (.aload_n 0, 1) := by decide +kernel
theorem dX0_fillUse_49 : decode cX0_fillUse 49 = .ok (.aload_n 2, 1) := by decide +kernel
theorem dX0_fillUse_50 : decode cX0_fillUse 50 = .ok (.aload_n 0, 1) := by decide +kernel
theorem dX0_fillUse_51 : decode cX0_fillUse 51 = .ok (.getfield 30, 3) := by decide +kernel
theorem dX0_fillUse_54 : decode cX0_fillUse 54 = .ok (.iconst 3, 1) := by decide +kernel
theorem dX0_fillUse_55 : decode cX0_fillUse 55 = .ok (.iadd, 1) := by decide +kernel
theorem dX0_fillUse_56 : decode cX0_fillUse 56 = .ok (.iconst 0, 1) := by decide +kernel
theorem dX0_fillUse_57 : decode cX0_fillUse 57 = .ok (.bipush 23, 2) := by decide +kernel
theorem dX0_fillUse_59 : decode cX0_fillUse 59 = .ok (.invokevirtual 80, 3) := by decide +kernel
theorem dX0_fillUse_62 : decode cX0_fillUse 62 = .ok (.istore 4, 2) := by decide +kernel
theorem dX0_fillUse_64 : decode cX0_fillUse 64 = .ok (.aload_n 0, 1) := by decide +kernel
theorem dX0_fillUse_65 : decode cX0_fillUse 65 = .ok (.aload_n 2, 1) := by decide +kernel
theorem dX0_fillUse_66 : decode cX0_fillUse 66 = .ok (.aload_n 0, 1) := by decide +kernel
theorem dX0_fillUse_67 : decode cX0_fillUse 67 = .ok (.getfield 30, 3) := by decide +kernel
theorem dX0_fillUse_70 : decode cX0_fillUse 70 = .ok (.iconst 4, 1) := by decide +kernel
theorem dX0_fillUse_71 : decode cX0_fillUse 71 = .ok (.iadd, 1) := by decide +kernel
theorem dX0_fillUse_72 : decode cX0_fillUse 72 = .ok (.iload 4, 2) := by decide +kernel
theorem dX0_fillUse_74 : decode cX0_fillUse 74 = .ok (.bipush 23, 2) := by decide +kernel
theorem dX0_fillUse_76 : decode cX0_fillUse 76 = .ok (.invokevirtual 80, 3) := by decide +kernel
theorem dX0_fillUse_79 : decode cX0_fillUse 79 = .ok (.istore 5, 2) := by decide +kernel
theorem dX0_fillUse_81 : decode cX0_fillUse 81 = .ok (.aload_n 0, 1) := by decide +kernel
theorem dX0_fillUse_82 : decode cX0_fillUse 82 = .ok (.aload_n 2, 1) := by decide +kernel
theorem dX0_fillUse_83 : decode cX0_fillUse 83 = .ok (.aload_n 0, 1) := by decide +kernel
theorem dX0_fillUse_84 : decode cX0_fillUse 84 = .ok (.getfield 30, 3) := by decide +kernel
theorem dX0_fillUse_87 : decode cX0_fillUse 87 = .ok (.iconst 5, 1) := by decide +kernel
theorem dX0_fillUse_88 : decode cX0_fillUse 88 = .ok (.iadd, 1) := by decide +kernel
theorem dX0_fillUse_89 : decode cX0_fillUse 89 = .ok (.iconst 1, 1) := by decide +kernel
theorem dX0_fillUse_90 : decode cX0_fillUse 90 = .ok (.bipush 99, 2) := by decide +kernel
theorem dX0_fillUse_92 : decode cX0_fillUse 92 = .ok (.invokevirtual 80, 3) := by decide +kernel
theorem dX0_fillUse_95 : decode cX0_fillUse 95 = .ok (.istore 6, 2) := by decide +kernel
theorem dX0_fillUse_97 : decode cX0_fillUse 97 = .ok (.aload_n 1, 1) := by decide +kernel
theorem dX0_fillUse_98 : decode cX0_fillUse 98 = .ok (.getfield 140, 3) := by decide +kernel
theorem dX0_fillUse_101 : decode cX0_fillUse 101 = .ok (.istore 7, 2) := by decide +kernel
theorem dX0_fillUse_103 : decode cX0_fillUse 103 = .ok (.iload 7, 2) := by decide +kernel
theorem dX0_fillUse_105 : decode cX0_fillUse 105 = .ok (.ifCond .lt 72, 3) := by decide +kernel
theorem dX0_fillUse_108 : decode cX0_fillUse 108 = .ok (.iload 7, 2) := by decide +kernel
theorem dX0_fillUse_110 : decode cX0_fillUse 110 = .ok (.bipush 6, 2) := by decide +kernel
theorem dX0_fillUse_112 : decode cX0_fillUse 112 = .ok (.if_icmp .ge 65, 3) := by decide +kernel
theorem dX0_fillUse_115 : decode cX0_fillUse 115 = .ok (.aload_n 0, 1) := by decide +kernel
theorem dX0_fillUse_116 : decode cX0_fillUse 116 = .ok (.getfield 15, 3) := by decide +kernel
theorem dX0_fillUse_119 : decode cX0_fillUse 119 = .ok (.iload 7, 2) := by decide +kernel
theorem dX0_fillUse_121 : decode cX0_fillUse 121 = .ok (.aload_n 2, 1) := by decide +kernel
theorem dX0_fillUse_122 : decode cX0_fillUse 122 = .ok (.aload_n 0, 1) := by decide +kernel
theorem dX0_fillUse_123 : decode cX0_fillUse 123 = .ok (.getfield 30, 3) := by decide +kernel
theorem dX0_fillUse_126 : decode cX0_fillUse 126 = .ok (.iconst 1, 1) := by decide +kernel
theorem dX0_fillUse_127 : decode cX0_fillUse 127 = .ok (.iadd, 1) := by decide +kernel
theorem dX0_fillUse_128 : decode cX0_fillUse 128 = .ok (.invokevirtual 103, 3) := by decide +kernel
theorem dX0_fillUse_131 : decode cX0_fillUse 131 = .ok (.lastore, 1) := by decide +kernel
theorem dX0_fillUse_132 : decode cX0_fillUse 132 = .ok (.aload_n 1, 1) := by decide +kernel
theorem dX0_fillUse_133 : decode cX0_fillUse 133 = .ok (.getfield 143, 3) := by decide +kernel
theorem dX0_fillUse_136 : decode cX0_fillUse 136 = .ok (.iload 7, 2) := by decide +kernel
theorem dX0_fillUse_138 : decode cX0_fillUse 138 = .ok (.iload_n 3, 1) := by decide +kernel
theorem dX0_fillUse_139 : decode cX0_fillUse 139 = .ok (.iastore, 1) := by decide +kernel
theorem dX0_fillUse_140 : decode cX0_fillUse 140 = .ok (.aload_n 1, 1) := by decide +kernel
theorem dX0_fillUse_141 : decode cX0_fillUse 141 = .ok (.getfield 146, 3) := by decide +kernel
theorem dX0_fillUse_144 : decode cX0_fillUse 144 = .ok (.iload 7, 2) := by decide +kernel
theorem dX0_fillUse_146 : decode cX0_fillUse 146 = .ok (.iload 4, 2) := by decide +kernel
theorem dX0_fillUse_148 : decode cX0_fillUse 148 = .ok (.iastore, 1) := by decide +kernel
theorem dX0_fillUse_149 : decode cX0_fillUse 149 = .ok (.aload_n 1, 1) := by decide +kernel
theorem dX0_fillUse_150 : decode cX0_fillUse 150 = .ok (.getfield 149, 3) := by decide +kernel
theorem dX0_fillUse_153 : decode cX0_fillUse 153 = .ok (.iload 7, 2) := by decide +kernel
theorem dX0_fillUse_155 : decode cX0_fillUse 155 = .ok (.iload 5, 2) := by decide +kernel
theorem dX0_fillUse_157 : decode cX0_fillUse 157 = .ok (.iastore, 1) := by decide +kernel
theorem dX0_fillUse_158 : decode cX0_fillUse 158 = .ok (.aload_n 1, 1) := by decide +kernel
theorem dX0_fillUse_159 : decode cX0_fillUse 159 = .ok (.getfield 152, 3) := by decide +kernel
theorem dX0_fillUse_162 : decode cX0_fillUse 162 = .ok (.iload 7, 2) := by decide +kernel
theorem dX0_fillUse_164 : decode cX0_fillUse 164 = .ok (.iload 6, 2) := by decide +kernel
theorem dX0_fillUse_166 : decode cX0_fillUse 166 = .ok (.iastore, 1) := by decide +kernel
theorem dX0_fillUse_167 : decode cX0_fillUse 167 = .ok (.aload_n 1, 1) := by decide +kernel
theorem dX0_fillUse_168 : decode cX0_fillUse 168 = .ok (.dup, 1) := by decide +kernel
theorem dX0_fillUse_169 : decode cX0_fillUse 169 = .ok (.getfield 140, 3) := by decide +kernel
theorem dX0_fillUse_172 : decode cX0_fillUse 172 = .ok (.iconst 1, 1) := by decide +kernel
theorem dX0_fillUse_173 : decode cX0_fillUse 173 = .ok (.iadd, 1) := by decide +kernel
theorem dX0_fillUse_174 : decode cX0_fillUse 174 = .ok (.putfield 140, 3) := by decide +kernel
theorem dX0_fillUse_177 : decode cX0_fillUse 177 = .ok (.return_, 1) := by decide +kernel
theorem dX0_fillBank_0 : decode cX0_fillBank 0 = .ok (.aload_n 0, 1) := by decide +kernel
theorem dX0_fillBank_1 : decode cX0_fillBank 1 = .ok (.aload_n 2, 1) := by decide +kernel
theorem dX0_fillBank_2 : decode cX0_fillBank 2 = .ok (.aload_n 0, 1) := by decide +kernel
theorem dX0_fillBank_3 : decode cX0_fillBank 3 = .ok (.getfield 30, 3) := by decide +kernel
theorem dX0_fillBank_6 : decode cX0_fillBank 6 = .ok (.iconst 1, 1) := by decide +kernel
theorem dX0_fillBank_7 : decode cX0_fillBank 7 = .ok (.iadd, 1) := by decide +kernel
theorem dX0_fillBank_8 : decode cX0_fillBank 8 = .ok (.iconst 0, 1) := by decide +kernel
theorem dX0_fillBank_9 : decode cX0_fillBank 9 = .ok (.bipush 7, 2) := by decide +kernel
theorem dX0_fillBank_11 : decode cX0_fillBank 11 = .ok (.invokevirtual 80, 3) := by decide +kernel
theorem dX0_fillBank_14 : decode cX0_fillBank 14 = .ok (.istore_n 3, 1) := by decide +kernel
theorem dX0_fillBank_15 : decode cX0_fillBank 15 = .ok (.aload_n 0, 1) := by decide +kernel
theorem dX0_fillBank_16 : decode cX0_fillBank 16 = .ok (.aload_n 2, 1) := by decide +kernel
theorem dX0_fillBank_17 : decode cX0_fillBank 17 = .ok (.aload_n 0, 1) := by decide +kernel
theorem dX0_fillBank_18 : decode cX0_fillBank 18 = .ok (.getfield 30, 3) := by decide +kernel
theorem dX0_fillBank_21 : decode cX0_fillBank 21 = .ok (.iconst 2, 1) := by decide +kernel
theorem dX0_fillBank_22 : decode cX0_fillBank 22 = .ok (.iadd, 1) := by decide +kernel
theorem dX0_fillBank_23 : decode cX0_fillBank 23 = .ok (.iconst 0, 1) := by decide +kernel
theorem dX0_fillBank_24 : decode cX0_fillBank 24 = .ok (.iconst 4, 1) := by decide +kernel
theorem dX0_fillBank_25 : decode cX0_fillBank 25 = .ok (.invokevirtual 80, 3) := by decide +kernel
theorem dX0_fillBank_28 : decode cX0_fillBank 28 = .ok (.istore 4, 2) := by decide +kernel
theorem dX0_fillBank_30 : decode cX0_fillBank 30 = .ok (.aload_n 0, 1) := by decide +kernel
theorem dX0_fillBank_31 : decode cX0_fillBank 31 = .ok (.aload_n 2, 1) := by decide +kernel
theorem dX0_fillBank_32 : decode cX0_fillBank 32 = .ok (.aload_n 0, 1) := by decide +kernel
theorem dX0_fillBank_33 : decode cX0_fillBank 33 = .ok (.getfield 30, 3) := by decide +kernel
theorem dX0_fillBank_36 : decode cX0_fillBank 36 = .ok (.iconst 3, 1) := by decide +kernel
theorem dX0_fillBank_37 : decode cX0_fillBank 37 = .ok (.iadd, 1) := by decide +kernel
theorem dX0_fillBank_38 : decode cX0_fillBank 38 = .ok (.iconst 0, 1) := by decide +kernel
theorem dX0_fillBank_39 : decode cX0_fillBank 39 = .ok (.bipush 99, 2) := by decide +kernel
theorem dX0_fillBank_41 : decode cX0_fillBank 41 = .ok (.invokevirtual 80, 3) := by decide +kernel
theorem dX0_fillBank_44 : decode cX0_fillBank 44 = .ok (.istore 5, 2) := by decide +kernel
theorem dX0_fillBank_46 : decode cX0_fillBank 46 = .ok (.iload_n 3, 1) := by decide +kernel
theorem dX0_fillBank_47 : decode cX0_fillBank 47 = .ok (.ifCond .lt 34, 3) := by decide +kernel
theorem dX0_fillBank_50 : decode cX0_fillBank 50 = .ok (.iload_n 3, 1) := by decide +kernel
theorem dX0_fillBank_51 : decode cX0_fillBank 51 = .ok (.bipush 8, 2) := by decide +kernel
theorem dX0_fillBank_53 : decode cX0_fillBank 53 = .ok (.if_icmp .ge 28, 3) := by decide +kernel
theorem dX0_fillBank_56 : decode cX0_fillBank 56 = .ok (.iload 4, 2) := by decide +kernel
theorem dX0_fillBank_58 : decode cX0_fillBank 58 = .ok (.ifCond .lt 23, 3) := by decide +kernel
theorem dX0_fillBank_61 : decode cX0_fillBank 61 = .ok (.iload 4, 2) := by decide +kernel
theorem dX0_fillBank_63 : decode cX0_fillBank 63 = .ok (.iconst 5, 1) := by decide +kernel
theorem dX0_fillBank_64 : decode cX0_fillBank 64 = .ok (.if_icmp .ge 17, 3) := by decide +kernel
theorem dX0_fillBank_67 : decode cX0_fillBank 67 = .ok (.aload_n 1, 1) := by decide +kernel
theorem dX0_fillBank_68 : decode cX0_fillBank 68 = .ok (.getfield 155, 3) := by decide +kernel
theorem dX0_fillBank_71 : decode cX0_fillBank 71 = .ok (.iload 4, 2) := by decide +kernel
theorem dX0_fillBank_73 : decode cX0_fillBank 73 = .ok (.bipush 8, 2) := by decide +kernel
theorem dX0_fillBank_75 : decode cX0_fillBank 75 = .ok (.imul, 1) := by decide +kernel
theorem dX0_fillBank_76 : decode cX0_fillBank 76 = .ok (.iload_n 3, 1) := by decide +kernel
theorem dX0_fillBank_77 : decode cX0_fillBank 77 = .ok (.iadd, 1) := by decide +kernel
theorem dX0_fillBank_78 : decode cX0_fillBank 78 = .ok (.iload 5, 2) := by decide +kernel
theorem dX0_fillBank_80 : decode cX0_fillBank 80 = .ok (.iastore, 1) := by decide +kernel
theorem dX0_fillBank_81 : decode cX0_fillBank 81 = .ok (.aload_n 0, 1) := by decide +kernel
theorem dX0_fillBank_82 : decode cX0_fillBank 82 = .ok (.aload_n 0, 1) := by decide +kernel
theorem dX0_fillBank_83 : decode cX0_fillBank 83 = .ok (.getfield 23, 3) := by decide +kernel
theorem dX0_fillBank_86 : decode cX0_fillBank 86 = .ok (.iload_n 3, 1) := by decide +kernel
theorem dX0_fillBank_87 : decode cX0_fillBank 87 = .ok (.invokestatic 158, 3) := by decide +kernel
theorem dX0_fillBank_90 : decode cX0_fillBank 90 = .ok (.putfield 23, 3) := by decide +kernel
theorem dX0_fillBank_93 : decode cX0_fillBank 93 = .ok (.aload_n 0, 1) := by decide +kernel
theorem dX0_fillBank_94 : decode cX0_fillBank 94 = .ok (.aload_n 0, 1) := by decide +kernel
theorem dX0_fillBank_95 : decode cX0_fillBank 95 = .ok (.getfield 27, 3) := by decide +kernel
theorem dX0_fillBank_98 : decode cX0_fillBank 98 = .ok (.iload 4, 2) := by decide +kernel
theorem dX0_fillBank_100 : decode cX0_fillBank 100 = .ok (.invokestatic 158, 3) := by decide +kernel
theorem dX0_fillBank_103 : decode cX0_fillBank 103 = .ok (.putfield 27, 3) := by decide +kernel
theorem dX0_fillBank_106 : decode cX0_fillBank 106 = .ok (.aload_n 1, 1) := by decide +kernel
theorem dX0_fillBank_107 : decode cX0_fillBank 107 = .ok (.dup, 1) := by decide +kernel
theorem dX0_fillBank_108 : decode cX0_fillBank 108 = .ok (.getfield 164, 3) := by decide +kernel
theorem dX0_fillBank_111 : decode cX0_fillBank 111 = .ok (.iconst 1, 1) := by decide +kernel
theorem dX0_fillBank_112 : decode cX0_fillBank 112 = .ok (.iadd, 1) := by decide +kernel
theorem dX0_fillBank_113 : decode cX0_fillBank 113 = .ok (.putfield 164, 3) := by decide +kernel
theorem dX0_fillBank_116 : decode cX0_fillBank 116 = .ok (.return_, 1) := by decide +kernel
theorem dX0_number_0 : decode cX0_number 0 = .ok (.aload_n 1, 1) := by decide +kernel
theorem dX0_number_1 : decode cX0_number 1 = .ok (.iload_n 2, 1) := by decide +kernel
theorem dX0_number_2 : decode cX0_number 2 = .ok (.invokevirtual 103, 3) := by decide +kernel
theorem dX0_number_5 : decode cX0_number 5 = .ok (.l2i, 1) := by decide +kernel
theorem dX0_number_6 : decode cX0_number 6 = .ok (.istore 5, 2) := by decide +kernel
theorem dX0_number_8 : decode cX0_number 8 = .ok (.iload 5, 2) := by decide +kernel
theorem dX0_number_10 : decode cX0_number 10 = .ok (.iload_n 3, 1) := by decide +kernel
theorem dX0_number_11 : decode cX0_number 11 = .ok (.if_icmp .lt 10, 3) := by decide +kernel
theorem dX0_number_14 : decode cX0_number 14 = .ok (.iload 5, 2) := by decide +kernel
theorem dX0_number_16 : decode cX0_number 16 = .ok (.iload 4, 2) := by decide +kernel
theorem dX0_number_18 : decode cX0_number 18 = .ok (.if_icmp .le 13, 3) := by decide +kernel
theorem dX0_number_21 : decode cX0_number 21 = .ok (.aload_n 1, 1) := by decide +kernel
theorem dX0_number_22 : decode cX0_number 22 = .ok (.iconst 5, 1) := by decide +kernel
theorem dX0_number_23 : decode cX0_number 23 = .ok (.aload_n 1, 1) := by decide +kernel
theorem dX0_number_24 : decode cX0_number 24 = .ok (.iload_n 2, 1) := by decide +kernel
theorem dX0_number_25 : decode cX0_number 25 = .ok (.invokevirtual 111, 3) := by decide +kernel
theorem dX0_number_28 : decode cX0_number 28 = .ok (.invokevirtual 63, 3) := by decide +kernel
theorem dX0_number_31 : decode cX0_number 31 = .ok (.iload 5, 2) := by decide +kernel
theorem dX0_number_33 : decode cX0_number 33 = .ok (.ireturn, 1) := by decide +kernel
theorem dX0_checkNew_0 : decode cX0_checkNew 0 = .ok (.aload_n 2, 1) := by decide +kernel
theorem dX0_checkNew_1 : decode cX0_checkNew 1 = .ok (.iload_n 3, 1) := by decide +kernel
theorem dX0_checkNew_2 : decode cX0_checkNew 2 = .ok (.invokevirtual 103, 3) := by decide +kernel
theorem dX0_checkNew_5 : decode cX0_checkNew 5 = .ok (.lstore 4, 2) := by decide +kernel
theorem dX0_checkNew_7 : decode cX0_checkNew 7 = .ok (.aload_n 0, 1) := by decide +kernel
theorem dX0_checkNew_8 : decode cX0_checkNew 8 = .ok (.aload_n 1, 1) := by decide +kernel
theorem dX0_checkNew_9 : decode cX0_checkNew 9 = .ok (.lload 4, 2) := by decide +kernel
theorem dX0_checkNew_11 : decode cX0_checkNew 11 = .ok (.invokevirtual 136, 3) := by decide +kernel
theorem dX0_checkNew_14 : decode cX0_checkNew 14 = .ok (.iconst (-1), 1) := by decide +kernel
theorem dX0_checkNew_15 : decode cX0_checkNew 15 = .ok (.if_icmp .eq 7, 3) := by decide +kernel
theorem dX0_checkNew_18 : decode cX0_checkNew 18 = .ok (.iconst 1, 1) := by decide +kernel
theorem dX0_checkNew_19 : decode cX0_checkNew 19 = .ok (.goto 4, 3) := by decide +kernel
theorem dX0_checkNew_22 : decode cX0_checkNew 22 = .ok (.iconst 0, 1) := by decide +kernel
theorem dX0_checkNew_23 : decode cX0_checkNew 23 = .ok (.istore 6, 2) := by decide +kernel
theorem dX0_checkNew_25 : decode cX0_checkNew 25 = .ok (.iconst 0, 1) := by decide +kernel
theorem dX0_checkNew_26 : decode cX0_checkNew 26 = .ok (.istore 7, 2) := by decide +kernel
theorem dX0_checkNew_28 : decode cX0_checkNew 28 = .ok (.iload 7, 2) := by decide +kernel
theorem dX0_checkNew_30 : decode cX0_checkNew 30 = .ok (.aload_n 1, 1) := by decide +kernel
theorem dX0_checkNew_31 : decode cX0_checkNew 31 = .ok (.getfield 140, 3) := by decide +kernel
theorem dX0_checkNew_34 : decode cX0_checkNew 34 = .ok (.if_icmp .ge 41, 3) := by decide +kernel
theorem dX0_checkNew_37 : decode cX0_checkNew 37 = .ok (.iload 7, 2) := by decide +kernel
theorem dX0_checkNew_39 : decode cX0_checkNew 39 = .ok (.bipush 6, 2) := by decide +kernel
theorem dX0_checkNew_41 : decode cX0_checkNew 41 = .ok (.if_icmp .ge 34, 3) := by decide +kernel
theorem dX0_checkNew_44 : decode cX0_checkNew 44 = .ok (.iload 6, 2) := by decide +kernel
theorem dX0_checkNew_46 : decode cX0_checkNew 46 = .ok (.ifCond .ne 16, 3) := by decide +kernel
theorem dX0_checkNew_49 : decode cX0_checkNew 49 = .ok (.aload_n 0, 1) := by decide +kernel
theorem dX0_checkNew_50 : decode cX0_checkNew 50 = .ok (.getfield 15, 3) := by decide +kernel
theorem dX0_checkNew_53 : decode cX0_checkNew 53 = .ok (.iload 7, 2) := by decide +kernel
theorem dX0_checkNew_55 : decode cX0_checkNew 55 = .ok (.laload, 1) := by decide +kernel
theorem dX0_checkNew_56 : decode cX0_checkNew 56 = .ok (.lload 4, 2) := by decide +kernel
theorem dX0_checkNew_58 : decode cX0_checkNew 58 = .ok (.lcmp, 1) := by decide +kernel
theorem dX0_checkNew_59 : decode cX0_checkNew 59 = .ok (.ifCond .ne 7, 3) := by decide +kernel
theorem dX0_checkNew_62 : decode cX0_checkNew 62 = .ok (.iconst 1, 1) := by decide +kernel
theorem dX0_checkNew_63 : decode cX0_checkNew 63 = .ok (.goto 4, 3) := by decide +kernel
theorem dX0_checkNew_66 : decode cX0_checkNew 66 = .ok (.iconst 0, 1) := by decide +kernel
theorem dX0_checkNew_67 : decode cX0_checkNew 67 = .ok (.istore 6, 2) := by decide +kernel
theorem dX0_checkNew_69 : decode cX0_checkNew 69 = .ok (.iinc 7 1, 3) := by decide +kernel
theorem dX0_checkNew_72 : decode cX0_checkNew 72 = .ok (.goto (-44), 3) := by decide +kernel
theorem dX0_checkNew_75 : decode cX0_checkNew 75 = .ok (.iload 6, 2) := by decide +kernel
theorem dX0_checkNew_77 : decode cX0_checkNew 77 = .ok (.ifCond .eq 13, 3) := by decide +kernel
theorem dX0_checkNew_80 : decode cX0_checkNew 80 = .ok (.aload_n 2, 1) := by decide +kernel
theorem dX0_checkNew_81 : decode cX0_checkNew 81 = .ok (.iconst 3, 1) := by decide +kernel
theorem dX0_checkNew_82 : decode cX0_checkNew 82 = .ok (.aload_n 2, 1) := by decide +kernel
theorem dX0_checkNew_83 : decode cX0_checkNew 83 = .ok (.iload_n 3, 1) := by decide +kernel
theorem dX0_checkNew_84 : decode cX0_checkNew 84 = .ok (.invokevirtual 111, 3) := by decide +kernel
theorem dX0_checkNew_87 : decode cX0_checkNew 87 = .ok (.invokevirtual 63, 3) := by decide +kernel
theorem dX0_checkNew_90 : decode cX0_checkNew 90 = .ok (.return_, 1) := by decide +kernel
theorem dX0_holdingNamed_0 : decode cX0_holdingNamed 0 = .ok (.iconst 0, 1) := by decide +kernel
theorem dX0_holdingNamed_1 : decode cX0_holdingNamed 1 = .ok (.istore 4, 2) := by decide +kernel
theorem dX0_holdingNamed_3 : decode cX0_holdingNamed 3 = .ok (.iload 4, 2) := by decide +kernel
theorem dX0_holdingNamed_5 : decode cX0_holdingNamed 5 = .ok (.aload_n 1, 1) := by decide +kernel
theorem dX0_holdingNamed_6 : decode cX0_holdingNamed 6 = .ok (.getfield 126, 3) := by decide +kernel
theorem dX0_holdingNamed_9 : decode cX0_holdingNamed 9 = .ok (.if_icmp .ge 30, 3) := by decide +kernel
theorem dX0_holdingNamed_12 : decode cX0_holdingNamed 12 = .ok (.iload 4, 2) := by decide +kernel
theorem dX0_holdingNamed_14 : decode cX0_holdingNamed 14 = .ok (.iconst 4, 1) := by decide +kernel
theorem dX0_holdingNamed_15 : decode cX0_holdingNamed 15 = .ok (.if_icmp .ge 24, 3) := by decide +kernel
theorem dX0_holdingNamed_18 : decode cX0_holdingNamed 18 = .ok (.aload_n 0, 1) := by decide +kernel
theorem dX0_holdingNamed_19 : decode cX0_holdingNamed 19 = .ok (.getfield 9, 3) := by decide +kernel
theorem dX0_holdingNamed_22 : decode cX0_holdingNamed 22 = .ok (.iload 4, 2) := by decide +kernel
theorem dX0_holdingNamed_24 : decode cX0_holdingNamed 24 = .ok (.laload, 1) := by decide +kernel
theorem dX0_holdingNamed_25 : decode cX0_holdingNamed 25 = .ok (.lload_n 2, 1) := by decide +kernel
theorem dX0_holdingNamed_26 : decode cX0_holdingNamed 26 = .ok (.lcmp, 1) := by decide +kernel
theorem dX0_holdingNamed_27 : decode cX0_holdingNamed 27 = .ok (.ifCond .ne 6, 3) := by decide +kernel
theorem dX0_holdingNamed_30 : decode cX0_holdingNamed 30 = .ok (.iload 4, 2) := by decide +kernel
theorem dX0_holdingNamed_32 : decode cX0_holdingNamed 32 = .ok (.ireturn, 1) := by decide +kernel
theorem dX0_holdingNamed_33 : decode cX0_holdingNamed 33 = .ok (.iinc 4 1, 3) := by decide +kernel
theorem dX0_holdingNamed_36 : decode cX0_holdingNamed 36 = .ok (.goto (-33), 3) := by decide +kernel
theorem dX0_holdingNamed_39 : decode cX0_holdingNamed 39 = .ok (.iconst (-1), 1) := by decide +kernel
theorem dX0_holdingNamed_40 : decode cX0_holdingNamed 40 = .ok (.ireturn, 1) := by decide +kernel
theorem dX0_ownerOf_0 : decode cX0_ownerOf 0 = .ok (.iload_n 0, 1) := by decide +kernel
theorem dX0_ownerOf_1 : decode cX0_ownerOf 1 = .ok (.bipush 15, 2) := by decide +kernel
theorem dX0_ownerOf_3 : decode cX0_ownerOf 3 = .ok (.if_icmp .ne 6, 3) := by decide +kernel
theorem dX0_ownerOf_6 : decode cX0_ownerOf 6 = .ok (.bipush 9, 2) := by decide +kernel
theorem dX0_ownerOf_8 : decode cX0_ownerOf 8 = .ok (.ireturn, 1) := by decide +kernel
theorem dX0_ownerOf_9 : decode cX0_ownerOf 9 = .ok (.iload_n 0, 1) := by decide +kernel
theorem dX0_ownerOf_10 : decode cX0_ownerOf 10 = .ok (.iconst 1, 1) := by decide +kernel
theorem dX0_ownerOf_11 : decode cX0_ownerOf 11 = .ok (.if_icmp .lt 14, 3) := by decide +kernel
theorem dX0_ownerOf_14 : decode cX0_ownerOf 14 = .ok (.iload_n 0, 1) := by decide +kernel
theorem dX0_ownerOf_15 : decode cX0_ownerOf 15 = .ok (.iconst 4, 1) := by decide +kernel
theorem dX0_ownerOf_16 : decode cX0_ownerOf 16 = .ok (.if_icmp .gt 9, 3) := by decide +kernel
theorem dX0_ownerOf_19 : decode cX0_ownerOf 19 = .ok (.iload_n 0, 1) := by decide +kernel
theorem dX0_ownerOf_20 : decode cX0_ownerOf 20 = .ok (.iconst 1, 1) := by decide +kernel
theorem dX0_ownerOf_21 : decode cX0_ownerOf 21 = .ok (.isub, 1) := by decide +kernel
theorem dX0_ownerOf_22 : decode cX0_ownerOf 22 = .ok (.goto 4, 3) := by decide +kernel
theorem dX0_ownerOf_25 : decode cX0_ownerOf 25 = .ok (.iconst (-1), 1) := by decide +kernel
theorem dX0_ownerOf_26 : decode cX0_ownerOf 26 = .ok (.ireturn, 1) := by decide +kernel
theorem dX1_init_0 : decode cX1_init 0 = .ok (.aload_n 0, 1) := by decide +kernel
theorem dX1_init_1 : decode cX1_init 1 = .ok (.invokespecial 3, 3) := by decide +kernel
theorem dX1_init_4 : decode cX1_init 4 = .ok (.aload_n 0, 1) := by decide +kernel
theorem dX1_init_5 : decode cX1_init 5 = .ok (.bipush 40, 2) := by decide +kernel
theorem dX1_init_7 : decode cX1_init 7 = .ok (.newarray .int, 2) := by decide +kernel
theorem dX1_init_9 : decode cX1_init 9 = .ok (.putfield 9, 3) := by decide +kernel
theorem dX1_init_12 : decode cX1_init 12 = .ok (.aload_n 0, 1) := by decide +kernel
theorem dX1_init_13 : decode cX1_init 13 = .ok (.bipush 40, 2) := by decide +kernel
theorem dX1_init_15 : decode cX1_init 15 = .ok (.newarray .int, 2) := by decide +kernel
theorem dX1_init_17 : decode cX1_init 17 = .ok (.putfield 15, 3) := by decide +kernel
theorem dX1_init_20 : decode cX1_init 20 = .ok (.aload_n 0, 1) := by decide +kernel
theorem dX1_init_21 : decode cX1_init 21 = .ok (.iconst 4, 1) := by decide +kernel
theorem dX1_init_22 : decode cX1_init 22 = .ok (.newarray .int, 2) := by decide +kernel
theorem dX1_init_24 : decode cX1_init 24 = .ok (.putfield 18, 3) := by decide +kernel
theorem dX1_init_27 : decode cX1_init 27 = .ok (.aload_n 0, 1) := by decide +kernel
theorem dX1_init_28 : decode cX1_init 28 = .ok (.iconst 4, 1) := by decide +kernel
theorem dX1_init_29 : decode cX1_init 29 = .ok (.newarray .int, 2) := by decide +kernel
theorem dX1_init_31 : decode cX1_init 31 = .ok (.putfield 21, 3) := by decide +kernel
theorem dX1_init_34 : decode cX1_init 34 = .ok (.aload_n 0, 1) := by decide +kernel
theorem dX1_init_35 : decode cX1_init 35 = .ok (.bipush 16, 2) := by decide +kernel
theorem dX1_init_37 : decode cX1_init 37 = .ok (.newarray .int, 2) := by decide +kernel
theorem dX1_init_39 : decode cX1_init 39 = .ok (.putfield 24, 3) := by decide +kernel
theorem dX1_init_42 : decode cX1_init 42 = .ok (.return_, 1) := by decide +kernel
theorem dX1_begin_0 : decode cX1_begin 0 = .ok (.aload_n 0, 1) := by decide +kernel
theorem dX1_begin_1 : decode cX1_begin 1 = .ok (.iconst 0, 1) := by decide +kernel
theorem dX1_begin_2 : decode cX1_begin 2 = .ok (.putfield 27, 3) := by decide +kernel
theorem dX1_begin_5 : decode cX1_begin 5 = .ok (.aload_n 1, 1) := by decide +kernel
theorem dX1_begin_6 : decode cX1_begin 6 = .ok (.getfield 31, 3) := by decide +kernel
theorem dX1_begin_9 : decode cX1_begin 9 = .ok (.aload_n 0, 1) := by decide +kernel
theorem dX1_begin_10 : decode cX1_begin 10 = .ok (.getfield 9, 3) := by decide +kernel
theorem dX1_begin_13 : decode cX1_begin 13 = .ok (.invokestatic 34, 3) := by decide +kernel
theorem dX1_begin_16 : decode cX1_begin 16 = .ok (.aload_n 1, 1) := by decide +kernel
theorem dX1_begin_17 : decode cX1_begin 17 = .ok (.getfield 38, 3) := by decide +kernel
theorem dX1_begin_20 : decode cX1_begin 20 = .ok (.aload_n 0, 1) := by decide +kernel
theorem dX1_begin_21 : decode cX1_begin 21 = .ok (.getfield 15, 3) := by decide +kernel
theorem dX1_begin_24 : decode cX1_begin 24 = .ok (.invokestatic 34, 3) := by decide +kernel
theorem dX1_begin_27 : decode cX1_begin 27 = .ok (.aload_n 1, 1) := by decide +kernel
theorem dX1_begin_28 : decode cX1_begin 28 = .ok (.getfield 39, 3) := by decide +kernel
theorem dX1_begin_31 : decode cX1_begin 31 = .ok (.aload_n 0, 1) := by decide +kernel
theorem dX1_begin_32 : decode cX1_begin 32 = .ok (.getfield 18, 3) := by decide +kernel
theorem dX1_begin_35 : decode cX1_begin 35 = .ok (.invokestatic 34, 3) := by decide +kernel
theorem dX1_begin_38 : decode cX1_begin 38 = .ok (.aload_n 0, 1) := by decide +kernel
theorem dX1_begin_39 : decode cX1_begin 39 = .ok (.getfield 21, 3) := by decide +kernel
theorem dX1_begin_42 : decode cX1_begin 42 = .ok (.iconst 0, 1) := by decide +kernel
theorem dX1_begin_43 : decode cX1_begin 43 = .ok (.invokestatic 40, 3) := by decide +kernel
theorem dX1_begin_46 : decode cX1_begin 46 = .ok (.aload_n 0, 1) := by decide +kernel
theorem dX1_begin_47 : decode cX1_begin 47 = .ok (.getfield 24, 3) := by decide +kernel
theorem dX1_begin_50 : decode cX1_begin 50 = .ok (.iconst 0, 1) := by decide +kernel
theorem dX1_begin_51 : decode cX1_begin 51 = .ok (.invokestatic 40, 3) := by decide +kernel
theorem dX1_begin_54 : decode cX1_begin 54 = .ok (.return_, 1) := by decide +kernel
theorem dX1_copyFrom_0 : decode cX1_copyFrom 0 = .ok (.aload_n 0, 1) := by decide +kernel
theorem dX1_copyFrom_1 : decode cX1_copyFrom 1 = .ok (.aload_n 1, 1) := by decide +kernel
theorem dX1_copyFrom_2 : decode cX1_copyFrom 2 = .ok (.getfield 27, 3) := by decide +kernel
theorem dX1_copyFrom_5 : decode cX1_copyFrom 5 = .ok (.putfield 27, 3) := by decide +kernel
theorem dX1_copyFrom_8 : decode cX1_copyFrom 8 = .ok (.aload_n 1, 1) := by decide +kernel
theorem dX1_copyFrom_9 : decode cX1_copyFrom 9 = .ok (.getfield 9, 3) := by decide +kernel
theorem dX1_copyFrom_12 : decode cX1_copyFrom 12 = .ok (.aload_n 0, 1) := by decide +kernel
theorem dX1_copyFrom_13 : decode cX1_copyFrom 13 = .ok (.getfield 9, 3) := by decide +kernel
theorem dX1_copyFrom_16 : decode cX1_copyFrom 16 = .ok (.invokestatic 34, 3) := by decide +kernel
theorem dX1_copyFrom_19 : decode cX1_copyFrom 19 = .ok (.aload_n 1, 1) := by decide +kernel
theorem dX1_copyFrom_20 : decode cX1_copyFrom 20 = .ok (.getfield 15, 3) := by decide +kernel
theorem dX1_copyFrom_23 : decode cX1_copyFrom 23 = .ok (.aload_n 0, 1) := by decide +kernel
theorem dX1_copyFrom_24 : decode cX1_copyFrom 24 = .ok (.getfield 15, 3) := by decide +kernel
theorem dX1_copyFrom_27 : decode cX1_copyFrom 27 = .ok (.invokestatic 34, 3) := by decide +kernel
theorem dX1_copyFrom_30 : decode cX1_copyFrom 30 = .ok (.aload_n 1, 1) := by decide +kernel
theorem dX1_copyFrom_31 : decode cX1_copyFrom 31 = .ok (.getfield 18, 3) := by decide +kernel
theorem dX1_copyFrom_34 : decode cX1_copyFrom 34 = .ok (.aload_n 0, 1) := by decide +kernel
theorem dX1_copyFrom_35 : decode cX1_copyFrom 35 = .ok (.getfield 18, 3) := by decide +kernel
theorem dX1_copyFrom_38 : decode cX1_copyFrom 38 = .ok (.invokestatic 34, 3) := by decide +kernel
theorem dX1_copyFrom_41 : decode cX1_copyFrom 41 = .ok (.aload_n 1, 1) := by decide +kernel
theorem dX1_copyFrom_42 : decode cX1_copyFrom 42 = .ok (.getfield 21, 3) := by decide +kernel
theorem dX1_copyFrom_45 : decode cX1_copyFrom 45 = .ok (.aload_n 0, 1) := by decide +kernel
theorem dX1_copyFrom_46 : decode cX1_copyFrom 46 = .ok (.getfield 21, 3) := by decide +kernel
theorem dX1_copyFrom_49 : decode cX1_copyFrom 49 = .ok (.invokestatic 34, 3) := by decide +kernel
theorem dX1_copyFrom_52 : decode cX1_copyFrom 52 = .ok (.aload_n 1, 1) := by decide +kernel
theorem dX1_copyFrom_53 : decode cX1_copyFrom 53 = .ok (.getfield 24, 3) := by decide +kernel
theorem dX1_copyFrom_56 : decode cX1_copyFrom 56 = .ok (.aload_n 0, 1) := by decide +kernel
theorem dX1_copyFrom_57 : decode cX1_copyFrom 57 = .ok (.getfield 24, 3) := by decide +kernel
theorem dX1_copyFrom_60 : decode cX1_copyFrom 60 = .ok (.invokestatic 34, 3) := by decide +kernel
theorem dX1_copyFrom_63 : decode cX1_copyFrom 63 = .ok (.return_, 1) := by decide +kernel
theorem dX1_fogOnLand_0 : decode cX1_fogOnLand 0 = .ok (.aload_n 0, 1) := by decide +kernel
theorem dX1_fogOnLand_1 : decode cX1_fogOnLand 1 = .ok (.getfield 9, 3) := by decide +kernel
theorem dX1_fogOnLand_4 : decode cX1_fogOnLand 4 = .ok (.invokestatic 44, 3) := by decide +kernel
theorem dX1_fogOnLand_7 : decode cX1_fogOnLand 7 = .ok (.ireturn, 1) := by decide +kernel
theorem dX1_fogOf_0 : decode cX1_fogOf 0 = .ok (.iconst 0, 1) := by decide +kernel
theorem dX1_fogOf_1 : decode cX1_fogOf 1 = .ok (.istore_n 2, 1) := by decide +kernel
theorem dX1_fogOf_2 : decode cX1_fogOf 2 = .ok (.iconst 0, 1) := by decide +kernel
theorem dX1_fogOf_3 : decode cX1_fogOf 3 = .ok (.istore_n 3, 1) := by decide +kernel
theorem dX1_fogOf_4 : decode cX1_fogOf 4 = .ok (.iload_n 3, 1) := by decide +kernel
theorem dX1_fogOf_5 : decode cX1_fogOf 5 = .ok (.bipush 40, 2) := by decide +kernel
theorem dX1_fogOf_7 : decode cX1_fogOf 7 = .ok (.if_icmp .ge 28, 3) := by decide +kernel
theorem dX1_fogOf_10 : decode cX1_fogOf 10 = .ok (.aload_n 0, 1) := by decide +kernel
theorem dX1_fogOf_11 : decode cX1_fogOf 11 = .ok (.getfield 15, 3) := by decide +kernel
theorem dX1_fogOf_14 : decode cX1_fogOf 14 = .ok (.iload_n 3, 1) := by decide +kernel
theorem dX1_fogOf_15 : decode cX1_fogOf 15 = .ok (.iaload, 1) := by decide +kernel
theorem dX1_fogOf_16 : decode cX1_fogOf 16 = .ok (.iload_n 1, 1) := by decide +kernel
theorem dX1_fogOf_17 : decode cX1_fogOf 17 = .ok (.if_icmp .ne 12, 3) := by decide +kernel
theorem dX1_fogOf_20 : decode cX1_fogOf 20 = .ok (.iload_n 2, 1) := by decide +kernel
theorem dX1_fogOf_21 : decode cX1_fogOf 21 = .ok (.aload_n 0, 1) := by decide +kernel
theorem dX1_fogOf_22 : decode cX1_fogOf 22 = .ok (.getfield 9, 3) := by decide +kernel
theorem dX1_fogOf_25 : decode cX1_fogOf 25 = .ok (.iload_n 3, 1) := by decide +kernel
theorem dX1_fogOf_26 : decode cX1_fogOf 26 = .ok (.iaload, 1) := by decide +kernel
theorem dX1_fogOf_27 : decode cX1_fogOf 27 = .ok (.iadd, 1) := by decide +kernel
theorem dX1_fogOf_28 : decode cX1_fogOf 28 = .ok (.istore_n 2, 1) := by decide +kernel
theorem dX1_fogOf_29 : decode cX1_fogOf 29 = .ok (.iinc 3 1, 3) := by decide +kernel
theorem dX1_fogOf_32 : decode cX1_fogOf 32 = .ok (.goto (-28), 3) := by decide +kernel
theorem dX1_fogOf_35 : decode cX1_fogOf 35 = .ok (.iload_n 2, 1) := by decide +kernel
theorem dX1_fogOf_36 : decode cX1_fogOf 36 = .ok (.ireturn, 1) := by decide +kernel
theorem dX1_cellsOf_0 : decode cX1_cellsOf 0 = .ok (.iconst 0, 1) := by decide +kernel
theorem dX1_cellsOf_1 : decode cX1_cellsOf 1 = .ok (.istore_n 2, 1) := by decide +kernel
theorem dX1_cellsOf_2 : decode cX1_cellsOf 2 = .ok (.iconst 0, 1) := by decide +kernel
theorem dX1_cellsOf_3 : decode cX1_cellsOf 3 = .ok (.istore_n 3, 1) := by decide +kernel
theorem dX1_cellsOf_4 : decode cX1_cellsOf 4 = .ok (.iload_n 3, 1) := by decide +kernel
theorem dX1_cellsOf_5 : decode cX1_cellsOf 5 = .ok (.bipush 40, 2) := by decide +kernel
theorem dX1_cellsOf_7 : decode cX1_cellsOf 7 = .ok (.if_icmp .ge 22, 3) := by decide +kernel
theorem dX1_cellsOf_10 : decode cX1_cellsOf 10 = .ok (.aload_n 0, 1) := by decide +kernel
theorem dX1_cellsOf_11 : decode cX1_cellsOf 11 = .ok (.getfield 15, 3) := by decide +kernel
theorem dX1_cellsOf_14 : decode cX1_cellsOf 14 = .ok (.iload_n 3, 1) := by decide +kernel
theorem dX1_cellsOf_15 : decode cX1_cellsOf 15 = .ok (.iaload, 1) := by decide +kernel
theorem dX1_cellsOf_16 : decode cX1_cellsOf 16 = .ok (.iload_n 1, 1) := by decide +kernel
theorem dX1_cellsOf_17 : decode cX1_cellsOf 17 = .ok (.if_icmp .ne 6, 3) := by decide +kernel
theorem dX1_cellsOf_20 : decode cX1_cellsOf 20 = .ok (.iinc 2 1, 3) := by decide +kernel
theorem dX1_cellsOf_23 : decode cX1_cellsOf 23 = .ok (.iinc 3 1, 3) := by decide +kernel
theorem dX1_cellsOf_26 : decode cX1_cellsOf 26 = .ok (.goto (-22), 3) := by decide +kernel
theorem dX1_cellsOf_29 : decode cX1_cellsOf 29 = .ok (.iload_n 2, 1) := by decide +kernel
theorem dX1_cellsOf_30 : decode cX1_cellsOf 30 = .ok (.ireturn, 1) := by decide +kernel
theorem dX1_cellsWithoutFog_0 : decode cX1_cellsWithoutFog 0 = .ok (.iconst 0, 1) := by decide +kernel
theorem dX1_cellsWithoutFog_1 : decode cX1_cellsWithoutFog 1 = .ok (.istore_n 1, 1) := by decide +kernel
theorem dX1_cellsWithoutFog_2 : decode cX1_cellsWithoutFog 2 = .ok (.iconst 0, 1) := by decide +kernel
theorem dX1_cellsWithoutFog_3 : decode cX1_cellsWithoutFog 3 = .ok (.istore_n 2, 1) := by decide +kernel
theorem dX1_cellsWithoutFog_4 : decode cX1_cellsWithoutFog 4 = .ok (.iload_n 2, 1) := by decide +kernel
theorem dX1_cellsWithoutFog_5 : decode cX1_cellsWithoutFog 5 = .ok (.bipush 40, 2) := by decide +kernel
theorem dX1_cellsWithoutFog_7 : decode cX1_cellsWithoutFog 7 = .ok (.if_icmp .ge 31, 3) := by decide +kernel
theorem dX1_cellsWithoutFog_10 : decode cX1_cellsWithoutFog 10 = .ok (.aload_n 0, 1) := by decide +kernel
theorem dX1_cellsWithoutFog_11 : decode cX1_cellsWithoutFog 11 = .ok (.getfield 15, 3) := by decide +kernel
theorem dX1_cellsWithoutFog_14 : decode cX1_cellsWithoutFog 14 = .ok (.iload_n 2, 1) := by decide +kernel
theorem dX1_cellsWithoutFog_15 : decode cX1_cellsWithoutFog 15 = .ok (.iaload, 1) := by decide +kernel
theorem dX1_cellsWithoutFog_16 : decode cX1_cellsWithoutFog 16 = .ok (.iconst (-1), 1) := by decide +kernel
theorem dX1_cellsWithoutFog_17 : decode cX1_cellsWithoutFog 17 = .ok (.if_icmp .eq 15, 3) := by decide +kernel
theorem dX1_cellsWithoutFog_20 : decode cX1_cellsWithoutFog 20 = .ok (.aload_n 0, 1) := by decide +kernel
theorem dX1_cellsWithoutFog_21 : decode cX1_cellsWithoutFog 21 = .ok (.getfield 9, 3) := by decide +kernel
theorem dX1_cellsWithoutFog_24 : decode cX1_cellsWithoutFog 24 = .ok (.iload_n 2, 1) := by decide +kernel
theorem dX1_cellsWithoutFog_25 : decode cX1_cellsWithoutFog 25 = .ok (.iaload, 1) := by decide +kernel
theorem dX1_cellsWithoutFog_26 : decode cX1_cellsWithoutFog 26 = .ok (.ifCond .ne 6, 3) := by decide +kernel
theorem dX1_cellsWithoutFog_29 : decode cX1_cellsWithoutFog 29 = .ok (.iinc 1 1, 3) := by decide +kernel
theorem dX1_cellsWithoutFog_32 : decode cX1_cellsWithoutFog 32 = .ok (.iinc 2 1, 3) := by decide +kernel
theorem dX1_cellsWithoutFog_35 : decode cX1_cellsWithoutFog 35 = .ok (.goto (-31), 3) := by decide +kernel
theorem dX1_cellsWithoutFog_38 : decode cX1_cellsWithoutFog 38 = .ok (.iload_n 1, 1) := by decide +kernel
theorem dX1_cellsWithoutFog_39 : decode cX1_cellsWithoutFog 39 = .ok (.ireturn, 1) := by decide +kernel
theorem dX1_thickestCell_0 : decode cX1_thickestCell 0 = .ok (.iconst (-1), 1) := by decide +kernel
theorem dX1_thickestCell_1 : decode cX1_thickestCell 1 = .ok (.istore_n 1, 1) := by decide +kernel
theorem dX1_thickestCell_2 : decode cX1_thickestCell 2 = .ok (.iconst (-1), 1) := by decide +kernel
theorem dX1_thickestCell_3 : decode cX1_thickestCell 3 = .ok (.istore_n 2, 1) := by decide +kernel
theorem dX1_thickestCell_4 : decode cX1_thickestCell 4 = .ok (.iconst 0, 1) := by decide +kernel
theorem dX1_thickestCell_5 : decode cX1_thickestCell 5 = .ok (.istore_n 3, 1) := by decide +kernel
theorem dX1_thickestCell_6 : decode cX1_thickestCell 6 = .ok (.iload_n 3, 1) := by decide +kernel
theorem dX1_thickestCell_7 : decode cX1_thickestCell 7 = .ok (.bipush 40, 2) := by decide +kernel
theorem dX1_thickestCell_9 : decode cX1_thickestCell 9 = .ok (.if_icmp .ge 38, 3) := by decide +kernel
theorem dX1_thickestCell_12 : decode cX1_thickestCell 12 = .ok (.aload_n 0, 1) := by decide +kernel
theorem dX1_thickestCell_13 : decode cX1_thickestCell 13 = .ok (.getfield 15, 3) := by decide +kernel
theorem dX1_thickestCell_16 : decode cX1_thickestCell 16 = .ok (.iload_n 3, 1) := by decide +kernel
theorem dX1_thickestCell_17 : decode cX1_thickestCell 17 = .ok (.iaload, 1) := by decide +kernel
theorem dX1_thickestCell_18 : decode cX1_thickestCell 18 = .ok (.iconst (-1), 1) := by decide +kernel
theorem dX1_thickestCell_19 : decode cX1_thickestCell 19 = .ok (.if_icmp .eq 22, 3) := by decide +kernel
theorem dX1_thickestCell_22 : decode cX1_thickestCell 22 = .ok (.aload_n 0, 1) := by decide +kernel
theorem dX1_thickestCell_23 : decode cX1_thickestCell 23 = .ok (.getfield 9, 3) := by decide +kernel
theorem dX1_thickestCell_26 : decode cX1_thickestCell 26 = .ok (.iload_n 3, 1) := by decide +kernel
theorem dX1_thickestCell_27 : decode cX1_thickestCell 27 = .ok (.iaload, 1) := by decide +kernel
theorem dX1_thickestCell_28 : decode cX1_thickestCell 28 = .ok (.iload_n 2, 1) := by decide +kernel
theorem dX1_thickestCell_29 : decode cX1_thickestCell 29 = .ok (.if_icmp .le 12, 3) := by decide +kernel
theorem dX1_thickestCell_32 : decode cX1_thickestCell 32 = .ok (.iload_n 3, 1) := by decide +kernel
theorem dX1_thickestCell_33 : decode cX1_thickestCell 33 = .ok (.istore_n 1, 1) := by decide +kernel
theorem dX1_thickestCell_34 : decode cX1_thickestCell 34 = .ok (.aload_n 0, 1) := by decide +kernel
theorem dX1_thickestCell_35 : decode cX1_thickestCell 35 = .ok (.getfield 9, 3) := by decide +kernel
theorem dX1_thickestCell_38 : decode cX1_thickestCell 38 = .ok (.iload_n 3, 1) := by decide +kernel
theorem dX1_thickestCell_39 : decode cX1_thickestCell 39 = .ok (.iaload, 1) := by decide +kernel
theorem dX1_thickestCell_40 : decode cX1_thickestCell 40 = .ok (.istore_n 2, 1) := by decide +kernel
theorem dX1_thickestCell_41 : decode cX1_thickestCell 41 = .ok (.iinc 3 1, 3) := by decide +kernel
theorem dX1_thickestCell_44 : decode cX1_thickestCell 44 = .ok (.goto (-38), 3) := by decide +kernel
theorem dX1_thickestCell_47 : decode cX1_thickestCell 47 = .ok (.iload_n 1, 1) := by decide +kernel
theorem dX1_thickestCell_48 : decode cX1_thickestCell 48 = .ok (.ireturn, 1) := by decide +kernel
theorem dX1_asThick_0 : decode cX1_asThick 0 = .ok (.lconst 0, 1) := by decide +kernel
theorem dX1_asThick_1 : decode cX1_asThick 1 = .ok (.lstore_n 2, 1) := by decide +kernel
theorem dX1_asThick_2 : decode cX1_asThick 2 = .ok (.iconst 0, 1) := by decide +kernel
theorem dX1_asThick_3 : decode cX1_asThick 3 = .ok (.istore 4, 2) := by decide +kernel
theorem dX1_asThick_5 : decode cX1_asThick 5 = .ok (.iload 4, 2) := by decide +kernel
theorem dX1_asThick_7 : decode cX1_asThick 7 = .ok (.bipush 40, 2) := by decide +kernel
theorem dX1_asThick_9 : decode cX1_asThick 9 = .ok (.if_icmp .ge 38, 3) := by decide +kernel
theorem dX1_asThick_12 : decode cX1_asThick 12 = .ok (.aload_n 0, 1) := by decide +kernel
theorem dX1_asThick_13 : decode cX1_asThick 13 = .ok (.getfield 15, 3) := by decide +kernel
theorem dX1_asThick_16 : decode cX1_asThick 16 = .ok (.iload 4, 2) := by decide +kernel
theorem dX1_asThick_18 : decode cX1_asThick 18 = .ok (.iaload, 1) := by decide +kernel
theorem dX1_asThick_19 : decode cX1_asThick 19 = .ok (.iconst (-1), 1) := by decide +kernel
theorem dX1_asThick_20 : decode cX1_asThick 20 = .ok (.if_icmp .eq 21, 3) := by decide +kernel
theorem dX1_asThick_23 : decode cX1_asThick 23 = .ok (.aload_n 0, 1) := by decide +kernel
theorem dX1_asThick_24 : decode cX1_asThick 24 = .ok (.getfield 9, 3) := by decide +kernel
theorem dX1_asThick_27 : decode cX1_asThick 27 = .ok (.iload 4, 2) := by decide +kernel
theorem dX1_asThick_29 : decode cX1_asThick 29 = .ok (.iaload, 1) := by decide +kernel
theorem dX1_asThick_30 : decode cX1_asThick 30 = .ok (.iload_n 1, 1) := by decide +kernel
theorem dX1_asThick_31 : decode cX1_asThick 31 = .ok (.if_icmp .lt 10, 3) := by decide +kernel
theorem dX1_asThick_34 : decode cX1_asThick 34 = .ok (.lload_n 2, 1) := by decide +kernel
theorem dX1_asThick_35 : decode cX1_asThick 35 = .ok (.lconst 1, 1) := by decide +kernel
theorem dX1_asThick_36 : decode cX1_asThick 36 = .ok (.iload 4, 2) := by decide +kernel
theorem dX1_asThick_38 : decode cX1_asThick 38 = .ok (.lshl, 1) := by decide +kernel
theorem dX1_asThick_39 : decode cX1_asThick 39 = .ok (.lor, 1) := by decide +kernel
theorem dX1_asThick_40 : decode cX1_asThick 40 = .ok (.lstore_n 2, 1) := by decide +kernel
theorem dX1_asThick_41 : decode cX1_asThick 41 = .ok (.iinc 4 1, 3) := by decide +kernel
theorem dX1_asThick_44 : decode cX1_asThick 44 = .ok (.goto (-39), 3) := by decide +kernel
theorem dX1_asThick_47 : decode cX1_asThick 47 = .ok (.lload_n 2, 1) := by decide +kernel
theorem dX1_asThick_48 : decode cX1_asThick 48 = .ok (.lreturn, 1) := by decide +kernel
theorem dX1_isHidden_0 : decode cX1_isHidden 0 = .ok (.iconst 0, 1) := by decide +kernel
theorem dX1_isHidden_1 : decode cX1_isHidden 1 = .ok (.istore_n 3, 1) := by decide +kernel
theorem dX1_isHidden_2 : decode cX1_isHidden 2 = .ok (.iconst 0, 1) := by decide +kernel
theorem dX1_isHidden_3 : decode cX1_isHidden 3 = .ok (.istore 4, 2) := by decide +kernel
theorem dX1_isHidden_5 : decode cX1_isHidden 5 = .ok (.iload 4, 2) := by decide +kernel
theorem dX1_isHidden_7 : decode cX1_isHidden 7 = .ok (.bipush 40, 2) := by decide +kernel
theorem dX1_isHidden_9 : decode cX1_isHidden 9 = .ok (.if_icmp .ge 36, 3) := by decide +kernel
theorem dX1_isHidden_12 : decode cX1_isHidden 12 = .ok (.aload_n 0, 1) := by decide +kernel
theorem dX1_isHidden_13 : decode cX1_isHidden 13 = .ok (.getfield 15, 3) := by decide +kernel
theorem dX1_isHidden_16 : decode cX1_isHidden 16 = .ok (.iload 4, 2) := by decide +kernel
theorem dX1_isHidden_18 : decode cX1_isHidden 18 = .ok (.iaload, 1) := by decide +kernel
theorem dX1_isHidden_19 : decode cX1_isHidden 19 = .ok (.iload_n 1, 1) := by decide +kernel
theorem dX1_isHidden_20 : decode cX1_isHidden 20 = .ok (.if_icmp .ne 19, 3) := by decide +kernel
theorem dX1_isHidden_23 : decode cX1_isHidden 23 = .ok (.iinc 3 1, 3) := by decide +kernel
theorem dX1_isHidden_26 : decode cX1_isHidden 26 = .ok (.aload_n 0, 1) := by decide +kernel
theorem dX1_isHidden_27 : decode cX1_isHidden 27 = .ok (.getfield 9, 3) := by decide +kernel
theorem dX1_isHidden_30 : decode cX1_isHidden 30 = .ok (.iload 4, 2) := by decide +kernel
theorem dX1_isHidden_32 : decode cX1_isHidden 32 = .ok (.iaload, 1) := by decide +kernel
theorem dX1_isHidden_33 : decode cX1_isHidden 33 = .ok (.iload_n 2, 1) := by decide +kernel
theorem dX1_isHidden_34 : decode cX1_isHidden 34 = .ok (.if_icmp .ge 5, 3) := by decide +kernel
theorem dX1_isHidden_37 : decode cX1_isHidden 37 = .ok (.iconst 0, 1) := by decide +kernel
theorem dX1_isHidden_38 : decode cX1_isHidden 38 = .ok (.ireturn, 1) := by decide +kernel
theorem dX1_isHidden_39 : decode cX1_isHidden 39 = .ok (.iinc 4 1, 3) := by decide +kernel
theorem dX1_isHidden_42 : decode cX1_isHidden 42 = .ok (.goto (-37), 3) := by decide +kernel
theorem dX1_isHidden_45 : decode cX1_isHidden 45 = .ok (.iload_n 3, 1) := by decide +kernel
theorem dX1_isHidden_46 : decode cX1_isHidden 46 = .ok (.ifCond .le 7, 3) := by decide +kernel
theorem dX1_isHidden_49 : decode cX1_isHidden 49 = .ok (.iconst 1, 1) := by decide +kernel
theorem dX1_isHidden_50 : decode cX1_isHidden 50 = .ok (.goto 4, 3) := by decide +kernel
theorem dX1_isHidden_53 : decode cX1_isHidden 53 = .ok (.iconst 0, 1) := by decide +kernel
theorem dX1_isHidden_54 : decode cX1_isHidden 54 = .ok (.ireturn, 1) := by decide +kernel
theorem dX1_storeOf_0 : decode cX1_storeOf 0 = .ok (.iload_n 1, 1) := by decide +kernel
theorem dX1_storeOf_1 : decode cX1_storeOf 1 = .ok (.ifCond .lt 17, 3) := by decide +kernel
theorem dX1_storeOf_4 : decode cX1_storeOf 4 = .ok (.iload_n 1, 1) := by decide +kernel
theorem dX1_storeOf_5 : decode cX1_storeOf 5 = .ok (.iconst 4, 1) := by decide +kernel
theorem dX1_storeOf_6 : decode cX1_storeOf 6 = .ok (.if_icmp .ge 12, 3) := by decide +kernel
theorem dX1_storeOf_9 : decode cX1_storeOf 9 = .ok (.aload_n 0, 1) := by decide +kernel
theorem dX1_storeOf_10 : decode cX1_storeOf 10 = .ok (.getfield 18, 3) := by decide +kernel
theorem dX1_storeOf_13 : decode cX1_storeOf 13 = .ok (.iload_n 1, 1) := by decide +kernel
theorem dX1_storeOf_14 : decode cX1_storeOf 14 = .ok (.iaload, 1) := by decide +kernel
theorem dX1_storeOf_15 : decode cX1_storeOf 15 = .ok (.goto 4, 3) := by decide +kernel
theorem dX1_storeOf_18 : decode cX1_storeOf 18 = .ok (.iconst 0, 1) := by decide +kernel
theorem dX1_storeOf_19 : decode cX1_storeOf 19 = .ok (.ireturn, 1) := by decide +kernel
theorem dX1_loan_0 : decode cX1_loan 0 = .ok (.iload_n 1, 1) := by decide +kernel
theorem dX1_loan_1 : decode cX1_loan 1 = .ok (.iconst 4, 1) := by decide +kernel
theorem dX1_loan_2 : decode cX1_loan 2 = .ok (.imul, 1) := by decide +kernel
theorem dX1_loan_3 : decode cX1_loan 3 = .ok (.iload_n 2, 1) := by decide +kernel
theorem dX1_loan_4 : decode cX1_loan 4 = .ok (.iadd, 1) := by decide +kernel
theorem dX1_loan_5 : decode cX1_loan 5 = .ok (.istore_n 3, 1) := by decide +kernel
theorem dX1_loan_6 : decode cX1_loan 6 = .ok (.iload_n 3, 1) := by decide +kernel
theorem dX1_loan_7 : decode cX1_loan 7 = .ok (.ifCond .lt 18, 3) := by decide +kernel
theorem dX1_loan_10 : decode cX1_loan 10 = .ok (.iload_n 3, 1) := by decide +kernel
theorem dX1_loan_11 : decode cX1_loan 11 = .ok (.bipush 16, 2) := by decide +kernel
theorem dX1_loan_13 : decode cX1_loan 13 = .ok (.if_icmp .ge 12, 3) := by decide +kernel
theorem dX1_loan_16 : decode cX1_loan 16 = .ok (.aload_n 0, 1) := by decide +kernel
theorem dX1_loan_17 : decode cX1_loan 17 = .ok (.getfield 24, 3) := by decide +kernel
theorem dX1_loan_20 : decode cX1_loan 20 = .ok (.iload_n 3, 1) := by decide +kernel
theorem dX1_loan_21 : decode cX1_loan 21 = .ok (.iaload, 1) := by decide +kernel
theorem dX1_loan_22 : decode cX1_loan 22 = .ok (.goto 4, 3) := by decide +kernel
theorem dX1_loan_25 : decode cX1_loan 25 = .ok (.iconst 0, 1) := by decide +kernel
theorem dX1_loan_26 : decode cX1_loan 26 = .ok (.ireturn, 1) := by decide +kernel
theorem dX1_addLoan_0 : decode cX1_addLoan 0 = .ok (.iload_n 1, 1) := by decide +kernel
theorem dX1_addLoan_1 : decode cX1_addLoan 1 = .ok (.iconst 4, 1) := by decide +kernel
theorem dX1_addLoan_2 : decode cX1_addLoan 2 = .ok (.imul, 1) := by decide +kernel
theorem dX1_addLoan_3 : decode cX1_addLoan 3 = .ok (.iload_n 2, 1) := by decide +kernel
theorem dX1_addLoan_4 : decode cX1_addLoan 4 = .ok (.iadd, 1) := by decide +kernel
theorem dX1_addLoan_5 : decode cX1_addLoan 5 = .ok (.istore 4, 2) := by decide +kernel
theorem dX1_addLoan_7 : decode cX1_addLoan 7 = .ok (.iload 4, 2) := by decide +kernel
theorem dX1_addLoan_9 : decode cX1_addLoan 9 = .ok (.ifCond .lt 21, 3) := by decide +kernel
theorem dX1_addLoan_12 : decode cX1_addLoan 12 = .ok (.iload 4, 2) := by decide +kernel
theorem dX1_addLoan_14 : decode cX1_addLoan 14 = .ok (.bipush 16, 2) := by decide +kernel
theorem dX1_addLoan_16 : decode cX1_addLoan 16 = .ok (.if_icmp .ge 14, 3) := by decide +kernel
theorem dX1_addLoan_19 : decode cX1_addLoan 19 = .ok (.aload_n 0, 1) := by decide +kernel
theorem dX1_addLoan_20 : decode cX1_addLoan 20 = .ok (.getfield 24, 3) := by decide +kernel
theorem dX1_addLoan_23 : decode cX1_addLoan 23 = .ok (.iload 4, 2) := by decide +kernel
theorem dX1_addLoan_25 : decode cX1_addLoan 25 = .ok (.dup2, 1) := by decide +kernel
theorem dX1_addLoan_26 : decode cX1_addLoan 26 = .ok (.iaload, 1) := by decide +kernel
theorem dX1_addLoan_27 : decode cX1_addLoan 27 = .ok (.iload_n 3, 1) := by decide +kernel
theorem dX1_addLoan_28 : decode cX1_addLoan 28 = .ok (.iadd, 1) := by decide +kernel
theorem dX1_addLoan_29 : decode cX1_addLoan 29 = .ok (.iastore, 1) := by decide +kernel
theorem dX1_addLoan_30 : decode cX1_addLoan 30 = .ok (.return_, 1) := by decide +kernel
theorem dX1_netted_0 : decode cX1_netted 0 = .ok (.iconst 0, 1) := by decide +kernel
theorem dX1_netted_1 : decode cX1_netted 1 = .ok (.istore_n 2, 1) := by decide +kernel
theorem dX1_netted_2 : decode cX1_netted 2 = .ok (.iconst 0, 1) := by decide +kernel
theorem dX1_netted_3 : decode cX1_netted 3 = .ok (.istore_n 3, 1) := by decide +kernel
theorem dX1_netted_4 : decode cX1_netted 4 = .ok (.iload_n 3, 1) := by decide +kernel
theorem dX1_netted_5 : decode cX1_netted 5 = .ok (.iconst 4, 1) := by decide +kernel
theorem dX1_netted_6 : decode cX1_netted 6 = .ok (.if_icmp .ge 25, 3) := by decide +kernel
theorem dX1_netted_9 : decode cX1_netted 9 = .ok (.iload_n 2, 1) := by decide +kernel
theorem dX1_netted_10 : decode cX1_netted 10 = .ok (.aload_n 0, 1) := by decide +kernel
theorem dX1_netted_11 : decode cX1_netted 11 = .ok (.iload_n 1, 1) := by decide +kernel
theorem dX1_netted_12 : decode cX1_netted 12 = .ok (.iload_n 3, 1) := by decide +kernel
theorem dX1_netted_13 : decode cX1_netted 13 = .ok (.invokevirtual 48, 3) := by decide +kernel
theorem dX1_netted_16 : decode cX1_netted 16 = .ok (.aload_n 0, 1) := by decide +kernel
theorem dX1_netted_17 : decode cX1_netted 17 = .ok (.iload_n 3, 1) := by decide +kernel
theorem dX1_netted_18 : decode cX1_netted 18 = .ok (.iload_n 1, 1) := by decide +kernel
theorem dX1_netted_19 : decode cX1_netted 19 = .ok (.invokevirtual 48, 3) := by decide +kernel
theorem dX1_netted_22 : decode cX1_netted 22 = .ok (.isub, 1) := by decide +kernel
theorem dX1_netted_23 : decode cX1_netted 23 = .ok (.iadd, 1) := by decide +kernel
theorem dX1_netted_24 : decode cX1_netted 24 = .ok (.istore_n 2, 1) := by decide +kernel
theorem dX1_netted_25 : decode cX1_netted 25 = .ok (.iinc 3 1, 3) := by decide +kernel
theorem dX1_netted_28 : decode cX1_netted 28 = .ok (.goto (-24), 3) := by decide +kernel
theorem dX1_netted_31 : decode cX1_netted 31 = .ok (.iload_n 2, 1) := by decide +kernel
theorem dX1_netted_32 : decode cX1_netted 32 = .ok (.ireturn, 1) := by decide +kernel
theorem dX2_init_0 : decode cX2_init 0 = .ok (.aload_n 0, 1) := by decide +kernel
theorem dX2_init_1 : decode cX2_init 1 = .ok (.invokespecial 3, 3) := by decide +kernel
theorem dX2_init_4 : decode cX2_init 4 = .ok (.aload_n 0, 1) := by decide +kernel
theorem dX2_init_5 : decode cX2_init 5 = .ok (.iconst 4, 1) := by decide +kernel
theorem dX2_init_6 : decode cX2_init 6 = .ok (.newarray .int, 2) := by decide +kernel
theorem dX2_init_8 : decode cX2_init 8 = .ok (.putfield 9, 3) := by decide +kernel
theorem dX2_init_11 : decode cX2_init 11 = .ok (.return_, 1) := by decide +kernel
theorem dX2_check_0 : decode cX2_check 0 = .ok (.aload_n 0, 1) := by decide +kernel
theorem dX2_check_1 : decode cX2_check 1 = .ok (.iconst 0, 1) := by decide +kernel
theorem dX2_check_2 : decode cX2_check 2 = .ok (.putfield 15, 3) := by decide +kernel
theorem dX2_check_5 : decode cX2_check 5 = .ok (.aload_n 0, 1) := by decide +kernel
theorem dX2_check_6 : decode cX2_check 6 = .ok (.getfield 9, 3) := by decide +kernel
theorem dX2_check_9 : decode cX2_check 9 = .ok (.iconst 0, 1) := by decide +kernel
theorem dX2_check_10 : decode cX2_check 10 = .ok (.invokestatic 19, 3) := by decide +kernel
theorem dX2_check_13 : decode cX2_check 13 = .ok (.iconst 0, 1) := by decide +kernel
theorem dX2_check_14 : decode cX2_check 14 = .ok (.istore_n 2, 1) := by decide +kernel
theorem dX2_check_15 : decode cX2_check 15 = .ok (.iload_n 2, 1) := by decide +kernel
theorem dX2_check_16 : decode cX2_check 16 = .ok (.sipush 400, 3) := by decide +kernel
theorem dX2_check_19 : decode cX2_check 19 = .ok (.if_icmp .gt 42, 3) := by decide +kernel
theorem dX2_check_22 : decode cX2_check 22 = .ok (.aload_n 1, 1) := by decide +kernel
theorem dX2_check_23 : decode cX2_check 23 = .ok (.getfield 23, 3) := by decide +kernel
theorem dX2_check_26 : decode cX2_check 26 = .ok (.ifCond .ne 35, 3) := by decide +kernel
theorem dX2_check_29 : decode cX2_check 29 = .ok (.aload_n 1, 1) := by decide +kernel
theorem dX2_check_30 : decode cX2_check 30 = .ok (.aload_n 0, 1) := by decide +kernel
theorem dX2_check_31 : decode cX2_check 31 = .ok (.getfield 15, 3) := by decide +kernel
theorem dX2_check_34 : decode cX2_check 34 = .ok (.invokevirtual 28, 3) := by decide +kernel
theorem dX2_check_37 : decode cX2_check 37 = .ok (.bipush 34, 2) := by decide +kernel
theorem dX2_check_39 : decode cX2_check 39 = .ok (.if_icmp .eq 22, 3) := by decide +kernel
theorem dX2_check_42 : decode cX2_check 42 = .ok (.aload_n 0, 1) := by decide +kernel
theorem dX2_check_43 : decode cX2_check 43 = .ok (.aload_n 1, 1) := by decide +kernel
theorem dX2_check_44 : decode cX2_check 44 = .ok (.aload_n 1, 1) := by decide +kernel
theorem dX2_check_45 : decode cX2_check 45 = .ok (.aload_n 0, 1) := by decide +kernel
theorem dX2_check_46 : decode cX2_check 46 = .ok (.getfield 15, 3) := by decide +kernel
theorem dX2_check_49 : decode cX2_check 49 = .ok (.invokevirtual 28, 3) := by decide +kernel
theorem dX2_check_52 : decode cX2_check 52 = .ok (.invokevirtual 32, 3) := by decide +kernel
theorem dX2_check_55 : decode cX2_check 55 = .ok (.iinc 2 1, 3) := by decide +kernel
theorem dX2_check_58 : decode cX2_check 58 = .ok (.goto (-43), 3) := by decide +kernel
theorem dX2_check_61 : decode cX2_check 61 = .ok (.return_, 1) := by decide +kernel
theorem dX2_checkTell_0 : decode cX2_checkTell 0 = .ok (.iload_n 2, 1) := by decide +kernel
theorem dX2_checkTell_1 : decode cX2_checkTell 1 = .ok (.bipush 10, 2) := by decide +kernel
theorem dX2_checkTell_3 : decode cX2_checkTell 3 = .ok (.if_icmp .le 17, 3) := by decide +kernel
theorem dX2_checkTell_6 : decode cX2_checkTell 6 = .ok (.aload_n 1, 1) := by decide +kernel
theorem dX2_checkTell_7 : decode cX2_checkTell 7 = .ok (.iconst 1, 1) := by decide +kernel
theorem dX2_checkTell_8 : decode cX2_checkTell 8 = .ok (.aload_n 1, 1) := by decide +kernel
theorem dX2_checkTell_9 : decode cX2_checkTell 9 = .ok (.aload_n 0, 1) := by decide +kernel
theorem dX2_checkTell_10 : decode cX2_checkTell 10 = .ok (.getfield 15, 3) := by decide +kernel
theorem dX2_checkTell_13 : decode cX2_checkTell 13 = .ok (.invokevirtual 36, 3) := by decide +kernel
theorem dX2_checkTell_16 : decode cX2_checkTell 16 = .ok (.invokevirtual 39, 3) := by decide +kernel
theorem dX2_checkTell_19 : decode cX2_checkTell 19 = .ok (.return_, 1) := by decide +kernel
theorem dX2_checkTell_20 : decode cX2_checkTell 20 = .ok (.aload_n 0, 1) := by decide +kernel
theorem dX2_checkTell_21 : decode cX2_checkTell 21 = .ok (.aload_n 1, 1) := by decide +kernel
theorem dX2_checkTell_22 : decode cX2_checkTell 22 = .ok (.iload_n 2, 1) := by decide +kernel
theorem dX2_checkTell_23 : decode cX2_checkTell 23 = .ok (.invokevirtual 43, 3) := by decide +kernel
theorem dX2_checkTell_26 : decode cX2_checkTell 26 = .ok (.aload_n 0, 1) := by decide +kernel
theorem dX2_checkTell_27 : decode cX2_checkTell 27 = .ok (.aload_n 1, 1) := by decide +kernel
theorem dX2_checkTell_28 : decode cX2_checkTell 28 = .ok (.iload_n 2, 1) := by decide +kernel
theorem dX2_checkTell_29 : decode cX2_checkTell 29 = .ok (.invokevirtual 46, 3) := by decide +kernel
theorem dX2_checkTell_32 : decode cX2_checkTell 32 = .ok (.iload_n 2, 1) := by decide +kernel
theorem dX2_checkTell_33 : decode cX2_checkTell 33 = .ok (.iconst 4, 1) := by decide +kernel
theorem dX2_checkTell_34 : decode cX2_checkTell 34 = .ok (.if_icmp .lt 17, 3) := by decide +kernel
theorem dX2_checkTell_37 : decode cX2_checkTell 37 = .ok (.iload_n 2, 1) := by decide +kernel
theorem dX2_checkTell_38 : decode cX2_checkTell 38 = .ok (.bipush 7, 2) := by decide +kernel
theorem dX2_checkTell_40 : decode cX2_checkTell 40 = .ok (.if_icmp .gt 11, 3) := by decide +kernel
theorem dX2_checkTell_43 : decode cX2_checkTell 43 = .ok (.aload_n 0, 1) := by decide +kernel
theorem dX2_checkTell_44 : decode cX2_checkTell 44 = .ok (.aload_n 1, 1) := by decide +kernel
theorem dX2_checkTell_45 : decode cX2_checkTell 45 = .ok (.invokevirtual 49, 3) := by decide +kernel
theorem dX2_checkTell_48 : decode cX2_checkTell 48 = .ok (.goto 25, 3) := by decide +kernel
theorem dX2_checkTell_51 : decode cX2_checkTell 51 = .ok (.aload_n 0, 1) := by decide +kernel
theorem dX2_checkTell_52 : decode cX2_checkTell 52 = .ok (.aload_n 1, 1) := by decide +kernel
theorem dX2_checkTell_53 : decode cX2_checkTell 53 = .ok (.bipush 23, 2) := by decide +kernel
theorem dX2_checkTell_55 : decode cX2_checkTell 55 = .ok (.iload_n 2, 1) := by decide +kernel
theorem dX2_checkTell_56 : decode cX2_checkTell 56 = .ok (.invokestatic 53, 3) := by decide +kernel
theorem dX2_checkTell_59 : decode cX2_checkTell 59 = .ok (.invokevirtual 56, 3) := by decide +kernel
theorem dX2_checkTell_62 : decode cX2_checkTell 62 = .ok (.aload_n 0, 1) := by decide +kernel
theorem dX2_checkTell_63 : decode cX2_checkTell 63 = .ok (.aload_n 1, 1) := by decide +kernel
theorem dX2_checkTell_64 : decode cX2_checkTell 64 = .ok (.bipush 24, 2) := by decide +kernel
theorem dX2_checkTell_66 : decode cX2_checkTell 66 = .ok (.iload_n 2, 1) := by decide +kernel
theorem dX2_checkTell_67 : decode cX2_checkTell 67 = .ok (.invokestatic 60, 3) := by decide +kernel
theorem dX2_checkTell_70 : decode cX2_checkTell 70 = .ok (.invokevirtual 56, 3) := by decide +kernel
theorem dX2_checkTell_73 : decode cX2_checkTell 73 = .ok (.aload_n 0, 1) := by decide +kernel
theorem dX2_checkTell_74 : decode cX2_checkTell 74 = .ok (.aload_n 1, 1) := by decide +kernel
theorem dX2_checkTell_75 : decode cX2_checkTell 75 = .ok (.bipush 25, 2) := by decide +kernel
theorem dX2_checkTell_77 : decode cX2_checkTell 77 = .ok (.invokevirtual 46, 3) := by decide +kernel
theorem dX2_checkTell_80 : decode cX2_checkTell 80 = .ok (.return_, 1) := by decide +kernel
theorem dX2_countTell_0 : decode cX2_countTell 0 = .ok (.iload_n 2, 1) := by decide +kernel
theorem dX2_countTell_1 : decode cX2_countTell 1 = .ok (.ifCond .lt 44, 3) := by decide +kernel
theorem dX2_countTell_4 : decode cX2_countTell 4 = .ok (.iload_n 2, 1) := by decide +kernel
theorem dX2_countTell_5 : decode cX2_countTell 5 = .ok (.iconst 3, 1) := by decide +kernel
theorem dX2_countTell_6 : decode cX2_countTell 6 = .ok (.if_icmp .gt 39, 3) := by decide +kernel
theorem dX2_countTell_9 : decode cX2_countTell 9 = .ok (.aload_n 0, 1) := by decide +kernel
theorem dX2_countTell_10 : decode cX2_countTell 10 = .ok (.getfield 9, 3) := by decide +kernel
theorem dX2_countTell_13 : decode cX2_countTell 13 = .ok (.iload_n 2, 1) := by decide +kernel
theorem dX2_countTell_14 : decode cX2_countTell 14 = .ok (.dup2, 1) := by decide +kernel
theorem dX2_countTell_15 : decode cX2_countTell 15 = .ok (.iaload, 1) := by decide +kernel
theorem dX2_countTell_16 : decode cX2_countTell 16 = .ok (.iconst 1, 1) := by decide +kernel
theorem dX2_countTell_17 : decode cX2_countTell 17 = .ok (.iadd, 1) := by decide +kernel
theorem dX2_countTell_18 : decode cX2_countTell 18 = .ok (.iastore, 1) := by decide +kernel
theorem dX2_countTell_19 : decode cX2_countTell 19 = .ok (.aload_n 0, 1) := by decide +kernel
theorem dX2_countTell_20 : decode cX2_countTell 20 = .ok (.getfield 9, 3) := by decide +kernel
theorem dX2_countTell_23 : decode cX2_countTell 23 = .ok (.iload_n 2, 1) := by decide +kernel
theorem dX2_countTell_24 : decode cX2_countTell 24 = .ok (.iaload, 1) := by decide +kernel
theorem dX2_countTell_25 : decode cX2_countTell 25 = .ok (.iload_n 2, 1) := by decide +kernel
theorem dX2_countTell_26 : decode cX2_countTell 26 = .ok (.invokestatic 63, 3) := by decide +kernel
theorem dX2_countTell_29 : decode cX2_countTell 29 = .ok (.if_icmp .le 16, 3) := by decide +kernel
theorem dX2_countTell_32 : decode cX2_countTell 32 = .ok (.aload_n 1, 1) := by decide +kernel
theorem dX2_countTell_33 : decode cX2_countTell 33 = .ok (.iconst 2, 1) := by decide +kernel
theorem dX2_countTell_34 : decode cX2_countTell 34 = .ok (.aload_n 1, 1) := by decide +kernel
theorem dX2_countTell_35 : decode cX2_countTell 35 = .ok (.aload_n 0, 1) := by decide +kernel
theorem dX2_countTell_36 : decode cX2_countTell 36 = .ok (.getfield 15, 3) := by decide +kernel
theorem dX2_countTell_39 : decode cX2_countTell 39 = .ok (.invokevirtual 36, 3) := by decide +kernel
theorem dX2_countTell_42 : decode cX2_countTell 42 = .ok (.invokevirtual 39, 3) := by decide +kernel
theorem dX2_countTell_45 : decode cX2_countTell 45 = .ok (.return_, 1) := by decide +kernel
theorem dX2_checkLaw_0 : decode cX2_checkLaw 0 = .ok (.aload_n 0, 1) := by decide +kernel
theorem dX2_checkLaw_1 : decode cX2_checkLaw 1 = .ok (.aload_n 1, 1) := by decide +kernel
theorem dX2_checkLaw_2 : decode cX2_checkLaw 2 = .ok (.bipush 26, 2) := by decide +kernel
theorem dX2_checkLaw_4 : decode cX2_checkLaw 4 = .ok (.invokevirtual 46, 3) := by decide +kernel
theorem dX2_checkLaw_7 : decode cX2_checkLaw 7 = .ok (.iconst 1, 1) := by decide +kernel
theorem dX2_checkLaw_8 : decode cX2_checkLaw 8 = .ok (.istore_n 2, 1) := by decide +kernel
theorem dX2_checkLaw_9 : decode cX2_checkLaw 9 = .ok (.iload_n 2, 1) := by decide +kernel
theorem dX2_checkLaw_10 : decode cX2_checkLaw 10 = .ok (.sipush 400, 3) := by decide +kernel
theorem dX2_checkLaw_13 : decode cX2_checkLaw 13 = .ok (.if_icmp .gt 90, 3) := by decide +kernel
theorem dX2_checkLaw_16 : decode cX2_checkLaw 16 = .ok (.aload_n 1, 1) := by decide +kernel
theorem dX2_checkLaw_17 : decode cX2_checkLaw 17 = .ok (.getfield 23, 3) := by decide +kernel
theorem dX2_checkLaw_20 : decode cX2_checkLaw 20 = .ok (.ifCond .ne 83, 3) := by decide +kernel
theorem dX2_checkLaw_23 : decode cX2_checkLaw 23 = .ok (.aload_n 1, 1) := by decide +kernel
theorem dX2_checkLaw_24 : decode cX2_checkLaw 24 = .ok (.aload_n 0, 1) := by decide +kernel
theorem dX2_checkLaw_25 : decode cX2_checkLaw 25 = .ok (.getfield 15, 3) := by decide +kernel
theorem dX2_checkLaw_28 : decode cX2_checkLaw 28 = .ok (.invokevirtual 28, 3) := by decide +kernel
theorem dX2_checkLaw_31 : decode cX2_checkLaw 31 = .ok (.bipush 11, 2) := by decide +kernel
theorem dX2_checkLaw_33 : decode cX2_checkLaw 33 = .ok (.if_icmp .ne 70, 3) := by decide +kernel
theorem dX2_checkLaw_36 : decode cX2_checkLaw 36 = .ok (.iload_n 2, 1) := by decide +kernel
theorem dX2_checkLaw_37 : decode cX2_checkLaw 37 = .ok (.iconst 4, 1) := by decide +kernel
theorem dX2_checkLaw_38 : decode cX2_checkLaw 38 = .ok (.if_icmp .le 16, 3) := by decide +kernel
theorem dX2_checkLaw_41 : decode cX2_checkLaw 41 = .ok (.aload_n 1, 1) := by decide +kernel
theorem dX2_checkLaw_42 : decode cX2_checkLaw 42 = .ok (.iconst 2, 1) := by decide +kernel
theorem dX2_checkLaw_43 : decode cX2_checkLaw 43 = .ok (.aload_n 1, 1) := by decide +kernel
theorem dX2_checkLaw_44 : decode cX2_checkLaw 44 = .ok (.aload_n 0, 1) := by decide +kernel
theorem dX2_checkLaw_45 : decode cX2_checkLaw 45 = .ok (.getfield 15, 3) := by decide +kernel
theorem dX2_checkLaw_48 : decode cX2_checkLaw 48 = .ok (.invokevirtual 36, 3) := by decide +kernel
theorem dX2_checkLaw_51 : decode cX2_checkLaw 51 = .ok (.invokevirtual 39, 3) := by decide +kernel
theorem dX2_checkLaw_54 : decode cX2_checkLaw 54 = .ok (.aload_n 0, 1) := by decide +kernel
theorem dX2_checkLaw_55 : decode cX2_checkLaw 55 = .ok (.aload_n 1, 1) := by decide +kernel
theorem dX2_checkLaw_56 : decode cX2_checkLaw 56 = .ok (.bipush 11, 2) := by decide +kernel
theorem dX2_checkLaw_58 : decode cX2_checkLaw 58 = .ok (.invokevirtual 46, 3) := by decide +kernel
theorem dX2_checkLaw_61 : decode cX2_checkLaw 61 = .ok (.aload_n 0, 1) := by decide +kernel
theorem dX2_checkLaw_62 : decode cX2_checkLaw 62 = .ok (.aload_n 1, 1) := by decide +kernel
theorem dX2_checkLaw_63 : decode cX2_checkLaw 63 = .ok (.invokevirtual 66, 3) := by decide +kernel
theorem dX2_checkLaw_66 : decode cX2_checkLaw 66 = .ok (.aload_n 0, 1) := by decide +kernel
theorem dX2_checkLaw_67 : decode cX2_checkLaw 67 = .ok (.aload_n 1, 1) := by decide +kernel
theorem dX2_checkLaw_68 : decode cX2_checkLaw 68 = .ok (.bipush 31, 2) := by decide +kernel
theorem dX2_checkLaw_70 : decode cX2_checkLaw 70 = .ok (.invokevirtual 46, 3) := by decide +kernel
theorem dX2_checkLaw_73 : decode cX2_checkLaw 73 = .ok (.aload_n 0, 1) := by decide +kernel
theorem dX2_checkLaw_74 : decode cX2_checkLaw 74 = .ok (.aload_n 1, 1) := by decide +kernel
theorem dX2_checkLaw_75 : decode cX2_checkLaw 75 = .ok (.invokevirtual 66, 3) := by decide +kernel
theorem dX2_checkLaw_78 : decode cX2_checkLaw 78 = .ok (.aload_n 0, 1) := by decide +kernel
theorem dX2_checkLaw_79 : decode cX2_checkLaw 79 = .ok (.aload_n 1, 1) := by decide +kernel
theorem dX2_checkLaw_80 : decode cX2_checkLaw 80 = .ok (.bipush 12, 2) := by decide +kernel
theorem dX2_checkLaw_82 : decode cX2_checkLaw 82 = .ok (.invokevirtual 46, 3) := by decide +kernel
theorem dX2_checkLaw_85 : decode cX2_checkLaw 85 = .ok (.aload_n 0, 1) := by decide +kernel
theorem dX2_checkLaw_86 : decode cX2_checkLaw 86 = .ok (.aload_n 1, 1) := by decide +kernel
theorem dX2_checkLaw_87 : decode cX2_checkLaw 87 = .ok (.invokevirtual 66, 3) := by decide +kernel
theorem dX2_checkLaw_90 : decode cX2_checkLaw 90 = .ok (.aload_n 0, 1) := by decide +kernel
theorem dX2_checkLaw_91 : decode cX2_checkLaw 91 = .ok (.aload_n 1, 1) := by decide +kernel
theorem dX2_checkLaw_92 : decode cX2_checkLaw 92 = .ok (.bipush 13, 2) := by decide +kernel
theorem dX2_checkLaw_94 : decode cX2_checkLaw 94 = .ok (.invokevirtual 46, 3) := by decide +kernel
theorem dX2_checkLaw_97 : decode cX2_checkLaw 97 = .ok (.iinc 2 1, 3) := by decide +kernel
theorem dX2_checkLaw_100 : decode cX2_checkLaw 100 = .ok (.goto (-91), 3) := by decide +kernel
theorem dX2_checkLaw_103 : decode cX2_checkLaw 103 = .ok (.aload_n 0, 1) := by decide +kernel
theorem dX2_checkLaw_104 : decode cX2_checkLaw 104 = .ok (.aload_n 1, 1) := by decide +kernel
theorem dX2_checkLaw_105 : decode cX2_checkLaw 105 = .ok (.invokevirtual 66, 3) := by decide +kernel
theorem dX2_checkLaw_108 : decode cX2_checkLaw 108 = .ok (.return_, 1) := by decide +kernel
theorem dX2_checkSum_0 : decode cX2_checkSum 0 = .ok (.iconst 0, 1) := by decide +kernel
theorem dX2_checkSum_1 : decode cX2_checkSum 1 = .ok (.istore_n 2, 1) := by decide +kernel
theorem dX2_checkSum_2 : decode cX2_checkSum 2 = .ok (.iconst 1, 1) := by decide +kernel
theorem dX2_checkSum_3 : decode cX2_checkSum 3 = .ok (.istore_n 3, 1) := by decide +kernel
theorem dX2_checkSum_4 : decode cX2_checkSum 4 = .ok (.iconst 0, 1) := by decide +kernel
theorem dX2_checkSum_5 : decode cX2_checkSum 5 = .ok (.istore 4, 2) := by decide +kernel
theorem dX2_checkSum_7 : decode cX2_checkSum 7 = .ok (.iload 4, 2) := by decide +kernel
theorem dX2_checkSum_9 : decode cX2_checkSum 9 = .ok (.sipush 400, 3) := by decide +kernel
theorem dX2_checkSum_12 : decode cX2_checkSum 12 = .ok (.if_icmp .gt 136, 3) := by decide +kernel
theorem dX2_checkSum_15 : decode cX2_checkSum 15 = .ok (.aload_n 1, 1) := by decide +kernel
theorem dX2_checkSum_16 : decode cX2_checkSum 16 = .ok (.getfield 23, 3) := by decide +kernel
theorem dX2_checkSum_19 : decode cX2_checkSum 19 = .ok (.ifCond .ne 129, 3) := by decide +kernel
theorem dX2_checkSum_22 : decode cX2_checkSum 22 = .ok (.aload_n 1, 1) := by decide +kernel
theorem dX2_checkSum_23 : decode cX2_checkSum 23 = .ok (.aload_n 0, 1) := by decide +kernel
theorem dX2_checkSum_24 : decode cX2_checkSum 24 = .ok (.getfield 15, 3) := by decide +kernel
theorem dX2_checkSum_27 : decode cX2_checkSum 27 = .ok (.invokevirtual 28, 3) := by decide +kernel
theorem dX2_checkSum_30 : decode cX2_checkSum 30 = .ok (.istore 5, 2) := by decide +kernel
theorem dX2_checkSum_32 : decode cX2_checkSum 32 = .ok (.iload_n 3, 1) := by decide +kernel
theorem dX2_checkSum_33 : decode cX2_checkSum 33 = .ok (.ifCond .eq 42, 3) := by decide +kernel
theorem dX2_checkSum_36 : decode cX2_checkSum 36 = .ok (.iload 5, 2) := by decide +kernel
theorem dX2_checkSum_38 : decode cX2_checkSum 38 = .ok (.bipush 32, 2) := by decide +kernel
theorem dX2_checkSum_40 : decode cX2_checkSum 40 = .ok (.if_icmp .ne 35, 3) := by decide +kernel
theorem dX2_checkSum_43 : decode cX2_checkSum 43 = .ok (.iinc 2 1, 3) := by decide +kernel
theorem dX2_checkSum_46 : decode cX2_checkSum 46 = .ok (.iload_n 2, 1) := by decide +kernel
theorem dX2_checkSum_47 : decode cX2_checkSum 47 = .ok (.bipush 6, 2) := by decide +kernel
theorem dX2_checkSum_49 : decode cX2_checkSum 49 = .ok (.if_icmp .le 16, 3) := by decide +kernel
theorem dX2_checkSum_52 : decode cX2_checkSum 52 = .ok (.aload_n 1, 1) := by decide +kernel
theorem dX2_checkSum_53 : decode cX2_checkSum 53 = .ok (.iconst 2, 1) := by decide +kernel
theorem dX2_checkSum_54 : decode cX2_checkSum 54 = .ok (.aload_n 1, 1) := by decide +kernel
theorem dX2_checkSum_55 : decode cX2_checkSum 55 = .ok (.aload_n 0, 1) := by decide +kernel
theorem dX2_checkSum_56 : decode cX2_checkSum 56 = .ok (.getfield 15, 3) := by decide +kernel
theorem dX2_checkSum_59 : decode cX2_checkSum 59 = .ok (.invokevirtual 36, 3) := by decide +kernel
theorem dX2_checkSum_62 : decode cX2_checkSum 62 = .ok (.invokevirtual 39, 3) := by decide +kernel
theorem dX2_checkSum_65 : decode cX2_checkSum 65 = .ok (.aload_n 0, 1) := by decide +kernel
theorem dX2_checkSum_66 : decode cX2_checkSum 66 = .ok (.aload_n 1, 1) := by decide +kernel
theorem dX2_checkSum_67 : decode cX2_checkSum 67 = .ok (.bipush 32, 2) := by decide +kernel
theorem dX2_checkSum_69 : decode cX2_checkSum 69 = .ok (.invokevirtual 46, 3) := by decide +kernel
theorem dX2_checkSum_72 : decode cX2_checkSum 72 = .ok (.goto 70, 3) := by decide +kernel
theorem dX2_checkSum_75 : decode cX2_checkSum 75 = .ok (.iload_n 3, 1) := by decide +kernel
theorem dX2_checkSum_76 : decode cX2_checkSum 76 = .ok (.ifCond .eq 28, 3) := by decide +kernel
theorem dX2_checkSum_79 : decode cX2_checkSum 79 = .ok (.aload_n 0, 1) := by decide +kernel
theorem dX2_checkSum_80 : decode cX2_checkSum 80 = .ok (.aload_n 1, 1) := by decide +kernel
theorem dX2_checkSum_81 : decode cX2_checkSum 81 = .ok (.iload 5, 2) := by decide +kernel
theorem dX2_checkSum_83 : decode cX2_checkSum 83 = .ok (.invokestatic 69, 3) := by decide +kernel
theorem dX2_checkSum_86 : decode cX2_checkSum 86 = .ok (.ifCond .eq 8, 3) := by decide +kernel
theorem dX2_checkSum_89 : decode cX2_checkSum 89 = .ok (.iload 5, 2) := by decide +kernel
theorem dX2_checkSum_91 : decode cX2_checkSum 91 = .ok (.goto 5, 3) := by decide +kernel
theorem dX2_checkSum_94 : decode cX2_checkSum 94 = .ok (.bipush 24, 2) := by decide +kernel
theorem dX2_checkSum_96 : decode cX2_checkSum 96 = .ok (.invokevirtual 46, 3) := by decide +kernel
theorem dX2_checkSum_99 : decode cX2_checkSum 99 = .ok (.iconst 0, 1) := by decide +kernel
theorem dX2_checkSum_100 : decode cX2_checkSum 100 = .ok (.istore_n 3, 1) := by decide +kernel
theorem dX2_checkSum_101 : decode cX2_checkSum 101 = .ok (.goto 41, 3) := by decide +kernel
theorem dX2_checkSum_104 : decode cX2_checkSum 104 = .ok (.iload 5, 2) := by decide +kernel
theorem dX2_checkSum_106 : decode cX2_checkSum 106 = .ok (.invokestatic 73, 3) := by decide +kernel
theorem dX2_checkSum_109 : decode cX2_checkSum 109 = .ok (.ifCond .eq 15, 3) := by decide +kernel
theorem dX2_checkSum_112 : decode cX2_checkSum 112 = .ok (.aload_n 0, 1) := by decide +kernel
theorem dX2_checkSum_113 : decode cX2_checkSum 113 = .ok (.aload_n 1, 1) := by decide +kernel
theorem dX2_checkSum_114 : decode cX2_checkSum 114 = .ok (.iload 5, 2) := by decide +kernel
theorem dX2_checkSum_116 : decode cX2_checkSum 116 = .ok (.invokevirtual 46, 3) := by decide +kernel
theorem dX2_checkSum_119 : decode cX2_checkSum 119 = .ok (.iconst 1, 1) := by decide +kernel
theorem dX2_checkSum_120 : decode cX2_checkSum 120 = .ok (.istore_n 3, 1) := by decide +kernel
theorem dX2_checkSum_121 : decode cX2_checkSum 121 = .ok (.goto 21, 3) := by decide +kernel
theorem dX2_checkSum_124 : decode cX2_checkSum 124 = .ok (.iload_n 2, 1) := by decide +kernel
theorem dX2_checkSum_125 : decode cX2_checkSum 125 = .ok (.ifCond .le 16, 3) := by decide +kernel
theorem dX2_checkSum_128 : decode cX2_checkSum 128 = .ok (.aload_n 0, 1) := by decide +kernel
theorem dX2_checkSum_129 : decode cX2_checkSum 129 = .ok (.aload_n 1, 1) := by decide +kernel
theorem dX2_checkSum_130 : decode cX2_checkSum 130 = .ok (.bipush 33, 2) := by decide +kernel
theorem dX2_checkSum_132 : decode cX2_checkSum 132 = .ok (.invokevirtual 46, 3) := by decide +kernel
theorem dX2_checkSum_135 : decode cX2_checkSum 135 = .ok (.iinc 2 (-1), 3) := by decide +kernel
theorem dX2_checkSum_138 : decode cX2_checkSum 138 = .ok (.goto 4, 3) := by decide +kernel
theorem dX2_checkSum_141 : decode cX2_checkSum 141 = .ok (.return_, 1) := by decide +kernel
theorem dX2_checkSum_142 : decode cX2_checkSum 142 = .ok (.iinc 4 1, 3) := by decide +kernel
theorem dX2_checkSum_145 : decode cX2_checkSum 145 = .ok (.goto (-138), 3) := by decide +kernel
theorem dX2_checkSum_148 : decode cX2_checkSum 148 = .ok (.return_, 1) := by decide +kernel
theorem dX2_takeMany_0 : decode cX2_takeMany 0 = .ok (.iconst 0, 1) := by decide +kernel
theorem dX2_takeMany_1 : decode cX2_takeMany 1 = .ok (.istore 4, 2) := by decide +kernel
theorem dX2_takeMany_3 : decode cX2_takeMany 3 = .ok (.iload 4, 2) := by decide +kernel
theorem dX2_takeMany_5 : decode cX2_takeMany 5 = .ok (.iload_n 3, 1) := by decide +kernel
theorem dX2_takeMany_6 : decode cX2_takeMany 6 = .ok (.if_icmp .ge 15, 3) := by decide +kernel
theorem dX2_takeMany_9 : decode cX2_takeMany 9 = .ok (.aload_n 0, 1) := by decide +kernel
theorem dX2_takeMany_10 : decode cX2_takeMany 10 = .ok (.aload_n 1, 1) := by decide +kernel
theorem dX2_takeMany_11 : decode cX2_takeMany 11 = .ok (.iload_n 2, 1) := by decide +kernel
theorem dX2_takeMany_12 : decode cX2_takeMany 12 = .ok (.invokevirtual 46, 3) := by decide +kernel
theorem dX2_takeMany_15 : decode cX2_takeMany 15 = .ok (.iinc 4 1, 3) := by decide +kernel
theorem dX2_takeMany_18 : decode cX2_takeMany 18 = .ok (.goto (-15), 3) := by decide +kernel
theorem dX2_takeMany_21 : decode cX2_takeMany 21 = .ok (.return_, 1) := by decide +kernel
theorem dX2_take_0 : decode cX2_take 0 = .ok (.aload_n 1, 1) := by decide +kernel
theorem dX2_take_1 : decode cX2_take 1 = .ok (.aload_n 0, 1) := by decide +kernel
theorem dX2_take_2 : decode cX2_take 2 = .ok (.getfield 15, 3) := by decide +kernel
theorem dX2_take_5 : decode cX2_take 5 = .ok (.invokevirtual 28, 3) := by decide +kernel
theorem dX2_take_8 : decode cX2_take 8 = .ok (.iload_n 2, 1) := by decide +kernel
theorem dX2_take_9 : decode cX2_take 9 = .ok (.if_icmp .eq 19, 3) := by decide +kernel
theorem dX2_take_12 : decode cX2_take 12 = .ok (.aload_n 1, 1) := by decide +kernel
theorem dX2_take_13 : decode cX2_take 13 = .ok (.iconst 1, 1) := by decide +kernel
theorem dX2_take_14 : decode cX2_take 14 = .ok (.aload_n 1, 1) := by decide +kernel
theorem dX2_take_15 : decode cX2_take 15 = .ok (.aload_n 0, 1) := by decide +kernel
theorem dX2_take_16 : decode cX2_take 16 = .ok (.getfield 15, 3) := by decide +kernel
theorem dX2_take_19 : decode cX2_take 19 = .ok (.invokevirtual 36, 3) := by decide +kernel
theorem dX2_take_22 : decode cX2_take 22 = .ok (.invokevirtual 39, 3) := by decide +kernel
theorem dX2_take_25 : decode cX2_take 25 = .ok (.goto 39, 3) := by decide +kernel
theorem dX2_take_28 : decode cX2_take 28 = .ok (.aload_n 0, 1) := by decide +kernel
theorem dX2_take_29 : decode cX2_take 29 = .ok (.getfield 15, 3) := by decide +kernel
theorem dX2_take_32 : decode cX2_take 32 = .ok (.sipush 400, 3) := by decide +kernel
theorem dX2_take_35 : decode cX2_take 35 = .ok (.if_icmp .lt 19, 3) := by decide +kernel
theorem dX2_take_38 : decode cX2_take 38 = .ok (.aload_n 1, 1) := by decide +kernel
theorem dX2_take_39 : decode cX2_take 39 = .ok (.iconst 2, 1) := by decide +kernel
theorem dX2_take_40 : decode cX2_take 40 = .ok (.aload_n 1, 1) := by decide +kernel
theorem dX2_take_41 : decode cX2_take 41 = .ok (.aload_n 0, 1) := by decide +kernel
theorem dX2_take_42 : decode cX2_take 42 = .ok (.getfield 15, 3) := by decide +kernel
theorem dX2_take_45 : decode cX2_take 45 = .ok (.invokevirtual 36, 3) := by decide +kernel
theorem dX2_take_48 : decode cX2_take 48 = .ok (.invokevirtual 39, 3) := by decide +kernel
theorem dX2_take_51 : decode cX2_take 51 = .ok (.goto 13, 3) := by decide +kernel
theorem dX2_take_54 : decode cX2_take 54 = .ok (.aload_n 0, 1) := by decide +kernel
theorem dX2_take_55 : decode cX2_take 55 = .ok (.dup, 1) := by decide +kernel
theorem dX2_take_56 : decode cX2_take 56 = .ok (.getfield 15, 3) := by decide +kernel
theorem dX2_take_59 : decode cX2_take 59 = .ok (.iconst 1, 1) := by decide +kernel
theorem dX2_take_60 : decode cX2_take 60 = .ok (.iadd, 1) := by decide +kernel
theorem dX2_take_61 : decode cX2_take 61 = .ok (.putfield 15, 3) := by decide +kernel
theorem dX2_take_64 : decode cX2_take 64 = .ok (.return_, 1) := by decide +kernel
theorem dX2_isUnit_0 : decode cX2_isUnit 0 = .ok (.iload_n 0, 1) := by decide +kernel
theorem dX2_isUnit_1 : decode cX2_isUnit 1 = .ok (.bipush 24, 2) := by decide +kernel
theorem dX2_isUnit_3 : decode cX2_isUnit 3 = .ok (.if_icmp .eq 15, 3) := by decide +kernel
theorem dX2_isUnit_6 : decode cX2_isUnit 6 = .ok (.iload_n 0, 1) := by decide +kernel
theorem dX2_isUnit_7 : decode cX2_isUnit 7 = .ok (.bipush 14, 2) := by decide +kernel
theorem dX2_isUnit_9 : decode cX2_isUnit 9 = .ok (.if_icmp .lt 13, 3) := by decide +kernel
theorem dX2_isUnit_12 : decode cX2_isUnit 12 = .ok (.iload_n 0, 1) := by decide +kernel
theorem dX2_isUnit_13 : decode cX2_isUnit 13 = .ok (.bipush 22, 2) := by decide +kernel
theorem dX2_isUnit_15 : decode cX2_isUnit 15 = .ok (.if_icmp .gt 7, 3) := by decide +kernel
theorem dX2_isUnit_18 : decode cX2_isUnit 18 = .ok (.iconst 1, 1) := by decide +kernel
theorem dX2_isUnit_19 : decode cX2_isUnit 19 = .ok (.goto 4, 3) := by decide +kernel
theorem dX2_isUnit_22 : decode cX2_isUnit 22 = .ok (.iconst 0, 1) := by decide +kernel
theorem dX2_isUnit_23 : decode cX2_isUnit 23 = .ok (.ireturn, 1) := by decide +kernel
theorem dX2_isOperator_0 : decode cX2_isOperator 0 = .ok (.iload_n 0, 1) := by decide +kernel
theorem dX2_isOperator_1 : decode cX2_isOperator 1 = .ok (.bipush 27, 2) := by decide +kernel
theorem dX2_isOperator_3 : decode cX2_isOperator 3 = .ok (.if_icmp .lt 13, 3) := by decide +kernel
theorem dX2_isOperator_6 : decode cX2_isOperator 6 = .ok (.iload_n 0, 1) := by decide +kernel
theorem dX2_isOperator_7 : decode cX2_isOperator 7 = .ok (.bipush 30, 2) := by decide +kernel
theorem dX2_isOperator_9 : decode cX2_isOperator 9 = .ok (.if_icmp .gt 7, 3) := by decide +kernel
theorem dX2_isOperator_12 : decode cX2_isOperator 12 = .ok (.iconst 1, 1) := by decide +kernel
theorem dX2_isOperator_13 : decode cX2_isOperator 13 = .ok (.goto 4, 3) := by decide +kernel
theorem dX2_isOperator_16 : decode cX2_isOperator 16 = .ok (.iconst 0, 1) := by decide +kernel
theorem dX2_isOperator_17 : decode cX2_isOperator 17 = .ok (.ireturn, 1) := by decide +kernel
theorem dX2_namesOf_0 : decode cX2_namesOf 0 = .ok (.iload_n 0, 1) := by decide +kernel
theorem dX2_namesOf_1 : decode cX2_namesOf 1 = .ok (.iconst 2, 1) := by decide +kernel
theorem dX2_namesOf_2 : decode cX2_namesOf 2 = .ok (.if_icmp .ne 7, 3) := by decide +kernel
theorem dX2_namesOf_5 : decode cX2_namesOf 5 = .ok (.iconst 2, 1) := by decide +kernel
theorem dX2_namesOf_6 : decode cX2_namesOf 6 = .ok (.goto 13, 3) := by decide +kernel
theorem dX2_namesOf_9 : decode cX2_namesOf 9 = .ok (.iload_n 0, 1) := by decide +kernel
theorem dX2_namesOf_10 : decode cX2_namesOf 10 = .ok (.iconst 1, 1) := by decide +kernel
theorem dX2_namesOf_11 : decode cX2_namesOf 11 = .ok (.if_icmp .gt 7, 3) := by decide +kernel
theorem dX2_namesOf_14 : decode cX2_namesOf 14 = .ok (.iconst 1, 1) := by decide +kernel
theorem dX2_namesOf_15 : decode cX2_namesOf 15 = .ok (.goto 4, 3) := by decide +kernel
theorem dX2_namesOf_18 : decode cX2_namesOf 18 = .ok (.iconst 0, 1) := by decide +kernel
theorem dX2_namesOf_19 : decode cX2_namesOf 19 = .ok (.ireturn, 1) := by decide +kernel
theorem dX2_numbersOf_0 : decode cX2_numbersOf 0 = .ok (.iload_n 0, 1) := by decide +kernel
theorem dX2_numbersOf_1 : decode cX2_numbersOf 1 = .ok (.iconst 2, 1) := by decide +kernel
theorem dX2_numbersOf_2 : decode cX2_numbersOf 2 = .ok (.if_icmp .eq 8, 3) := by decide +kernel
theorem dX2_numbersOf_5 : decode cX2_numbersOf 5 = .ok (.iload_n 0, 1) := by decide +kernel
theorem dX2_numbersOf_6 : decode cX2_numbersOf 6 = .ok (.iconst 3, 1) := by decide +kernel
theorem dX2_numbersOf_7 : decode cX2_numbersOf 7 = .ok (.if_icmp .ne 5, 3) := by decide +kernel
theorem dX2_numbersOf_10 : decode cX2_numbersOf 10 = .ok (.iconst 3, 1) := by decide +kernel
theorem dX2_numbersOf_11 : decode cX2_numbersOf 11 = .ok (.ireturn, 1) := by decide +kernel
theorem dX2_numbersOf_12 : decode cX2_numbersOf 12 = .ok (.iload_n 0, 1) := by decide +kernel
theorem dX2_numbersOf_13 : decode cX2_numbersOf 13 = .ok (.ifCond .ne 7, 3) := by decide +kernel
theorem dX2_numbersOf_16 : decode cX2_numbersOf 16 = .ok (.iconst 0, 1) := by decide +kernel
theorem dX2_numbersOf_17 : decode cX2_numbersOf 17 = .ok (.goto 13, 3) := by decide +kernel
theorem dX2_numbersOf_20 : decode cX2_numbersOf 20 = .ok (.iload_n 0, 1) := by decide +kernel
theorem dX2_numbersOf_21 : decode cX2_numbersOf 21 = .ok (.iconst 1, 1) := by decide +kernel
theorem dX2_numbersOf_22 : decode cX2_numbersOf 22 = .ok (.if_icmp .ne 7, 3) := by decide +kernel
theorem dX2_numbersOf_25 : decode cX2_numbersOf 25 = .ok (.iconst 2, 1) := by decide +kernel
theorem dX2_numbersOf_26 : decode cX2_numbersOf 26 = .ok (.goto 4, 3) := by decide +kernel
theorem dX2_numbersOf_29 : decode cX2_numbersOf 29 = .ok (.iconst 1, 1) := by decide +kernel
theorem dX2_numbersOf_30 : decode cX2_numbersOf 30 = .ok (.ireturn, 1) := by decide +kernel
theorem dX2_mostOf_0 : decode cX2_mostOf 0 = .ok (.iload_n 0, 1) := by decide +kernel
theorem dX2_mostOf_1 : decode cX2_mostOf 1 = .ok (.iconst 1, 1) := by decide +kernel
theorem dX2_mostOf_2 : decode cX2_mostOf 2 = .ok (.if_icmp .gt 13, 3) := by decide +kernel
theorem dX2_mostOf_5 : decode cX2_mostOf 5 = .ok (.iload_n 0, 1) := by decide +kernel
theorem dX2_mostOf_6 : decode cX2_mostOf 6 = .ok (.ifCond .ne 7, 3) := by decide +kernel
theorem dX2_mostOf_9 : decode cX2_mostOf 9 = .ok (.iconst 5, 1) := by decide +kernel
theorem dX2_mostOf_10 : decode cX2_mostOf 10 = .ok (.goto 4, 3) := by decide +kernel
theorem dX2_mostOf_13 : decode cX2_mostOf 13 = .ok (.iconst 4, 1) := by decide +kernel
theorem dX2_mostOf_14 : decode cX2_mostOf 14 = .ok (.ireturn, 1) := by decide +kernel
theorem dX2_mostOf_15 : decode cX2_mostOf 15 = .ok (.iload_n 0, 1) := by decide +kernel
theorem dX2_mostOf_16 : decode cX2_mostOf 16 = .ok (.iconst 2, 1) := by decide +kernel
theorem dX2_mostOf_17 : decode cX2_mostOf 17 = .ok (.if_icmp .ne 8, 3) := by decide +kernel
theorem dX2_mostOf_20 : decode cX2_mostOf 20 = .ok (.bipush 6, 2) := by decide +kernel
theorem dX2_mostOf_22 : decode cX2_mostOf 22 = .ok (.goto 5, 3) := by decide +kernel
theorem dX2_mostOf_25 : decode cX2_mostOf 25 = .ok (.bipush 12, 2) := by decide +kernel
theorem dX2_mostOf_27 : decode cX2_mostOf 27 = .ok (.ireturn, 1) := by decide +kernel
theorem dX3_init_0 : decode cX3_init 0 = .ok (.aload_n 0, 1) := by decide +kernel
theorem dX3_init_1 : decode cX3_init 1 = .ok (.invokespecial 3, 3) := by decide +kernel
theorem dX3_init_4 : decode cX3_init 4 = .ok (.aload_n 0, 1) := by decide +kernel
theorem dX3_init_5 : decode cX3_init 5 = .ok (.iconst 3, 1) := by decide +kernel
theorem dX3_init_6 : decode cX3_init 6 = .ok (.newarray .int, 2) := by decide +kernel
theorem dX3_init_8 : decode cX3_init 8 = .ok (.putfield 9, 3) := by decide +kernel
theorem dX3_init_11 : decode cX3_init 11 = .ok (.return_, 1) := by decide +kernel
theorem dX3_post_0 : decode cX3_post 0 = .ok (.aload_n 0, 1) := by decide +kernel
theorem dX3_post_1 : decode cX3_post 1 = .ok (.lload_n 1, 1) := by decide +kernel
theorem dX3_post_2 : decode cX3_post 2 = .ok (.putfield 15, 3) := by decide +kernel
theorem dX3_post_5 : decode cX3_post 5 = .ok (.aload_n 0, 1) := by decide +kernel
theorem dX3_post_6 : decode cX3_post 6 = .ok (.lconst 1, 1) := by decide +kernel
theorem dX3_post_7 : decode cX3_post 7 = .ok (.iload_n 3, 1) := by decide +kernel
theorem dX3_post_8 : decode cX3_post 8 = .ok (.lshl, 1) := by decide +kernel
theorem dX3_post_9 : decode cX3_post 9 = .ok (.putfield 19, 3) := by decide +kernel
theorem dX3_post_12 : decode cX3_post 12 = .ok (.aload_n 0, 1) := by decide +kernel
theorem dX3_post_13 : decode cX3_post 13 = .ok (.lconst 1, 1) := by decide +kernel
theorem dX3_post_14 : decode cX3_post 14 = .ok (.iload 4, 2) := by decide +kernel
theorem dX3_post_16 : decode cX3_post 16 = .ok (.lshl, 1) := by decide +kernel
theorem dX3_post_17 : decode cX3_post 17 = .ok (.putfield 22, 3) := by decide +kernel
theorem dX3_post_20 : decode cX3_post 20 = .ok (.aload_n 0, 1) := by decide +kernel
theorem dX3_post_21 : decode cX3_post 21 = .ok (.lconst 0, 1) := by decide +kernel
theorem dX3_post_22 : decode cX3_post 22 = .ok (.invokevirtual 25, 3) := by decide +kernel
theorem dX3_post_25 : decode cX3_post 25 = .ok (.ifCond .eq 5, 3) := by decide +kernel
theorem dX3_post_28 : decode cX3_post 28 = .ok (.iconst 0, 1) := by decide +kernel
theorem dX3_post_29 : decode cX3_post 29 = .ok (.ireturn, 1) := by decide +kernel
theorem dX3_post_30 : decode cX3_post 30 = .ok (.aload_n 0, 1) := by decide +kernel
theorem dX3_post_31 : decode cX3_post 31 = .ok (.invokevirtual 29, 3) := by decide +kernel
theorem dX3_post_34 : decode cX3_post 34 = .ok (.ifCond .eq 5, 3) := by decide +kernel
theorem dX3_post_37 : decode cX3_post 37 = .ok (.iconst 1, 1) := by decide +kernel
theorem dX3_post_38 : decode cX3_post 38 = .ok (.ireturn, 1) := by decide +kernel
theorem dX3_post_39 : decode cX3_post 39 = .ok (.aload_n 0, 1) := by decide +kernel
theorem dX3_post_40 : decode cX3_post 40 = .ok (.invokevirtual 33, 3) := by decide +kernel
theorem dX3_post_43 : decode cX3_post 43 = .ok (.ifCond .eq 5, 3) := by decide +kernel
theorem dX3_post_46 : decode cX3_post 46 = .ok (.iconst 2, 1) := by decide +kernel
theorem dX3_post_47 : decode cX3_post 47 = .ok (.ireturn, 1) := by decide +kernel
theorem dX3_post_48 : decode cX3_post 48 = .ok (.aload_n 0, 1) := by decide +kernel
theorem dX3_post_49 : decode cX3_post 49 = .ok (.invokevirtual 36, 3) := by decide +kernel
theorem dX3_post_52 : decode cX3_post 52 = .ok (.ifCond .eq 7, 3) := by decide +kernel
theorem dX3_post_55 : decode cX3_post 55 = .ok (.iconst 3, 1) := by decide +kernel
theorem dX3_post_56 : decode cX3_post 56 = .ok (.goto 5, 3) := by decide +kernel
theorem dX3_post_59 : decode cX3_post 59 = .ok (.bipush (-2), 2) := by decide +kernel
theorem dX3_post_61 : decode cX3_post 61 = .ok (.ireturn, 1) := by decide +kernel
theorem dX3_watchedAt_0 : decode cX3_watchedAt 0 = .ok (.iload_n 1, 1) := by decide +kernel
theorem dX3_watchedAt_1 : decode cX3_watchedAt 1 = .ok (.ifCond .lt 17, 3) := by decide +kernel
theorem dX3_watchedAt_4 : decode cX3_watchedAt 4 = .ok (.iload_n 1, 1) := by decide +kernel
theorem dX3_watchedAt_5 : decode cX3_watchedAt 5 = .ok (.iconst 3, 1) := by decide +kernel
theorem dX3_watchedAt_6 : decode cX3_watchedAt 6 = .ok (.if_icmp .ge 12, 3) := by decide +kernel
theorem dX3_watchedAt_9 : decode cX3_watchedAt 9 = .ok (.aload_n 0, 1) := by decide +kernel
theorem dX3_watchedAt_10 : decode cX3_watchedAt 10 = .ok (.getfield 9, 3) := by decide +kernel
theorem dX3_watchedAt_13 : decode cX3_watchedAt 13 = .ok (.iload_n 1, 1) := by decide +kernel
theorem dX3_watchedAt_14 : decode cX3_watchedAt 14 = .ok (.iaload, 1) := by decide +kernel
theorem dX3_watchedAt_15 : decode cX3_watchedAt 15 = .ok (.goto 4, 3) := by decide +kernel
theorem dX3_watchedAt_18 : decode cX3_watchedAt 18 = .ok (.iconst (-1), 1) := by decide +kernel
theorem dX3_watchedAt_19 : decode cX3_watchedAt 19 = .ok (.ireturn, 1) := by decide +kernel
theorem dX3_postOne_0 : decode cX3_postOne 0 = .ok (.iconst 0, 1) := by decide +kernel
theorem dX3_postOne_1 : decode cX3_postOne 1 = .ok (.istore_n 1, 1) := by decide +kernel
theorem dX3_postOne_2 : decode cX3_postOne 2 = .ok (.iload_n 1, 1) := by decide +kernel
theorem dX3_postOne_3 : decode cX3_postOne 3 = .ok (.bipush 40, 2) := by decide +kernel
theorem dX3_postOne_5 : decode cX3_postOne 5 = .ok (.if_icmp .ge 36, 3) := by decide +kernel
theorem dX3_postOne_8 : decode cX3_postOne 8 = .ok (.aload_n 0, 1) := by decide +kernel
theorem dX3_postOne_9 : decode cX3_postOne 9 = .ok (.iload_n 1, 1) := by decide +kernel
theorem dX3_postOne_10 : decode cX3_postOne 10 = .ok (.invokevirtual 39, 3) := by decide +kernel
theorem dX3_postOne_13 : decode cX3_postOne 13 = .ok (.ifCond .eq 22, 3) := by decide +kernel
theorem dX3_postOne_16 : decode cX3_postOne 16 = .ok (.aload_n 0, 1) := by decide +kernel
theorem dX3_postOne_17 : decode cX3_postOne 17 = .ok (.lconst 1, 1) := by decide +kernel
theorem dX3_postOne_18 : decode cX3_postOne 18 = .ok (.iload_n 1, 1) := by decide +kernel
theorem dX3_postOne_19 : decode cX3_postOne 19 = .ok (.lshl, 1) := by decide +kernel
theorem dX3_postOne_20 : decode cX3_postOne 20 = .ok (.invokevirtual 25, 3) := by decide +kernel
theorem dX3_postOne_23 : decode cX3_postOne 23 = .ok (.ifCond .eq 12, 3) := by decide +kernel
theorem dX3_postOne_26 : decode cX3_postOne 26 = .ok (.aload_n 0, 1) := by decide +kernel
theorem dX3_postOne_27 : decode cX3_postOne 27 = .ok (.getfield 9, 3) := by decide +kernel
theorem dX3_postOne_30 : decode cX3_postOne 30 = .ok (.iconst 0, 1) := by decide +kernel
theorem dX3_postOne_31 : decode cX3_postOne 31 = .ok (.iload_n 1, 1) := by decide +kernel
theorem dX3_postOne_32 : decode cX3_postOne 32 = .ok (.iastore, 1) := by decide +kernel
theorem dX3_postOne_33 : decode cX3_postOne 33 = .ok (.iconst 1, 1) := by decide +kernel
theorem dX3_postOne_34 : decode cX3_postOne 34 = .ok (.ireturn, 1) := by decide +kernel
theorem dX3_postOne_35 : decode cX3_postOne 35 = .ok (.iinc 1 1, 3) := by decide +kernel
theorem dX3_postOne_38 : decode cX3_postOne 38 = .ok (.goto (-36), 3) := by decide +kernel
theorem dX3_postOne_41 : decode cX3_postOne 41 = .ok (.iconst 0, 1) := by decide +kernel
theorem dX3_postOne_42 : decode cX3_postOne 42 = .ok (.ireturn, 1) := by decide +kernel
theorem dX3_postTwo_0 : decode cX3_postTwo 0 = .ok (.iconst 0, 1) := by decide +kernel
theorem dX3_postTwo_1 : decode cX3_postTwo 1 = .ok (.istore_n 1, 1) := by decide +kernel
theorem dX3_postTwo_2 : decode cX3_postTwo 2 = .ok (.iload_n 1, 1) := by decide +kernel
theorem dX3_postTwo_3 : decode cX3_postTwo 3 = .ok (.bipush 40, 2) := by decide +kernel
theorem dX3_postTwo_5 : decode cX3_postTwo 5 = .ok (.if_icmp .ge 71, 3) := by decide +kernel
theorem dX3_postTwo_8 : decode cX3_postTwo 8 = .ok (.iload_n 1, 1) := by decide +kernel
theorem dX3_postTwo_9 : decode cX3_postTwo 9 = .ok (.iconst 1, 1) := by decide +kernel
theorem dX3_postTwo_10 : decode cX3_postTwo 10 = .ok (.iadd, 1) := by decide +kernel
theorem dX3_postTwo_11 : decode cX3_postTwo 11 = .ok (.istore_n 2, 1) := by decide +kernel
theorem dX3_postTwo_12 : decode cX3_postTwo 12 = .ok (.aload_n 0, 1) := by decide +kernel
theorem dX3_postTwo_13 : decode cX3_postTwo 13 = .ok (.iload_n 1, 1) := by decide +kernel
theorem dX3_postTwo_14 : decode cX3_postTwo 14 = .ok (.invokevirtual 39, 3) := by decide +kernel
theorem dX3_postTwo_17 : decode cX3_postTwo 17 = .ok (.ifCond .eq 53, 3) := by decide +kernel
theorem dX3_postTwo_20 : decode cX3_postTwo 20 = .ok (.iload_n 2, 1) := by decide +kernel
theorem dX3_postTwo_21 : decode cX3_postTwo 21 = .ok (.bipush 40, 2) := by decide +kernel
theorem dX3_postTwo_23 : decode cX3_postTwo 23 = .ok (.if_icmp .ge 47, 3) := by decide +kernel
theorem dX3_postTwo_26 : decode cX3_postTwo 26 = .ok (.aload_n 0, 1) := by decide +kernel
theorem dX3_postTwo_27 : decode cX3_postTwo 27 = .ok (.iload_n 2, 1) := by decide +kernel
theorem dX3_postTwo_28 : decode cX3_postTwo 28 = .ok (.invokevirtual 39, 3) := by decide +kernel
theorem dX3_postTwo_31 : decode cX3_postTwo 31 = .ok (.ifCond .eq 33, 3) := by decide +kernel
theorem dX3_postTwo_34 : decode cX3_postTwo 34 = .ok (.aload_n 0, 1) := by decide +kernel
theorem dX3_postTwo_35 : decode cX3_postTwo 35 = .ok (.lconst 1, 1) := by decide +kernel
theorem dX3_postTwo_36 : decode cX3_postTwo 36 = .ok (.iload_n 1, 1) := by decide +kernel
theorem dX3_postTwo_37 : decode cX3_postTwo 37 = .ok (.lshl, 1) := by decide +kernel
theorem dX3_postTwo_38 : decode cX3_postTwo 38 = .ok (.lconst 1, 1) := by decide +kernel
theorem dX3_postTwo_39 : decode cX3_postTwo 39 = .ok (.iload_n 2, 1) := by decide +kernel
theorem dX3_postTwo_40 : decode cX3_postTwo 40 = .ok (.lshl, 1) := by decide +kernel
theorem dX3_postTwo_41 : decode cX3_postTwo 41 = .ok (.lor, 1) := by decide +kernel
theorem dX3_postTwo_42 : decode cX3_postTwo 42 = .ok (.invokevirtual 25, 3) := by decide +kernel
theorem dX3_postTwo_45 : decode cX3_postTwo 45 = .ok (.ifCond .eq 19, 3) := by decide +kernel
theorem dX3_postTwo_48 : decode cX3_postTwo 48 = .ok (.aload_n 0, 1) := by decide +kernel
theorem dX3_postTwo_49 : decode cX3_postTwo 49 = .ok (.getfield 9, 3) := by decide +kernel
theorem dX3_postTwo_52 : decode cX3_postTwo 52 = .ok (.iconst 0, 1) := by decide +kernel
theorem dX3_postTwo_53 : decode cX3_postTwo 53 = .ok (.iload_n 1, 1) := by decide +kernel
theorem dX3_postTwo_54 : decode cX3_postTwo 54 = .ok (.iastore, 1) := by decide +kernel
theorem dX3_postTwo_55 : decode cX3_postTwo 55 = .ok (.aload_n 0, 1) := by decide +kernel
theorem dX3_postTwo_56 : decode cX3_postTwo 56 = .ok (.getfield 9, 3) := by decide +kernel
theorem dX3_postTwo_59 : decode cX3_postTwo 59 = .ok (.iconst 1, 1) := by decide +kernel
theorem dX3_postTwo_60 : decode cX3_postTwo 60 = .ok (.iload_n 2, 1) := by decide +kernel
theorem dX3_postTwo_61 : decode cX3_postTwo 61 = .ok (.iastore, 1) := by decide +kernel
theorem dX3_postTwo_62 : decode cX3_postTwo 62 = .ok (.iconst 1, 1) := by decide +kernel
theorem dX3_postTwo_63 : decode cX3_postTwo 63 = .ok (.ireturn, 1) := by decide +kernel
theorem dX3_postTwo_64 : decode cX3_postTwo 64 = .ok (.iinc 2 1, 3) := by decide +kernel
theorem dX3_postTwo_67 : decode cX3_postTwo 67 = .ok (.goto (-55), 3) := by decide +kernel
theorem dX3_postTwo_70 : decode cX3_postTwo 70 = .ok (.iinc 1 1, 3) := by decide +kernel
theorem dX3_postTwo_73 : decode cX3_postTwo 73 = .ok (.goto (-71), 3) := by decide +kernel
theorem dX3_postTwo_76 : decode cX3_postTwo 76 = .ok (.iconst 0, 1) := by decide +kernel
theorem dX3_postTwo_77 : decode cX3_postTwo 77 = .ok (.ireturn, 1) := by decide +kernel
theorem dX3_postThree_0 : decode cX3_postThree 0 = .ok (.iconst 0, 1) := by decide +kernel
theorem dX3_postThree_1 : decode cX3_postThree 1 = .ok (.istore_n 1, 1) := by decide +kernel
theorem dX3_postThree_2 : decode cX3_postThree 2 = .ok (.iload_n 1, 1) := by decide +kernel
theorem dX3_postThree_3 : decode cX3_postThree 3 = .ok (.bipush 40, 2) := by decide +kernel
theorem dX3_postThree_5 : decode cX3_postThree 5 = .ok (.if_icmp .ge 106, 3) := by decide +kernel
theorem dX3_postThree_8 : decode cX3_postThree 8 = .ok (.iload_n 1, 1) := by decide +kernel
theorem dX3_postThree_9 : decode cX3_postThree 9 = .ok (.iconst 1, 1) := by decide +kernel
theorem dX3_postThree_10 : decode cX3_postThree 10 = .ok (.iadd, 1) := by decide +kernel
theorem dX3_postThree_11 : decode cX3_postThree 11 = .ok (.istore_n 2, 1) := by decide +kernel
theorem dX3_postThree_12 : decode cX3_postThree 12 = .ok (.aload_n 0, 1) := by decide +kernel
theorem dX3_postThree_13 : decode cX3_postThree 13 = .ok (.iload_n 1, 1) := by decide +kernel
theorem dX3_postThree_14 : decode cX3_postThree 14 = .ok (.invokevirtual 39, 3) := by decide +kernel
theorem dX3_postThree_17 : decode cX3_postThree 17 = .ok (.ifCond .eq 88, 3) := by decide +kernel
theorem dX3_postThree_20 : decode cX3_postThree 20 = .ok (.iload_n 2, 1) := by decide +kernel
theorem dX3_postThree_21 : decode cX3_postThree 21 = .ok (.bipush 40, 2) := by decide +kernel
theorem dX3_postThree_23 : decode cX3_postThree 23 = .ok (.if_icmp .ge 82, 3) := by decide +kernel
theorem dX3_postThree_26 : decode cX3_postThree 26 = .ok (.iload_n 2, 1) := by decide +kernel
theorem dX3_postThree_27 : decode cX3_postThree 27 = .ok (.iconst 1, 1) := by decide +kernel
theorem dX3_postThree_28 : decode cX3_postThree 28 = .ok (.iadd, 1) := by decide +kernel
theorem dX3_postThree_29 : decode cX3_postThree 29 = .ok (.istore_n 3, 1) := by decide +kernel
theorem dX3_postThree_30 : decode cX3_postThree 30 = .ok (.aload_n 0, 1) := by decide +kernel
theorem dX3_postThree_31 : decode cX3_postThree 31 = .ok (.iload_n 2, 1) := by decide +kernel
theorem dX3_postThree_32 : decode cX3_postThree 32 = .ok (.invokevirtual 39, 3) := by decide +kernel
theorem dX3_postThree_35 : decode cX3_postThree 35 = .ok (.ifCond .eq 64, 3) := by decide +kernel
theorem dX3_postThree_38 : decode cX3_postThree 38 = .ok (.iload_n 3, 1) := by decide +kernel
theorem dX3_postThree_39 : decode cX3_postThree 39 = .ok (.bipush 40, 2) := by decide +kernel
theorem dX3_postThree_41 : decode cX3_postThree 41 = .ok (.if_icmp .ge 58, 3) := by decide +kernel
theorem dX3_postThree_44 : decode cX3_postThree 44 = .ok (.aload_n 0, 1) := by decide +kernel
theorem dX3_postThree_45 : decode cX3_postThree 45 = .ok (.iload_n 3, 1) := by decide +kernel
theorem dX3_postThree_46 : decode cX3_postThree 46 = .ok (.invokevirtual 39, 3) := by decide +kernel
theorem dX3_postThree_49 : decode cX3_postThree 49 = .ok (.ifCond .eq 44, 3) := by decide +kernel
theorem dX3_postThree_52 : decode cX3_postThree 52 = .ok (.aload_n 0, 1) := by decide +kernel
theorem dX3_postThree_53 : decode cX3_postThree 53 = .ok (.lconst 1, 1) := by decide +kernel
theorem dX3_postThree_54 : decode cX3_postThree 54 = .ok (.iload_n 1, 1) := by decide +kernel
theorem dX3_postThree_55 : decode cX3_postThree 55 = .ok (.lshl, 1) := by decide +kernel
theorem dX3_postThree_56 : decode cX3_postThree 56 = .ok (.lconst 1, 1) := by decide +kernel
theorem dX3_postThree_57 : decode cX3_postThree 57 = .ok (.iload_n 2, 1) := by decide +kernel
theorem dX3_postThree_58 : decode cX3_postThree 58 = .ok (.lshl, 1) := by decide +kernel
theorem dX3_postThree_59 : decode cX3_postThree 59 = .ok (.lor, 1) := by decide +kernel
theorem dX3_postThree_60 : decode cX3_postThree 60 = .ok (.lconst 1, 1) := by decide +kernel
theorem dX3_postThree_61 : decode cX3_postThree 61 = .ok (.iload_n 3, 1) := by decide +kernel
theorem dX3_postThree_62 : decode cX3_postThree 62 = .ok (.lshl, 1) := by decide +kernel
theorem dX3_postThree_63 : decode cX3_postThree 63 = .ok (.lor, 1) := by decide +kernel
theorem dX3_postThree_64 : decode cX3_postThree 64 = .ok (.invokevirtual 25, 3) := by decide +kernel
theorem dX3_postThree_67 : decode cX3_postThree 67 = .ok (.ifCond .eq 26, 3) := by decide +kernel
theorem dX3_postThree_70 : decode cX3_postThree 70 = .ok (.aload_n 0, 1) := by decide +kernel
theorem dX3_postThree_71 : decode cX3_postThree 71 = .ok (.getfield 9, 3) := by decide +kernel
theorem dX3_postThree_74 : decode cX3_postThree 74 = .ok (.iconst 0, 1) := by decide +kernel
theorem dX3_postThree_75 : decode cX3_postThree 75 = .ok (.iload_n 1, 1) := by decide +kernel
theorem dX3_postThree_76 : decode cX3_postThree 76 = .ok (.iastore, 1) := by decide +kernel
theorem dX3_postThree_77 : decode cX3_postThree 77 = .ok (.aload_n 0, 1) := by decide +kernel
theorem dX3_postThree_78 : decode cX3_postThree 78 = .ok (.getfield 9, 3) := by decide +kernel
theorem dX3_postThree_81 : decode cX3_postThree 81 = .ok (.iconst 1, 1) := by decide +kernel
theorem dX3_postThree_82 : decode cX3_postThree 82 = .ok (.iload_n 2, 1) := by decide +kernel
theorem dX3_postThree_83 : decode cX3_postThree 83 = .ok (.iastore, 1) := by decide +kernel
theorem dX3_postThree_84 : decode cX3_postThree 84 = .ok (.aload_n 0, 1) := by decide +kernel
theorem dX3_postThree_85 : decode cX3_postThree 85 = .ok (.getfield 9, 3) := by decide +kernel
theorem dX3_postThree_88 : decode cX3_postThree 88 = .ok (.iconst 2, 1) := by decide +kernel
theorem dX3_postThree_89 : decode cX3_postThree 89 = .ok (.iload_n 3, 1) := by decide +kernel
theorem dX3_postThree_90 : decode cX3_postThree 90 = .ok (.iastore, 1) := by decide +kernel
theorem dX3_postThree_91 : decode cX3_postThree 91 = .ok (.iconst 1, 1) := by decide +kernel
theorem dX3_postThree_92 : decode cX3_postThree 92 = .ok (.ireturn, 1) := by decide +kernel
theorem dX3_postThree_93 : decode cX3_postThree 93 = .ok (.iinc 3 1, 3) := by decide +kernel
theorem dX3_postThree_96 : decode cX3_postThree 96 = .ok (.goto (-66), 3) := by decide +kernel
theorem dX3_postThree_99 : decode cX3_postThree 99 = .ok (.iinc 2 1, 3) := by decide +kernel
theorem dX3_postThree_102 : decode cX3_postThree 102 = .ok (.goto (-90), 3) := by decide +kernel
theorem dX3_postThree_105 : decode cX3_postThree 105 = .ok (.iinc 1 1, 3) := by decide +kernel
theorem dX3_postThree_108 : decode cX3_postThree 108 = .ok (.goto (-106), 3) := by decide +kernel
theorem dX3_postThree_111 : decode cX3_postThree 111 = .ok (.iconst 0, 1) := by decide +kernel
theorem dX3_postThree_112 : decode cX3_postThree 112 = .ok (.ireturn, 1) := by decide +kernel
theorem dX3_canBeWatched_0 : decode cX3_canBeWatched 0 = .ok (.aload_n 0, 1) := by decide +kernel
theorem dX3_canBeWatched_1 : decode cX3_canBeWatched 1 = .ok (.getfield 15, 3) := by decide +kernel
theorem dX3_canBeWatched_4 : decode cX3_canBeWatched 4 = .ok (.aload_n 0, 1) := by decide +kernel
theorem dX3_canBeWatched_5 : decode cX3_canBeWatched 5 = .ok (.getfield 19, 3) := by decide +kernel
theorem dX3_canBeWatched_8 : decode cX3_canBeWatched 8 = .ok (.ldc2_w 43, 3) := by decide +kernel
theorem dX3_canBeWatched_11 : decode cX3_canBeWatched 11 = .ok (.lxor, 1) := by decide +kernel
theorem dX3_canBeWatched_12 : decode cX3_canBeWatched 12 = .ok (.land, 1) := by decide +kernel
theorem dX3_canBeWatched_13 : decode cX3_canBeWatched 13 = .ok (.aload_n 0, 1) := by decide +kernel
theorem dX3_canBeWatched_14 : decode cX3_canBeWatched 14 = .ok (.getfield 22, 3) := by decide +kernel
theorem dX3_canBeWatched_17 : decode cX3_canBeWatched 17 = .ok (.ldc2_w 43, 3) := by decide +kernel
theorem dX3_canBeWatched_20 : decode cX3_canBeWatched 20 = .ok (.lxor, 1) := by decide +kernel
theorem dX3_canBeWatched_21 : decode cX3_canBeWatched 21 = .ok (.land, 1) := by decide +kernel
theorem dX3_canBeWatched_22 : decode cX3_canBeWatched 22 = .ok (.iload_n 1, 1) := by decide +kernel
theorem dX3_canBeWatched_23 : decode cX3_canBeWatched 23 = .ok (.lushr, 1) := by decide +kernel
theorem dX3_canBeWatched_24 : decode cX3_canBeWatched 24 = .ok (.lconst 1, 1) := by decide +kernel
theorem dX3_canBeWatched_25 : decode cX3_canBeWatched 25 = .ok (.land, 1) := by decide +kernel
theorem dX3_canBeWatched_26 : decode cX3_canBeWatched 26 = .ok (.lconst 0, 1) := by decide +kernel
theorem dX3_canBeWatched_27 : decode cX3_canBeWatched 27 = .ok (.lcmp, 1) := by decide +kernel
theorem dX3_canBeWatched_28 : decode cX3_canBeWatched 28 = .ok (.ifCond .eq 7, 3) := by decide +kernel
theorem dX3_canBeWatched_31 : decode cX3_canBeWatched 31 = .ok (.iconst 1, 1) := by decide +kernel
theorem dX3_canBeWatched_32 : decode cX3_canBeWatched 32 = .ok (.goto 4, 3) := by decide +kernel
theorem dX3_canBeWatched_35 : decode cX3_canBeWatched 35 = .ok (.iconst 0, 1) := by decide +kernel
theorem dX3_canBeWatched_36 : decode cX3_canBeWatched 36 = .ok (.ireturn, 1) := by decide +kernel
theorem dX3_cuts_0 : decode cX3_cuts 0 = .ok (.aload_n 0, 1) := by decide +kernel
theorem dX3_cuts_1 : decode cX3_cuts 1 = .ok (.getfield 15, 3) := by decide +kernel
theorem dX3_cuts_4 : decode cX3_cuts 4 = .ok (.lload_n 1, 1) := by decide +kernel
theorem dX3_cuts_5 : decode cX3_cuts 5 = .ok (.ldc2_w 43, 3) := by decide +kernel
theorem dX3_cuts_8 : decode cX3_cuts 8 = .ok (.lxor, 1) := by decide +kernel
theorem dX3_cuts_9 : decode cX3_cuts 9 = .ok (.land, 1) := by decide +kernel
theorem dX3_cuts_10 : decode cX3_cuts 10 = .ok (.lstore_n 3, 1) := by decide +kernel
theorem dX3_cuts_11 : decode cX3_cuts 11 = .ok (.aload_n 0, 1) := by decide +kernel
theorem dX3_cuts_12 : decode cX3_cuts 12 = .ok (.getfield 19, 3) := by decide +kernel
theorem dX3_cuts_15 : decode cX3_cuts 15 = .ok (.lload_n 3, 1) := by decide +kernel
theorem dX3_cuts_16 : decode cX3_cuts 16 = .ok (.land, 1) := by decide +kernel
theorem dX3_cuts_17 : decode cX3_cuts 17 = .ok (.lstore 5, 2) := by decide +kernel
theorem dX3_cuts_19 : decode cX3_cuts 19 = .ok (.iconst 0, 1) := by decide +kernel
theorem dX3_cuts_20 : decode cX3_cuts 20 = .ok (.istore 7, 2) := by decide +kernel
theorem dX3_cuts_22 : decode cX3_cuts 22 = .ok (.iload 7, 2) := by decide +kernel
theorem dX3_cuts_24 : decode cX3_cuts 24 = .ok (.bipush 40, 2) := by decide +kernel
theorem dX3_cuts_26 : decode cX3_cuts 26 = .ok (.if_icmp .ge 46, 3) := by decide +kernel
theorem dX3_cuts_29 : decode cX3_cuts 29 = .ok (.lload 5, 2) := by decide +kernel
theorem dX3_cuts_31 : decode cX3_cuts 31 = .ok (.invokestatic 45, 3) := by decide +kernel
theorem dX3_cuts_34 : decode cX3_cuts 34 = .ok (.lload_n 3, 1) := by decide +kernel
theorem dX3_cuts_35 : decode cX3_cuts 35 = .ok (.land, 1) := by decide +kernel
theorem dX3_cuts_36 : decode cX3_cuts 36 = .ok (.lstore 8, 2) := by decide +kernel
theorem dX3_cuts_38 : decode cX3_cuts 38 = .ok (.lload 8, 2) := by decide +kernel
theorem dX3_cuts_40 : decode cX3_cuts 40 = .ok (.aload_n 0, 1) := by decide +kernel
theorem dX3_cuts_41 : decode cX3_cuts 41 = .ok (.getfield 22, 3) := by decide +kernel
theorem dX3_cuts_44 : decode cX3_cuts 44 = .ok (.land, 1) := by decide +kernel
theorem dX3_cuts_45 : decode cX3_cuts 45 = .ok (.lconst 0, 1) := by decide +kernel
theorem dX3_cuts_46 : decode cX3_cuts 46 = .ok (.lcmp, 1) := by decide +kernel
theorem dX3_cuts_47 : decode cX3_cuts 47 = .ok (.ifCond .eq 5, 3) := by decide +kernel
theorem dX3_cuts_50 : decode cX3_cuts 50 = .ok (.iconst 0, 1) := by decide +kernel
theorem dX3_cuts_51 : decode cX3_cuts 51 = .ok (.ireturn, 1) := by decide +kernel
theorem dX3_cuts_52 : decode cX3_cuts 52 = .ok (.lload 8, 2) := by decide +kernel
theorem dX3_cuts_54 : decode cX3_cuts 54 = .ok (.lload 5, 2) := by decide +kernel
theorem dX3_cuts_56 : decode cX3_cuts 56 = .ok (.lcmp, 1) := by decide +kernel
theorem dX3_cuts_57 : decode cX3_cuts 57 = .ok (.ifCond .ne 5, 3) := by decide +kernel
theorem dX3_cuts_60 : decode cX3_cuts 60 = .ok (.iconst 1, 1) := by decide +kernel
theorem dX3_cuts_61 : decode cX3_cuts 61 = .ok (.ireturn, 1) := by decide +kernel
theorem dX3_cuts_62 : decode cX3_cuts 62 = .ok (.lload 8, 2) := by decide +kernel
theorem dX3_cuts_64 : decode cX3_cuts 64 = .ok (.lstore 5, 2) := by decide +kernel
theorem dX3_cuts_66 : decode cX3_cuts 66 = .ok (.iinc 7 1, 3) := by decide +kernel
theorem dX3_cuts_69 : decode cX3_cuts 69 = .ok (.goto (-47), 3) := by decide +kernel
theorem dX3_cuts_72 : decode cX3_cuts 72 = .ok (.iconst 1, 1) := by decide +kernel
theorem dX3_cuts_73 : decode cX3_cuts 73 = .ok (.ireturn, 1) := by decide +kernel
theorem dX4_init_0 : decode cX4_init 0 = .ok (.aload_n 0, 1) := by decide +kernel
theorem dX4_init_1 : decode cX4_init 1 = .ok (.invokespecial 3, 3) := by decide +kernel
theorem dX4_init_4 : decode cX4_init 4 = .ok (.aload_n 0, 1) := by decide +kernel
theorem dX4_init_5 : decode cX4_init 5 = .ok (.bipush 20, 2) := by decide +kernel
theorem dX4_init_7 : decode cX4_init 7 = .ok (.newarray .int, 2) := by decide +kernel
theorem dX4_init_9 : decode cX4_init 9 = .ok (.putfield 9, 3) := by decide +kernel
theorem dX4_init_12 : decode cX4_init 12 = .ok (.aload_n 0, 1) := by decide +kernel
theorem dX4_init_13 : decode cX4_init 13 = .ok (.bipush 20, 2) := by decide +kernel
theorem dX4_init_15 : decode cX4_init 15 = .ok (.newarray .int, 2) := by decide +kernel
theorem dX4_init_17 : decode cX4_init 17 = .ok (.putfield 15, 3) := by decide +kernel
theorem dX4_init_20 : decode cX4_init 20 = .ok (.aload_n 0, 1) := by decide +kernel
theorem dX4_init_21 : decode cX4_init 21 = .ok (.bipush 20, 2) := by decide +kernel
theorem dX4_init_23 : decode cX4_init 23 = .ok (.newarray .int, 2) := by decide +kernel
theorem dX4_init_25 : decode cX4_init 25 = .ok (.putfield 18, 3) := by decide +kernel
theorem dX4_init_28 : decode cX4_init 28 = .ok (.aload_n 0, 1) := by decide +kernel
theorem dX4_init_29 : decode cX4_init 29 = .ok (.new 21, 3) := by decide +kernel
theorem dX4_init_32 : decode cX4_init 32 = .ok (.dup, 1) := by decide +kernel
theorem dX4_init_33 : decode cX4_init 33 = .ok (.invokespecial 23, 3) := by decide +kernel
theorem dX4_init_36 : decode cX4_init 36 = .ok (.putfield 24, 3) := by decide +kernel
theorem dX4_init_39 : decode cX4_init 39 = .ok (.aload_n 0, 1) := by decide +kernel
theorem dX4_init_40 : decode cX4_init 40 = .ok (.bipush 41, 2) := by decide +kernel
theorem dX4_init_42 : decode cX4_init 42 = .ok (.newarray .boolean, 2) := by decide +kernel
theorem dX4_init_44 : decode cX4_init 44 = .ok (.putfield 28, 3) := by decide +kernel
theorem dX4_init_47 : decode cX4_init 47 = .ok (.aload_n 0, 1) := by decide +kernel
theorem dX4_init_48 : decode cX4_init 48 = .ok (.sipush 1640, 3) := by decide +kernel
theorem dX4_init_51 : decode cX4_init 51 = .ok (.newarray .int, 2) := by decide +kernel
theorem dX4_init_53 : decode cX4_init 53 = .ok (.putfield 32, 3) := by decide +kernel
theorem dX4_init_56 : decode cX4_init 56 = .ok (.aload_n 0, 1) := by decide +kernel
theorem dX4_init_57 : decode cX4_init 57 = .ok (.bipush 100, 2) := by decide +kernel
theorem dX4_init_59 : decode cX4_init 59 = .ok (.newarray .int, 2) := by decide +kernel
theorem dX4_init_61 : decode cX4_init 61 = .ok (.putfield 35, 3) := by decide +kernel
theorem dX4_init_64 : decode cX4_init 64 = .ok (.return_, 1) := by decide +kernel
theorem dX4_knows_0 : decode cX4_knows 0 = .ok (.iload_n 1, 1) := by decide +kernel
theorem dX4_knows_1 : decode cX4_knows 1 = .ok (.ifCond .lt 15, 3) := by decide +kernel
theorem dX4_knows_4 : decode cX4_knows 4 = .ok (.iload_n 1, 1) := by decide +kernel
theorem dX4_knows_5 : decode cX4_knows 5 = .ok (.aload_n 0, 1) := by decide +kernel
theorem dX4_knows_6 : decode cX4_knows 6 = .ok (.getfield 38, 3) := by decide +kernel
theorem dX4_knows_9 : decode cX4_knows 9 = .ok (.if_icmp .gt 7, 3) := by decide +kernel
theorem dX4_knows_12 : decode cX4_knows 12 = .ok (.iconst 1, 1) := by decide +kernel
theorem dX4_knows_13 : decode cX4_knows 13 = .ok (.goto 4, 3) := by decide +kernel
theorem dX4_knows_16 : decode cX4_knows 16 = .ok (.iconst 0, 1) := by decide +kernel
theorem dX4_knows_17 : decode cX4_knows 17 = .ok (.ireturn, 1) := by decide +kernel
theorem dX4_add_0 : decode cX4_add 0 = .ok (.aload_n 0, 1) := by decide +kernel
theorem dX4_add_1 : decode cX4_add 1 = .ok (.getfield 38, 3) := by decide +kernel
theorem dX4_add_4 : decode cX4_add 4 = .ok (.ifCond .lt 12, 3) := by decide +kernel
theorem dX4_add_7 : decode cX4_add 7 = .ok (.aload_n 0, 1) := by decide +kernel
theorem dX4_add_8 : decode cX4_add 8 = .ok (.getfield 38, 3) := by decide +kernel
theorem dX4_add_11 : decode cX4_add 11 = .ok (.bipush 20, 2) := by decide +kernel
theorem dX4_add_13 : decode cX4_add 13 = .ok (.if_icmp .lt 5, 3) := by decide +kernel
theorem dX4_add_16 : decode cX4_add 16 = .ok (.iconst (-1), 1) := by decide +kernel
theorem dX4_add_17 : decode cX4_add 17 = .ok (.ireturn, 1) := by decide +kernel
theorem dX4_add_18 : decode cX4_add 18 = .ok (.aload_n 0, 1) := by decide +kernel
theorem dX4_add_19 : decode cX4_add 19 = .ok (.getfield 9, 3) := by decide +kernel
theorem dX4_add_22 : decode cX4_add 22 = .ok (.aload_n 0, 1) := by decide +kernel
theorem dX4_add_23 : decode cX4_add 23 = .ok (.getfield 38, 3) := by decide +kernel
theorem dX4_add_26 : decode cX4_add 26 = .ok (.iload_n 1, 1) := by decide +kernel
theorem dX4_add_27 : decode cX4_add 27 = .ok (.iastore, 1) := by decide +kernel
theorem dX4_add_28 : decode cX4_add 28 = .ok (.aload_n 0, 1) := by decide +kernel
theorem dX4_add_29 : decode cX4_add 29 = .ok (.getfield 15, 3) := by decide +kernel
theorem dX4_add_32 : decode cX4_add 32 = .ok (.aload_n 0, 1) := by decide +kernel
theorem dX4_add_33 : decode cX4_add 33 = .ok (.getfield 38, 3) := by decide +kernel
theorem dX4_add_36 : decode cX4_add 36 = .ok (.iload_n 2, 1) := by decide +kernel
theorem dX4_add_37 : decode cX4_add 37 = .ok (.iastore, 1) := by decide +kernel
theorem dX4_add_38 : decode cX4_add 38 = .ok (.aload_n 0, 1) := by decide +kernel
theorem dX4_add_39 : decode cX4_add 39 = .ok (.getfield 18, 3) := by decide +kernel
theorem dX4_add_42 : decode cX4_add 42 = .ok (.aload_n 0, 1) := by decide +kernel
theorem dX4_add_43 : decode cX4_add 43 = .ok (.getfield 38, 3) := by decide +kernel
theorem dX4_add_46 : decode cX4_add 46 = .ok (.iload_n 3, 1) := by decide +kernel
theorem dX4_add_47 : decode cX4_add 47 = .ok (.iastore, 1) := by decide +kernel
theorem dX4_add_48 : decode cX4_add 48 = .ok (.aload_n 0, 1) := by decide +kernel
theorem dX4_add_49 : decode cX4_add 49 = .ok (.dup, 1) := by decide +kernel
theorem dX4_add_50 : decode cX4_add 50 = .ok (.getfield 38, 3) := by decide +kernel
theorem dX4_add_53 : decode cX4_add 53 = .ok (.iconst 1, 1) := by decide +kernel
theorem dX4_add_54 : decode cX4_add 54 = .ok (.iadd, 1) := by decide +kernel
theorem dX4_add_55 : decode cX4_add 55 = .ok (.putfield 38, 3) := by decide +kernel
theorem dX4_add_58 : decode cX4_add 58 = .ok (.aload_n 0, 1) := by decide +kernel
theorem dX4_add_59 : decode cX4_add 59 = .ok (.getfield 38, 3) := by decide +kernel
theorem dX4_add_62 : decode cX4_add 62 = .ok (.iconst 1, 1) := by decide +kernel
theorem dX4_add_63 : decode cX4_add 63 = .ok (.isub, 1) := by decide +kernel
theorem dX4_add_64 : decode cX4_add 64 = .ok (.ireturn, 1) := by decide +kernel
theorem dX4_weigh_0 : decode cX4_weigh 0 = .ok (.iconst 0, 1) := by decide +kernel
theorem dX4_weigh_1 : decode cX4_weigh 1 = .ok (.istore 5, 2) := by decide +kernel
theorem dX4_weigh_3 : decode cX4_weigh 3 = .ok (.iload 4, 2) := by decide +kernel
theorem dX4_weigh_5 : decode cX4_weigh 5 = .ok (.istore 6, 2) := by decide +kernel
theorem dX4_weigh_7 : decode cX4_weigh 7 = .ok (.iconst 0, 1) := by decide +kernel
theorem dX4_weigh_8 : decode cX4_weigh 8 = .ok (.istore 7, 2) := by decide +kernel
theorem dX4_weigh_10 : decode cX4_weigh 10 = .ok (.iload 7, 2) := by decide +kernel
theorem dX4_weigh_12 : decode cX4_weigh 12 = .ok (.iload_n 3, 1) := by decide +kernel
theorem dX4_weigh_13 : decode cX4_weigh 13 = .ok (.if_icmp .ge 30, 3) := by decide +kernel
theorem dX4_weigh_16 : decode cX4_weigh 16 = .ok (.iload 7, 2) := by decide +kernel
theorem dX4_weigh_18 : decode cX4_weigh 18 = .ok (.bipush 20, 2) := by decide +kernel
theorem dX4_weigh_20 : decode cX4_weigh 20 = .ok (.if_icmp .ge 23, 3) := by decide +kernel
theorem dX4_weigh_23 : decode cX4_weigh 23 = .ok (.iload 6, 2) := by decide +kernel
theorem dX4_weigh_25 : decode cX4_weigh 25 = .ok (.aload_n 0, 1) := by decide +kernel
theorem dX4_weigh_26 : decode cX4_weigh 26 = .ok (.getfield 15, 3) := by decide +kernel
theorem dX4_weigh_29 : decode cX4_weigh 29 = .ok (.iload 7, 2) := by decide +kernel
theorem dX4_weigh_31 : decode cX4_weigh 31 = .ok (.iaload, 1) := by decide +kernel
theorem dX4_weigh_32 : decode cX4_weigh 32 = .ok (.invokestatic 42, 3) := by decide +kernel
theorem dX4_weigh_35 : decode cX4_weigh 35 = .ok (.istore 6, 2) := by decide +kernel
theorem dX4_weigh_37 : decode cX4_weigh 37 = .ok (.iinc 7 1, 3) := by decide +kernel
theorem dX4_weigh_40 : decode cX4_weigh 40 = .ok (.goto (-30), 3) := by decide +kernel
theorem dX4_weigh_43 : decode cX4_weigh 43 = .ok (.iconst 0, 1) := by decide +kernel
theorem dX4_weigh_44 : decode cX4_weigh 44 = .ok (.istore 7, 2) := by decide +kernel
theorem dX4_weigh_46 : decode cX4_weigh 46 = .ok (.iload 7, 2) := by decide +kernel
theorem dX4_weigh_48 : decode cX4_weigh 48 = .ok (.bipush 40, 2) := by decide +kernel
theorem dX4_weigh_50 : decode cX4_weigh 50 = .ok (.if_icmp .gt 133, 3) := by decide +kernel
theorem dX4_weigh_53 : decode cX4_weigh 53 = .ok (.aload_n 0, 1) := by decide +kernel
theorem dX4_weigh_54 : decode cX4_weigh 54 = .ok (.getfield 28, 3) := by decide +kernel
theorem dX4_weigh_57 : decode cX4_weigh 57 = .ok (.iload 7, 2) := by decide +kernel
theorem dX4_weigh_59 : decode cX4_weigh 59 = .ok (.iload 7, 2) := by decide +kernel
theorem dX4_weigh_61 : decode cX4_weigh 61 = .ok (.bipush 40, 2) := by decide +kernel
theorem dX4_weigh_63 : decode cX4_weigh 63 = .ok (.if_icmp .eq 12, 3) := by decide +kernel
theorem dX4_weigh_66 : decode cX4_weigh 66 = .ok (.aload_n 1, 1) := by decide +kernel
theorem dX4_weigh_67 : decode cX4_weigh 67 = .ok (.iload 7, 2) := by decide +kernel
theorem dX4_weigh_69 : decode cX4_weigh 69 = .ok (.invokevirtual 48, 3) := by decide +kernel
theorem dX4_weigh_72 : decode cX4_weigh 72 = .ok (.ifCond .eq 7, 3) := by decide +kernel
theorem dX4_weigh_75 : decode cX4_weigh 75 = .ok (.iconst 1, 1) := by decide +kernel
theorem dX4_weigh_76 : decode cX4_weigh 76 = .ok (.goto 4, 3) := by decide +kernel
theorem dX4_weigh_79 : decode cX4_weigh 79 = .ok (.iconst 0, 1) := by decide +kernel
theorem dX4_weigh_80 : decode cX4_weigh 80 = .ok (.bastore, 1) := by decide +kernel
theorem dX4_weigh_81 : decode cX4_weigh 81 = .ok (.aload_n 0, 1) := by decide +kernel
theorem dX4_weigh_82 : decode cX4_weigh 82 = .ok (.getfield 24, 3) := by decide +kernel
theorem dX4_weigh_85 : decode cX4_weigh 85 = .ok (.aload_n 1, 1) := by decide +kernel
theorem dX4_weigh_86 : decode cX4_weigh 86 = .ok (.invokevirtual 54, 3) := by decide +kernel
theorem dX4_weigh_89 : decode cX4_weigh 89 = .ok (.iconst 0, 1) := by decide +kernel
theorem dX4_weigh_90 : decode cX4_weigh 90 = .ok (.istore 8, 2) := by decide +kernel
theorem dX4_weigh_92 : decode cX4_weigh 92 = .ok (.iload 8, 2) := by decide +kernel
theorem dX4_weigh_94 : decode cX4_weigh 94 = .ok (.iload 6, 2) := by decide +kernel
theorem dX4_weigh_96 : decode cX4_weigh 96 = .ok (.if_icmp .gt 61, 3) := by decide +kernel
theorem dX4_weigh_99 : decode cX4_weigh 99 = .ok (.aload_n 0, 1) := by decide +kernel
theorem dX4_weigh_100 : decode cX4_weigh 100 = .ok (.getfield 28, 3) := by decide +kernel
theorem dX4_weigh_103 : decode cX4_weigh 103 = .ok (.iload 7, 2) := by decide +kernel
theorem dX4_weigh_105 : decode cX4_weigh 105 = .ok (.baload, 1) := by decide +kernel
theorem dX4_weigh_106 : decode cX4_weigh 106 = .ok (.ifCond .eq 51, 3) := by decide +kernel
theorem dX4_weigh_109 : decode cX4_weigh 109 = .ok (.aload_n 0, 1) := by decide +kernel
theorem dX4_weigh_110 : decode cX4_weigh 110 = .ok (.getfield 28, 3) := by decide +kernel
theorem dX4_weigh_113 : decode cX4_weigh 113 = .ok (.iload 7, 2) := by decide +kernel
theorem dX4_weigh_115 : decode cX4_weigh 115 = .ok (.aload_n 0, 1) := by decide +kernel
theorem dX4_weigh_116 : decode cX4_weigh 116 = .ok (.iload_n 3, 1) := by decide +kernel
theorem dX4_weigh_117 : decode cX4_weigh 117 = .ok (.iload 8, 2) := by decide +kernel
theorem dX4_weigh_119 : decode cX4_weigh 119 = .ok (.invokevirtual 58, 3) := by decide +kernel
theorem dX4_weigh_122 : decode cX4_weigh 122 = .ok (.bastore, 1) := by decide +kernel
theorem dX4_weigh_123 : decode cX4_weigh 123 = .ok (.iload 8, 2) := by decide +kernel
theorem dX4_weigh_125 : decode cX4_weigh 125 = .ok (.iload 4, 2) := by decide +kernel
theorem dX4_weigh_127 : decode cX4_weigh 127 = .ok (.if_icmp .ne 9, 3) := by decide +kernel
theorem dX4_weigh_130 : decode cX4_weigh 130 = .ok (.aload_n 0, 1) := by decide +kernel
theorem dX4_weigh_131 : decode cX4_weigh 131 = .ok (.iload 7, 2) := by decide +kernel
theorem dX4_weigh_133 : decode cX4_weigh 133 = .ok (.invokevirtual 62, 3) := by decide +kernel
theorem dX4_weigh_136 : decode cX4_weigh 136 = .ok (.aload_n 2, 1) := by decide +kernel
theorem dX4_weigh_137 : decode cX4_weigh 137 = .ok (.aload_n 1, 1) := by decide +kernel
theorem dX4_weigh_138 : decode cX4_weigh 138 = .ok (.aload_n 0, 1) := by decide +kernel
theorem dX4_weigh_139 : decode cX4_weigh 139 = .ok (.getfield 24, 3) := by decide +kernel
theorem dX4_weigh_142 : decode cX4_weigh 142 = .ok (.aload_n 1, 1) := by decide +kernel
theorem dX4_weigh_143 : decode cX4_weigh 143 = .ok (.getfield 66, 3) := by decide +kernel
theorem dX4_weigh_146 : decode cX4_weigh 146 = .ok (.iload 7, 2) := by decide +kernel
theorem dX4_weigh_148 : decode cX4_weigh 148 = .ok (.invokevirtual 69, 3) := by decide +kernel
theorem dX4_weigh_151 : decode cX4_weigh 151 = .ok (.iinc 8 1, 3) := by decide +kernel
theorem dX4_weigh_154 : decode cX4_weigh 154 = .ok (.goto (-62), 3) := by decide +kernel
theorem dX4_weigh_157 : decode cX4_weigh 157 = .ok (.iload 5, 2) := by decide +kernel
theorem dX4_weigh_159 : decode cX4_weigh 159 = .ok (.aload_n 0, 1) := by decide +kernel
theorem dX4_weigh_160 : decode cX4_weigh 160 = .ok (.getfield 28, 3) := by decide +kernel
theorem dX4_weigh_163 : decode cX4_weigh 163 = .ok (.iload 7, 2) := by decide +kernel
theorem dX4_weigh_165 : decode cX4_weigh 165 = .ok (.baload, 1) := by decide +kernel
theorem dX4_weigh_166 : decode cX4_weigh 166 = .ok (.ifCond .eq 7, 3) := by decide +kernel
theorem dX4_weigh_169 : decode cX4_weigh 169 = .ok (.iconst 1, 1) := by decide +kernel
theorem dX4_weigh_170 : decode cX4_weigh 170 = .ok (.goto 4, 3) := by decide +kernel
theorem dX4_weigh_173 : decode cX4_weigh 173 = .ok (.iconst 0, 1) := by decide +kernel
theorem dX4_weigh_174 : decode cX4_weigh 174 = .ok (.iadd, 1) := by decide +kernel
theorem dX4_weigh_175 : decode cX4_weigh 175 = .ok (.istore 5, 2) := by decide +kernel
theorem dX4_weigh_177 : decode cX4_weigh 177 = .ok (.iinc 7 1, 3) := by decide +kernel
theorem dX4_weigh_180 : decode cX4_weigh 180 = .ok (.goto (-134), 3) := by decide +kernel
theorem dX4_weigh_183 : decode cX4_weigh 183 = .ok (.iload 5, 2) := by decide +kernel
theorem dX4_weigh_185 : decode cX4_weigh 185 = .ok (.ireturn, 1) := by decide +kernel
theorem dX4_agrees_0 : decode cX4_agrees 0 = .ok (.iconst 0, 1) := by decide +kernel
theorem dX4_agrees_1 : decode cX4_agrees 1 = .ok (.istore_n 3, 1) := by decide +kernel
theorem dX4_agrees_2 : decode cX4_agrees 2 = .ok (.iload_n 3, 1) := by decide +kernel
theorem dX4_agrees_3 : decode cX4_agrees 3 = .ok (.iload_n 1, 1) := by decide +kernel
theorem dX4_agrees_4 : decode cX4_agrees 4 = .ok (.if_icmp .ge 66, 3) := by decide +kernel
theorem dX4_agrees_7 : decode cX4_agrees 7 = .ok (.iload_n 3, 1) := by decide +kernel
theorem dX4_agrees_8 : decode cX4_agrees 8 = .ok (.bipush 20, 2) := by decide +kernel
theorem dX4_agrees_10 : decode cX4_agrees 10 = .ok (.if_icmp .ge 60, 3) := by decide +kernel
theorem dX4_agrees_13 : decode cX4_agrees 13 = .ok (.aload_n 0, 1) := by decide +kernel
theorem dX4_agrees_14 : decode cX4_agrees 14 = .ok (.getfield 9, 3) := by decide +kernel
theorem dX4_agrees_17 : decode cX4_agrees 17 = .ok (.iload_n 3, 1) := by decide +kernel
theorem dX4_agrees_18 : decode cX4_agrees 18 = .ok (.iaload, 1) := by decide +kernel
theorem dX4_agrees_19 : decode cX4_agrees 19 = .ok (.istore 4, 2) := by decide +kernel
theorem dX4_agrees_21 : decode cX4_agrees 21 = .ok (.aload_n 0, 1) := by decide +kernel
theorem dX4_agrees_22 : decode cX4_agrees 22 = .ok (.getfield 15, 3) := by decide +kernel
theorem dX4_agrees_25 : decode cX4_agrees 25 = .ok (.iload_n 3, 1) := by decide +kernel
theorem dX4_agrees_26 : decode cX4_agrees 26 = .ok (.iaload, 1) := by decide +kernel
theorem dX4_agrees_27 : decode cX4_agrees 27 = .ok (.iload_n 2, 1) := by decide +kernel
theorem dX4_agrees_28 : decode cX4_agrees 28 = .ok (.if_icmp .ne 36, 3) := by decide +kernel
theorem dX4_agrees_31 : decode cX4_agrees 31 = .ok (.iload 4, 2) := by decide +kernel
theorem dX4_agrees_33 : decode cX4_agrees 33 = .ok (.ifCond .lt 31, 3) := by decide +kernel
theorem dX4_agrees_36 : decode cX4_agrees 36 = .ok (.iload 4, 2) := by decide +kernel
theorem dX4_agrees_38 : decode cX4_agrees 38 = .ok (.bipush 40, 2) := by decide +kernel
theorem dX4_agrees_40 : decode cX4_agrees 40 = .ok (.if_icmp .ge 24, 3) := by decide +kernel
theorem dX4_agrees_43 : decode cX4_agrees 43 = .ok (.aload_n 0, 1) := by decide +kernel
theorem dX4_agrees_44 : decode cX4_agrees 44 = .ok (.getfield 24, 3) := by decide +kernel
theorem dX4_agrees_47 : decode cX4_agrees 47 = .ok (.getfield 75, 3) := by decide +kernel
theorem dX4_agrees_50 : decode cX4_agrees 50 = .ok (.iload 4, 2) := by decide +kernel
theorem dX4_agrees_52 : decode cX4_agrees 52 = .ok (.iaload, 1) := by decide +kernel
theorem dX4_agrees_53 : decode cX4_agrees 53 = .ok (.aload_n 0, 1) := by decide +kernel
theorem dX4_agrees_54 : decode cX4_agrees 54 = .ok (.getfield 18, 3) := by decide +kernel
theorem dX4_agrees_57 : decode cX4_agrees 57 = .ok (.iload_n 3, 1) := by decide +kernel
theorem dX4_agrees_58 : decode cX4_agrees 58 = .ok (.iaload, 1) := by decide +kernel
theorem dX4_agrees_59 : decode cX4_agrees 59 = .ok (.if_icmp .eq 5, 3) := by decide +kernel
theorem dX4_agrees_62 : decode cX4_agrees 62 = .ok (.iconst 0, 1) := by decide +kernel
theorem dX4_agrees_63 : decode cX4_agrees 63 = .ok (.ireturn, 1) := by decide +kernel
theorem dX4_agrees_64 : decode cX4_agrees 64 = .ok (.iinc 3 1, 3) := by decide +kernel
theorem dX4_agrees_67 : decode cX4_agrees 67 = .ok (.goto (-65), 3) := by decide +kernel
theorem dX4_agrees_70 : decode cX4_agrees 70 = .ok (.iconst 1, 1) := by decide +kernel
theorem dX4_agrees_71 : decode cX4_agrees 71 = .ok (.ireturn, 1) := by decide +kernel
theorem dX4_keepFog_0 : decode cX4_keepFog 0 = .ok (.iconst 0, 1) := by decide +kernel
theorem dX4_keepFog_1 : decode cX4_keepFog 1 = .ok (.istore_n 2, 1) := by decide +kernel
theorem dX4_keepFog_2 : decode cX4_keepFog 2 = .ok (.iload_n 2, 1) := by decide +kernel
theorem dX4_keepFog_3 : decode cX4_keepFog 3 = .ok (.bipush 40, 2) := by decide +kernel
theorem dX4_keepFog_5 : decode cX4_keepFog 5 = .ok (.if_icmp .ge 42, 3) := by decide +kernel
theorem dX4_keepFog_8 : decode cX4_keepFog 8 = .ok (.iload_n 1, 1) := by decide +kernel
theorem dX4_keepFog_9 : decode cX4_keepFog 9 = .ok (.bipush 40, 2) := by decide +kernel
theorem dX4_keepFog_11 : decode cX4_keepFog 11 = .ok (.imul, 1) := by decide +kernel
theorem dX4_keepFog_12 : decode cX4_keepFog 12 = .ok (.iload_n 2, 1) := by decide +kernel
theorem dX4_keepFog_13 : decode cX4_keepFog 13 = .ok (.iadd, 1) := by decide +kernel
theorem dX4_keepFog_14 : decode cX4_keepFog 14 = .ok (.istore_n 3, 1) := by decide +kernel
theorem dX4_keepFog_15 : decode cX4_keepFog 15 = .ok (.iload_n 3, 1) := by decide +kernel
theorem dX4_keepFog_16 : decode cX4_keepFog 16 = .ok (.ifCond .lt 25, 3) := by decide +kernel
theorem dX4_keepFog_19 : decode cX4_keepFog 19 = .ok (.iload_n 3, 1) := by decide +kernel
theorem dX4_keepFog_20 : decode cX4_keepFog 20 = .ok (.sipush 1640, 3) := by decide +kernel
theorem dX4_keepFog_23 : decode cX4_keepFog 23 = .ok (.if_icmp .ge 18, 3) := by decide +kernel
theorem dX4_keepFog_26 : decode cX4_keepFog 26 = .ok (.aload_n 0, 1) := by decide +kernel
theorem dX4_keepFog_27 : decode cX4_keepFog 27 = .ok (.getfield 32, 3) := by decide +kernel
theorem dX4_keepFog_30 : decode cX4_keepFog 30 = .ok (.iload_n 3, 1) := by decide +kernel
theorem dX4_keepFog_31 : decode cX4_keepFog 31 = .ok (.aload_n 0, 1) := by decide +kernel
theorem dX4_keepFog_32 : decode cX4_keepFog 32 = .ok (.getfield 24, 3) := by decide +kernel
theorem dX4_keepFog_35 : decode cX4_keepFog 35 = .ok (.getfield 75, 3) := by decide +kernel
theorem dX4_keepFog_38 : decode cX4_keepFog 38 = .ok (.iload_n 2, 1) := by decide +kernel
theorem dX4_keepFog_39 : decode cX4_keepFog 39 = .ok (.iaload, 1) := by decide +kernel
theorem dX4_keepFog_40 : decode cX4_keepFog 40 = .ok (.iastore, 1) := by decide +kernel
theorem dX4_keepFog_41 : decode cX4_keepFog 41 = .ok (.iinc 2 1, 3) := by decide +kernel
theorem dX4_keepFog_44 : decode cX4_keepFog 44 = .ok (.goto (-42), 3) := by decide +kernel
theorem dX4_keepFog_47 : decode cX4_keepFog 47 = .ok (.return_, 1) := by decide +kernel
theorem dX4_firstLeft_0 : decode cX4_firstLeft 0 = .ok (.iconst 0, 1) := by decide +kernel
theorem dX4_firstLeft_1 : decode cX4_firstLeft 1 = .ok (.istore_n 1, 1) := by decide +kernel
theorem dX4_firstLeft_2 : decode cX4_firstLeft 2 = .ok (.iload_n 1, 1) := by decide +kernel
theorem dX4_firstLeft_3 : decode cX4_firstLeft 3 = .ok (.bipush 40, 2) := by decide +kernel
theorem dX4_firstLeft_5 : decode cX4_firstLeft 5 = .ok (.if_icmp .ge 20, 3) := by decide +kernel
theorem dX4_firstLeft_8 : decode cX4_firstLeft 8 = .ok (.aload_n 0, 1) := by decide +kernel
theorem dX4_firstLeft_9 : decode cX4_firstLeft 9 = .ok (.getfield 28, 3) := by decide +kernel
theorem dX4_firstLeft_12 : decode cX4_firstLeft 12 = .ok (.iload_n 1, 1) := by decide +kernel
theorem dX4_firstLeft_13 : decode cX4_firstLeft 13 = .ok (.baload, 1) := by decide +kernel
theorem dX4_firstLeft_14 : decode cX4_firstLeft 14 = .ok (.ifCond .eq 5, 3) := by decide +kernel
theorem dX4_firstLeft_17 : decode cX4_firstLeft 17 = .ok (.iload_n 1, 1) := by decide +kernel
theorem dX4_firstLeft_18 : decode cX4_firstLeft 18 = .ok (.ireturn, 1) := by decide +kernel
theorem dX4_firstLeft_19 : decode cX4_firstLeft 19 = .ok (.iinc 1 1, 3) := by decide +kernel
theorem dX4_firstLeft_22 : decode cX4_firstLeft 22 = .ok (.goto (-20), 3) := by decide +kernel
theorem dX4_firstLeft_25 : decode cX4_firstLeft 25 = .ok (.bipush 40, 2) := by decide +kernel
theorem dX4_firstLeft_27 : decode cX4_firstLeft 27 = .ok (.ireturn, 1) := by decide +kernel
theorem dX4_bestCell_0 : decode cX4_bestCell 0 = .ok (.iconst (-1), 1) := by decide +kernel
theorem dX4_bestCell_1 : decode cX4_bestCell 1 = .ok (.istore_n 2, 1) := by decide +kernel
theorem dX4_bestCell_2 : decode cX4_bestCell 2 = .ok (.bipush 42, 2) := by decide +kernel
theorem dX4_bestCell_4 : decode cX4_bestCell 4 = .ok (.istore_n 3, 1) := by decide +kernel
theorem dX4_bestCell_5 : decode cX4_bestCell 5 = .ok (.iconst 0, 1) := by decide +kernel
theorem dX4_bestCell_6 : decode cX4_bestCell 6 = .ok (.istore 4, 2) := by decide +kernel
theorem dX4_bestCell_8 : decode cX4_bestCell 8 = .ok (.iload 4, 2) := by decide +kernel
theorem dX4_bestCell_10 : decode cX4_bestCell 10 = .ok (.bipush 40, 2) := by decide +kernel
theorem dX4_bestCell_12 : decode cX4_bestCell 12 = .ok (.if_icmp .ge 43, 3) := by decide +kernel
theorem dX4_bestCell_15 : decode cX4_bestCell 15 = .ok (.aload_n 1, 1) := by decide +kernel
theorem dX4_bestCell_16 : decode cX4_bestCell 16 = .ok (.iload 4, 2) := by decide +kernel
theorem dX4_bestCell_18 : decode cX4_bestCell 18 = .ok (.invokevirtual 48, 3) := by decide +kernel
theorem dX4_bestCell_21 : decode cX4_bestCell 21 = .ok (.ifCond .eq 12, 3) := by decide +kernel
theorem dX4_bestCell_24 : decode cX4_bestCell 24 = .ok (.aload_n 0, 1) := by decide +kernel
theorem dX4_bestCell_25 : decode cX4_bestCell 25 = .ok (.iload 4, 2) := by decide +kernel
theorem dX4_bestCell_27 : decode cX4_bestCell 27 = .ok (.invokevirtual 78, 3) := by decide +kernel
theorem dX4_bestCell_30 : decode cX4_bestCell 30 = .ok (.goto 5, 3) := by decide +kernel
theorem dX4_bestCell_33 : decode cX4_bestCell 33 = .ok (.bipush 42, 2) := by decide +kernel
theorem dX4_bestCell_35 : decode cX4_bestCell 35 = .ok (.istore 5, 2) := by decide +kernel
theorem dX4_bestCell_37 : decode cX4_bestCell 37 = .ok (.iload 5, 2) := by decide +kernel
theorem dX4_bestCell_39 : decode cX4_bestCell 39 = .ok (.iload_n 3, 1) := by decide +kernel
theorem dX4_bestCell_40 : decode cX4_bestCell 40 = .ok (.if_icmp .ge 9, 3) := by decide +kernel
theorem dX4_bestCell_43 : decode cX4_bestCell 43 = .ok (.iload 4, 2) := by decide +kernel
theorem dX4_bestCell_45 : decode cX4_bestCell 45 = .ok (.istore_n 2, 1) := by decide +kernel
theorem dX4_bestCell_46 : decode cX4_bestCell 46 = .ok (.iload 5, 2) := by decide +kernel
theorem dX4_bestCell_48 : decode cX4_bestCell 48 = .ok (.istore_n 3, 1) := by decide +kernel
theorem dX4_bestCell_49 : decode cX4_bestCell 49 = .ok (.iinc 4 1, 3) := by decide +kernel
theorem dX4_bestCell_52 : decode cX4_bestCell 52 = .ok (.goto (-44), 3) := by decide +kernel
theorem dX4_bestCell_55 : decode cX4_bestCell 55 = .ok (.iload_n 2, 1) := by decide +kernel
theorem dX4_bestCell_56 : decode cX4_bestCell 56 = .ok (.ireturn, 1) := by decide +kernel
theorem dX4_mostAlike_0 : decode cX4_mostAlike 0 = .ok (.iconst 0, 1) := by decide +kernel
theorem dX4_mostAlike_1 : decode cX4_mostAlike 1 = .ok (.istore_n 2, 1) := by decide +kernel
theorem dX4_mostAlike_2 : decode cX4_mostAlike 2 = .ok (.aload_n 0, 1) := by decide +kernel
theorem dX4_mostAlike_3 : decode cX4_mostAlike 3 = .ok (.getfield 35, 3) := by decide +kernel
theorem dX4_mostAlike_6 : decode cX4_mostAlike 6 = .ok (.iconst 0, 1) := by decide +kernel
theorem dX4_mostAlike_7 : decode cX4_mostAlike 7 = .ok (.invokestatic 82, 3) := by decide +kernel
theorem dX4_mostAlike_10 : decode cX4_mostAlike 10 = .ok (.iconst 0, 1) := by decide +kernel
theorem dX4_mostAlike_11 : decode cX4_mostAlike 11 = .ok (.istore_n 3, 1) := by decide +kernel
theorem dX4_mostAlike_12 : decode cX4_mostAlike 12 = .ok (.iload_n 3, 1) := by decide +kernel
theorem dX4_mostAlike_13 : decode cX4_mostAlike 13 = .ok (.bipush 40, 2) := by decide +kernel
theorem dX4_mostAlike_15 : decode cX4_mostAlike 15 = .ok (.if_icmp .gt 76, 3) := by decide +kernel
theorem dX4_mostAlike_18 : decode cX4_mostAlike 18 = .ok (.iload_n 3, 1) := by decide +kernel
theorem dX4_mostAlike_19 : decode cX4_mostAlike 19 = .ok (.bipush 40, 2) := by decide +kernel
theorem dX4_mostAlike_21 : decode cX4_mostAlike 21 = .ok (.imul, 1) := by decide +kernel
theorem dX4_mostAlike_22 : decode cX4_mostAlike 22 = .ok (.iload_n 1, 1) := by decide +kernel
theorem dX4_mostAlike_23 : decode cX4_mostAlike 23 = .ok (.iadd, 1) := by decide +kernel
theorem dX4_mostAlike_24 : decode cX4_mostAlike 24 = .ok (.istore 4, 2) := by decide +kernel
theorem dX4_mostAlike_26 : decode cX4_mostAlike 26 = .ok (.aload_n 0, 1) := by decide +kernel
theorem dX4_mostAlike_27 : decode cX4_mostAlike 27 = .ok (.getfield 28, 3) := by decide +kernel
theorem dX4_mostAlike_30 : decode cX4_mostAlike 30 = .ok (.iload_n 3, 1) := by decide +kernel
theorem dX4_mostAlike_31 : decode cX4_mostAlike 31 = .ok (.baload, 1) := by decide +kernel
theorem dX4_mostAlike_32 : decode cX4_mostAlike 32 = .ok (.ifCond .eq 53, 3) := by decide +kernel
theorem dX4_mostAlike_35 : decode cX4_mostAlike 35 = .ok (.iload 4, 2) := by decide +kernel
theorem dX4_mostAlike_37 : decode cX4_mostAlike 37 = .ok (.ifCond .lt 48, 3) := by decide +kernel
theorem dX4_mostAlike_40 : decode cX4_mostAlike 40 = .ok (.iload 4, 2) := by decide +kernel
theorem dX4_mostAlike_42 : decode cX4_mostAlike 42 = .ok (.sipush 1640, 3) := by decide +kernel
theorem dX4_mostAlike_45 : decode cX4_mostAlike 45 = .ok (.if_icmp .ge 40, 3) := by decide +kernel
theorem dX4_mostAlike_48 : decode cX4_mostAlike 48 = .ok (.aload_n 0, 1) := by decide +kernel
theorem dX4_mostAlike_49 : decode cX4_mostAlike 49 = .ok (.getfield 32, 3) := by decide +kernel
theorem dX4_mostAlike_52 : decode cX4_mostAlike 52 = .ok (.iload 4, 2) := by decide +kernel
theorem dX4_mostAlike_54 : decode cX4_mostAlike 54 = .ok (.iaload, 1) := by decide +kernel
theorem dX4_mostAlike_55 : decode cX4_mostAlike 55 = .ok (.bipush 99, 2) := by decide +kernel
theorem dX4_mostAlike_57 : decode cX4_mostAlike 57 = .ok (.invokestatic 86, 3) := by decide +kernel
theorem dX4_mostAlike_60 : decode cX4_mostAlike 60 = .ok (.istore 5, 2) := by decide +kernel
theorem dX4_mostAlike_62 : decode cX4_mostAlike 62 = .ok (.aload_n 0, 1) := by decide +kernel
theorem dX4_mostAlike_63 : decode cX4_mostAlike 63 = .ok (.getfield 35, 3) := by decide +kernel
theorem dX4_mostAlike_66 : decode cX4_mostAlike 66 = .ok (.iload 5, 2) := by decide +kernel
theorem dX4_mostAlike_68 : decode cX4_mostAlike 68 = .ok (.dup2, 1) := by decide +kernel
theorem dX4_mostAlike_69 : decode cX4_mostAlike 69 = .ok (.iaload, 1) := by decide +kernel
theorem dX4_mostAlike_70 : decode cX4_mostAlike 70 = .ok (.iconst 1, 1) := by decide +kernel
theorem dX4_mostAlike_71 : decode cX4_mostAlike 71 = .ok (.iadd, 1) := by decide +kernel
theorem dX4_mostAlike_72 : decode cX4_mostAlike 72 = .ok (.iastore, 1) := by decide +kernel
theorem dX4_mostAlike_73 : decode cX4_mostAlike 73 = .ok (.iload_n 2, 1) := by decide +kernel
theorem dX4_mostAlike_74 : decode cX4_mostAlike 74 = .ok (.aload_n 0, 1) := by decide +kernel
theorem dX4_mostAlike_75 : decode cX4_mostAlike 75 = .ok (.getfield 35, 3) := by decide +kernel
theorem dX4_mostAlike_78 : decode cX4_mostAlike 78 = .ok (.iload 5, 2) := by decide +kernel
theorem dX4_mostAlike_80 : decode cX4_mostAlike 80 = .ok (.iaload, 1) := by decide +kernel
theorem dX4_mostAlike_81 : decode cX4_mostAlike 81 = .ok (.invokestatic 42, 3) := by decide +kernel
theorem dX4_mostAlike_84 : decode cX4_mostAlike 84 = .ok (.istore_n 2, 1) := by decide +kernel
theorem dX4_mostAlike_85 : decode cX4_mostAlike 85 = .ok (.iinc 3 1, 3) := by decide +kernel
theorem dX4_mostAlike_88 : decode cX4_mostAlike 88 = .ok (.goto (-76), 3) := by decide +kernel
theorem dX4_mostAlike_91 : decode cX4_mostAlike 91 = .ok (.iload_n 2, 1) := by decide +kernel
theorem dX4_mostAlike_92 : decode cX4_mostAlike 92 = .ok (.ireturn, 1) := by decide +kernel
theorem dX5_init_0 : decode cX5_init 0 = .ok (.aload_n 0, 1) := by decide +kernel
theorem dX5_init_1 : decode cX5_init 1 = .ok (.invokespecial 3, 3) := by decide +kernel
theorem dX5_init_4 : decode cX5_init 4 = .ok (.aload_n 0, 1) := by decide +kernel
theorem dX5_init_5 : decode cX5_init 5 = .ok (.sipush 420, 3) := by decide +kernel
theorem dX5_init_8 : decode cX5_init 8 = .ok (.newarray .int, 2) := by decide +kernel
theorem dX5_init_10 : decode cX5_init 10 = .ok (.putfield 9, 3) := by decide +kernel
theorem dX5_init_13 : decode cX5_init 13 = .ok (.aload_n 0, 1) := by decide +kernel
theorem dX5_init_14 : decode cX5_init 14 = .ok (.iconst 4, 1) := by decide +kernel
theorem dX5_init_15 : decode cX5_init 15 = .ok (.newarray .int, 2) := by decide +kernel
theorem dX5_init_17 : decode cX5_init 17 = .ok (.putfield 15, 3) := by decide +kernel
theorem dX5_init_20 : decode cX5_init 20 = .ok (.aload_n 0, 1) := by decide +kernel
theorem dX5_init_21 : decode cX5_init 21 = .ok (.bipush 9, 2) := by decide +kernel
theorem dX5_init_23 : decode cX5_init 23 = .ok (.newarray .int, 2) := by decide +kernel
theorem dX5_init_25 : decode cX5_init 25 = .ok (.putfield 18, 3) := by decide +kernel
theorem dX5_init_28 : decode cX5_init 28 = .ok (.aload_n 0, 1) := by decide +kernel
theorem dX5_init_29 : decode cX5_init 29 = .ok (.bipush 24, 2) := by decide +kernel
theorem dX5_init_31 : decode cX5_init 31 = .ok (.newarray .int, 2) := by decide +kernel
theorem dX5_init_33 : decode cX5_init 33 = .ok (.putfield 21, 3) := by decide +kernel
theorem dX5_init_36 : decode cX5_init 36 = .ok (.aload_n 0, 1) := by decide +kernel
theorem dX5_init_37 : decode cX5_init 37 = .ok (.bipush 24, 2) := by decide +kernel
theorem dX5_init_39 : decode cX5_init 39 = .ok (.newarray .int, 2) := by decide +kernel
theorem dX5_init_41 : decode cX5_init 41 = .ok (.putfield 24, 3) := by decide +kernel
theorem dX5_init_44 : decode cX5_init 44 = .ok (.return_, 1) := by decide +kernel
theorem dX5_clear_0 : decode cX5_clear 0 = .ok (.aload_n 0, 1) := by decide +kernel
theorem dX5_clear_1 : decode cX5_clear 1 = .ok (.iconst 0, 1) := by decide +kernel
theorem dX5_clear_2 : decode cX5_clear 2 = .ok (.putfield 27, 3) := by decide +kernel
theorem dX5_clear_5 : decode cX5_clear 5 = .ok (.aload_n 0, 1) := by decide +kernel
theorem dX5_clear_6 : decode cX5_clear 6 = .ok (.iconst 0, 1) := by decide +kernel
theorem dX5_clear_7 : decode cX5_clear 7 = .ok (.invokevirtual 31, 3) := by decide +kernel
theorem dX5_clear_10 : decode cX5_clear 10 = .ok (.aload_n 0, 1) := by decide +kernel
theorem dX5_clear_11 : decode cX5_clear 11 = .ok (.iconst 0, 1) := by decide +kernel
theorem dX5_clear_12 : decode cX5_clear 12 = .ok (.iconst 0, 1) := by decide +kernel
theorem dX5_clear_13 : decode cX5_clear 13 = .ok (.invokevirtual 35, 3) := by decide +kernel
theorem dX5_clear_16 : decode cX5_clear 16 = .ok (.aload_n 0, 1) := by decide +kernel
theorem dX5_clear_17 : decode cX5_clear 17 = .ok (.bipush 7, 2) := by decide +kernel
theorem dX5_clear_19 : decode cX5_clear 19 = .ok (.iconst 0, 1) := by decide +kernel
theorem dX5_clear_20 : decode cX5_clear 20 = .ok (.invokevirtual 35, 3) := by decide +kernel
theorem dX5_clear_23 : decode cX5_clear 23 = .ok (.aload_n 0, 1) := by decide +kernel
theorem dX5_clear_24 : decode cX5_clear 24 = .ok (.iconst 1, 1) := by decide +kernel
theorem dX5_clear_25 : decode cX5_clear 25 = .ok (.invokevirtual 31, 3) := by decide +kernel
theorem dX5_clear_28 : decode cX5_clear 28 = .ok (.aload_n 0, 1) := by decide +kernel
theorem dX5_clear_29 : decode cX5_clear 29 = .ok (.iconst 1, 1) := by decide +kernel
theorem dX5_clear_30 : decode cX5_clear 30 = .ok (.iconst 0, 1) := by decide +kernel
theorem dX5_clear_31 : decode cX5_clear 31 = .ok (.invokevirtual 35, 3) := by decide +kernel
theorem dX5_clear_34 : decode cX5_clear 34 = .ok (.aload_n 0, 1) := by decide +kernel
theorem dX5_clear_35 : decode cX5_clear 35 = .ok (.iconst 0, 1) := by decide +kernel
theorem dX5_clear_36 : decode cX5_clear 36 = .ok (.iconst 4, 1) := by decide +kernel
theorem dX5_clear_37 : decode cX5_clear 37 = .ok (.invokevirtual 35, 3) := by decide +kernel
theorem dX5_clear_40 : decode cX5_clear 40 = .ok (.aload_n 0, 1) := by decide +kernel
theorem dX5_clear_41 : decode cX5_clear 41 = .ok (.iconst 5, 1) := by decide +kernel
theorem dX5_clear_42 : decode cX5_clear 42 = .ok (.iconst 0, 1) := by decide +kernel
theorem dX5_clear_43 : decode cX5_clear 43 = .ok (.invokevirtual 35, 3) := by decide +kernel
theorem dX5_clear_46 : decode cX5_clear 46 = .ok (.aload_n 0, 1) := by decide +kernel
theorem dX5_clear_47 : decode cX5_clear 47 = .ok (.bipush 7, 2) := by decide +kernel
theorem dX5_clear_49 : decode cX5_clear 49 = .ok (.iconst 0, 1) := by decide +kernel
theorem dX5_clear_50 : decode cX5_clear 50 = .ok (.invokevirtual 35, 3) := by decide +kernel
theorem dX5_clear_53 : decode cX5_clear 53 = .ok (.aload_n 0, 1) := by decide +kernel
theorem dX5_clear_54 : decode cX5_clear 54 = .ok (.iconst 2, 1) := by decide +kernel
theorem dX5_clear_55 : decode cX5_clear 55 = .ok (.invokevirtual 31, 3) := by decide +kernel
theorem dX5_clear_58 : decode cX5_clear 58 = .ok (.aload_n 0, 1) := by decide +kernel
theorem dX5_clear_59 : decode cX5_clear 59 = .ok (.iconst 0, 1) := by decide +kernel
theorem dX5_clear_60 : decode cX5_clear 60 = .ok (.iconst 1, 1) := by decide +kernel
theorem dX5_clear_61 : decode cX5_clear 61 = .ok (.invokevirtual 35, 3) := by decide +kernel
theorem dX5_clear_64 : decode cX5_clear 64 = .ok (.aload_n 0, 1) := by decide +kernel
theorem dX5_clear_65 : decode cX5_clear 65 = .ok (.bipush 7, 2) := by decide +kernel
theorem dX5_clear_67 : decode cX5_clear 67 = .ok (.iconst 0, 1) := by decide +kernel
theorem dX5_clear_68 : decode cX5_clear 68 = .ok (.invokevirtual 35, 3) := by decide +kernel
theorem dX5_clear_71 : decode cX5_clear 71 = .ok (.aload_n 0, 1) := by decide +kernel
theorem dX5_clear_72 : decode cX5_clear 72 = .ok (.iconst 3, 1) := by decide +kernel
theorem dX5_clear_73 : decode cX5_clear 73 = .ok (.invokevirtual 31, 3) := by decide +kernel
theorem dX5_clear_76 : decode cX5_clear 76 = .ok (.aload_n 0, 1) := by decide +kernel
theorem dX5_clear_77 : decode cX5_clear 77 = .ok (.iconst 1, 1) := by decide +kernel
theorem dX5_clear_78 : decode cX5_clear 78 = .ok (.bipush 7, 2) := by decide +kernel
theorem dX5_clear_80 : decode cX5_clear 80 = .ok (.invokevirtual 35, 3) := by decide +kernel
theorem dX5_clear_83 : decode cX5_clear 83 = .ok (.aload_n 0, 1) := by decide +kernel
theorem dX5_clear_84 : decode cX5_clear 84 = .ok (.bipush 7, 2) := by decide +kernel
theorem dX5_clear_86 : decode cX5_clear 86 = .ok (.iconst 0, 1) := by decide +kernel
theorem dX5_clear_87 : decode cX5_clear 87 = .ok (.invokevirtual 35, 3) := by decide +kernel
theorem dX5_clear_90 : decode cX5_clear 90 = .ok (.return_, 1) := by decide +kernel
theorem dX5_make_0 : decode cX5_make 0 = .ok (.iconst (-1), 1) := by decide +kernel
theorem dX5_make_1 : decode cX5_make 1 = .ok (.istore 4, 2) := by decide +kernel
theorem dX5_make_3 : decode cX5_make 3 = .ok (.aload_n 0, 1) := by decide +kernel
theorem dX5_make_4 : decode cX5_make 4 = .ok (.iconst 0, 1) := by decide +kernel
theorem dX5_make_5 : decode cX5_make 5 = .ok (.putfield 39, 3) := by decide +kernel
theorem dX5_make_8 : decode cX5_make 8 = .ok (.aload_n 0, 1) := by decide +kernel
theorem dX5_make_9 : decode cX5_make 9 = .ok (.iload_n 3, 1) := by decide +kernel
theorem dX5_make_10 : decode cX5_make 10 = .ok (.invokevirtual 31, 3) := by decide +kernel
theorem dX5_make_13 : decode cX5_make 13 = .ok (.iload_n 2, 1) := by decide +kernel
theorem dX5_make_14 : decode cX5_make 14 = .ok (.istore 5, 2) := by decide +kernel
theorem dX5_make_16 : decode cX5_make 16 = .ok (.iload 5, 2) := by decide +kernel
theorem dX5_make_18 : decode cX5_make 18 = .ok (.sipush 400, 3) := by decide +kernel
theorem dX5_make_21 : decode cX5_make 21 = .ok (.if_icmp .ge 101, 3) := by decide +kernel
theorem dX5_make_24 : decode cX5_make 24 = .ok (.aload_n 1, 1) := by decide +kernel
theorem dX5_make_25 : decode cX5_make 25 = .ok (.iload 5, 2) := by decide +kernel
theorem dX5_make_27 : decode cX5_make 27 = .ok (.invokevirtual 42, 3) := by decide +kernel
theorem dX5_make_30 : decode cX5_make 30 = .ok (.bipush 25, 2) := by decide +kernel
theorem dX5_make_32 : decode cX5_make 32 = .ok (.if_icmp .eq 90, 3) := by decide +kernel
theorem dX5_make_35 : decode cX5_make 35 = .ok (.aload_n 1, 1) := by decide +kernel
theorem dX5_make_36 : decode cX5_make 36 = .ok (.iload 5, 2) := by decide +kernel
theorem dX5_make_38 : decode cX5_make 38 = .ok (.invokevirtual 42, 3) := by decide +kernel
theorem dX5_make_41 : decode cX5_make 41 = .ok (.istore 6, 2) := by decide +kernel
theorem dX5_make_43 : decode cX5_make 43 = .ok (.iload 6, 2) := by decide +kernel
theorem dX5_make_45 : decode cX5_make 45 = .ok (.bipush 12, 2) := by decide +kernel
theorem dX5_make_47 : decode cX5_make 47 = .ok (.if_icmp .ne 24, 3) := by decide +kernel
theorem dX5_make_50 : decode cX5_make 50 = .ok (.aload_n 0, 1) := by decide +kernel
theorem dX5_make_51 : decode cX5_make 51 = .ok (.iconst 1, 1) := by decide +kernel
theorem dX5_make_52 : decode cX5_make 52 = .ok (.invokevirtual 48, 3) := by decide +kernel
theorem dX5_make_55 : decode cX5_make 55 = .ok (.aload_n 0, 1) := by decide +kernel
theorem dX5_make_56 : decode cX5_make 56 = .ok (.getfield 27, 3) := by decide +kernel
theorem dX5_make_59 : decode cX5_make 59 = .ok (.istore 4, 2) := by decide +kernel
theorem dX5_make_61 : decode cX5_make 61 = .ok (.aload_n 0, 1) := by decide +kernel
theorem dX5_make_62 : decode cX5_make 62 = .ok (.bipush 6, 2) := by decide +kernel
theorem dX5_make_64 : decode cX5_make 64 = .ok (.iconst 0, 1) := by decide +kernel
theorem dX5_make_65 : decode cX5_make 65 = .ok (.invokevirtual 35, 3) := by decide +kernel
theorem dX5_make_68 : decode cX5_make 68 = .ok (.goto 48, 3) := by decide +kernel
theorem dX5_make_71 : decode cX5_make 71 = .ok (.iload 6, 2) := by decide +kernel
theorem dX5_make_73 : decode cX5_make 73 = .ok (.bipush 13, 2) := by decide +kernel
theorem dX5_make_75 : decode cX5_make 75 = .ok (.if_icmp .ne 28, 3) := by decide +kernel
theorem dX5_make_78 : decode cX5_make 78 = .ok (.aload_n 0, 1) := by decide +kernel
theorem dX5_make_79 : decode cX5_make 79 = .ok (.iconst 1, 1) := by decide +kernel
theorem dX5_make_80 : decode cX5_make 80 = .ok (.invokevirtual 48, 3) := by decide +kernel
theorem dX5_make_83 : decode cX5_make 83 = .ok (.aload_n 0, 1) := by decide +kernel
theorem dX5_make_84 : decode cX5_make 84 = .ok (.bipush 7, 2) := by decide +kernel
theorem dX5_make_86 : decode cX5_make 86 = .ok (.iconst 0, 1) := by decide +kernel
theorem dX5_make_87 : decode cX5_make 87 = .ok (.invokevirtual 35, 3) := by decide +kernel
theorem dX5_make_90 : decode cX5_make 90 = .ok (.aload_n 0, 1) := by decide +kernel
theorem dX5_make_91 : decode cX5_make 91 = .ok (.iload 4, 2) := by decide +kernel
theorem dX5_make_93 : decode cX5_make 93 = .ok (.aload_n 0, 1) := by decide +kernel
theorem dX5_make_94 : decode cX5_make 94 = .ok (.getfield 27, 3) := by decide +kernel
theorem dX5_make_97 : decode cX5_make 97 = .ok (.invokevirtual 51, 3) := by decide +kernel
theorem dX5_make_100 : decode cX5_make 100 = .ok (.goto 16, 3) := by decide +kernel
theorem dX5_make_103 : decode cX5_make 103 = .ok (.aload_n 0, 1) := by decide +kernel
theorem dX5_make_104 : decode cX5_make 104 = .ok (.iload 6, 2) := by decide +kernel
theorem dX5_make_106 : decode cX5_make 106 = .ok (.aload_n 1, 1) := by decide +kernel
theorem dX5_make_107 : decode cX5_make 107 = .ok (.iload 5, 2) := by decide +kernel
theorem dX5_make_109 : decode cX5_make 109 = .ok (.invokevirtual 54, 3) := by decide +kernel
theorem dX5_make_112 : decode cX5_make 112 = .ok (.l2i, 1) := by decide +kernel
theorem dX5_make_113 : decode cX5_make 113 = .ok (.invokevirtual 58, 3) := by decide +kernel
theorem dX5_make_116 : decode cX5_make 116 = .ok (.iinc 5 1, 3) := by decide +kernel
theorem dX5_make_119 : decode cX5_make 119 = .ok (.goto (-103), 3) := by decide +kernel
theorem dX5_make_122 : decode cX5_make 122 = .ok (.aload_n 0, 1) := by decide +kernel
theorem dX5_make_123 : decode cX5_make 123 = .ok (.iconst 1, 1) := by decide +kernel
theorem dX5_make_124 : decode cX5_make 124 = .ok (.invokevirtual 48, 3) := by decide +kernel
theorem dX5_make_127 : decode cX5_make 127 = .ok (.aload_n 0, 1) := by decide +kernel
theorem dX5_make_128 : decode cX5_make 128 = .ok (.bipush 7, 2) := by decide +kernel
theorem dX5_make_130 : decode cX5_make 130 = .ok (.iconst 0, 1) := by decide +kernel
theorem dX5_make_131 : decode cX5_make 131 = .ok (.invokevirtual 35, 3) := by decide +kernel
theorem dX5_make_134 : decode cX5_make 134 = .ok (.return_, 1) := by decide +kernel
theorem dX5_makePart_0 : decode cX5_makePart 0 = .ok (.iload_n 1, 1) := by decide +kernel
theorem dX5_makePart_1 : decode cX5_makePart 1 = .ok (.bipush 24, 2) := by decide +kernel
theorem dX5_makePart_3 : decode cX5_makePart 3 = .ok (.if_icmp .ne 12, 3) := by decide +kernel
theorem dX5_makePart_6 : decode cX5_makePart 6 = .ok (.aload_n 0, 1) := by decide +kernel
theorem dX5_makePart_7 : decode cX5_makePart 7 = .ok (.iconst 0, 1) := by decide +kernel
theorem dX5_makePart_8 : decode cX5_makePart 8 = .ok (.iload_n 2, 1) := by decide +kernel
theorem dX5_makePart_9 : decode cX5_makePart 9 = .ok (.invokevirtual 35, 3) := by decide +kernel
theorem dX5_makePart_12 : decode cX5_makePart 12 = .ok (.goto 104, 3) := by decide +kernel
theorem dX5_makePart_15 : decode cX5_makePart 15 = .ok (.iload_n 1, 1) := by decide +kernel
theorem dX5_makePart_16 : decode cX5_makePart 16 = .ok (.bipush 14, 2) := by decide +kernel
theorem dX5_makePart_18 : decode cX5_makePart 18 = .ok (.if_icmp .lt 21, 3) := by decide +kernel
theorem dX5_makePart_21 : decode cX5_makePart 21 = .ok (.iload_n 1, 1) := by decide +kernel
theorem dX5_makePart_22 : decode cX5_makePart 22 = .ok (.bipush 22, 2) := by decide +kernel
theorem dX5_makePart_24 : decode cX5_makePart 24 = .ok (.if_icmp .gt 15, 3) := by decide +kernel
theorem dX5_makePart_27 : decode cX5_makePart 27 = .ok (.aload_n 0, 1) := by decide +kernel
theorem dX5_makePart_28 : decode cX5_makePart 28 = .ok (.iconst 1, 1) := by decide +kernel
theorem dX5_makePart_29 : decode cX5_makePart 29 = .ok (.iload_n 1, 1) := by decide +kernel
theorem dX5_makePart_30 : decode cX5_makePart 30 = .ok (.bipush 14, 2) := by decide +kernel
theorem dX5_makePart_32 : decode cX5_makePart 32 = .ok (.isub, 1) := by decide +kernel
theorem dX5_makePart_33 : decode cX5_makePart 33 = .ok (.invokevirtual 35, 3) := by decide +kernel
theorem dX5_makePart_36 : decode cX5_makePart 36 = .ok (.goto 80, 3) := by decide +kernel
theorem dX5_makePart_39 : decode cX5_makePart 39 = .ok (.iload_n 1, 1) := by decide +kernel
theorem dX5_makePart_40 : decode cX5_makePart 40 = .ok (.bipush 32, 2) := by decide +kernel
theorem dX5_makePart_42 : decode cX5_makePart 42 = .ok (.if_icmp .ne 12, 3) := by decide +kernel
theorem dX5_makePart_45 : decode cX5_makePart 45 = .ok (.aload_n 0, 1) := by decide +kernel
theorem dX5_makePart_46 : decode cX5_makePart 46 = .ok (.bipush 32, 2) := by decide +kernel
theorem dX5_makePart_48 : decode cX5_makePart 48 = .ok (.invokevirtual 61, 3) := by decide +kernel
theorem dX5_makePart_51 : decode cX5_makePart 51 = .ok (.goto 65, 3) := by decide +kernel
theorem dX5_makePart_54 : decode cX5_makePart 54 = .ok (.iload_n 1, 1) := by decide +kernel
theorem dX5_makePart_55 : decode cX5_makePart 55 = .ok (.bipush 33, 2) := by decide +kernel
theorem dX5_makePart_57 : decode cX5_makePart 57 = .ok (.if_icmp .ne 25, 3) := by decide +kernel
theorem dX5_makePart_60 : decode cX5_makePart 60 = .ok (.aload_n 0, 1) := by decide +kernel
theorem dX5_makePart_61 : decode cX5_makePart 61 = .ok (.iconst 1, 1) := by decide +kernel
theorem dX5_makePart_62 : decode cX5_makePart 62 = .ok (.invokevirtual 48, 3) := by decide +kernel
theorem dX5_makePart_65 : decode cX5_makePart 65 = .ok (.aload_n 0, 1) := by decide +kernel
theorem dX5_makePart_66 : decode cX5_makePart 66 = .ok (.aload_n 0, 1) := by decide +kernel
theorem dX5_makePart_67 : decode cX5_makePart 67 = .ok (.getfield 39, 3) := by decide +kernel
theorem dX5_makePart_70 : decode cX5_makePart 70 = .ok (.iconst 1, 1) := by decide +kernel
theorem dX5_makePart_71 : decode cX5_makePart 71 = .ok (.isub, 1) := by decide +kernel
theorem dX5_makePart_72 : decode cX5_makePart 72 = .ok (.iconst 0, 1) := by decide +kernel
theorem dX5_makePart_73 : decode cX5_makePart 73 = .ok (.invokestatic 64, 3) := by decide +kernel
theorem dX5_makePart_76 : decode cX5_makePart 76 = .ok (.putfield 39, 3) := by decide +kernel
theorem dX5_makePart_79 : decode cX5_makePart 79 = .ok (.goto 37, 3) := by decide +kernel
theorem dX5_makePart_82 : decode cX5_makePart 82 = .ok (.iload_n 1, 1) := by decide +kernel
theorem dX5_makePart_83 : decode cX5_makePart 83 = .ok (.bipush 31, 2) := by decide +kernel
theorem dX5_makePart_85 : decode cX5_makePart 85 = .ok (.if_icmp .ne 11, 3) := by decide +kernel
theorem dX5_makePart_88 : decode cX5_makePart 88 = .ok (.aload_n 0, 1) := by decide +kernel
theorem dX5_makePart_89 : decode cX5_makePart 89 = .ok (.iconst 1, 1) := by decide +kernel
theorem dX5_makePart_90 : decode cX5_makePart 90 = .ok (.invokevirtual 48, 3) := by decide +kernel
theorem dX5_makePart_93 : decode cX5_makePart 93 = .ok (.goto 23, 3) := by decide +kernel
theorem dX5_makePart_96 : decode cX5_makePart 96 = .ok (.iload_n 1, 1) := by decide +kernel
theorem dX5_makePart_97 : decode cX5_makePart 97 = .ok (.invokestatic 70, 3) := by decide +kernel
theorem dX5_makePart_100 : decode cX5_makePart 100 = .ok (.ifCond .le 16, 3) := by decide +kernel
theorem dX5_makePart_103 : decode cX5_makePart 103 = .ok (.aload_n 0, 1) := by decide +kernel
theorem dX5_makePart_104 : decode cX5_makePart 104 = .ok (.iload_n 1, 1) := by decide +kernel
theorem dX5_makePart_105 : decode cX5_makePart 105 = .ok (.invokestatic 70, 3) := by decide +kernel
theorem dX5_makePart_108 : decode cX5_makePart 108 = .ok (.invokevirtual 48, 3) := by decide +kernel
theorem dX5_makePart_111 : decode cX5_makePart 111 = .ok (.aload_n 0, 1) := by decide +kernel
theorem dX5_makePart_112 : decode cX5_makePart 112 = .ok (.iload_n 1, 1) := by decide +kernel
theorem dX5_makePart_113 : decode cX5_makePart 113 = .ok (.invokevirtual 61, 3) := by decide +kernel
theorem dX5_makePart_116 : decode cX5_makePart 116 = .ok (.return_, 1) := by decide +kernel
theorem dX5_addWaiting_0 : decode cX5_addWaiting 0 = .ok (.aload_n 0, 1) := by decide +kernel
theorem dX5_addWaiting_1 : decode cX5_addWaiting 1 = .ok (.getfield 39, 3) := by decide +kernel
theorem dX5_addWaiting_4 : decode cX5_addWaiting 4 = .ok (.iconst 1, 1) := by decide +kernel
theorem dX5_addWaiting_5 : decode cX5_addWaiting 5 = .ok (.isub, 1) := by decide +kernel
theorem dX5_addWaiting_6 : decode cX5_addWaiting 6 = .ok (.istore_n 2, 1) := by decide +kernel
theorem dX5_addWaiting_7 : decode cX5_addWaiting 7 = .ok (.iload_n 2, 1) := by decide +kernel
theorem dX5_addWaiting_8 : decode cX5_addWaiting 8 = .ok (.ifCond .lt 49, 3) := by decide +kernel
theorem dX5_addWaiting_11 : decode cX5_addWaiting 11 = .ok (.iload_n 2, 1) := by decide +kernel
theorem dX5_addWaiting_12 : decode cX5_addWaiting 12 = .ok (.bipush 24, 2) := by decide +kernel
theorem dX5_addWaiting_14 : decode cX5_addWaiting 14 = .ok (.if_icmp .ge 43, 3) := by decide +kernel
theorem dX5_addWaiting_17 : decode cX5_addWaiting 17 = .ok (.aload_n 0, 1) := by decide +kernel
theorem dX5_addWaiting_18 : decode cX5_addWaiting 18 = .ok (.getfield 24, 3) := by decide +kernel
theorem dX5_addWaiting_21 : decode cX5_addWaiting 21 = .ok (.iload_n 2, 1) := by decide +kernel
theorem dX5_addWaiting_22 : decode cX5_addWaiting 22 = .ok (.iaload, 1) := by decide +kernel
theorem dX5_addWaiting_23 : decode cX5_addWaiting 23 = .ok (.invokestatic 70, 3) := by decide +kernel
theorem dX5_addWaiting_26 : decode cX5_addWaiting 26 = .ok (.iload_n 1, 1) := by decide +kernel
theorem dX5_addWaiting_27 : decode cX5_addWaiting 27 = .ok (.if_icmp .lt 30, 3) := by decide +kernel
theorem dX5_addWaiting_30 : decode cX5_addWaiting 30 = .ok (.aload_n 0, 1) := by decide +kernel
theorem dX5_addWaiting_31 : decode cX5_addWaiting 31 = .ok (.iconst 2, 1) := by decide +kernel
theorem dX5_addWaiting_32 : decode cX5_addWaiting 32 = .ok (.aload_n 0, 1) := by decide +kernel
theorem dX5_addWaiting_33 : decode cX5_addWaiting 33 = .ok (.getfield 24, 3) := by decide +kernel
theorem dX5_addWaiting_36 : decode cX5_addWaiting 36 = .ok (.iload_n 2, 1) := by decide +kernel
theorem dX5_addWaiting_37 : decode cX5_addWaiting 37 = .ok (.iaload, 1) := by decide +kernel
theorem dX5_addWaiting_38 : decode cX5_addWaiting 38 = .ok (.iadd, 1) := by decide +kernel
theorem dX5_addWaiting_39 : decode cX5_addWaiting 39 = .ok (.bipush 27, 2) := by decide +kernel
theorem dX5_addWaiting_41 : decode cX5_addWaiting 41 = .ok (.isub, 1) := by decide +kernel
theorem dX5_addWaiting_42 : decode cX5_addWaiting 42 = .ok (.iconst 0, 1) := by decide +kernel
theorem dX5_addWaiting_43 : decode cX5_addWaiting 43 = .ok (.invokevirtual 35, 3) := by decide +kernel
theorem dX5_addWaiting_46 : decode cX5_addWaiting 46 = .ok (.aload_n 0, 1) := by decide +kernel
theorem dX5_addWaiting_47 : decode cX5_addWaiting 47 = .ok (.iload_n 2, 1) := by decide +kernel
