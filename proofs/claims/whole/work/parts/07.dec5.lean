theorem dX12_steps_42 : decode cX12_steps 42 = .ok (.istore_n 3, 1) := by decide +kernel
theorem dX12_steps_43 : decode cX12_steps 43 = .ok (.iload_n 3, 1) := by decide +kernel
theorem dX12_steps_44 : decode cX12_steps 44 = .ok (.aload_n 0, 1) := by decide +kernel
theorem dX12_steps_45 : decode cX12_steps 45 = .ok (.getfield 46, 3) := by decide +kernel
theorem dX12_steps_48 : decode cX12_steps 48 = .ok (.aload_n 0, 1) := by decide +kernel
theorem dX12_steps_49 : decode cX12_steps 49 = .ok (.getfield 260, 3) := by decide +kernel
theorem dX12_steps_52 : decode cX12_steps 52 = .ok (.iaload, 1) := by decide +kernel
theorem dX12_steps_53 : decode cX12_steps 53 = .ok (.if_icmp .ge 110, 3) := by decide +kernel
theorem dX12_steps_56 : decode cX12_steps 56 = .ok (.aload_n 0, 1) := by decide +kernel
theorem dX12_steps_57 : decode cX12_steps 57 = .ok (.iconst 1, 1) := by decide +kernel
theorem dX12_steps_58 : decode cX12_steps 58 = .ok (.iload_n 3, 1) := by decide +kernel
theorem dX12_steps_59 : decode cX12_steps 59 = .ok (.iload_n 2, 1) := by decide +kernel
theorem dX12_steps_60 : decode cX12_steps 60 = .ok (.iload_n 1, 1) := by decide +kernel
theorem dX12_steps_61 : decode cX12_steps 61 = .ok (.invokevirtual 390, 3) := by decide +kernel
theorem dX12_steps_64 : decode cX12_steps 64 = .ok (.istore 4, 2) := by decide +kernel
theorem dX12_steps_66 : decode cX12_steps 66 = .ok (.iload_n 3, 1) := by decide +kernel
theorem dX12_steps_67 : decode cX12_steps 67 = .ok (.iload_n 1, 1) := by decide +kernel
theorem dX12_steps_68 : decode cX12_steps 68 = .ok (.iconst 1, 1) := by decide +kernel
theorem dX12_steps_69 : decode cX12_steps 69 = .ok (.if_icmp .ne 7, 3) := by decide +kernel
theorem dX12_steps_72 : decode cX12_steps 72 = .ok (.iconst 1, 1) := by decide +kernel
theorem dX12_steps_73 : decode cX12_steps 73 = .ok (.goto 13, 3) := by decide +kernel
theorem dX12_steps_76 : decode cX12_steps 76 = .ok (.iload_n 1, 1) := by decide +kernel
theorem dX12_steps_77 : decode cX12_steps 77 = .ok (.iconst 3, 1) := by decide +kernel
theorem dX12_steps_78 : decode cX12_steps 78 = .ok (.if_icmp .ne 7, 3) := by decide +kernel
theorem dX12_steps_81 : decode cX12_steps 81 = .ok (.iconst (-1), 1) := by decide +kernel
theorem dX12_steps_82 : decode cX12_steps 82 = .ok (.goto 4, 3) := by decide +kernel
theorem dX12_steps_85 : decode cX12_steps 85 = .ok (.iconst 0, 1) := by decide +kernel
theorem dX12_steps_86 : decode cX12_steps 86 = .ok (.iadd, 1) := by decide +kernel
theorem dX12_steps_87 : decode cX12_steps 87 = .ok (.istore 5, 2) := by decide +kernel
theorem dX12_steps_89 : decode cX12_steps 89 = .ok (.iload_n 2, 1) := by decide +kernel
theorem dX12_steps_90 : decode cX12_steps 90 = .ok (.iload_n 1, 1) := by decide +kernel
theorem dX12_steps_91 : decode cX12_steps 91 = .ok (.iconst 2, 1) := by decide +kernel
theorem dX12_steps_92 : decode cX12_steps 92 = .ok (.if_icmp .ne 7, 3) := by decide +kernel
theorem dX12_steps_95 : decode cX12_steps 95 = .ok (.iconst 1, 1) := by decide +kernel
theorem dX12_steps_96 : decode cX12_steps 96 = .ok (.goto 13, 3) := by decide +kernel
theorem dX12_steps_99 : decode cX12_steps 99 = .ok (.iload_n 1, 1) := by decide +kernel
theorem dX12_steps_100 : decode cX12_steps 100 = .ok (.iconst 4, 1) := by decide +kernel
theorem dX12_steps_101 : decode cX12_steps 101 = .ok (.if_icmp .ne 7, 3) := by decide +kernel
theorem dX12_steps_104 : decode cX12_steps 104 = .ok (.iconst (-1), 1) := by decide +kernel
theorem dX12_steps_105 : decode cX12_steps 105 = .ok (.goto 4, 3) := by decide +kernel
theorem dX12_steps_108 : decode cX12_steps 108 = .ok (.iconst 0, 1) := by decide +kernel
theorem dX12_steps_109 : decode cX12_steps 109 = .ok (.iadd, 1) := by decide +kernel
theorem dX12_steps_110 : decode cX12_steps 110 = .ok (.istore 6, 2) := by decide +kernel
theorem dX12_steps_112 : decode cX12_steps 112 = .ok (.aload_n 0, 1) := by decide +kernel
theorem dX12_steps_113 : decode cX12_steps 113 = .ok (.getfield 146, 3) := by decide +kernel
theorem dX12_steps_116 : decode cX12_steps 116 = .ok (.bipush 8, 2) := by decide +kernel
theorem dX12_steps_118 : decode cX12_steps 118 = .ok (.iload_n 2, 1) := by decide +kernel
theorem dX12_steps_119 : decode cX12_steps 119 = .ok (.imul, 1) := by decide +kernel
theorem dX12_steps_120 : decode cX12_steps 120 = .ok (.iload_n 3, 1) := by decide +kernel
theorem dX12_steps_121 : decode cX12_steps 121 = .ok (.iadd, 1) := by decide +kernel
theorem dX12_steps_122 : decode cX12_steps 122 = .ok (.dup2, 1) := by decide +kernel
theorem dX12_steps_123 : decode cX12_steps 123 = .ok (.iaload, 1) := by decide +kernel
theorem dX12_steps_124 : decode cX12_steps 124 = .ok (.iload 4, 2) := by decide +kernel
theorem dX12_steps_126 : decode cX12_steps 126 = .ok (.isub, 1) := by decide +kernel
theorem dX12_steps_127 : decode cX12_steps 127 = .ok (.iastore, 1) := by decide +kernel
theorem dX12_steps_128 : decode cX12_steps 128 = .ok (.aload_n 0, 1) := by decide +kernel
theorem dX12_steps_129 : decode cX12_steps 129 = .ok (.iload 5, 2) := by decide +kernel
theorem dX12_steps_131 : decode cX12_steps 131 = .ok (.iload 6, 2) := by decide +kernel
theorem dX12_steps_133 : decode cX12_steps 133 = .ok (.invokevirtual 394, 3) := by decide +kernel
theorem dX12_steps_136 : decode cX12_steps 136 = .ok (.ifCond .eq 21, 3) := by decide +kernel
theorem dX12_steps_139 : decode cX12_steps 139 = .ok (.aload_n 0, 1) := by decide +kernel
theorem dX12_steps_140 : decode cX12_steps 140 = .ok (.getfield 146, 3) := by decide +kernel
theorem dX12_steps_143 : decode cX12_steps 143 = .ok (.bipush 8, 2) := by decide +kernel
theorem dX12_steps_145 : decode cX12_steps 145 = .ok (.iload 6, 2) := by decide +kernel
theorem dX12_steps_147 : decode cX12_steps 147 = .ok (.imul, 1) := by decide +kernel
theorem dX12_steps_148 : decode cX12_steps 148 = .ok (.iload 5, 2) := by decide +kernel
theorem dX12_steps_150 : decode cX12_steps 150 = .ok (.iadd, 1) := by decide +kernel
theorem dX12_steps_151 : decode cX12_steps 151 = .ok (.dup2, 1) := by decide +kernel
theorem dX12_steps_152 : decode cX12_steps 152 = .ok (.iaload, 1) := by decide +kernel
theorem dX12_steps_153 : decode cX12_steps 153 = .ok (.iload 4, 2) := by decide +kernel
theorem dX12_steps_155 : decode cX12_steps 155 = .ok (.iadd, 1) := by decide +kernel
theorem dX12_steps_156 : decode cX12_steps 156 = .ok (.iastore, 1) := by decide +kernel
theorem dX12_steps_157 : decode cX12_steps 157 = .ok (.iinc 3 1, 3) := by decide +kernel
theorem dX12_steps_160 : decode cX12_steps 160 = .ok (.goto (-117), 3) := by decide +kernel
theorem dX12_steps_163 : decode cX12_steps 163 = .ok (.iinc 2 1, 3) := by decide +kernel
theorem dX12_steps_166 : decode cX12_steps 166 = .ok (.goto (-138), 3) := by decide +kernel
theorem dX12_steps_169 : decode cX12_steps 169 = .ok (.iconst 0, 1) := by decide +kernel
theorem dX12_steps_170 : decode cX12_steps 170 = .ok (.istore_n 2, 1) := by decide +kernel
theorem dX12_steps_171 : decode cX12_steps 171 = .ok (.iload_n 2, 1) := by decide +kernel
theorem dX12_steps_172 : decode cX12_steps 172 = .ok (.bipush 40, 2) := by decide +kernel
theorem dX12_steps_174 : decode cX12_steps 174 = .ok (.if_icmp .ge 21, 3) := by decide +kernel
theorem dX12_steps_177 : decode cX12_steps 177 = .ok (.aload_n 0, 1) := by decide +kernel
theorem dX12_steps_178 : decode cX12_steps 178 = .ok (.getfield 143, 3) := by decide +kernel
theorem dX12_steps_181 : decode cX12_steps 181 = .ok (.iload_n 2, 1) := by decide +kernel
theorem dX12_steps_182 : decode cX12_steps 182 = .ok (.aload_n 0, 1) := by decide +kernel
theorem dX12_steps_183 : decode cX12_steps 183 = .ok (.getfield 146, 3) := by decide +kernel
theorem dX12_steps_186 : decode cX12_steps 186 = .ok (.iload_n 2, 1) := by decide +kernel
theorem dX12_steps_187 : decode cX12_steps 187 = .ok (.iaload, 1) := by decide +kernel
theorem dX12_steps_188 : decode cX12_steps 188 = .ok (.iastore, 1) := by decide +kernel
theorem dX12_steps_189 : decode cX12_steps 189 = .ok (.iinc 2 1, 3) := by decide +kernel
theorem dX12_steps_192 : decode cX12_steps 192 = .ok (.goto (-21), 3) := by decide +kernel
theorem dX12_steps_195 : decode cX12_steps 195 = .ok (.return_, 1) := by decide +kernel
theorem dX12_hourGoes_0 : decode cX12_hourGoes 0 = .ok (.aload_n 0, 1) := by decide +kernel
theorem dX12_hourGoes_1 : decode cX12_hourGoes 1 = .ok (.aload_n 0, 1) := by decide +kernel
theorem dX12_hourGoes_2 : decode cX12_hourGoes 2 = .ok (.getfield 143, 3) := by decide +kernel
theorem dX12_hourGoes_5 : decode cX12_hourGoes 5 = .ok (.bipush 104, 2) := by decide +kernel
theorem dX12_hourGoes_7 : decode cX12_hourGoes 7 = .ok (.iaload, 1) := by decide +kernel
theorem dX12_hourGoes_8 : decode cX12_hourGoes 8 = .ok (.invokevirtual 398, 3) := by decide +kernel
theorem dX12_hourGoes_11 : decode cX12_hourGoes 11 = .ok (.istore_n 1, 1) := by decide +kernel
theorem dX12_hourGoes_12 : decode cX12_hourGoes 12 = .ok (.iload_n 1, 1) := by decide +kernel
theorem dX12_hourGoes_13 : decode cX12_hourGoes 13 = .ok (.ifCond .le 20, 3) := by decide +kernel
theorem dX12_hourGoes_16 : decode cX12_hourGoes 16 = .ok (.aload_n 0, 1) := by decide +kernel
theorem dX12_hourGoes_17 : decode cX12_hourGoes 17 = .ok (.iload_n 1, 1) := by decide +kernel
theorem dX12_hourGoes_18 : decode cX12_hourGoes 18 = .ok (.invokevirtual 401, 3) := by decide +kernel
theorem dX12_hourGoes_21 : decode cX12_hourGoes 21 = .ok (.aload_n 0, 1) := by decide +kernel
theorem dX12_hourGoes_22 : decode cX12_hourGoes 22 = .ok (.invokevirtual 404, 3) := by decide +kernel
theorem dX12_hourGoes_25 : decode cX12_hourGoes 25 = .ok (.ifCond .eq 8, 3) := by decide +kernel
theorem dX12_hourGoes_28 : decode cX12_hourGoes 28 = .ok (.aload_n 0, 1) := by decide +kernel
theorem dX12_hourGoes_29 : decode cX12_hourGoes 29 = .ok (.iload_n 1, 1) := by decide +kernel
theorem dX12_hourGoes_30 : decode cX12_hourGoes 30 = .ok (.invokevirtual 401, 3) := by decide +kernel
theorem dX12_hourGoes_33 : decode cX12_hourGoes 33 = .ok (.iconst 0, 1) := by decide +kernel
theorem dX12_hourGoes_34 : decode cX12_hourGoes 34 = .ok (.istore_n 2, 1) := by decide +kernel
theorem dX12_hourGoes_35 : decode cX12_hourGoes 35 = .ok (.iload_n 2, 1) := by decide +kernel
theorem dX12_hourGoes_36 : decode cX12_hourGoes 36 = .ok (.aload_n 0, 1) := by decide +kernel
theorem dX12_hourGoes_37 : decode cX12_hourGoes 37 = .ok (.getfield 49, 3) := by decide +kernel
theorem dX12_hourGoes_40 : decode cX12_hourGoes 40 = .ok (.aload_n 0, 1) := by decide +kernel
theorem dX12_hourGoes_41 : decode cX12_hourGoes 41 = .ok (.getfield 260, 3) := by decide +kernel
theorem dX12_hourGoes_44 : decode cX12_hourGoes 44 = .ok (.iaload, 1) := by decide +kernel
theorem dX12_hourGoes_45 : decode cX12_hourGoes 45 = .ok (.if_icmp .ge 116, 3) := by decide +kernel
theorem dX12_hourGoes_48 : decode cX12_hourGoes 48 = .ok (.iconst 0, 1) := by decide +kernel
theorem dX12_hourGoes_49 : decode cX12_hourGoes 49 = .ok (.istore_n 3, 1) := by decide +kernel
theorem dX12_hourGoes_50 : decode cX12_hourGoes 50 = .ok (.iload_n 3, 1) := by decide +kernel
theorem dX12_hourGoes_51 : decode cX12_hourGoes 51 = .ok (.aload_n 0, 1) := by decide +kernel
theorem dX12_hourGoes_52 : decode cX12_hourGoes 52 = .ok (.getfield 46, 3) := by decide +kernel
theorem dX12_hourGoes_55 : decode cX12_hourGoes 55 = .ok (.aload_n 0, 1) := by decide +kernel
theorem dX12_hourGoes_56 : decode cX12_hourGoes 56 = .ok (.getfield 260, 3) := by decide +kernel
theorem dX12_hourGoes_59 : decode cX12_hourGoes 59 = .ok (.iaload, 1) := by decide +kernel
theorem dX12_hourGoes_60 : decode cX12_hourGoes 60 = .ok (.if_icmp .ge 95, 3) := by decide +kernel
theorem dX12_hourGoes_63 : decode cX12_hourGoes 63 = .ok (.bipush 8, 2) := by decide +kernel
theorem dX12_hourGoes_65 : decode cX12_hourGoes 65 = .ok (.iload_n 2, 1) := by decide +kernel
theorem dX12_hourGoes_66 : decode cX12_hourGoes 66 = .ok (.imul, 1) := by decide +kernel
theorem dX12_hourGoes_67 : decode cX12_hourGoes 67 = .ok (.iload_n 3, 1) := by decide +kernel
theorem dX12_hourGoes_68 : decode cX12_hourGoes 68 = .ok (.iadd, 1) := by decide +kernel
theorem dX12_hourGoes_69 : decode cX12_hourGoes 69 = .ok (.istore 4, 2) := by decide +kernel
theorem dX12_hourGoes_71 : decode cX12_hourGoes 71 = .ok (.aload_n 0, 1) := by decide +kernel
theorem dX12_hourGoes_72 : decode cX12_hourGoes 72 = .ok (.getfield 143, 3) := by decide +kernel
theorem dX12_hourGoes_75 : decode cX12_hourGoes 75 = .ok (.iload 4, 2) := by decide +kernel
theorem dX12_hourGoes_77 : decode cX12_hourGoes 77 = .ok (.dup2, 1) := by decide +kernel
theorem dX12_hourGoes_78 : decode cX12_hourGoes 78 = .ok (.iaload, 1) := by decide +kernel
theorem dX12_hourGoes_79 : decode cX12_hourGoes 79 = .ok (.aload_n 0, 1) := by decide +kernel
theorem dX12_hourGoes_80 : decode cX12_hourGoes 80 = .ok (.iconst 2, 1) := by decide +kernel
theorem dX12_hourGoes_81 : decode cX12_hourGoes 81 = .ok (.iload_n 3, 1) := by decide +kernel
theorem dX12_hourGoes_82 : decode cX12_hourGoes 82 = .ok (.iload_n 2, 1) := by decide +kernel
theorem dX12_hourGoes_83 : decode cX12_hourGoes 83 = .ok (.iload_n 1, 1) := by decide +kernel
theorem dX12_hourGoes_84 : decode cX12_hourGoes 84 = .ok (.invokevirtual 390, 3) := by decide +kernel
theorem dX12_hourGoes_87 : decode cX12_hourGoes 87 = .ok (.isub, 1) := by decide +kernel
theorem dX12_hourGoes_88 : decode cX12_hourGoes 88 = .ok (.iastore, 1) := by decide +kernel
theorem dX12_hourGoes_89 : decode cX12_hourGoes 89 = .ok (.iload 4, 2) := by decide +kernel
theorem dX12_hourGoes_91 : decode cX12_hourGoes 91 = .ok (.aload_n 0, 1) := by decide +kernel
theorem dX12_hourGoes_92 : decode cX12_hourGoes 92 = .ok (.getfield 368, 3) := by decide +kernel
theorem dX12_hourGoes_95 : decode cX12_hourGoes 95 = .ok (.if_icmp .ne 34, 3) := by decide +kernel
theorem dX12_hourGoes_98 : decode cX12_hourGoes 98 = .ok (.aload_n 0, 1) := by decide +kernel
theorem dX12_hourGoes_99 : decode cX12_hourGoes 99 = .ok (.getfield 143, 3) := by decide +kernel
theorem dX12_hourGoes_102 : decode cX12_hourGoes 102 = .ok (.iload 4, 2) := by decide +kernel
theorem dX12_hourGoes_104 : decode cX12_hourGoes 104 = .ok (.aload_n 0, 1) := by decide +kernel
theorem dX12_hourGoes_105 : decode cX12_hourGoes 105 = .ok (.getfield 143, 3) := by decide +kernel
theorem dX12_hourGoes_108 : decode cX12_hourGoes 108 = .ok (.iload 4, 2) := by decide +kernel
theorem dX12_hourGoes_110 : decode cX12_hourGoes 110 = .ok (.iaload, 1) := by decide +kernel
theorem dX12_hourGoes_111 : decode cX12_hourGoes 111 = .ok (.aload_n 0, 1) := by decide +kernel
theorem dX12_hourGoes_112 : decode cX12_hourGoes 112 = .ok (.getfield 97, 3) := by decide +kernel
theorem dX12_hourGoes_115 : decode cX12_hourGoes 115 = .ok (.aload_n 0, 1) := by decide +kernel
theorem dX12_hourGoes_116 : decode cX12_hourGoes 116 = .ok (.getfield 260, 3) := by decide +kernel
theorem dX12_hourGoes_119 : decode cX12_hourGoes 119 = .ok (.iaload, 1) := by decide +kernel
theorem dX12_hourGoes_120 : decode cX12_hourGoes 120 = .ok (.isub, 1) := by decide +kernel
theorem dX12_hourGoes_121 : decode cX12_hourGoes 121 = .ok (.iconst 0, 1) := by decide +kernel
theorem dX12_hourGoes_122 : decode cX12_hourGoes 122 = .ok (.sipush 9999, 3) := by decide +kernel
theorem dX12_hourGoes_125 : decode cX12_hourGoes 125 = .ok (.invokestatic 384, 3) := by decide +kernel
theorem dX12_hourGoes_128 : decode cX12_hourGoes 128 = .ok (.iastore, 1) := by decide +kernel
theorem dX12_hourGoes_129 : decode cX12_hourGoes 129 = .ok (.aload_n 0, 1) := by decide +kernel
theorem dX12_hourGoes_130 : decode cX12_hourGoes 130 = .ok (.getfield 143, 3) := by decide +kernel
theorem dX12_hourGoes_133 : decode cX12_hourGoes 133 = .ok (.iload 4, 2) := by decide +kernel
theorem dX12_hourGoes_135 : decode cX12_hourGoes 135 = .ok (.aload_n 0, 1) := by decide +kernel
theorem dX12_hourGoes_136 : decode cX12_hourGoes 136 = .ok (.getfield 143, 3) := by decide +kernel
theorem dX12_hourGoes_139 : decode cX12_hourGoes 139 = .ok (.iload 4, 2) := by decide +kernel
theorem dX12_hourGoes_141 : decode cX12_hourGoes 141 = .ok (.iaload, 1) := by decide +kernel
theorem dX12_hourGoes_142 : decode cX12_hourGoes 142 = .ok (.iconst 0, 1) := by decide +kernel
theorem dX12_hourGoes_143 : decode cX12_hourGoes 143 = .ok (.bipush 99, 2) := by decide +kernel
theorem dX12_hourGoes_145 : decode cX12_hourGoes 145 = .ok (.invokestatic 384, 3) := by decide +kernel
theorem dX12_hourGoes_148 : decode cX12_hourGoes 148 = .ok (.iastore, 1) := by decide +kernel
theorem dX12_hourGoes_149 : decode cX12_hourGoes 149 = .ok (.iinc 3 1, 3) := by decide +kernel
theorem dX12_hourGoes_152 : decode cX12_hourGoes 152 = .ok (.goto (-102), 3) := by decide +kernel
theorem dX12_hourGoes_155 : decode cX12_hourGoes 155 = .ok (.iinc 2 1, 3) := by decide +kernel
theorem dX12_hourGoes_158 : decode cX12_hourGoes 158 = .ok (.goto (-123), 3) := by decide +kernel
theorem dX12_hourGoes_161 : decode cX12_hourGoes 161 = .ok (.aload_n 0, 1) := by decide +kernel
theorem dX12_hourGoes_162 : decode cX12_hourGoes 162 = .ok (.getfield 143, 3) := by decide +kernel
theorem dX12_hourGoes_165 : decode cX12_hourGoes 165 = .ok (.bipush 104, 2) := by decide +kernel
theorem dX12_hourGoes_167 : decode cX12_hourGoes 167 = .ok (.dup2, 1) := by decide +kernel
theorem dX12_hourGoes_168 : decode cX12_hourGoes 168 = .ok (.iaload, 1) := by decide +kernel
theorem dX12_hourGoes_169 : decode cX12_hourGoes 169 = .ok (.iconst 1, 1) := by decide +kernel
theorem dX12_hourGoes_170 : decode cX12_hourGoes 170 = .ok (.iadd, 1) := by decide +kernel
theorem dX12_hourGoes_171 : decode cX12_hourGoes 171 = .ok (.iastore, 1) := by decide +kernel
theorem dX12_hourGoes_172 : decode cX12_hourGoes 172 = .ok (.aload_n 0, 1) := by decide +kernel
theorem dX12_hourGoes_173 : decode cX12_hourGoes 173 = .ok (.getfield 143, 3) := by decide +kernel
theorem dX12_hourGoes_176 : decode cX12_hourGoes 176 = .ok (.bipush 104, 2) := by decide +kernel
theorem dX12_hourGoes_178 : decode cX12_hourGoes 178 = .ok (.iaload, 1) := by decide +kernel
theorem dX12_hourGoes_179 : decode cX12_hourGoes 179 = .ok (.bipush 24, 2) := by decide +kernel
theorem dX12_hourGoes_181 : decode cX12_hourGoes 181 = .ok (.irem, 1) := by decide +kernel
theorem dX12_hourGoes_182 : decode cX12_hourGoes 182 = .ok (.ifCond .le 4, 3) := by decide +kernel
theorem dX12_hourGoes_185 : decode cX12_hourGoes 185 = .ok (.return_, 1) := by decide +kernel
theorem dX12_hourGoes_186 : decode cX12_hourGoes 186 = .ok (.iconst 0, 1) := by decide +kernel
theorem dX12_hourGoes_187 : decode cX12_hourGoes 187 = .ok (.istore_n 2, 1) := by decide +kernel
theorem dX12_hourGoes_188 : decode cX12_hourGoes 188 = .ok (.iload_n 2, 1) := by decide +kernel
theorem dX12_hourGoes_189 : decode cX12_hourGoes 189 = .ok (.aload_n 0, 1) := by decide +kernel
theorem dX12_hourGoes_190 : decode cX12_hourGoes 190 = .ok (.getfield 58, 3) := by decide +kernel
theorem dX12_hourGoes_193 : decode cX12_hourGoes 193 = .ok (.aload_n 0, 1) := by decide +kernel
theorem dX12_hourGoes_194 : decode cX12_hourGoes 194 = .ok (.getfield 260, 3) := by decide +kernel
theorem dX12_hourGoes_197 : decode cX12_hourGoes 197 = .ok (.iaload, 1) := by decide +kernel
theorem dX12_hourGoes_198 : decode cX12_hourGoes 198 = .ok (.if_icmp .ge 40, 3) := by decide +kernel
theorem dX12_hourGoes_201 : decode cX12_hourGoes 201 = .ok (.aload_n 0, 1) := by decide +kernel
theorem dX12_hourGoes_202 : decode cX12_hourGoes 202 = .ok (.getfield 143, 3) := by decide +kernel
theorem dX12_hourGoes_205 : decode cX12_hourGoes 205 = .ok (.bipush 80, 2) := by decide +kernel
theorem dX12_hourGoes_207 : decode cX12_hourGoes 207 = .ok (.iload_n 2, 1) := by decide +kernel
theorem dX12_hourGoes_208 : decode cX12_hourGoes 208 = .ok (.iadd, 1) := by decide +kernel
theorem dX12_hourGoes_209 : decode cX12_hourGoes 209 = .ok (.aload_n 0, 1) := by decide +kernel
theorem dX12_hourGoes_210 : decode cX12_hourGoes 210 = .ok (.getfield 143, 3) := by decide +kernel
theorem dX12_hourGoes_213 : decode cX12_hourGoes 213 = .ok (.bipush 80, 2) := by decide +kernel
theorem dX12_hourGoes_215 : decode cX12_hourGoes 215 = .ok (.iload_n 2, 1) := by decide +kernel
theorem dX12_hourGoes_216 : decode cX12_hourGoes 216 = .ok (.iadd, 1) := by decide +kernel
theorem dX12_hourGoes_217 : decode cX12_hourGoes 217 = .ok (.iaload, 1) := by decide +kernel
theorem dX12_hourGoes_218 : decode cX12_hourGoes 218 = .ok (.aload_n 0, 1) := by decide +kernel
theorem dX12_hourGoes_219 : decode cX12_hourGoes 219 = .ok (.iload_n 2, 1) := by decide +kernel
theorem dX12_hourGoes_220 : decode cX12_hourGoes 220 = .ok (.invokevirtual 407, 3) := by decide +kernel
theorem dX12_hourGoes_223 : decode cX12_hourGoes 223 = .ok (.iadd, 1) := by decide +kernel
theorem dX12_hourGoes_224 : decode cX12_hourGoes 224 = .ok (.iconst 0, 1) := by decide +kernel
theorem dX12_hourGoes_225 : decode cX12_hourGoes 225 = .ok (.sipush 999, 3) := by decide +kernel
theorem dX12_hourGoes_228 : decode cX12_hourGoes 228 = .ok (.invokestatic 384, 3) := by decide +kernel
theorem dX12_hourGoes_231 : decode cX12_hourGoes 231 = .ok (.iastore, 1) := by decide +kernel
theorem dX12_hourGoes_232 : decode cX12_hourGoes 232 = .ok (.iinc 2 1, 3) := by decide +kernel
theorem dX12_hourGoes_235 : decode cX12_hourGoes 235 = .ok (.goto (-47), 3) := by decide +kernel
theorem dX12_hourGoes_238 : decode cX12_hourGoes 238 = .ok (.return_, 1) := by decide +kernel
theorem dX12_goes_0 : decode cX12_goes 0 = .ok (.iconst 0, 1) := by decide +kernel
theorem dX12_goes_1 : decode cX12_goes 1 = .ok (.istore_n 2, 1) := by decide +kernel
theorem dX12_goes_2 : decode cX12_goes 2 = .ok (.iload_n 2, 1) := by decide +kernel
theorem dX12_goes_3 : decode cX12_goes 3 = .ok (.iload_n 1, 1) := by decide +kernel
theorem dX12_goes_4 : decode cX12_goes 4 = .ok (.if_icmp .ge 13, 3) := by decide +kernel
theorem dX12_goes_7 : decode cX12_goes 7 = .ok (.aload_n 0, 1) := by decide +kernel
theorem dX12_goes_8 : decode cX12_goes 8 = .ok (.invokevirtual 410, 3) := by decide +kernel
theorem dX12_goes_11 : decode cX12_goes 11 = .ok (.iinc 2 1, 3) := by decide +kernel
theorem dX12_goes_14 : decode cX12_goes 14 = .ok (.goto (-12), 3) := by decide +kernel
theorem dX12_goes_17 : decode cX12_goes 17 = .ok (.return_, 1) := by decide +kernel
theorem dX12_cell_0 : decode cX12_cell 0 = .ok (.aload_n 0, 1) := by decide +kernel
theorem dX12_cell_1 : decode cX12_cell 1 = .ok (.iload_n 1, 1) := by decide +kernel
theorem dX12_cell_2 : decode cX12_cell 2 = .ok (.iload_n 2, 1) := by decide +kernel
theorem dX12_cell_3 : decode cX12_cell 3 = .ok (.invokevirtual 394, 3) := by decide +kernel
theorem dX12_cell_6 : decode cX12_cell 6 = .ok (.ifCond .ne 6, 3) := by decide +kernel
theorem dX12_cell_9 : decode cX12_cell 9 = .ok (.bipush (-100), 2) := by decide +kernel
theorem dX12_cell_11 : decode cX12_cell 11 = .ok (.ireturn, 1) := by decide +kernel
theorem dX12_cell_12 : decode cX12_cell 12 = .ok (.aload_n 0, 1) := by decide +kernel
theorem dX12_cell_13 : decode cX12_cell 13 = .ok (.invokevirtual 413, 3) := by decide +kernel
theorem dX12_cell_16 : decode cX12_cell 16 = .ok (.iload_n 3, 1) := by decide +kernel
theorem dX12_cell_17 : decode cX12_cell 17 = .ok (.tableswitch 96 0 3 #[31, 43, 58, 77], 31) := by decide +kernel
theorem dX12_cell_48 : decode cX12_cell 48 = .ok (.aload_n 0, 1) := by decide +kernel
theorem dX12_cell_49 : decode cX12_cell 49 = .ok (.getfield 143, 3) := by decide +kernel
theorem dX12_cell_52 : decode cX12_cell 52 = .ok (.bipush 8, 2) := by decide +kernel
theorem dX12_cell_54 : decode cX12_cell 54 = .ok (.iload_n 2, 1) := by decide +kernel
theorem dX12_cell_55 : decode cX12_cell 55 = .ok (.imul, 1) := by decide +kernel
theorem dX12_cell_56 : decode cX12_cell 56 = .ok (.iload_n 1, 1) := by decide +kernel
theorem dX12_cell_57 : decode cX12_cell 57 = .ok (.iadd, 1) := by decide +kernel
theorem dX12_cell_58 : decode cX12_cell 58 = .ok (.iaload, 1) := by decide +kernel
theorem dX12_cell_59 : decode cX12_cell 59 = .ok (.ireturn, 1) := by decide +kernel
theorem dX12_cell_60 : decode cX12_cell 60 = .ok (.aload_n 0, 1) := by decide +kernel
theorem dX12_cell_61 : decode cX12_cell 61 = .ok (.getfield 143, 3) := by decide +kernel
theorem dX12_cell_64 : decode cX12_cell 64 = .ok (.bipush 40, 2) := by decide +kernel
theorem dX12_cell_66 : decode cX12_cell 66 = .ok (.bipush 8, 2) := by decide +kernel
theorem dX12_cell_68 : decode cX12_cell 68 = .ok (.iload_n 2, 1) := by decide +kernel
theorem dX12_cell_69 : decode cX12_cell 69 = .ok (.imul, 1) := by decide +kernel
theorem dX12_cell_70 : decode cX12_cell 70 = .ok (.iadd, 1) := by decide +kernel
theorem dX12_cell_71 : decode cX12_cell 71 = .ok (.iload_n 1, 1) := by decide +kernel
theorem dX12_cell_72 : decode cX12_cell 72 = .ok (.iadd, 1) := by decide +kernel
theorem dX12_cell_73 : decode cX12_cell 73 = .ok (.iaload, 1) := by decide +kernel
theorem dX12_cell_74 : decode cX12_cell 74 = .ok (.ireturn, 1) := by decide +kernel
theorem dX12_cell_75 : decode cX12_cell 75 = .ok (.aload_n 0, 1) := by decide +kernel
theorem dX12_cell_76 : decode cX12_cell 76 = .ok (.iconst 1, 1) := by decide +kernel
theorem dX12_cell_77 : decode cX12_cell 77 = .ok (.iload_n 1, 1) := by decide +kernel
theorem dX12_cell_78 : decode cX12_cell 78 = .ok (.iload_n 2, 1) := by decide +kernel
theorem dX12_cell_79 : decode cX12_cell 79 = .ok (.aload_n 0, 1) := by decide +kernel
theorem dX12_cell_80 : decode cX12_cell 80 = .ok (.aload_n 0, 1) := by decide +kernel
theorem dX12_cell_81 : decode cX12_cell 81 = .ok (.getfield 143, 3) := by decide +kernel
theorem dX12_cell_84 : decode cX12_cell 84 = .ok (.bipush 104, 2) := by decide +kernel
theorem dX12_cell_86 : decode cX12_cell 86 = .ok (.iaload, 1) := by decide +kernel
theorem dX12_cell_87 : decode cX12_cell 87 = .ok (.invokevirtual 398, 3) := by decide +kernel
theorem dX12_cell_90 : decode cX12_cell 90 = .ok (.invokevirtual 390, 3) := by decide +kernel
theorem dX12_cell_93 : decode cX12_cell 93 = .ok (.ireturn, 1) := by decide +kernel
theorem dX12_cell_94 : decode cX12_cell 94 = .ok (.aload_n 0, 1) := by decide +kernel
theorem dX12_cell_95 : decode cX12_cell 95 = .ok (.iconst 2, 1) := by decide +kernel
theorem dX12_cell_96 : decode cX12_cell 96 = .ok (.iload_n 1, 1) := by decide +kernel
theorem dX12_cell_97 : decode cX12_cell 97 = .ok (.iload_n 2, 1) := by decide +kernel
theorem dX12_cell_98 : decode cX12_cell 98 = .ok (.aload_n 0, 1) := by decide +kernel
theorem dX12_cell_99 : decode cX12_cell 99 = .ok (.aload_n 0, 1) := by decide +kernel
theorem dX12_cell_100 : decode cX12_cell 100 = .ok (.getfield 143, 3) := by decide +kernel
theorem dX12_cell_103 : decode cX12_cell 103 = .ok (.bipush 104, 2) := by decide +kernel
theorem dX12_cell_105 : decode cX12_cell 105 = .ok (.iaload, 1) := by decide +kernel
theorem dX12_cell_106 : decode cX12_cell 106 = .ok (.invokevirtual 398, 3) := by decide +kernel
theorem dX12_cell_109 : decode cX12_cell 109 = .ok (.invokevirtual 390, 3) := by decide +kernel
theorem dX12_cell_112 : decode cX12_cell 112 = .ok (.ireturn, 1) := by decide +kernel
theorem dX12_cell_113 : decode cX12_cell 113 = .ok (.bipush (-100), 2) := by decide +kernel
theorem dX12_cell_115 : decode cX12_cell 115 = .ok (.ireturn, 1) := by decide +kernel
theorem dX12_netted_0 : decode cX12_netted 0 = .ok (.iconst 0, 1) := by decide +kernel
theorem dX12_netted_1 : decode cX12_netted 1 = .ok (.istore_n 2, 1) := by decide +kernel
theorem dX12_netted_2 : decode cX12_netted 2 = .ok (.iconst 0, 1) := by decide +kernel
theorem dX12_netted_3 : decode cX12_netted 3 = .ok (.istore_n 3, 1) := by decide +kernel
theorem dX12_netted_4 : decode cX12_netted 4 = .ok (.iload_n 3, 1) := by decide +kernel
theorem dX12_netted_5 : decode cX12_netted 5 = .ok (.iconst 4, 1) := by decide +kernel
theorem dX12_netted_6 : decode cX12_netted 6 = .ok (.if_icmp .ge 39, 3) := by decide +kernel
theorem dX12_netted_9 : decode cX12_netted 9 = .ok (.iload_n 2, 1) := by decide +kernel
theorem dX12_netted_10 : decode cX12_netted 10 = .ok (.aload_n 0, 1) := by decide +kernel
theorem dX12_netted_11 : decode cX12_netted 11 = .ok (.getfield 143, 3) := by decide +kernel
theorem dX12_netted_14 : decode cX12_netted 14 = .ok (.bipush 88, 2) := by decide +kernel
theorem dX12_netted_16 : decode cX12_netted 16 = .ok (.iconst 4, 1) := by decide +kernel
theorem dX12_netted_17 : decode cX12_netted 17 = .ok (.iload_n 1, 1) := by decide +kernel
theorem dX12_netted_18 : decode cX12_netted 18 = .ok (.imul, 1) := by decide +kernel
theorem dX12_netted_19 : decode cX12_netted 19 = .ok (.iadd, 1) := by decide +kernel
theorem dX12_netted_20 : decode cX12_netted 20 = .ok (.iload_n 3, 1) := by decide +kernel
theorem dX12_netted_21 : decode cX12_netted 21 = .ok (.iadd, 1) := by decide +kernel
theorem dX12_netted_22 : decode cX12_netted 22 = .ok (.iaload, 1) := by decide +kernel
theorem dX12_netted_23 : decode cX12_netted 23 = .ok (.aload_n 0, 1) := by decide +kernel
theorem dX12_netted_24 : decode cX12_netted 24 = .ok (.getfield 143, 3) := by decide +kernel
theorem dX12_netted_27 : decode cX12_netted 27 = .ok (.bipush 88, 2) := by decide +kernel
theorem dX12_netted_29 : decode cX12_netted 29 = .ok (.iconst 4, 1) := by decide +kernel
theorem dX12_netted_30 : decode cX12_netted 30 = .ok (.iload_n 3, 1) := by decide +kernel
theorem dX12_netted_31 : decode cX12_netted 31 = .ok (.imul, 1) := by decide +kernel
theorem dX12_netted_32 : decode cX12_netted 32 = .ok (.iadd, 1) := by decide +kernel
theorem dX12_netted_33 : decode cX12_netted 33 = .ok (.iload_n 1, 1) := by decide +kernel
theorem dX12_netted_34 : decode cX12_netted 34 = .ok (.iadd, 1) := by decide +kernel
theorem dX12_netted_35 : decode cX12_netted 35 = .ok (.iaload, 1) := by decide +kernel
theorem dX12_netted_36 : decode cX12_netted 36 = .ok (.isub, 1) := by decide +kernel
theorem dX12_netted_37 : decode cX12_netted 37 = .ok (.iadd, 1) := by decide +kernel
theorem dX12_netted_38 : decode cX12_netted 38 = .ok (.istore_n 2, 1) := by decide +kernel
theorem dX12_netted_39 : decode cX12_netted 39 = .ok (.iinc 3 1, 3) := by decide +kernel
theorem dX12_netted_42 : decode cX12_netted 42 = .ok (.goto (-38), 3) := by decide +kernel
theorem dX12_netted_45 : decode cX12_netted 45 = .ok (.iload_n 2, 1) := by decide +kernel
theorem dX12_netted_46 : decode cX12_netted 46 = .ok (.ireturn, 1) := by decide +kernel
theorem dX12_isOver_0 : decode cX12_isOver 0 = .ok (.aload_n 0, 1) := by decide +kernel
theorem dX12_isOver_1 : decode cX12_isOver 1 = .ok (.iload_n 1, 1) := by decide +kernel
theorem dX12_isOver_2 : decode cX12_isOver 2 = .ok (.invokevirtual 387, 3) := by decide +kernel
theorem dX12_isOver_5 : decode cX12_isOver 5 = .ok (.aload_n 0, 1) := by decide +kernel
theorem dX12_isOver_6 : decode cX12_isOver 6 = .ok (.getfield 61, 3) := by decide +kernel
theorem dX12_isOver_9 : decode cX12_isOver 9 = .ok (.iconst 4, 1) := by decide +kernel
theorem dX12_isOver_10 : decode cX12_isOver 10 = .ok (.aload_n 0, 1) := by decide +kernel
theorem dX12_isOver_11 : decode cX12_isOver 11 = .ok (.getfield 260, 3) := by decide +kernel
theorem dX12_isOver_14 : decode cX12_isOver 14 = .ok (.imul, 1) := by decide +kernel
theorem dX12_isOver_15 : decode cX12_isOver 15 = .ok (.iload_n 1, 1) := by decide +kernel
theorem dX12_isOver_16 : decode cX12_isOver 16 = .ok (.iadd, 1) := by decide +kernel
theorem dX12_isOver_17 : decode cX12_isOver 17 = .ok (.iaload, 1) := by decide +kernel
theorem dX12_isOver_18 : decode cX12_isOver 18 = .ok (.if_icmp .le 7, 3) := by decide +kernel
theorem dX12_isOver_21 : decode cX12_isOver 21 = .ok (.iconst 1, 1) := by decide +kernel
theorem dX12_isOver_22 : decode cX12_isOver 22 = .ok (.goto 4, 3) := by decide +kernel
theorem dX12_isOver_25 : decode cX12_isOver 25 = .ok (.iconst 0, 1) := by decide +kernel
theorem dX12_isOver_26 : decode cX12_isOver 26 = .ok (.ireturn, 1) := by decide +kernel
theorem dX12_holding_0 : decode cX12_holding 0 = .ok (.aload_n 0, 1) := by decide +kernel
theorem dX12_holding_1 : decode cX12_holding 1 = .ok (.iload_n 1, 1) := by decide +kernel
theorem dX12_holding_2 : decode cX12_holding 2 = .ok (.invokevirtual 416, 3) := by decide +kernel
theorem dX12_holding_5 : decode cX12_holding 5 = .ok (.ifCond .ne 7, 3) := by decide +kernel
theorem dX12_holding_8 : decode cX12_holding 8 = .ok (.ldc_w 419, 3) := by decide +kernel
theorem dX12_holding_11 : decode cX12_holding 11 = .ok (.ireturn, 1) := by decide +kernel
theorem dX12_holding_12 : decode cX12_holding 12 = .ok (.aload_n 0, 1) := by decide +kernel
theorem dX12_holding_13 : decode cX12_holding 13 = .ok (.invokevirtual 413, 3) := by decide +kernel
theorem dX12_holding_16 : decode cX12_holding 16 = .ok (.iload_n 2, 1) := by decide +kernel
theorem dX12_holding_17 : decode cX12_holding 17 = .ok (.tableswitch 109 0 6 #[43, 57, 67, 73, 79, 93, 103], 43) := by decide +kernel
theorem dX12_holding_60 : decode cX12_holding 60 = .ok (.aload_n 0, 1) := by decide +kernel
theorem dX12_holding_61 : decode cX12_holding 61 = .ok (.getfield 61, 3) := by decide +kernel
theorem dX12_holding_64 : decode cX12_holding 64 = .ok (.iconst 4, 1) := by decide +kernel
theorem dX12_holding_65 : decode cX12_holding 65 = .ok (.aload_n 0, 1) := by decide +kernel
theorem dX12_holding_66 : decode cX12_holding 66 = .ok (.getfield 260, 3) := by decide +kernel
theorem dX12_holding_69 : decode cX12_holding 69 = .ok (.imul, 1) := by decide +kernel
theorem dX12_holding_70 : decode cX12_holding 70 = .ok (.iload_n 1, 1) := by decide +kernel
theorem dX12_holding_71 : decode cX12_holding 71 = .ok (.iadd, 1) := by decide +kernel
theorem dX12_holding_72 : decode cX12_holding 72 = .ok (.iaload, 1) := by decide +kernel
theorem dX12_holding_73 : decode cX12_holding 73 = .ok (.ireturn, 1) := by decide +kernel
theorem dX12_holding_74 : decode cX12_holding 74 = .ok (.aload_n 0, 1) := by decide +kernel
theorem dX12_holding_75 : decode cX12_holding 75 = .ok (.getfield 143, 3) := by decide +kernel
theorem dX12_holding_78 : decode cX12_holding 78 = .ok (.bipush 80, 2) := by decide +kernel
theorem dX12_holding_80 : decode cX12_holding 80 = .ok (.iload_n 1, 1) := by decide +kernel
theorem dX12_holding_81 : decode cX12_holding 81 = .ok (.iadd, 1) := by decide +kernel
theorem dX12_holding_82 : decode cX12_holding 82 = .ok (.iaload, 1) := by decide +kernel
theorem dX12_holding_83 : decode cX12_holding 83 = .ok (.ireturn, 1) := by decide +kernel
theorem dX12_holding_84 : decode cX12_holding 84 = .ok (.aload_n 0, 1) := by decide +kernel
theorem dX12_holding_85 : decode cX12_holding 85 = .ok (.iload_n 1, 1) := by decide +kernel
theorem dX12_holding_86 : decode cX12_holding 86 = .ok (.invokevirtual 420, 3) := by decide +kernel
theorem dX12_holding_89 : decode cX12_holding 89 = .ok (.ireturn, 1) := by decide +kernel
theorem dX12_holding_90 : decode cX12_holding 90 = .ok (.aload_n 0, 1) := by decide +kernel
theorem dX12_holding_91 : decode cX12_holding 91 = .ok (.iload_n 1, 1) := by decide +kernel
theorem dX12_holding_92 : decode cX12_holding 92 = .ok (.invokevirtual 387, 3) := by decide +kernel
theorem dX12_holding_95 : decode cX12_holding 95 = .ok (.ireturn, 1) := by decide +kernel
theorem dX12_holding_96 : decode cX12_holding 96 = .ok (.aload_n 0, 1) := by decide +kernel
theorem dX12_holding_97 : decode cX12_holding 97 = .ok (.iload_n 1, 1) := by decide +kernel
theorem dX12_holding_98 : decode cX12_holding 98 = .ok (.invokevirtual 423, 3) := by decide +kernel
theorem dX12_holding_101 : decode cX12_holding 101 = .ok (.ifCond .eq 7, 3) := by decide +kernel
theorem dX12_holding_104 : decode cX12_holding 104 = .ok (.iconst 1, 1) := by decide +kernel
theorem dX12_holding_105 : decode cX12_holding 105 = .ok (.goto 4, 3) := by decide +kernel
theorem dX12_holding_108 : decode cX12_holding 108 = .ok (.iconst 0, 1) := by decide +kernel
theorem dX12_holding_109 : decode cX12_holding 109 = .ok (.ireturn, 1) := by decide +kernel
theorem dX12_holding_110 : decode cX12_holding 110 = .ok (.aload_n 0, 1) := by decide +kernel
theorem dX12_holding_111 : decode cX12_holding 111 = .ok (.getfield 143, 3) := by decide +kernel
theorem dX12_holding_114 : decode cX12_holding 114 = .ok (.bipush 84, 2) := by decide +kernel
theorem dX12_holding_116 : decode cX12_holding 116 = .ok (.iload_n 1, 1) := by decide +kernel
theorem dX12_holding_117 : decode cX12_holding 117 = .ok (.iadd, 1) := by decide +kernel
theorem dX12_holding_118 : decode cX12_holding 118 = .ok (.iaload, 1) := by decide +kernel
theorem dX12_holding_119 : decode cX12_holding 119 = .ok (.ireturn, 1) := by decide +kernel
theorem dX12_holding_120 : decode cX12_holding 120 = .ok (.aload_n 0, 1) := by decide +kernel
theorem dX12_holding_121 : decode cX12_holding 121 = .ok (.iload_n 1, 1) := by decide +kernel
theorem dX12_holding_122 : decode cX12_holding 122 = .ok (.invokevirtual 426, 3) := by decide +kernel
theorem dX12_holding_125 : decode cX12_holding 125 = .ok (.ireturn, 1) := by decide +kernel
theorem dX12_holding_126 : decode cX12_holding 126 = .ok (.ldc_w 419, 3) := by decide +kernel
theorem dX12_holding_129 : decode cX12_holding 129 = .ok (.ireturn, 1) := by decide +kernel
theorem dX12_isItsHour_0 : decode cX12_isItsHour 0 = .ok (.iload_n 2, 1) := by decide +kernel
theorem dX12_isItsHour_1 : decode cX12_isItsHour 1 = .ok (.bipush 24, 2) := by decide +kernel
theorem dX12_isItsHour_3 : decode cX12_isItsHour 3 = .ok (.irem, 1) := by decide +kernel
theorem dX12_isItsHour_4 : decode cX12_isItsHour 4 = .ok (.aload_n 0, 1) := by decide +kernel
theorem dX12_isItsHour_5 : decode cX12_isItsHour 5 = .ok (.getfield 73, 3) := by decide +kernel
theorem dX12_isItsHour_8 : decode cX12_isItsHour 8 = .ok (.bipush 6, 2) := by decide +kernel
theorem dX12_isItsHour_10 : decode cX12_isItsHour 10 = .ok (.aload_n 0, 1) := by decide +kernel
theorem dX12_isItsHour_11 : decode cX12_isItsHour 11 = .ok (.getfield 260, 3) := by decide +kernel
theorem dX12_isItsHour_14 : decode cX12_isItsHour 14 = .ok (.imul, 1) := by decide +kernel
theorem dX12_isItsHour_15 : decode cX12_isItsHour 15 = .ok (.iload_n 1, 1) := by decide +kernel
theorem dX12_isItsHour_16 : decode cX12_isItsHour 16 = .ok (.iadd, 1) := by decide +kernel
theorem dX12_isItsHour_17 : decode cX12_isItsHour 17 = .ok (.iaload, 1) := by decide +kernel
theorem dX12_isItsHour_18 : decode cX12_isItsHour 18 = .ok (.aload_n 0, 1) := by decide +kernel
theorem dX12_isItsHour_19 : decode cX12_isItsHour 19 = .ok (.getfield 76, 3) := by decide +kernel
theorem dX12_isItsHour_22 : decode cX12_isItsHour 22 = .ok (.bipush 6, 2) := by decide +kernel
theorem dX12_isItsHour_24 : decode cX12_isItsHour 24 = .ok (.aload_n 0, 1) := by decide +kernel
theorem dX12_isItsHour_25 : decode cX12_isItsHour 25 = .ok (.getfield 260, 3) := by decide +kernel
theorem dX12_isItsHour_28 : decode cX12_isItsHour 28 = .ok (.imul, 1) := by decide +kernel
theorem dX12_isItsHour_29 : decode cX12_isItsHour 29 = .ok (.iload_n 1, 1) := by decide +kernel
theorem dX12_isItsHour_30 : decode cX12_isItsHour 30 = .ok (.iadd, 1) := by decide +kernel
theorem dX12_isItsHour_31 : decode cX12_isItsHour 31 = .ok (.iaload, 1) := by decide +kernel
theorem dX12_isItsHour_32 : decode cX12_isItsHour 32 = .ok (.invokestatic 361, 3) := by decide +kernel
theorem dX12_isItsHour_35 : decode cX12_isItsHour 35 = .ok (.ireturn, 1) := by decide +kernel
theorem dX12_use_0 : decode cX12_use 0 = .ok (.aload_n 0, 1) := by decide +kernel
theorem dX12_use_1 : decode cX12_use 1 = .ok (.iload_n 1, 1) := by decide +kernel
theorem dX12_use_2 : decode cX12_use 2 = .ok (.invokevirtual 429, 3) := by decide +kernel
theorem dX12_use_5 : decode cX12_use 5 = .ok (.ifCond .ne 5, 3) := by decide +kernel
theorem dX12_use_8 : decode cX12_use 8 = .ok (.iconst (-1), 1) := by decide +kernel
theorem dX12_use_9 : decode cX12_use 9 = .ok (.ireturn, 1) := by decide +kernel
theorem dX12_use_10 : decode cX12_use 10 = .ok (.iload_n 2, 1) := by decide +kernel
theorem dX12_use_11 : decode cX12_use 11 = .ok (.tableswitch 114 0 4 #[33, 48, 63, 78, 93], 33) := by decide +kernel
theorem dX12_use_44 : decode cX12_use 44 = .ok (.aload_n 0, 1) := by decide +kernel
theorem dX12_use_45 : decode cX12_use 45 = .ok (.getfield 70, 3) := by decide +kernel
theorem dX12_use_48 : decode cX12_use 48 = .ok (.bipush 6, 2) := by decide +kernel
theorem dX12_use_50 : decode cX12_use 50 = .ok (.aload_n 0, 1) := by decide +kernel
theorem dX12_use_51 : decode cX12_use 51 = .ok (.getfield 260, 3) := by decide +kernel
theorem dX12_use_54 : decode cX12_use 54 = .ok (.imul, 1) := by decide +kernel
theorem dX12_use_55 : decode cX12_use 55 = .ok (.iload_n 1, 1) := by decide +kernel
theorem dX12_use_56 : decode cX12_use 56 = .ok (.iadd, 1) := by decide +kernel
theorem dX12_use_57 : decode cX12_use 57 = .ok (.iaload, 1) := by decide +kernel
theorem dX12_use_58 : decode cX12_use 58 = .ok (.ireturn, 1) := by decide +kernel
theorem dX12_use_59 : decode cX12_use 59 = .ok (.aload_n 0, 1) := by decide +kernel
theorem dX12_use_60 : decode cX12_use 60 = .ok (.getfield 73, 3) := by decide +kernel
theorem dX12_use_63 : decode cX12_use 63 = .ok (.bipush 6, 2) := by decide +kernel
theorem dX12_use_65 : decode cX12_use 65 = .ok (.aload_n 0, 1) := by decide +kernel
theorem dX12_use_66 : decode cX12_use 66 = .ok (.getfield 260, 3) := by decide +kernel
theorem dX12_use_69 : decode cX12_use 69 = .ok (.imul, 1) := by decide +kernel
theorem dX12_use_70 : decode cX12_use 70 = .ok (.iload_n 1, 1) := by decide +kernel
theorem dX12_use_71 : decode cX12_use 71 = .ok (.iadd, 1) := by decide +kernel
theorem dX12_use_72 : decode cX12_use 72 = .ok (.iaload, 1) := by decide +kernel
theorem dX12_use_73 : decode cX12_use 73 = .ok (.ireturn, 1) := by decide +kernel
theorem dX12_use_74 : decode cX12_use 74 = .ok (.aload_n 0, 1) := by decide +kernel
theorem dX12_use_75 : decode cX12_use 75 = .ok (.getfield 76, 3) := by decide +kernel
theorem dX12_use_78 : decode cX12_use 78 = .ok (.bipush 6, 2) := by decide +kernel
theorem dX12_use_80 : decode cX12_use 80 = .ok (.aload_n 0, 1) := by decide +kernel
theorem dX12_use_81 : decode cX12_use 81 = .ok (.getfield 260, 3) := by decide +kernel
theorem dX12_use_84 : decode cX12_use 84 = .ok (.imul, 1) := by decide +kernel
theorem dX12_use_85 : decode cX12_use 85 = .ok (.iload_n 1, 1) := by decide +kernel
theorem dX12_use_86 : decode cX12_use 86 = .ok (.iadd, 1) := by decide +kernel
theorem dX12_use_87 : decode cX12_use 87 = .ok (.iaload, 1) := by decide +kernel
theorem dX12_use_88 : decode cX12_use 88 = .ok (.ireturn, 1) := by decide +kernel
theorem dX12_use_89 : decode cX12_use 89 = .ok (.aload_n 0, 1) := by decide +kernel
theorem dX12_use_90 : decode cX12_use 90 = .ok (.getfield 79, 3) := by decide +kernel
theorem dX12_use_93 : decode cX12_use 93 = .ok (.bipush 6, 2) := by decide +kernel
theorem dX12_use_95 : decode cX12_use 95 = .ok (.aload_n 0, 1) := by decide +kernel
theorem dX12_use_96 : decode cX12_use 96 = .ok (.getfield 260, 3) := by decide +kernel
theorem dX12_use_99 : decode cX12_use 99 = .ok (.imul, 1) := by decide +kernel
theorem dX12_use_100 : decode cX12_use 100 = .ok (.iload_n 1, 1) := by decide +kernel
theorem dX12_use_101 : decode cX12_use 101 = .ok (.iadd, 1) := by decide +kernel
theorem dX12_use_102 : decode cX12_use 102 = .ok (.iaload, 1) := by decide +kernel
theorem dX12_use_103 : decode cX12_use 103 = .ok (.ireturn, 1) := by decide +kernel
theorem dX12_use_104 : decode cX12_use 104 = .ok (.aload_n 0, 1) := by decide +kernel
theorem dX12_use_105 : decode cX12_use 105 = .ok (.iload_n 1, 1) := by decide +kernel
theorem dX12_use_106 : decode cX12_use 106 = .ok (.aload_n 0, 1) := by decide +kernel
theorem dX12_use_107 : decode cX12_use 107 = .ok (.getfield 140, 3) := by decide +kernel
theorem dX12_use_110 : decode cX12_use 110 = .ok (.bipush 104, 2) := by decide +kernel
theorem dX12_use_112 : decode cX12_use 112 = .ok (.iaload, 1) := by decide +kernel
theorem dX12_use_113 : decode cX12_use 113 = .ok (.invokevirtual 432, 3) := by decide +kernel
theorem dX12_use_116 : decode cX12_use 116 = .ok (.ifCond .eq 7, 3) := by decide +kernel
theorem dX12_use_119 : decode cX12_use 119 = .ok (.iconst 1, 1) := by decide +kernel
theorem dX12_use_120 : decode cX12_use 120 = .ok (.goto 4, 3) := by decide +kernel
theorem dX12_use_123 : decode cX12_use 123 = .ok (.iconst 0, 1) := by decide +kernel
theorem dX12_use_124 : decode cX12_use 124 = .ok (.ireturn, 1) := by decide +kernel
theorem dX12_use_125 : decode cX12_use 125 = .ok (.iconst (-1), 1) := by decide +kernel
theorem dX12_use_126 : decode cX12_use 126 = .ok (.ireturn, 1) := by decide +kernel
theorem dX12_records_0 : decode cX12_records 0 = .ok (.aload_n 0, 1) := by decide +kernel
theorem dX12_records_1 : decode cX12_records 1 = .ok (.getfield 286, 3) := by decide +kernel
theorem dX12_records_4 : decode cX12_records 4 = .ok (.bipush 30, 2) := by decide +kernel
theorem dX12_records_6 : decode cX12_records 6 = .ok (.if_icmp .ne 43, 3) := by decide +kernel
theorem dX12_records_9 : decode cX12_records 9 = .ok (.iconst 0, 1) := by decide +kernel
theorem dX12_records_10 : decode cX12_records 10 = .ok (.istore_n 1, 1) := by decide +kernel
theorem dX12_records_11 : decode cX12_records 11 = .ok (.iload_n 1, 1) := by decide +kernel
theorem dX12_records_12 : decode cX12_records 12 = .ok (.sipush 3045, 3) := by decide +kernel
theorem dX12_records_15 : decode cX12_records 15 = .ok (.if_icmp .ge 24, 3) := by decide +kernel
theorem dX12_records_18 : decode cX12_records 18 = .ok (.aload_n 0, 1) := by decide +kernel
theorem dX12_records_19 : decode cX12_records 19 = .ok (.getfield 149, 3) := by decide +kernel
theorem dX12_records_22 : decode cX12_records 22 = .ok (.iload_n 1, 1) := by decide +kernel
theorem dX12_records_23 : decode cX12_records 23 = .ok (.aload_n 0, 1) := by decide +kernel
theorem dX12_records_24 : decode cX12_records 24 = .ok (.getfield 149, 3) := by decide +kernel
theorem dX12_records_27 : decode cX12_records 27 = .ok (.iload_n 1, 1) := by decide +kernel
theorem dX12_records_28 : decode cX12_records 28 = .ok (.bipush 105, 2) := by decide +kernel
theorem dX12_records_30 : decode cX12_records 30 = .ok (.iadd, 1) := by decide +kernel
theorem dX12_records_31 : decode cX12_records 31 = .ok (.iaload, 1) := by decide +kernel
theorem dX12_records_32 : decode cX12_records 32 = .ok (.iastore, 1) := by decide +kernel
theorem dX12_records_33 : decode cX12_records 33 = .ok (.iinc 1 1, 3) := by decide +kernel
theorem dX12_records_36 : decode cX12_records 36 = .ok (.goto (-25), 3) := by decide +kernel
theorem dX12_records_39 : decode cX12_records 39 = .ok (.aload_n 0, 1) := by decide +kernel
theorem dX12_records_40 : decode cX12_records 40 = .ok (.dup, 1) := by decide +kernel
theorem dX12_records_41 : decode cX12_records 41 = .ok (.getfield 286, 3) := by decide +kernel
theorem dX12_records_44 : decode cX12_records 44 = .ok (.iconst 1, 1) := by decide +kernel
theorem dX12_records_45 : decode cX12_records 45 = .ok (.isub, 1) := by decide +kernel
theorem dX12_records_46 : decode cX12_records 46 = .ok (.putfield 286, 3) := by decide +kernel
theorem dX12_records_49 : decode cX12_records 49 = .ok (.iconst 0, 1) := by decide +kernel
theorem dX12_records_50 : decode cX12_records 50 = .ok (.istore_n 1, 1) := by decide +kernel
theorem dX12_records_51 : decode cX12_records 51 = .ok (.iload_n 1, 1) := by decide +kernel
theorem dX12_records_52 : decode cX12_records 52 = .ok (.bipush 105, 2) := by decide +kernel
theorem dX12_records_54 : decode cX12_records 54 = .ok (.if_icmp .ge 29, 3) := by decide +kernel
theorem dX12_records_57 : decode cX12_records 57 = .ok (.aload_n 0, 1) := by decide +kernel
theorem dX12_records_58 : decode cX12_records 58 = .ok (.getfield 149, 3) := by decide +kernel
theorem dX12_records_61 : decode cX12_records 61 = .ok (.bipush 105, 2) := by decide +kernel
theorem dX12_records_63 : decode cX12_records 63 = .ok (.aload_n 0, 1) := by decide +kernel
theorem dX12_records_64 : decode cX12_records 64 = .ok (.getfield 286, 3) := by decide +kernel
theorem dX12_records_67 : decode cX12_records 67 = .ok (.imul, 1) := by decide +kernel
theorem dX12_records_68 : decode cX12_records 68 = .ok (.iload_n 1, 1) := by decide +kernel
theorem dX12_records_69 : decode cX12_records 69 = .ok (.iadd, 1) := by decide +kernel
theorem dX12_records_70 : decode cX12_records 70 = .ok (.aload_n 0, 1) := by decide +kernel
theorem dX12_records_71 : decode cX12_records 71 = .ok (.getfield 140, 3) := by decide +kernel
theorem dX12_records_74 : decode cX12_records 74 = .ok (.iload_n 1, 1) := by decide +kernel
theorem dX12_records_75 : decode cX12_records 75 = .ok (.iaload, 1) := by decide +kernel
theorem dX12_records_76 : decode cX12_records 76 = .ok (.iastore, 1) := by decide +kernel
theorem dX12_records_77 : decode cX12_records 77 = .ok (.iinc 1 1, 3) := by decide +kernel
theorem dX12_records_80 : decode cX12_records 80 = .ok (.goto (-29), 3) := by decide +kernel
theorem dX12_records_83 : decode cX12_records 83 = .ok (.aload_n 0, 1) := by decide +kernel
theorem dX12_records_84 : decode cX12_records 84 = .ok (.dup, 1) := by decide +kernel
theorem dX12_records_85 : decode cX12_records 85 = .ok (.getfield 286, 3) := by decide +kernel
theorem dX12_records_88 : decode cX12_records 88 = .ok (.iconst 1, 1) := by decide +kernel
theorem dX12_records_89 : decode cX12_records 89 = .ok (.iadd, 1) := by decide +kernel
theorem dX12_records_90 : decode cX12_records 90 = .ok (.putfield 286, 3) := by decide +kernel
theorem dX12_records_93 : decode cX12_records 93 = .ok (.aload_n 0, 1) := by decide +kernel
theorem dX12_records_94 : decode cX12_records 94 = .ok (.invokevirtual 190, 3) := by decide +kernel
theorem dX12_records_97 : decode cX12_records 97 = .ok (.return_, 1) := by decide +kernel
theorem dX12_draw_0 : decode cX12_draw 0 = .ok (.aload_n 0, 1) := by decide +kernel
theorem dX12_draw_1 : decode cX12_draw 1 = .ok (.iload_n 1, 1) := by decide +kernel
theorem dX12_draw_2 : decode cX12_draw 2 = .ok (.invokevirtual 416, 3) := by decide +kernel
theorem dX12_draw_5 : decode cX12_draw 5 = .ok (.ifCond .eq 23, 3) := by decide +kernel
theorem dX12_draw_8 : decode cX12_draw 8 = .ok (.aload_n 0, 1) := by decide +kernel
theorem dX12_draw_9 : decode cX12_draw 9 = .ok (.iload_n 2, 1) := by decide +kernel
theorem dX12_draw_10 : decode cX12_draw 10 = .ok (.iload_n 3, 1) := by decide +kernel
theorem dX12_draw_11 : decode cX12_draw 11 = .ok (.invokevirtual 394, 3) := by decide +kernel
theorem dX12_draw_14 : decode cX12_draw 14 = .ok (.ifCond .eq 14, 3) := by decide +kernel
theorem dX12_draw_17 : decode cX12_draw 17 = .ok (.iload 4, 2) := by decide +kernel
theorem dX12_draw_19 : decode cX12_draw 19 = .ok (.iconst 1, 1) := by decide +kernel
theorem dX12_draw_20 : decode cX12_draw 20 = .ok (.bipush 99, 2) := by decide +kernel
theorem dX12_draw_22 : decode cX12_draw 22 = .ok (.invokestatic 361, 3) := by decide +kernel
theorem dX12_draw_25 : decode cX12_draw 25 = .ok (.ifCond .ne 5, 3) := by decide +kernel
theorem dX12_draw_28 : decode cX12_draw 28 = .ok (.iconst (-1), 1) := by decide +kernel
theorem dX12_draw_29 : decode cX12_draw 29 = .ok (.ireturn, 1) := by decide +kernel
theorem dX12_draw_30 : decode cX12_draw 30 = .ok (.bipush 8, 2) := by decide +kernel
theorem dX12_draw_32 : decode cX12_draw 32 = .ok (.iload_n 3, 1) := by decide +kernel
theorem dX12_draw_33 : decode cX12_draw 33 = .ok (.imul, 1) := by decide +kernel
theorem dX12_draw_34 : decode cX12_draw 34 = .ok (.iload_n 2, 1) := by decide +kernel
theorem dX12_draw_35 : decode cX12_draw 35 = .ok (.iadd, 1) := by decide +kernel
theorem dX12_draw_36 : decode cX12_draw 36 = .ok (.istore 5, 2) := by decide +kernel
theorem dX12_draw_38 : decode cX12_draw 38 = .ok (.aload_n 0, 1) := by decide +kernel
theorem dX12_draw_39 : decode cX12_draw 39 = .ok (.getfield 140, 3) := by decide +kernel
theorem dX12_draw_42 : decode cX12_draw 42 = .ok (.bipush 40, 2) := by decide +kernel
theorem dX12_draw_44 : decode cX12_draw 44 = .ok (.iload 5, 2) := by decide +kernel
theorem dX12_draw_46 : decode cX12_draw 46 = .ok (.iadd, 1) := by decide +kernel
theorem dX12_draw_47 : decode cX12_draw 47 = .ok (.iaload, 1) := by decide +kernel
theorem dX12_draw_48 : decode cX12_draw 48 = .ok (.iload_n 1, 1) := by decide +kernel
theorem dX12_draw_49 : decode cX12_draw 49 = .ok (.if_icmp .ne 32, 3) := by decide +kernel
theorem dX12_draw_52 : decode cX12_draw 52 = .ok (.aload_n 0, 1) := by decide +kernel
theorem dX12_draw_53 : decode cX12_draw 53 = .ok (.getfield 140, 3) := by decide +kernel
theorem dX12_draw_56 : decode cX12_draw 56 = .ok (.bipush 80, 2) := by decide +kernel
theorem dX12_draw_58 : decode cX12_draw 58 = .ok (.iload_n 1, 1) := by decide +kernel
theorem dX12_draw_59 : decode cX12_draw 59 = .ok (.iadd, 1) := by decide +kernel
theorem dX12_draw_60 : decode cX12_draw 60 = .ok (.iaload, 1) := by decide +kernel
theorem dX12_draw_61 : decode cX12_draw 61 = .ok (.iload 4, 2) := by decide +kernel
theorem dX12_draw_63 : decode cX12_draw 63 = .ok (.if_icmp .lt 18, 3) := by decide +kernel
theorem dX12_draw_66 : decode cX12_draw 66 = .ok (.aload_n 0, 1) := by decide +kernel
theorem dX12_draw_67 : decode cX12_draw 67 = .ok (.getfield 140, 3) := by decide +kernel
theorem dX12_draw_70 : decode cX12_draw 70 = .ok (.iload 5, 2) := by decide +kernel
theorem dX12_draw_72 : decode cX12_draw 72 = .ok (.iaload, 1) := by decide +kernel
theorem dX12_draw_73 : decode cX12_draw 73 = .ok (.iload 4, 2) := by decide +kernel
theorem dX12_draw_75 : decode cX12_draw 75 = .ok (.iadd, 1) := by decide +kernel
theorem dX12_draw_76 : decode cX12_draw 76 = .ok (.bipush 99, 2) := by decide +kernel
theorem dX12_draw_78 : decode cX12_draw 78 = .ok (.if_icmp .le 6, 3) := by decide +kernel
theorem dX12_draw_81 : decode cX12_draw 81 = .ok (.bipush (-2), 2) := by decide +kernel
theorem dX12_draw_83 : decode cX12_draw 83 = .ok (.ireturn, 1) := by decide +kernel
theorem dX12_draw_84 : decode cX12_draw 84 = .ok (.aload_n 0, 1) := by decide +kernel
theorem dX12_draw_85 : decode cX12_draw 85 = .ok (.invokevirtual 413, 3) := by decide +kernel
theorem dX12_draw_88 : decode cX12_draw 88 = .ok (.aload_n 0, 1) := by decide +kernel
theorem dX12_draw_89 : decode cX12_draw 89 = .ok (.getfield 143, 3) := by decide +kernel
theorem dX12_draw_92 : decode cX12_draw 92 = .ok (.iload 5, 2) := by decide +kernel
theorem dX12_draw_94 : decode cX12_draw 94 = .ok (.dup2, 1) := by decide +kernel
theorem dX12_draw_95 : decode cX12_draw 95 = .ok (.iaload, 1) := by decide +kernel
theorem dX12_draw_96 : decode cX12_draw 96 = .ok (.iload 4, 2) := by decide +kernel
theorem dX12_draw_98 : decode cX12_draw 98 = .ok (.iadd, 1) := by decide +kernel
theorem dX12_draw_99 : decode cX12_draw 99 = .ok (.iastore, 1) := by decide +kernel
theorem dX12_draw_100 : decode cX12_draw 100 = .ok (.aload_n 0, 1) := by decide +kernel
theorem dX12_draw_101 : decode cX12_draw 101 = .ok (.getfield 143, 3) := by decide +kernel
theorem dX12_draw_104 : decode cX12_draw 104 = .ok (.bipush 80, 2) := by decide +kernel
theorem dX12_draw_106 : decode cX12_draw 106 = .ok (.iload_n 1, 1) := by decide +kernel
theorem dX12_draw_107 : decode cX12_draw 107 = .ok (.iadd, 1) := by decide +kernel
theorem dX12_draw_108 : decode cX12_draw 108 = .ok (.dup2, 1) := by decide +kernel
theorem dX12_draw_109 : decode cX12_draw 109 = .ok (.iaload, 1) := by decide +kernel
theorem dX12_draw_110 : decode cX12_draw 110 = .ok (.iload 4, 2) := by decide +kernel
theorem dX12_draw_112 : decode cX12_draw 112 = .ok (.isub, 1) := by decide +kernel
theorem dX12_draw_113 : decode cX12_draw 113 = .ok (.iastore, 1) := by decide +kernel
theorem dX12_draw_114 : decode cX12_draw 114 = .ok (.aload_n 0, 1) := by decide +kernel
theorem dX12_draw_115 : decode cX12_draw 115 = .ok (.getfield 143, 3) := by decide +kernel
theorem dX12_draw_118 : decode cX12_draw 118 = .ok (.bipush 84, 2) := by decide +kernel
theorem dX12_draw_120 : decode cX12_draw 120 = .ok (.iload_n 1, 1) := by decide +kernel
theorem dX12_draw_121 : decode cX12_draw 121 = .ok (.iadd, 1) := by decide +kernel
theorem dX12_draw_122 : decode cX12_draw 122 = .ok (.dup2, 1) := by decide +kernel
theorem dX12_draw_123 : decode cX12_draw 123 = .ok (.iaload, 1) := by decide +kernel
theorem dX12_draw_124 : decode cX12_draw 124 = .ok (.iload 4, 2) := by decide +kernel
theorem dX12_draw_126 : decode cX12_draw 126 = .ok (.iadd, 1) := by decide +kernel
theorem dX12_draw_127 : decode cX12_draw 127 = .ok (.iastore, 1) := by decide +kernel
theorem dX12_draw_128 : decode cX12_draw 128 = .ok (.aload_n 0, 1) := by decide +kernel
theorem dX12_draw_129 : decode cX12_draw 129 = .ok (.invokevirtual 435, 3) := by decide +kernel
theorem dX12_draw_132 : decode cX12_draw 132 = .ok (.aload_n 0, 1) := by decide +kernel
theorem dX12_draw_133 : decode cX12_draw 133 = .ok (.getfield 140, 3) := by decide +kernel
theorem dX12_draw_136 : decode cX12_draw 136 = .ok (.iload 5, 2) := by decide +kernel
theorem dX12_draw_138 : decode cX12_draw 138 = .ok (.iaload, 1) := by decide +kernel
theorem dX12_draw_139 : decode cX12_draw 139 = .ok (.ireturn, 1) := by decide +kernel
theorem dX12_lend_0 : decode cX12_lend 0 = .ok (.aload_n 0, 1) := by decide +kernel
theorem dX12_lend_1 : decode cX12_lend 1 = .ok (.iload_n 1, 1) := by decide +kernel
theorem dX12_lend_2 : decode cX12_lend 2 = .ok (.invokevirtual 416, 3) := by decide +kernel
theorem dX12_lend_5 : decode cX12_lend 5 = .ok (.ifCond .eq 27, 3) := by decide +kernel
theorem dX12_lend_8 : decode cX12_lend 8 = .ok (.aload_n 0, 1) := by decide +kernel
theorem dX12_lend_9 : decode cX12_lend 9 = .ok (.iload_n 2, 1) := by decide +kernel
theorem dX12_lend_10 : decode cX12_lend 10 = .ok (.invokevirtual 416, 3) := by decide +kernel
theorem dX12_lend_13 : decode cX12_lend 13 = .ok (.ifCond .eq 19, 3) := by decide +kernel
theorem dX12_lend_16 : decode cX12_lend 16 = .ok (.iload_n 1, 1) := by decide +kernel
theorem dX12_lend_17 : decode cX12_lend 17 = .ok (.iload_n 2, 1) := by decide +kernel
theorem dX12_lend_18 : decode cX12_lend 18 = .ok (.if_icmp .eq 14, 3) := by decide +kernel
theorem dX12_lend_21 : decode cX12_lend 21 = .ok (.iload_n 3, 1) := by decide +kernel
theorem dX12_lend_22 : decode cX12_lend 22 = .ok (.iconst 1, 1) := by decide +kernel
theorem dX12_lend_23 : decode cX12_lend 23 = .ok (.sipush 999, 3) := by decide +kernel
theorem dX12_lend_26 : decode cX12_lend 26 = .ok (.invokestatic 361, 3) := by decide +kernel
theorem dX12_lend_29 : decode cX12_lend 29 = .ok (.ifCond .ne 5, 3) := by decide +kernel
theorem dX12_lend_32 : decode cX12_lend 32 = .ok (.iconst (-1), 1) := by decide +kernel
theorem dX12_lend_33 : decode cX12_lend 33 = .ok (.ireturn, 1) := by decide +kernel
theorem dX12_lend_34 : decode cX12_lend 34 = .ok (.aload_n 0, 1) := by decide +kernel
theorem dX12_lend_35 : decode cX12_lend 35 = .ok (.getfield 140, 3) := by decide +kernel
theorem dX12_lend_38 : decode cX12_lend 38 = .ok (.bipush 80, 2) := by decide +kernel
theorem dX12_lend_40 : decode cX12_lend 40 = .ok (.iload_n 1, 1) := by decide +kernel
theorem dX12_lend_41 : decode cX12_lend 41 = .ok (.iadd, 1) := by decide +kernel
theorem dX12_lend_42 : decode cX12_lend 42 = .ok (.iaload, 1) := by decide +kernel
theorem dX12_lend_43 : decode cX12_lend 43 = .ok (.iload_n 3, 1) := by decide +kernel
theorem dX12_lend_44 : decode cX12_lend 44 = .ok (.if_icmp .lt 20, 3) := by decide +kernel
theorem dX12_lend_47 : decode cX12_lend 47 = .ok (.aload_n 0, 1) := by decide +kernel
theorem dX12_lend_48 : decode cX12_lend 48 = .ok (.getfield 140, 3) := by decide +kernel
theorem dX12_lend_51 : decode cX12_lend 51 = .ok (.bipush 80, 2) := by decide +kernel
theorem dX12_lend_53 : decode cX12_lend 53 = .ok (.iload_n 2, 1) := by decide +kernel
theorem dX12_lend_54 : decode cX12_lend 54 = .ok (.iadd, 1) := by decide +kernel
theorem dX12_lend_55 : decode cX12_lend 55 = .ok (.iaload, 1) := by decide +kernel
theorem dX12_lend_56 : decode cX12_lend 56 = .ok (.iload_n 3, 1) := by decide +kernel
theorem dX12_lend_57 : decode cX12_lend 57 = .ok (.iadd, 1) := by decide +kernel
theorem dX12_lend_58 : decode cX12_lend 58 = .ok (.sipush 999, 3) := by decide +kernel
theorem dX12_lend_61 : decode cX12_lend 61 = .ok (.if_icmp .le 6, 3) := by decide +kernel
theorem dX12_lend_64 : decode cX12_lend 64 = .ok (.bipush (-2), 2) := by decide +kernel
theorem dX12_lend_66 : decode cX12_lend 66 = .ok (.ireturn, 1) := by decide +kernel
theorem dX12_lend_67 : decode cX12_lend 67 = .ok (.aload_n 0, 1) := by decide +kernel
theorem dX12_lend_68 : decode cX12_lend 68 = .ok (.invokevirtual 413, 3) := by decide +kernel
theorem dX12_lend_71 : decode cX12_lend 71 = .ok (.aload_n 0, 1) := by decide +kernel
theorem dX12_lend_72 : decode cX12_lend 72 = .ok (.getfield 143, 3) := by decide +kernel
theorem dX12_lend_75 : decode cX12_lend 75 = .ok (.bipush 80, 2) := by decide +kernel
theorem dX12_lend_77 : decode cX12_lend 77 = .ok (.iload_n 1, 1) := by decide +kernel
theorem dX12_lend_78 : decode cX12_lend 78 = .ok (.iadd, 1) := by decide +kernel
theorem dX12_lend_79 : decode cX12_lend 79 = .ok (.dup2, 1) := by decide +kernel
theorem dX12_lend_80 : decode cX12_lend 80 = .ok (.iaload, 1) := by decide +kernel
theorem dX12_lend_81 : decode cX12_lend 81 = .ok (.iload_n 3, 1) := by decide +kernel
theorem dX12_lend_82 : decode cX12_lend 82 = .ok (.isub, 1) := by decide +kernel
theorem dX12_lend_83 : decode cX12_lend 83 = .ok (.iastore, 1) := by decide +kernel
theorem dX12_lend_84 : decode cX12_lend 84 = .ok (.aload_n 0, 1) := by decide +kernel
theorem dX12_lend_85 : decode cX12_lend 85 = .ok (.getfield 143, 3) := by decide +kernel
theorem dX12_lend_88 : decode cX12_lend 88 = .ok (.bipush 80, 2) := by decide +kernel
theorem dX12_lend_90 : decode cX12_lend 90 = .ok (.iload_n 2, 1) := by decide +kernel
theorem dX12_lend_91 : decode cX12_lend 91 = .ok (.iadd, 1) := by decide +kernel
theorem dX12_lend_92 : decode cX12_lend 92 = .ok (.dup2, 1) := by decide +kernel
theorem dX12_lend_93 : decode cX12_lend 93 = .ok (.iaload, 1) := by decide +kernel
theorem dX12_lend_94 : decode cX12_lend 94 = .ok (.iload_n 3, 1) := by decide +kernel
theorem dX12_lend_95 : decode cX12_lend 95 = .ok (.iadd, 1) := by decide +kernel
theorem dX12_lend_96 : decode cX12_lend 96 = .ok (.iastore, 1) := by decide +kernel
theorem dX12_lend_97 : decode cX12_lend 97 = .ok (.aload_n 0, 1) := by decide +kernel
theorem dX12_lend_98 : decode cX12_lend 98 = .ok (.getfield 143, 3) := by decide +kernel
theorem dX12_lend_101 : decode cX12_lend 101 = .ok (.bipush 88, 2) := by decide +kernel
theorem dX12_lend_103 : decode cX12_lend 103 = .ok (.iconst 4, 1) := by decide +kernel
theorem dX12_lend_104 : decode cX12_lend 104 = .ok (.iload_n 1, 1) := by decide +kernel
theorem dX12_lend_105 : decode cX12_lend 105 = .ok (.imul, 1) := by decide +kernel
theorem dX12_lend_106 : decode cX12_lend 106 = .ok (.iadd, 1) := by decide +kernel
theorem dX12_lend_107 : decode cX12_lend 107 = .ok (.iload_n 2, 1) := by decide +kernel
theorem dX12_lend_108 : decode cX12_lend 108 = .ok (.iadd, 1) := by decide +kernel
theorem dX12_lend_109 : decode cX12_lend 109 = .ok (.dup2, 1) := by decide +kernel
theorem dX12_lend_110 : decode cX12_lend 110 = .ok (.iaload, 1) := by decide +kernel
theorem dX12_lend_111 : decode cX12_lend 111 = .ok (.iload_n 3, 1) := by decide +kernel
theorem dX12_lend_112 : decode cX12_lend 112 = .ok (.iadd, 1) := by decide +kernel
theorem dX12_lend_113 : decode cX12_lend 113 = .ok (.iastore, 1) := by decide +kernel
theorem dX12_lend_114 : decode cX12_lend 114 = .ok (.aload_n 0, 1) := by decide +kernel
theorem dX12_lend_115 : decode cX12_lend 115 = .ok (.invokevirtual 435, 3) := by decide +kernel
theorem dX12_lend_118 : decode cX12_lend 118 = .ok (.aload_n 0, 1) := by decide +kernel
theorem dX12_lend_119 : decode cX12_lend 119 = .ok (.getfield 140, 3) := by decide +kernel
theorem dX12_lend_122 : decode cX12_lend 122 = .ok (.bipush 80, 2) := by decide +kernel
theorem dX12_lend_124 : decode cX12_lend 124 = .ok (.iload_n 1, 1) := by decide +kernel
theorem dX12_lend_125 : decode cX12_lend 125 = .ok (.iadd, 1) := by decide +kernel
theorem dX12_lend_126 : decode cX12_lend 126 = .ok (.iaload, 1) := by decide +kernel
theorem dX12_lend_127 : decode cX12_lend 127 = .ok (.ireturn, 1) := by decide +kernel
theorem dX12_move_0 : decode cX12_move 0 = .ok (.aload_n 0, 1) := by decide +kernel
theorem dX12_move_1 : decode cX12_move 1 = .ok (.iload_n 1, 1) := by decide +kernel
theorem dX12_move_2 : decode cX12_move 2 = .ok (.iload_n 2, 1) := by decide +kernel
theorem dX12_move_3 : decode cX12_move 3 = .ok (.invokevirtual 394, 3) := by decide +kernel
theorem dX12_move_6 : decode cX12_move 6 = .ok (.ifCond .eq 16, 3) := by decide +kernel
theorem dX12_move_9 : decode cX12_move 9 = .ok (.iload_n 3, 1) := by decide +kernel
theorem dX12_move_10 : decode cX12_move 10 = .ok (.iconst (-1), 1) := by decide +kernel
theorem dX12_move_11 : decode cX12_move 11 = .ok (.if_icmp .eq 13, 3) := by decide +kernel
theorem dX12_move_14 : decode cX12_move 14 = .ok (.aload_n 0, 1) := by decide +kernel
theorem dX12_move_15 : decode cX12_move 15 = .ok (.iload_n 3, 1) := by decide +kernel
theorem dX12_move_16 : decode cX12_move 16 = .ok (.invokevirtual 416, 3) := by decide +kernel
theorem dX12_move_19 : decode cX12_move 19 = .ok (.ifCond .ne 5, 3) := by decide +kernel
theorem dX12_move_22 : decode cX12_move 22 = .ok (.iconst 0, 1) := by decide +kernel
theorem dX12_move_23 : decode cX12_move 23 = .ok (.ireturn, 1) := by decide +kernel
theorem dX12_move_24 : decode cX12_move 24 = .ok (.iload_n 3, 1) := by decide +kernel
theorem dX12_move_25 : decode cX12_move 25 = .ok (.iconst (-1), 1) := by decide +kernel
theorem dX12_move_26 : decode cX12_move 26 = .ok (.if_icmp .ne 8, 3) := by decide +kernel
theorem dX12_move_29 : decode cX12_move 29 = .ok (.bipush 9, 2) := by decide +kernel
theorem dX12_move_31 : decode cX12_move 31 = .ok (.goto 4, 3) := by decide +kernel
theorem dX12_move_34 : decode cX12_move 34 = .ok (.iload_n 3, 1) := by decide +kernel
theorem dX12_move_35 : decode cX12_move 35 = .ok (.istore 4, 2) := by decide +kernel
theorem dX12_move_37 : decode cX12_move 37 = .ok (.aload_n 0, 1) := by decide +kernel
theorem dX12_move_38 : decode cX12_move 38 = .ok (.getfield 140, 3) := by decide +kernel
theorem dX12_move_41 : decode cX12_move 41 = .ok (.bipush 40, 2) := by decide +kernel
theorem dX12_move_43 : decode cX12_move 43 = .ok (.bipush 8, 2) := by decide +kernel
theorem dX12_move_45 : decode cX12_move 45 = .ok (.iload_n 2, 1) := by decide +kernel
theorem dX12_move_46 : decode cX12_move 46 = .ok (.imul, 1) := by decide +kernel
theorem dX12_move_47 : decode cX12_move 47 = .ok (.iadd, 1) := by decide +kernel
theorem dX12_move_48 : decode cX12_move 48 = .ok (.iload_n 1, 1) := by decide +kernel
theorem dX12_move_49 : decode cX12_move 49 = .ok (.iadd, 1) := by decide +kernel
theorem dX12_move_50 : decode cX12_move 50 = .ok (.iaload, 1) := by decide +kernel
theorem dX12_move_51 : decode cX12_move 51 = .ok (.iload 4, 2) := by decide +kernel
theorem dX12_move_53 : decode cX12_move 53 = .ok (.if_icmp .ne 5, 3) := by decide +kernel
theorem dX12_move_56 : decode cX12_move 56 = .ok (.iconst 0, 1) := by decide +kernel
theorem dX12_move_57 : decode cX12_move 57 = .ok (.ireturn, 1) := by decide +kernel
theorem dX12_move_58 : decode cX12_move 58 = .ok (.aload_n 0, 1) := by decide +kernel
theorem dX12_move_59 : decode cX12_move 59 = .ok (.invokevirtual 413, 3) := by decide +kernel
theorem dX12_move_62 : decode cX12_move 62 = .ok (.aload_n 0, 1) := by decide +kernel
theorem dX12_move_63 : decode cX12_move 63 = .ok (.getfield 143, 3) := by decide +kernel
theorem dX12_move_66 : decode cX12_move 66 = .ok (.bipush 40, 2) := by decide +kernel
theorem dX12_move_68 : decode cX12_move 68 = .ok (.bipush 8, 2) := by decide +kernel
theorem dX12_move_70 : decode cX12_move 70 = .ok (.iload_n 2, 1) := by decide +kernel
theorem dX12_move_71 : decode cX12_move 71 = .ok (.imul, 1) := by decide +kernel
theorem dX12_move_72 : decode cX12_move 72 = .ok (.iadd, 1) := by decide +kernel
theorem dX12_move_73 : decode cX12_move 73 = .ok (.iload_n 1, 1) := by decide +kernel
theorem dX12_move_74 : decode cX12_move 74 = .ok (.iadd, 1) := by decide +kernel
theorem dX12_move_75 : decode cX12_move 75 = .ok (.iload 4, 2) := by decide +kernel
theorem dX12_move_77 : decode cX12_move 77 = .ok (.iastore, 1) := by decide +kernel
theorem dX12_move_78 : decode cX12_move 78 = .ok (.aload_n 0, 1) := by decide +kernel
theorem dX12_move_79 : decode cX12_move 79 = .ok (.invokevirtual 435, 3) := by decide +kernel
theorem dX12_move_82 : decode cX12_move 82 = .ok (.iconst 1, 1) := by decide +kernel
theorem dX12_move_83 : decode cX12_move 83 = .ok (.ireturn, 1) := by decide +kernel
theorem dX12_hours_0 : decode cX12_hours 0 = .ok (.iload_n 1, 1) := by decide +kernel
theorem dX12_hours_1 : decode cX12_hours 1 = .ok (.iconst 0, 1) := by decide +kernel
theorem dX12_hours_2 : decode cX12_hours 2 = .ok (.bipush 48, 2) := by decide +kernel
theorem dX12_hours_4 : decode cX12_hours 4 = .ok (.invokestatic 361, 3) := by decide +kernel
theorem dX12_hours_7 : decode cX12_hours 7 = .ok (.ifCond .ne 5, 3) := by decide +kernel
theorem dX12_hours_10 : decode cX12_hours 10 = .ok (.iconst (-1), 1) := by decide +kernel
theorem dX12_hours_11 : decode cX12_hours 11 = .ok (.ireturn, 1) := by decide +kernel
theorem dX12_hours_12 : decode cX12_hours 12 = .ok (.iload_n 1, 1) := by decide +kernel
theorem dX12_hours_13 : decode cX12_hours 13 = .ok (.ifCond .ne 11, 3) := by decide +kernel
theorem dX12_hours_16 : decode cX12_hours 16 = .ok (.aload_n 0, 1) := by decide +kernel
theorem dX12_hours_17 : decode cX12_hours 17 = .ok (.getfield 140, 3) := by decide +kernel
theorem dX12_hours_20 : decode cX12_hours 20 = .ok (.bipush 104, 2) := by decide +kernel
theorem dX12_hours_22 : decode cX12_hours 22 = .ok (.iaload, 1) := by decide +kernel
theorem dX12_hours_23 : decode cX12_hours 23 = .ok (.ireturn, 1) := by decide +kernel
theorem dX12_hours_24 : decode cX12_hours 24 = .ok (.aload_n 0, 1) := by decide +kernel
theorem dX12_hours_25 : decode cX12_hours 25 = .ok (.invokevirtual 413, 3) := by decide +kernel
theorem dX12_hours_28 : decode cX12_hours 28 = .ok (.aload_n 0, 1) := by decide +kernel
theorem dX12_hours_29 : decode cX12_hours 29 = .ok (.iload_n 1, 1) := by decide +kernel
theorem dX12_hours_30 : decode cX12_hours 30 = .ok (.invokevirtual 438, 3) := by decide +kernel
theorem dX12_hours_33 : decode cX12_hours 33 = .ok (.aload_n 0, 1) := by decide +kernel
theorem dX12_hours_34 : decode cX12_hours 34 = .ok (.invokevirtual 435, 3) := by decide +kernel
theorem dX12_hours_37 : decode cX12_hours 37 = .ok (.aload_n 0, 1) := by decide +kernel
theorem dX12_hours_38 : decode cX12_hours 38 = .ok (.getfield 140, 3) := by decide +kernel
theorem dX12_hours_41 : decode cX12_hours 41 = .ok (.bipush 104, 2) := by decide +kernel
theorem dX12_hours_43 : decode cX12_hours 43 = .ok (.iaload, 1) := by decide +kernel
theorem dX12_hours_44 : decode cX12_hours 44 = .ok (.ireturn, 1) := by decide +kernel
theorem dX12_undo_0 : decode cX12_undo 0 = .ok (.aload_n 0, 1) := by decide +kernel
theorem dX12_undo_1 : decode cX12_undo 1 = .ok (.getfield 286, 3) := by decide +kernel
theorem dX12_undo_4 : decode cX12_undo 4 = .ok (.ifCond .ne 5, 3) := by decide +kernel
theorem dX12_undo_7 : decode cX12_undo 7 = .ok (.iconst 0, 1) := by decide +kernel
theorem dX12_undo_8 : decode cX12_undo 8 = .ok (.ireturn, 1) := by decide +kernel
theorem dX12_undo_9 : decode cX12_undo 9 = .ok (.aload_n 0, 1) := by decide +kernel
theorem dX12_undo_10 : decode cX12_undo 10 = .ok (.dup, 1) := by decide +kernel
theorem dX12_undo_11 : decode cX12_undo 11 = .ok (.getfield 286, 3) := by decide +kernel
theorem dX12_undo_14 : decode cX12_undo 14 = .ok (.iconst 1, 1) := by decide +kernel
theorem dX12_undo_15 : decode cX12_undo 15 = .ok (.isub, 1) := by decide +kernel
theorem dX12_undo_16 : decode cX12_undo 16 = .ok (.putfield 286, 3) := by decide +kernel
theorem dX12_undo_19 : decode cX12_undo 19 = .ok (.iconst 0, 1) := by decide +kernel
theorem dX12_undo_20 : decode cX12_undo 20 = .ok (.istore_n 1, 1) := by decide +kernel
theorem dX12_undo_21 : decode cX12_undo 21 = .ok (.iload_n 1, 1) := by decide +kernel
theorem dX12_undo_22 : decode cX12_undo 22 = .ok (.bipush 105, 2) := by decide +kernel
theorem dX12_undo_24 : decode cX12_undo 24 = .ok (.if_icmp .ge 29, 3) := by decide +kernel
theorem dX12_undo_27 : decode cX12_undo 27 = .ok (.aload_n 0, 1) := by decide +kernel
theorem dX12_undo_28 : decode cX12_undo 28 = .ok (.getfield 140, 3) := by decide +kernel
theorem dX12_undo_31 : decode cX12_undo 31 = .ok (.iload_n 1, 1) := by decide +kernel
theorem dX12_undo_32 : decode cX12_undo 32 = .ok (.aload_n 0, 1) := by decide +kernel
theorem dX12_undo_33 : decode cX12_undo 33 = .ok (.getfield 149, 3) := by decide +kernel
theorem dX12_undo_36 : decode cX12_undo 36 = .ok (.bipush 105, 2) := by decide +kernel
theorem dX12_undo_38 : decode cX12_undo 38 = .ok (.aload_n 0, 1) := by decide +kernel
theorem dX12_undo_39 : decode cX12_undo 39 = .ok (.getfield 286, 3) := by decide +kernel
theorem dX12_undo_42 : decode cX12_undo 42 = .ok (.imul, 1) := by decide +kernel
theorem dX12_undo_43 : decode cX12_undo 43 = .ok (.iload_n 1, 1) := by decide +kernel
theorem dX12_undo_44 : decode cX12_undo 44 = .ok (.iadd, 1) := by decide +kernel
theorem dX12_undo_45 : decode cX12_undo 45 = .ok (.iaload, 1) := by decide +kernel
theorem dX12_undo_46 : decode cX12_undo 46 = .ok (.iastore, 1) := by decide +kernel
theorem dX12_undo_47 : decode cX12_undo 47 = .ok (.iinc 1 1, 3) := by decide +kernel
theorem dX12_undo_50 : decode cX12_undo 50 = .ok (.goto (-29), 3) := by decide +kernel
theorem dX12_undo_53 : decode cX12_undo 53 = .ok (.iconst 1, 1) := by decide +kernel
theorem dX12_undo_54 : decode cX12_undo 54 = .ok (.ireturn, 1) := by decide +kernel
theorem dX12_isLong_0 : decode cX12_isLong 0 = .ok (.iload_n 0, 1) := by decide +kernel
theorem dX12_isLong_1 : decode cX12_isLong 1 = .ok (.iconst 0, 1) := by decide +kernel
theorem dX12_isLong_2 : decode cX12_isLong 2 = .ok (.bipush 72, 2) := by decide +kernel
theorem dX12_isLong_4 : decode cX12_isLong 4 = .ok (.invokestatic 361, 3) := by decide +kernel
theorem dX12_isLong_7 : decode cX12_isLong 7 = .ok (.ireturn, 1) := by decide +kernel
theorem dX12_fogAll_0 : decode cX12_fogAll 0 = .ok (.iconst 0, 1) := by decide +kernel
theorem dX12_fogAll_1 : decode cX12_fogAll 1 = .ok (.istore_n 1, 1) := by decide +kernel
theorem dX12_fogAll_2 : decode cX12_fogAll 2 = .ok (.iconst 0, 1) := by decide +kernel
theorem dX12_fogAll_3 : decode cX12_fogAll 3 = .ok (.istore_n 2, 1) := by decide +kernel
theorem dX12_fogAll_4 : decode cX12_fogAll 4 = .ok (.iload_n 2, 1) := by decide +kernel
theorem dX12_fogAll_5 : decode cX12_fogAll 5 = .ok (.bipush 40, 2) := by decide +kernel
theorem dX12_fogAll_7 : decode cX12_fogAll 7 = .ok (.if_icmp .ge 18, 3) := by decide +kernel
theorem dX12_fogAll_10 : decode cX12_fogAll 10 = .ok (.iload_n 1, 1) := by decide +kernel
theorem dX12_fogAll_11 : decode cX12_fogAll 11 = .ok (.aload_n 0, 1) := by decide +kernel
theorem dX12_fogAll_12 : decode cX12_fogAll 12 = .ok (.getfield 143, 3) := by decide +kernel
theorem dX12_fogAll_15 : decode cX12_fogAll 15 = .ok (.iload_n 2, 1) := by decide +kernel
theorem dX12_fogAll_16 : decode cX12_fogAll 16 = .ok (.iaload, 1) := by decide +kernel
theorem dX12_fogAll_17 : decode cX12_fogAll 17 = .ok (.iadd, 1) := by decide +kernel
theorem dX12_fogAll_18 : decode cX12_fogAll 18 = .ok (.istore_n 1, 1) := by decide +kernel
theorem dX12_fogAll_19 : decode cX12_fogAll 19 = .ok (.iinc 2 1, 3) := by decide +kernel
theorem dX12_fogAll_22 : decode cX12_fogAll 22 = .ok (.goto (-18), 3) := by decide +kernel
theorem dX12_fogAll_25 : decode cX12_fogAll 25 = .ok (.iload_n 1, 1) := by decide +kernel
theorem dX12_fogAll_26 : decode cX12_fogAll 26 = .ok (.ireturn, 1) := by decide +kernel
theorem dX12_then_0 : decode cX12_then 0 = .ok (.aload_n 0, 1) := by decide +kernel
theorem dX12_then_1 : decode cX12_then 1 = .ok (.iload_n 1, 1) := by decide +kernel
theorem dX12_then_2 : decode cX12_then 2 = .ok (.iload_n 2, 1) := by decide +kernel
theorem dX12_then_3 : decode cX12_then 3 = .ok (.invokevirtual 394, 3) := by decide +kernel
theorem dX12_then_6 : decode cX12_then 6 = .ok (.ifCond .eq 10, 3) := by decide +kernel
theorem dX12_then_9 : decode cX12_then 9 = .ok (.iload_n 3, 1) := by decide +kernel
theorem dX12_then_10 : decode cX12_then 10 = .ok (.invokestatic 441, 3) := by decide +kernel
theorem dX12_then_13 : decode cX12_then 13 = .ok (.ifCond .ne 5, 3) := by decide +kernel
theorem dX12_then_16 : decode cX12_then 16 = .ok (.iconst (-1), 1) := by decide +kernel
theorem dX12_then_17 : decode cX12_then 17 = .ok (.ireturn, 1) := by decide +kernel
theorem dX12_then_18 : decode cX12_then 18 = .ok (.aload_n 0, 1) := by decide +kernel
theorem dX12_then_19 : decode cX12_then 19 = .ok (.invokevirtual 413, 3) := by decide +kernel
theorem dX12_then_22 : decode cX12_then 22 = .ok (.aload_n 0, 1) := by decide +kernel
theorem dX12_then_23 : decode cX12_then 23 = .ok (.iload_n 3, 1) := by decide +kernel
theorem dX12_then_24 : decode cX12_then 24 = .ok (.invokevirtual 438, 3) := by decide +kernel
theorem dX12_then_27 : decode cX12_then 27 = .ok (.aload_n 0, 1) := by decide +kernel
theorem dX12_then_28 : decode cX12_then 28 = .ok (.getfield 143, 3) := by decide +kernel
theorem dX12_then_31 : decode cX12_then 31 = .ok (.bipush 8, 2) := by decide +kernel
theorem dX12_then_33 : decode cX12_then 33 = .ok (.iload_n 2, 1) := by decide +kernel
theorem dX12_then_34 : decode cX12_then 34 = .ok (.imul, 1) := by decide +kernel
theorem dX12_then_35 : decode cX12_then 35 = .ok (.iload_n 1, 1) := by decide +kernel
theorem dX12_then_36 : decode cX12_then 36 = .ok (.iadd, 1) := by decide +kernel
theorem dX12_then_37 : decode cX12_then 37 = .ok (.iaload, 1) := by decide +kernel
theorem dX12_then_38 : decode cX12_then 38 = .ok (.ireturn, 1) := by decide +kernel
theorem dX12_all_0 : decode cX12_all 0 = .ok (.iload_n 1, 1) := by decide +kernel
theorem dX12_all_1 : decode cX12_all 1 = .ok (.invokestatic 441, 3) := by decide +kernel
theorem dX12_all_4 : decode cX12_all 4 = .ok (.ifCond .eq 24, 3) := by decide +kernel
theorem dX12_all_7 : decode cX12_all 7 = .ok (.iload_n 2, 1) := by decide +kernel
theorem dX12_all_8 : decode cX12_all 8 = .ok (.iconst 0, 1) := by decide +kernel
theorem dX12_all_9 : decode cX12_all 9 = .ok (.iconst 2, 1) := by decide +kernel
theorem dX12_all_10 : decode cX12_all 10 = .ok (.invokestatic 361, 3) := by decide +kernel
theorem dX12_all_13 : decode cX12_all 13 = .ok (.ifCond .eq 15, 3) := by decide +kernel
theorem dX12_all_16 : decode cX12_all 16 = .ok (.iload_n 2, 1) := by decide +kernel
theorem dX12_all_17 : decode cX12_all 17 = .ok (.ifCond .le 13, 3) := by decide +kernel
theorem dX12_all_20 : decode cX12_all 20 = .ok (.aload_n 0, 1) := by decide +kernel
theorem dX12_all_21 : decode cX12_all 21 = .ok (.iload_n 3, 1) := by decide +kernel
theorem dX12_all_22 : decode cX12_all 22 = .ok (.invokevirtual 416, 3) := by decide +kernel
theorem dX12_all_25 : decode cX12_all 25 = .ok (.ifCond .ne 5, 3) := by decide +kernel
theorem dX12_all_28 : decode cX12_all 28 = .ok (.iconst (-1), 1) := by decide +kernel
theorem dX12_all_29 : decode cX12_all 29 = .ok (.ireturn, 1) := by decide +kernel
theorem dX12_all_30 : decode cX12_all 30 = .ok (.aload_n 0, 1) := by decide +kernel
theorem dX12_all_31 : decode cX12_all 31 = .ok (.invokevirtual 413, 3) := by decide +kernel
theorem dX12_all_34 : decode cX12_all 34 = .ok (.aload_n 0, 1) := by decide +kernel
theorem dX12_all_35 : decode cX12_all 35 = .ok (.iload_n 1, 1) := by decide +kernel
theorem dX12_all_36 : decode cX12_all 36 = .ok (.invokevirtual 438, 3) := by decide +kernel
theorem dX12_all_39 : decode cX12_all 39 = .ok (.iload_n 2, 1) := by decide +kernel
theorem dX12_all_40 : decode cX12_all 40 = .ok (.ifCond .ne 10, 3) := by decide +kernel
theorem dX12_all_43 : decode cX12_all 43 = .ok (.aload_n 0, 1) := by decide +kernel
theorem dX12_all_44 : decode cX12_all 44 = .ok (.invokevirtual 444, 3) := by decide +kernel
theorem dX12_all_47 : decode cX12_all 47 = .ok (.goto 25, 3) := by decide +kernel
theorem dX12_all_50 : decode cX12_all 50 = .ok (.iload_n 2, 1) := by decide +kernel
theorem dX12_all_51 : decode cX12_all 51 = .ok (.iconst 1, 1) := by decide +kernel
theorem dX12_all_52 : decode cX12_all 52 = .ok (.if_icmp .ne 11, 3) := by decide +kernel
theorem dX12_all_55 : decode cX12_all 55 = .ok (.aload_n 0, 1) := by decide +kernel
theorem dX12_all_56 : decode cX12_all 56 = .ok (.iload_n 3, 1) := by decide +kernel
theorem dX12_all_57 : decode cX12_all 57 = .ok (.invokevirtual 387, 3) := by decide +kernel
theorem dX12_all_60 : decode cX12_all 60 = .ok (.goto 12, 3) := by decide +kernel
theorem dX12_all_63 : decode cX12_all 63 = .ok (.aload_n 0, 1) := by decide +kernel
theorem dX12_all_64 : decode cX12_all 64 = .ok (.getfield 143, 3) := by decide +kernel
theorem dX12_all_67 : decode cX12_all 67 = .ok (.bipush 80, 2) := by decide +kernel
theorem dX12_all_69 : decode cX12_all 69 = .ok (.iload_n 3, 1) := by decide +kernel
theorem dX12_all_70 : decode cX12_all 70 = .ok (.iadd, 1) := by decide +kernel
theorem dX12_all_71 : decode cX12_all 71 = .ok (.iaload, 1) := by decide +kernel
theorem dX12_all_72 : decode cX12_all 72 = .ok (.ireturn, 1) := by decide +kernel
theorem dX12_thickest_0 : decode cX12_thickest 0 = .ok (.iload_n 1, 1) := by decide +kernel
theorem dX12_thickest_1 : decode cX12_thickest 1 = .ok (.invokestatic 441, 3) := by decide +kernel
theorem dX12_thickest_4 : decode cX12_thickest 4 = .ok (.ifCond .eq 12, 3) := by decide +kernel
theorem dX12_thickest_7 : decode cX12_thickest 7 = .ok (.iload_n 2, 1) := by decide +kernel
theorem dX12_thickest_8 : decode cX12_thickest 8 = .ok (.iconst 0, 1) := by decide +kernel
theorem dX12_thickest_9 : decode cX12_thickest 9 = .ok (.iconst 1, 1) := by decide +kernel
theorem dX12_thickest_10 : decode cX12_thickest 10 = .ok (.invokestatic 361, 3) := by decide +kernel
theorem dX12_thickest_13 : decode cX12_thickest 13 = .ok (.ifCond .ne 5, 3) := by decide +kernel
theorem dX12_thickest_16 : decode cX12_thickest 16 = .ok (.iconst (-1), 1) := by decide +kernel
theorem dX12_thickest_17 : decode cX12_thickest 17 = .ok (.ireturn, 1) := by decide +kernel
theorem dX12_thickest_18 : decode cX12_thickest 18 = .ok (.aload_n 0, 1) := by decide +kernel
theorem dX12_thickest_19 : decode cX12_thickest 19 = .ok (.invokevirtual 413, 3) := by decide +kernel
theorem dX12_thickest_22 : decode cX12_thickest 22 = .ok (.aload_n 0, 1) := by decide +kernel
theorem dX12_thickest_23 : decode cX12_thickest 23 = .ok (.iload_n 1, 1) := by decide +kernel
theorem dX12_thickest_24 : decode cX12_thickest 24 = .ok (.invokevirtual 438, 3) := by decide +kernel
theorem dX12_thickest_27 : decode cX12_thickest 27 = .ok (.bipush (-2), 2) := by decide +kernel
theorem dX12_thickest_29 : decode cX12_thickest 29 = .ok (.istore_n 3, 1) := by decide +kernel
theorem dX12_thickest_30 : decode cX12_thickest 30 = .ok (.bipush (-2), 2) := by decide +kernel
theorem dX12_thickest_32 : decode cX12_thickest 32 = .ok (.istore 4, 2) := by decide +kernel
theorem dX12_thickest_34 : decode cX12_thickest 34 = .ok (.iconst 0, 1) := by decide +kernel
theorem dX12_thickest_35 : decode cX12_thickest 35 = .ok (.istore 5, 2) := by decide +kernel
theorem dX12_thickest_37 : decode cX12_thickest 37 = .ok (.iload 5, 2) := by decide +kernel
theorem dX12_thickest_39 : decode cX12_thickest 39 = .ok (.aload_n 0, 1) := by decide +kernel
theorem dX12_thickest_40 : decode cX12_thickest 40 = .ok (.getfield 49, 3) := by decide +kernel
theorem dX12_thickest_43 : decode cX12_thickest 43 = .ok (.aload_n 0, 1) := by decide +kernel
theorem dX12_thickest_44 : decode cX12_thickest 44 = .ok (.getfield 260, 3) := by decide +kernel
theorem dX12_thickest_47 : decode cX12_thickest 47 = .ok (.iaload, 1) := by decide +kernel
theorem dX12_thickest_48 : decode cX12_thickest 48 = .ok (.if_icmp .ge 77, 3) := by decide +kernel
theorem dX12_thickest_51 : decode cX12_thickest 51 = .ok (.iconst 0, 1) := by decide +kernel
theorem dX12_thickest_52 : decode cX12_thickest 52 = .ok (.istore 6, 2) := by decide +kernel
theorem dX12_thickest_54 : decode cX12_thickest 54 = .ok (.iload 6, 2) := by decide +kernel
theorem dX12_thickest_56 : decode cX12_thickest 56 = .ok (.aload_n 0, 1) := by decide +kernel
theorem dX12_thickest_57 : decode cX12_thickest 57 = .ok (.getfield 46, 3) := by decide +kernel
theorem dX12_thickest_60 : decode cX12_thickest 60 = .ok (.aload_n 0, 1) := by decide +kernel
theorem dX12_thickest_61 : decode cX12_thickest 61 = .ok (.getfield 260, 3) := by decide +kernel
theorem dX12_thickest_64 : decode cX12_thickest 64 = .ok (.iaload, 1) := by decide +kernel
theorem dX12_thickest_65 : decode cX12_thickest 65 = .ok (.if_icmp .ge 54, 3) := by decide +kernel
theorem dX12_thickest_68 : decode cX12_thickest 68 = .ok (.aload_n 0, 1) := by decide +kernel
theorem dX12_thickest_69 : decode cX12_thickest 69 = .ok (.getfield 143, 3) := by decide +kernel
theorem dX12_thickest_72 : decode cX12_thickest 72 = .ok (.bipush 8, 2) := by decide +kernel
theorem dX12_thickest_74 : decode cX12_thickest 74 = .ok (.iload 5, 2) := by decide +kernel
theorem dX12_thickest_76 : decode cX12_thickest 76 = .ok (.imul, 1) := by decide +kernel
theorem dX12_thickest_77 : decode cX12_thickest 77 = .ok (.iload 6, 2) := by decide +kernel
theorem dX12_thickest_79 : decode cX12_thickest 79 = .ok (.iadd, 1) := by decide +kernel
theorem dX12_thickest_80 : decode cX12_thickest 80 = .ok (.iaload, 1) := by decide +kernel
theorem dX12_thickest_81 : decode cX12_thickest 81 = .ok (.iload 4, 2) := by decide +kernel
theorem dX12_thickest_83 : decode cX12_thickest 83 = .ok (.if_icmp .gt 6, 3) := by decide +kernel
theorem dX12_thickest_86 : decode cX12_thickest 86 = .ok (.goto 27, 3) := by decide +kernel
theorem dX12_thickest_89 : decode cX12_thickest 89 = .ok (.aload_n 0, 1) := by decide +kernel
theorem dX12_thickest_90 : decode cX12_thickest 90 = .ok (.getfield 143, 3) := by decide +kernel
theorem dX12_thickest_93 : decode cX12_thickest 93 = .ok (.bipush 8, 2) := by decide +kernel
theorem dX12_thickest_95 : decode cX12_thickest 95 = .ok (.iload 5, 2) := by decide +kernel
theorem dX12_thickest_97 : decode cX12_thickest 97 = .ok (.imul, 1) := by decide +kernel
theorem dX12_thickest_98 : decode cX12_thickest 98 = .ok (.iload 6, 2) := by decide +kernel
theorem dX12_thickest_100 : decode cX12_thickest 100 = .ok (.iadd, 1) := by decide +kernel
theorem dX12_thickest_101 : decode cX12_thickest 101 = .ok (.iaload, 1) := by decide +kernel
theorem dX12_thickest_102 : decode cX12_thickest 102 = .ok (.istore 4, 2) := by decide +kernel
theorem dX12_thickest_104 : decode cX12_thickest 104 = .ok (.bipush 10, 2) := by decide +kernel
theorem dX12_thickest_106 : decode cX12_thickest 106 = .ok (.iload 5, 2) := by decide +kernel
theorem dX12_thickest_108 : decode cX12_thickest 108 = .ok (.imul, 1) := by decide +kernel
theorem dX12_thickest_109 : decode cX12_thickest 109 = .ok (.iload 6, 2) := by decide +kernel
theorem dX12_thickest_111 : decode cX12_thickest 111 = .ok (.iadd, 1) := by decide +kernel
theorem dX12_thickest_112 : decode cX12_thickest 112 = .ok (.istore_n 3, 1) := by decide +kernel
theorem dX12_thickest_113 : decode cX12_thickest 113 = .ok (.iinc 6 1, 3) := by decide +kernel
theorem dX12_thickest_116 : decode cX12_thickest 116 = .ok (.goto (-62), 3) := by decide +kernel
theorem dX12_thickest_119 : decode cX12_thickest 119 = .ok (.iinc 5 1, 3) := by decide +kernel
theorem dX12_thickest_122 : decode cX12_thickest 122 = .ok (.goto (-85), 3) := by decide +kernel
theorem dX12_thickest_125 : decode cX12_thickest 125 = .ok (.iload_n 2, 1) := by decide +kernel
theorem dX12_thickest_126 : decode cX12_thickest 126 = .ok (.ifCond .ne 8, 3) := by decide +kernel
theorem dX12_thickest_129 : decode cX12_thickest 129 = .ok (.iload 4, 2) := by decide +kernel
theorem dX12_thickest_131 : decode cX12_thickest 131 = .ok (.goto 4, 3) := by decide +kernel
theorem dX12_thickest_134 : decode cX12_thickest 134 = .ok (.iload_n 3, 1) := by decide +kernel
theorem dX12_thickest_135 : decode cX12_thickest 135 = .ok (.ireturn, 1) := by decide +kernel
theorem dX12_isThick_0 : decode cX12_isThick 0 = .ok (.iload_n 0, 1) := by decide +kernel
theorem dX12_isThick_1 : decode cX12_isThick 1 = .ok (.iconst 0, 1) := by decide +kernel
theorem dX12_isThick_2 : decode cX12_isThick 2 = .ok (.bipush 99, 2) := by decide +kernel
theorem dX12_isThick_4 : decode cX12_isThick 4 = .ok (.invokestatic 361, 3) := by decide +kernel
theorem dX12_isThick_7 : decode cX12_isThick 7 = .ok (.ireturn, 1) := by decide +kernel
theorem dX12_hid_0 : decode cX12_hid 0 = .ok (.aload_n 0, 1) := by decide +kernel
theorem dX12_hid_1 : decode cX12_hid 1 = .ok (.iload_n 1, 1) := by decide +kernel
theorem dX12_hid_2 : decode cX12_hid 2 = .ok (.iload_n 2, 1) := by decide +kernel
theorem dX12_hid_3 : decode cX12_hid 3 = .ok (.invokevirtual 394, 3) := by decide +kernel
theorem dX12_hid_6 : decode cX12_hid 6 = .ok (.ifCond .eq 21, 3) := by decide +kernel
theorem dX12_hid_9 : decode cX12_hid 9 = .ok (.iload_n 3, 1) := by decide +kernel
theorem dX12_hid_10 : decode cX12_hid 10 = .ok (.iconst 1, 1) := by decide +kernel
theorem dX12_hid_11 : decode cX12_hid 11 = .ok (.bipush 72, 2) := by decide +kernel
theorem dX12_hid_13 : decode cX12_hid 13 = .ok (.invokestatic 361, 3) := by decide +kernel
theorem dX12_hid_16 : decode cX12_hid 16 = .ok (.ifCond .eq 11, 3) := by decide +kernel
theorem dX12_hid_19 : decode cX12_hid 19 = .ok (.iload 4, 2) := by decide +kernel
theorem dX12_hid_21 : decode cX12_hid 21 = .ok (.invokestatic 447, 3) := by decide +kernel
theorem dX12_hid_24 : decode cX12_hid 24 = .ok (.ifCond .ne 5, 3) := by decide +kernel
theorem dX12_hid_27 : decode cX12_hid 27 = .ok (.iconst (-1), 1) := by decide +kernel
theorem dX12_hid_28 : decode cX12_hid 28 = .ok (.ireturn, 1) := by decide +kernel
theorem dX12_hid_29 : decode cX12_hid 29 = .ok (.aload_n 0, 1) := by decide +kernel
theorem dX12_hid_30 : decode cX12_hid 30 = .ok (.invokevirtual 413, 3) := by decide +kernel
theorem dX12_hid_33 : decode cX12_hid 33 = .ok (.iconst 0, 1) := by decide +kernel
theorem dX12_hid_34 : decode cX12_hid 34 = .ok (.istore 5, 2) := by decide +kernel
theorem dX12_hid_36 : decode cX12_hid 36 = .ok (.iconst 0, 1) := by decide +kernel
theorem dX12_hid_37 : decode cX12_hid 37 = .ok (.istore 6, 2) := by decide +kernel
theorem dX12_hid_39 : decode cX12_hid 39 = .ok (.iload 6, 2) := by decide +kernel
theorem dX12_hid_41 : decode cX12_hid 41 = .ok (.iload_n 3, 1) := by decide +kernel
theorem dX12_hid_42 : decode cX12_hid 42 = .ok (.if_icmp .ge 32, 3) := by decide +kernel
theorem dX12_hid_45 : decode cX12_hid 45 = .ok (.aload_n 0, 1) := by decide +kernel
theorem dX12_hid_46 : decode cX12_hid 46 = .ok (.getfield 143, 3) := by decide +kernel
theorem dX12_hid_49 : decode cX12_hid 49 = .ok (.bipush 8, 2) := by decide +kernel
theorem dX12_hid_51 : decode cX12_hid 51 = .ok (.iload_n 2, 1) := by decide +kernel
theorem dX12_hid_52 : decode cX12_hid 52 = .ok (.imul, 1) := by decide +kernel
theorem dX12_hid_53 : decode cX12_hid 53 = .ok (.iload_n 1, 1) := by decide +kernel
theorem dX12_hid_54 : decode cX12_hid 54 = .ok (.iadd, 1) := by decide +kernel
theorem dX12_hid_55 : decode cX12_hid 55 = .ok (.iaload, 1) := by decide +kernel
theorem dX12_hid_56 : decode cX12_hid 56 = .ok (.iload 4, 2) := by decide +kernel
theorem dX12_hid_58 : decode cX12_hid 58 = .ok (.if_icmp .lt 6, 3) := by decide +kernel
theorem dX12_hid_61 : decode cX12_hid 61 = .ok (.iinc 5 1, 3) := by decide +kernel
theorem dX12_hid_64 : decode cX12_hid 64 = .ok (.aload_n 0, 1) := by decide +kernel
theorem dX12_hid_65 : decode cX12_hid 65 = .ok (.invokevirtual 410, 3) := by decide +kernel
theorem dX12_hid_68 : decode cX12_hid 68 = .ok (.iinc 6 1, 3) := by decide +kernel
theorem dX12_hid_71 : decode cX12_hid 71 = .ok (.goto (-32), 3) := by decide +kernel
theorem dX12_hid_74 : decode cX12_hid 74 = .ok (.iload 5, 2) := by decide +kernel
theorem dX12_hid_76 : decode cX12_hid 76 = .ok (.ireturn, 1) := by decide +kernel
theorem dX12_lost_0 : decode cX12_lost 0 = .ok (.iload_n 1, 1) := by decide +kernel
theorem dX12_lost_1 : decode cX12_lost 1 = .ok (.invokestatic 441, 3) := by decide +kernel
theorem dX12_lost_4 : decode cX12_lost 4 = .ok (.ifCond .ne 5, 3) := by decide +kernel
theorem dX12_lost_7 : decode cX12_lost 7 = .ok (.iconst (-1), 1) := by decide +kernel
theorem dX12_lost_8 : decode cX12_lost 8 = .ok (.ireturn, 1) := by decide +kernel
theorem dX12_lost_9 : decode cX12_lost 9 = .ok (.aload_n 0, 1) := by decide +kernel
theorem dX12_lost_10 : decode cX12_lost 10 = .ok (.invokevirtual 413, 3) := by decide +kernel
theorem dX12_lost_13 : decode cX12_lost 13 = .ok (.aload_n 0, 1) := by decide +kernel
theorem dX12_lost_14 : decode cX12_lost 14 = .ok (.invokevirtual 444, 3) := by decide +kernel
theorem dX12_lost_17 : decode cX12_lost 17 = .ok (.istore_n 2, 1) := by decide +kernel
theorem dX12_lost_18 : decode cX12_lost 18 = .ok (.aload_n 0, 1) := by decide +kernel
theorem dX12_lost_19 : decode cX12_lost 19 = .ok (.iload_n 1, 1) := by decide +kernel
theorem dX12_lost_20 : decode cX12_lost 20 = .ok (.invokevirtual 438, 3) := by decide +kernel
theorem dX12_lost_23 : decode cX12_lost 23 = .ok (.iload_n 2, 1) := by decide +kernel
theorem dX12_lost_24 : decode cX12_lost 24 = .ok (.aload_n 0, 1) := by decide +kernel
theorem dX12_lost_25 : decode cX12_lost 25 = .ok (.invokevirtual 444, 3) := by decide +kernel
theorem dX12_lost_28 : decode cX12_lost 28 = .ok (.isub, 1) := by decide +kernel
theorem dX12_lost_29 : decode cX12_lost 29 = .ok (.ireturn, 1) := by decide +kernel
theorem dX12_isServed_0 : decode cX12_isServed 0 = .ok (.aload_n 0, 1) := by decide +kernel
theorem dX12_isServed_1 : decode cX12_isServed 1 = .ok (.iload_n 1, 1) := by decide +kernel
theorem dX12_isServed_2 : decode cX12_isServed 2 = .ok (.aload_n 0, 1) := by decide +kernel
theorem dX12_isServed_3 : decode cX12_isServed 3 = .ok (.getfield 143, 3) := by decide +kernel
theorem dX12_isServed_6 : decode cX12_isServed 6 = .ok (.bipush 104, 2) := by decide +kernel
theorem dX12_isServed_8 : decode cX12_isServed 8 = .ok (.iaload, 1) := by decide +kernel
theorem dX12_isServed_9 : decode cX12_isServed 9 = .ok (.invokevirtual 432, 3) := by decide +kernel
theorem dX12_isServed_12 : decode cX12_isServed 12 = .ok (.ifCond .ne 5, 3) := by decide +kernel
theorem dX12_isServed_15 : decode cX12_isServed 15 = .ok (.iconst 1, 1) := by decide +kernel
theorem dX12_isServed_16 : decode cX12_isServed 16 = .ok (.ireturn, 1) := by decide +kernel
theorem dX12_isServed_17 : decode cX12_isServed 17 = .ok (.aload_n 0, 1) := by decide +kernel
theorem dX12_isServed_18 : decode cX12_isServed 18 = .ok (.getfield 70, 3) := by decide +kernel
theorem dX12_isServed_21 : decode cX12_isServed 21 = .ok (.bipush 6, 2) := by decide +kernel
theorem dX12_isServed_23 : decode cX12_isServed 23 = .ok (.aload_n 0, 1) := by decide +kernel
theorem dX12_isServed_24 : decode cX12_isServed 24 = .ok (.getfield 260, 3) := by decide +kernel
theorem dX12_isServed_27 : decode cX12_isServed 27 = .ok (.imul, 1) := by decide +kernel
theorem dX12_isServed_28 : decode cX12_isServed 28 = .ok (.iload_n 1, 1) := by decide +kernel
theorem dX12_isServed_29 : decode cX12_isServed 29 = .ok (.iadd, 1) := by decide +kernel
theorem dX12_isServed_30 : decode cX12_isServed 30 = .ok (.iaload, 1) := by decide +kernel
theorem dX12_isServed_31 : decode cX12_isServed 31 = .ok (.istore_n 2, 1) := by decide +kernel
theorem dX12_isServed_32 : decode cX12_isServed 32 = .ok (.iconst 0, 1) := by decide +kernel
theorem dX12_isServed_33 : decode cX12_isServed 33 = .ok (.istore_n 3, 1) := by decide +kernel
theorem dX12_isServed_34 : decode cX12_isServed 34 = .ok (.iload_n 3, 1) := by decide +kernel
theorem dX12_isServed_35 : decode cX12_isServed 35 = .ok (.aload_n 0, 1) := by decide +kernel
theorem dX12_isServed_36 : decode cX12_isServed 36 = .ok (.getfield 49, 3) := by decide +kernel
theorem dX12_isServed_39 : decode cX12_isServed 39 = .ok (.aload_n 0, 1) := by decide +kernel
theorem dX12_isServed_40 : decode cX12_isServed 40 = .ok (.getfield 260, 3) := by decide +kernel
theorem dX12_isServed_43 : decode cX12_isServed 43 = .ok (.iaload, 1) := by decide +kernel
theorem dX12_isServed_44 : decode cX12_isServed 44 = .ok (.if_icmp .ge 82, 3) := by decide +kernel
theorem dX12_isServed_47 : decode cX12_isServed 47 = .ok (.iconst 0, 1) := by decide +kernel
theorem dX12_isServed_48 : decode cX12_isServed 48 = .ok (.istore 4, 2) := by decide +kernel
theorem dX12_isServed_50 : decode cX12_isServed 50 = .ok (.iload 4, 2) := by decide +kernel
theorem dX12_isServed_52 : decode cX12_isServed 52 = .ok (.aload_n 0, 1) := by decide +kernel
theorem dX12_isServed_53 : decode cX12_isServed 53 = .ok (.getfield 46, 3) := by decide +kernel
theorem dX12_isServed_56 : decode cX12_isServed 56 = .ok (.aload_n 0, 1) := by decide +kernel
theorem dX12_isServed_57 : decode cX12_isServed 57 = .ok (.getfield 260, 3) := by decide +kernel
theorem dX12_isServed_60 : decode cX12_isServed 60 = .ok (.iaload, 1) := by decide +kernel
theorem dX12_isServed_61 : decode cX12_isServed 61 = .ok (.if_icmp .ge 59, 3) := by decide +kernel
theorem dX12_isServed_64 : decode cX12_isServed 64 = .ok (.aload_n 0, 1) := by decide +kernel
theorem dX12_isServed_65 : decode cX12_isServed 65 = .ok (.getfield 143, 3) := by decide +kernel
theorem dX12_isServed_68 : decode cX12_isServed 68 = .ok (.bipush 40, 2) := by decide +kernel
theorem dX12_isServed_70 : decode cX12_isServed 70 = .ok (.bipush 8, 2) := by decide +kernel
theorem dX12_isServed_72 : decode cX12_isServed 72 = .ok (.iload_n 3, 1) := by decide +kernel
theorem dX12_isServed_73 : decode cX12_isServed 73 = .ok (.imul, 1) := by decide +kernel
theorem dX12_isServed_74 : decode cX12_isServed 74 = .ok (.iadd, 1) := by decide +kernel
theorem dX12_isServed_75 : decode cX12_isServed 75 = .ok (.iload 4, 2) := by decide +kernel
theorem dX12_isServed_77 : decode cX12_isServed 77 = .ok (.iadd, 1) := by decide +kernel
theorem dX12_isServed_78 : decode cX12_isServed 78 = .ok (.iaload, 1) := by decide +kernel
theorem dX12_isServed_79 : decode cX12_isServed 79 = .ok (.iload_n 2, 1) := by decide +kernel
theorem dX12_isServed_80 : decode cX12_isServed 80 = .ok (.if_icmp .ne 34, 3) := by decide +kernel
theorem dX12_isServed_83 : decode cX12_isServed 83 = .ok (.aload_n 0, 1) := by decide +kernel
theorem dX12_isServed_84 : decode cX12_isServed 84 = .ok (.getfield 143, 3) := by decide +kernel
theorem dX12_isServed_87 : decode cX12_isServed 87 = .ok (.bipush 8, 2) := by decide +kernel
theorem dX12_isServed_89 : decode cX12_isServed 89 = .ok (.iload_n 3, 1) := by decide +kernel
theorem dX12_isServed_90 : decode cX12_isServed 90 = .ok (.imul, 1) := by decide +kernel
theorem dX12_isServed_91 : decode cX12_isServed 91 = .ok (.iload 4, 2) := by decide +kernel
theorem dX12_isServed_93 : decode cX12_isServed 93 = .ok (.iadd, 1) := by decide +kernel
theorem dX12_isServed_94 : decode cX12_isServed 94 = .ok (.iaload, 1) := by decide +kernel
theorem dX12_isServed_95 : decode cX12_isServed 95 = .ok (.aload_n 0, 1) := by decide +kernel
theorem dX12_isServed_96 : decode cX12_isServed 96 = .ok (.getfield 79, 3) := by decide +kernel
theorem dX12_isServed_99 : decode cX12_isServed 99 = .ok (.bipush 6, 2) := by decide +kernel
theorem dX12_isServed_101 : decode cX12_isServed 101 = .ok (.aload_n 0, 1) := by decide +kernel
theorem dX12_isServed_102 : decode cX12_isServed 102 = .ok (.getfield 260, 3) := by decide +kernel
theorem dX12_isServed_105 : decode cX12_isServed 105 = .ok (.imul, 1) := by decide +kernel
theorem dX12_isServed_106 : decode cX12_isServed 106 = .ok (.iload_n 1, 1) := by decide +kernel
theorem dX12_isServed_107 : decode cX12_isServed 107 = .ok (.iadd, 1) := by decide +kernel
theorem dX12_isServed_108 : decode cX12_isServed 108 = .ok (.iaload, 1) := by decide +kernel
theorem dX12_isServed_109 : decode cX12_isServed 109 = .ok (.if_icmp .ge 5, 3) := by decide +kernel
theorem dX12_isServed_112 : decode cX12_isServed 112 = .ok (.iconst 0, 1) := by decide +kernel
theorem dX12_isServed_113 : decode cX12_isServed 113 = .ok (.ireturn, 1) := by decide +kernel
theorem dX12_isServed_114 : decode cX12_isServed 114 = .ok (.iinc 4 1, 3) := by decide +kernel
theorem dX12_isServed_117 : decode cX12_isServed 117 = .ok (.goto (-67), 3) := by decide +kernel
theorem dX12_isServed_120 : decode cX12_isServed 120 = .ok (.iinc 3 1, 3) := by decide +kernel
theorem dX12_isServed_123 : decode cX12_isServed 123 = .ok (.goto (-89), 3) := by decide +kernel
theorem dX12_isServed_126 : decode cX12_isServed 126 = .ok (.aload_n 0, 1) := by decide +kernel
theorem dX12_isServed_127 : decode cX12_isServed 127 = .ok (.iload_n 2, 1) := by decide +kernel
theorem dX12_isServed_128 : decode cX12_isServed 128 = .ok (.invokevirtual 420, 3) := by decide +kernel
theorem dX12_isServed_131 : decode cX12_isServed 131 = .ok (.ifCond .le 7, 3) := by decide +kernel
theorem dX12_isServed_134 : decode cX12_isServed 134 = .ok (.iconst 1, 1) := by decide +kernel
theorem dX12_isServed_135 : decode cX12_isServed 135 = .ok (.goto 4, 3) := by decide +kernel
theorem dX12_isServed_138 : decode cX12_isServed 138 = .ok (.iconst 0, 1) := by decide +kernel
theorem dX12_isServed_139 : decode cX12_isServed 139 = .ok (.ireturn, 1) := by decide +kernel
theorem dX12_served_0 : decode cX12_served 0 = .ok (.aload_n 0, 1) := by decide +kernel
theorem dX12_served_1 : decode cX12_served 1 = .ok (.iload_n 1, 1) := by decide +kernel
theorem dX12_served_2 : decode cX12_served 2 = .ok (.invokevirtual 429, 3) := by decide +kernel
theorem dX12_served_5 : decode cX12_served 5 = .ok (.ifCond .eq 10, 3) := by decide +kernel
theorem dX12_served_8 : decode cX12_served 8 = .ok (.iload_n 2, 1) := by decide +kernel
theorem dX12_served_9 : decode cX12_served 9 = .ok (.invokestatic 441, 3) := by decide +kernel
theorem dX12_served_12 : decode cX12_served 12 = .ok (.ifCond .ne 5, 3) := by decide +kernel
theorem dX12_served_15 : decode cX12_served 15 = .ok (.iconst (-1), 1) := by decide +kernel
theorem dX12_served_16 : decode cX12_served 16 = .ok (.ireturn, 1) := by decide +kernel
theorem dX12_served_17 : decode cX12_served 17 = .ok (.aload_n 0, 1) := by decide +kernel
theorem dX12_served_18 : decode cX12_served 18 = .ok (.invokevirtual 413, 3) := by decide +kernel
theorem dX12_served_21 : decode cX12_served 21 = .ok (.aload_n 0, 1) := by decide +kernel
theorem dX12_served_22 : decode cX12_served 22 = .ok (.iload_n 2, 1) := by decide +kernel
theorem dX12_served_23 : decode cX12_served 23 = .ok (.invokevirtual 438, 3) := by decide +kernel
theorem dX12_served_26 : decode cX12_served 26 = .ok (.aload_n 0, 1) := by decide +kernel
theorem dX12_served_27 : decode cX12_served 27 = .ok (.iload_n 1, 1) := by decide +kernel
theorem dX12_served_28 : decode cX12_served 28 = .ok (.invokevirtual 450, 3) := by decide +kernel
theorem dX12_served_31 : decode cX12_served 31 = .ok (.ifCond .eq 7, 3) := by decide +kernel
theorem dX12_served_34 : decode cX12_served 34 = .ok (.iconst 1, 1) := by decide +kernel
theorem dX12_served_35 : decode cX12_served 35 = .ok (.goto 4, 3) := by decide +kernel
theorem dX12_served_38 : decode cX12_served 38 = .ok (.iconst 0, 1) := by decide +kernel
theorem dX12_served_39 : decode cX12_served 39 = .ok (.ireturn, 1) := by decide +kernel
theorem dX12_missed_0 : decode cX12_missed 0 = .ok (.aload_n 0, 1) := by decide +kernel
theorem dX12_missed_1 : decode cX12_missed 1 = .ok (.iload_n 1, 1) := by decide +kernel
theorem dX12_missed_2 : decode cX12_missed 2 = .ok (.invokevirtual 429, 3) := by decide +kernel
theorem dX12_missed_5 : decode cX12_missed 5 = .ok (.ifCond .eq 13, 3) := by decide +kernel
theorem dX12_missed_8 : decode cX12_missed 8 = .ok (.iload_n 2, 1) := by decide +kernel
theorem dX12_missed_9 : decode cX12_missed 9 = .ok (.iconst 1, 1) := by decide +kernel
theorem dX12_missed_10 : decode cX12_missed 10 = .ok (.bipush 72, 2) := by decide +kernel
theorem dX12_missed_12 : decode cX12_missed 12 = .ok (.invokestatic 361, 3) := by decide +kernel
theorem dX12_missed_15 : decode cX12_missed 15 = .ok (.ifCond .ne 5, 3) := by decide +kernel
theorem dX12_missed_18 : decode cX12_missed 18 = .ok (.iconst (-1), 1) := by decide +kernel
theorem dX12_missed_19 : decode cX12_missed 19 = .ok (.ireturn, 1) := by decide +kernel
theorem dX12_missed_20 : decode cX12_missed 20 = .ok (.aload_n 0, 1) := by decide +kernel
theorem dX12_missed_21 : decode cX12_missed 21 = .ok (.invokevirtual 413, 3) := by decide +kernel
theorem dX12_missed_24 : decode cX12_missed 24 = .ok (.iconst 0, 1) := by decide +kernel
theorem dX12_missed_25 : decode cX12_missed 25 = .ok (.istore_n 3, 1) := by decide +kernel
theorem dX12_missed_26 : decode cX12_missed 26 = .ok (.iconst 0, 1) := by decide +kernel
theorem dX12_missed_27 : decode cX12_missed 27 = .ok (.istore 4, 2) := by decide +kernel
theorem dX12_missed_29 : decode cX12_missed 29 = .ok (.iload 4, 2) := by decide +kernel
theorem dX12_missed_31 : decode cX12_missed 31 = .ok (.iload_n 2, 1) := by decide +kernel
theorem dX12_missed_32 : decode cX12_missed 32 = .ok (.if_icmp .ge 24, 3) := by decide +kernel
theorem dX12_missed_35 : decode cX12_missed 35 = .ok (.aload_n 0, 1) := by decide +kernel
theorem dX12_missed_36 : decode cX12_missed 36 = .ok (.iload_n 1, 1) := by decide +kernel
theorem dX12_missed_37 : decode cX12_missed 37 = .ok (.invokevirtual 450, 3) := by decide +kernel
theorem dX12_missed_40 : decode cX12_missed 40 = .ok (.ifCond .ne 6, 3) := by decide +kernel
theorem dX12_missed_43 : decode cX12_missed 43 = .ok (.iinc 3 1, 3) := by decide +kernel
theorem dX12_missed_46 : decode cX12_missed 46 = .ok (.aload_n 0, 1) := by decide +kernel
theorem dX12_missed_47 : decode cX12_missed 47 = .ok (.invokevirtual 410, 3) := by decide +kernel
theorem dX12_missed_50 : decode cX12_missed 50 = .ok (.iinc 4 1, 3) := by decide +kernel
theorem dX12_missed_53 : decode cX12_missed 53 = .ok (.goto (-24), 3) := by decide +kernel
theorem dX12_missed_56 : decode cX12_missed 56 = .ok (.iload_n 3, 1) := by decide +kernel
theorem dX12_missed_57 : decode cX12_missed 57 = .ok (.ireturn, 1) := by decide +kernel
theorem dX12_over_0 : decode cX12_over 0 = .ok (.aload_n 0, 1) := by decide +kernel
theorem dX12_over_1 : decode cX12_over 1 = .ok (.invokevirtual 413, 3) := by decide +kernel
theorem dX12_over_4 : decode cX12_over 4 = .ok (.iconst 0, 1) := by decide +kernel
theorem dX12_over_5 : decode cX12_over 5 = .ok (.istore_n 1, 1) := by decide +kernel
theorem dX12_over_6 : decode cX12_over 6 = .ok (.iconst 0, 1) := by decide +kernel
theorem dX12_over_7 : decode cX12_over 7 = .ok (.istore_n 2, 1) := by decide +kernel
theorem dX12_over_8 : decode cX12_over 8 = .ok (.iload_n 2, 1) := by decide +kernel
theorem dX12_over_9 : decode cX12_over 9 = .ok (.aload_n 0, 1) := by decide +kernel
theorem dX12_over_10 : decode cX12_over 10 = .ok (.getfield 58, 3) := by decide +kernel
theorem dX12_over_13 : decode cX12_over 13 = .ok (.aload_n 0, 1) := by decide +kernel
theorem dX12_over_14 : decode cX12_over 14 = .ok (.getfield 260, 3) := by decide +kernel
theorem dX12_over_17 : decode cX12_over 17 = .ok (.iaload, 1) := by decide +kernel
theorem dX12_over_18 : decode cX12_over 18 = .ok (.if_icmp .ge 23, 3) := by decide +kernel
theorem dX12_over_21 : decode cX12_over 21 = .ok (.aload_n 0, 1) := by decide +kernel
theorem dX12_over_22 : decode cX12_over 22 = .ok (.iload_n 2, 1) := by decide +kernel
theorem dX12_over_23 : decode cX12_over 23 = .ok (.invokevirtual 423, 3) := by decide +kernel
theorem dX12_over_26 : decode cX12_over 26 = .ok (.ifCond .eq 9, 3) := by decide +kernel
theorem dX12_over_29 : decode cX12_over 29 = .ok (.iload_n 1, 1) := by decide +kernel
theorem dX12_over_30 : decode cX12_over 30 = .ok (.iconst 1, 1) := by decide +kernel
theorem dX12_over_31 : decode cX12_over 31 = .ok (.iload_n 2, 1) := by decide +kernel
theorem dX12_over_32 : decode cX12_over 32 = .ok (.ishl, 1) := by decide +kernel
theorem dX12_over_33 : decode cX12_over 33 = .ok (.ior, 1) := by decide +kernel
theorem dX12_over_34 : decode cX12_over 34 = .ok (.istore_n 1, 1) := by decide +kernel
theorem dX12_over_35 : decode cX12_over 35 = .ok (.iinc 2 1, 3) := by decide +kernel
theorem dX12_over_38 : decode cX12_over 38 = .ok (.goto (-30), 3) := by decide +kernel
theorem dX12_over_41 : decode cX12_over 41 = .ok (.iload_n 1, 1) := by decide +kernel
theorem dX12_over_42 : decode cX12_over 42 = .ok (.ireturn, 1) := by decide +kernel
theorem dX12_least_0 : decode cX12_least 0 = .ok (.aload_n 0, 1) := by decide +kernel
theorem dX12_least_1 : decode cX12_least 1 = .ok (.iload_n 1, 1) := by decide +kernel
theorem dX12_least_2 : decode cX12_least 2 = .ok (.iload_n 2, 1) := by decide +kernel
theorem dX12_least_3 : decode cX12_least 3 = .ok (.invokevirtual 394, 3) := by decide +kernel
theorem dX12_least_6 : decode cX12_least 6 = .ok (.ifCond .eq 18, 3) := by decide +kernel
theorem dX12_least_9 : decode cX12_least 9 = .ok (.iload_n 3, 1) := by decide +kernel
theorem dX12_least_10 : decode cX12_least 10 = .ok (.invokestatic 441, 3) := by decide +kernel
theorem dX12_least_13 : decode cX12_least 13 = .ok (.ifCond .eq 11, 3) := by decide +kernel
theorem dX12_least_16 : decode cX12_least 16 = .ok (.iload 4, 2) := by decide +kernel
theorem dX12_least_18 : decode cX12_least 18 = .ok (.invokestatic 447, 3) := by decide +kernel
theorem dX12_least_21 : decode cX12_least 21 = .ok (.ifCond .ne 5, 3) := by decide +kernel
theorem dX12_least_24 : decode cX12_least 24 = .ok (.iconst (-1), 1) := by decide +kernel
theorem dX12_least_25 : decode cX12_least 25 = .ok (.ireturn, 1) := by decide +kernel
theorem dX12_least_26 : decode cX12_least 26 = .ok (.iconst 0, 1) := by decide +kernel
theorem dX12_least_27 : decode cX12_least 27 = .ok (.istore 5, 2) := by decide +kernel
theorem dX12_least_29 : decode cX12_least 29 = .ok (.iload 5, 2) := by decide +kernel
theorem dX12_least_31 : decode cX12_least 31 = .ok (.aload_n 0, 1) := by decide +kernel
theorem dX12_least_32 : decode cX12_least 32 = .ok (.getfield 140, 3) := by decide +kernel
theorem dX12_least_35 : decode cX12_least 35 = .ok (.bipush 8, 2) := by decide +kernel
theorem dX12_least_37 : decode cX12_least 37 = .ok (.iload_n 2, 1) := by decide +kernel
theorem dX12_least_38 : decode cX12_least 38 = .ok (.imul, 1) := by decide +kernel
theorem dX12_least_39 : decode cX12_least 39 = .ok (.iload_n 1, 1) := by decide +kernel
theorem dX12_least_40 : decode cX12_least 40 = .ok (.iadd, 1) := by decide +kernel
theorem dX12_least_41 : decode cX12_least 41 = .ok (.iaload, 1) := by decide +kernel
theorem dX12_least_42 : decode cX12_least 42 = .ok (.iadd, 1) := by decide +kernel
theorem dX12_least_43 : decode cX12_least 43 = .ok (.bipush 99, 2) := by decide +kernel
theorem dX12_least_45 : decode cX12_least 45 = .ok (.if_icmp .gt 53, 3) := by decide +kernel
theorem dX12_least_48 : decode cX12_least 48 = .ok (.aload_n 0, 1) := by decide +kernel
theorem dX12_least_49 : decode cX12_least 49 = .ok (.invokevirtual 413, 3) := by decide +kernel
theorem dX12_least_52 : decode cX12_least 52 = .ok (.aload_n 0, 1) := by decide +kernel
theorem dX12_least_53 : decode cX12_least 53 = .ok (.getfield 143, 3) := by decide +kernel
theorem dX12_least_56 : decode cX12_least 56 = .ok (.bipush 8, 2) := by decide +kernel
theorem dX12_least_58 : decode cX12_least 58 = .ok (.iload_n 2, 1) := by decide +kernel
theorem dX12_least_59 : decode cX12_least 59 = .ok (.imul, 1) := by decide +kernel
theorem dX12_least_60 : decode cX12_least 60 = .ok (.iload_n 1, 1) := by decide +kernel
theorem dX12_least_61 : decode cX12_least 61 = .ok (.iadd, 1) := by decide +kernel
theorem dX12_least_62 : decode cX12_least 62 = .ok (.dup2, 1) := by decide +kernel
theorem dX12_least_63 : decode cX12_least 63 = .ok (.iaload, 1) := by decide +kernel
theorem dX12_least_64 : decode cX12_least 64 = .ok (.iload 5, 2) := by decide +kernel
theorem dX12_least_66 : decode cX12_least 66 = .ok (.iadd, 1) := by decide +kernel
theorem dX12_least_67 : decode cX12_least 67 = .ok (.iastore, 1) := by decide +kernel
theorem dX12_least_68 : decode cX12_least 68 = .ok (.aload_n 0, 1) := by decide +kernel
theorem dX12_least_69 : decode cX12_least 69 = .ok (.iload_n 3, 1) := by decide +kernel
theorem dX12_least_70 : decode cX12_least 70 = .ok (.invokevirtual 438, 3) := by decide +kernel
theorem dX12_least_73 : decode cX12_least 73 = .ok (.aload_n 0, 1) := by decide +kernel
theorem dX12_least_74 : decode cX12_least 74 = .ok (.getfield 143, 3) := by decide +kernel
theorem dX12_least_77 : decode cX12_least 77 = .ok (.bipush 8, 2) := by decide +kernel
theorem dX12_least_79 : decode cX12_least 79 = .ok (.iload_n 2, 1) := by decide +kernel
theorem dX12_least_80 : decode cX12_least 80 = .ok (.imul, 1) := by decide +kernel
theorem dX12_least_81 : decode cX12_least 81 = .ok (.iload_n 1, 1) := by decide +kernel
theorem dX12_least_82 : decode cX12_least 82 = .ok (.iadd, 1) := by decide +kernel
theorem dX12_least_83 : decode cX12_least 83 = .ok (.iaload, 1) := by decide +kernel
theorem dX12_least_84 : decode cX12_least 84 = .ok (.iload 4, 2) := by decide +kernel
theorem dX12_least_86 : decode cX12_least 86 = .ok (.if_icmp .lt 6, 3) := by decide +kernel
theorem dX12_least_89 : decode cX12_least 89 = .ok (.iload 5, 2) := by decide +kernel
theorem dX12_least_91 : decode cX12_least 91 = .ok (.ireturn, 1) := by decide +kernel
theorem dX12_least_92 : decode cX12_least 92 = .ok (.iinc 5 1, 3) := by decide +kernel
theorem dX12_least_95 : decode cX12_least 95 = .ok (.goto (-66), 3) := by decide +kernel
theorem dX12_least_98 : decode cX12_least 98 = .ok (.bipush (-2), 2) := by decide +kernel
theorem dX12_least_100 : decode cX12_least 100 = .ok (.ireturn, 1) := by decide +kernel
theorem dX12_isNear_0 : decode cX12_isNear 0 = .ok (.aload_n 0, 1) := by decide +kernel
theorem dX12_isNear_1 : decode cX12_isNear 1 = .ok (.getfield 152, 3) := by decide +kernel
theorem dX12_isNear_4 : decode cX12_isNear 4 = .ok (.bipush 8, 2) := by decide +kernel
theorem dX12_isNear_6 : decode cX12_isNear 6 = .ok (.iload_n 2, 1) := by decide +kernel
theorem dX12_isNear_7 : decode cX12_isNear 7 = .ok (.imul, 1) := by decide +kernel
theorem dX12_isNear_8 : decode cX12_isNear 8 = .ok (.iload_n 1, 1) := by decide +kernel
theorem dX12_isNear_9 : decode cX12_isNear 9 = .ok (.iadd, 1) := by decide +kernel
theorem dX12_isNear_10 : decode cX12_isNear 10 = .ok (.baload, 1) := by decide +kernel
theorem dX12_isNear_11 : decode cX12_isNear 11 = .ok (.ifCond .ne 12, 3) := by decide +kernel
theorem dX12_isNear_14 : decode cX12_isNear 14 = .ok (.aload_n 0, 1) := by decide +kernel
theorem dX12_isNear_15 : decode cX12_isNear 15 = .ok (.iload_n 1, 1) := by decide +kernel
theorem dX12_isNear_16 : decode cX12_isNear 16 = .ok (.iload_n 2, 1) := by decide +kernel
theorem dX12_isNear_17 : decode cX12_isNear 17 = .ok (.invokevirtual 453, 3) := by decide +kernel
theorem dX12_isNear_20 : decode cX12_isNear 20 = .ok (.ifCond .eq 7, 3) := by decide +kernel
theorem dX12_isNear_23 : decode cX12_isNear 23 = .ok (.iconst 1, 1) := by decide +kernel
theorem dX12_isNear_24 : decode cX12_isNear 24 = .ok (.goto 4, 3) := by decide +kernel
theorem dX12_isNear_27 : decode cX12_isNear 27 = .ok (.iconst 0, 1) := by decide +kernel
theorem dX12_isNear_28 : decode cX12_isNear 28 = .ok (.ireturn, 1) := by decide +kernel
theorem dX12_isNext_0 : decode cX12_isNext 0 = .ok (.aload_n 0, 1) := by decide +kernel
theorem dX12_isNext_1 : decode cX12_isNext 1 = .ok (.iload_n 1, 1) := by decide +kernel
theorem dX12_isNext_2 : decode cX12_isNext 2 = .ok (.iconst 1, 1) := by decide +kernel
theorem dX12_isNext_3 : decode cX12_isNext 3 = .ok (.isub, 1) := by decide +kernel
theorem dX12_isNext_4 : decode cX12_isNext 4 = .ok (.iload_n 2, 1) := by decide +kernel
theorem dX12_isNext_5 : decode cX12_isNext 5 = .ok (.invokevirtual 394, 3) := by decide +kernel
theorem dX12_isNext_8 : decode cX12_isNext 8 = .ok (.ifCond .eq 19, 3) := by decide +kernel
theorem dX12_isNext_11 : decode cX12_isNext 11 = .ok (.aload_n 0, 1) := by decide +kernel
theorem dX12_isNext_12 : decode cX12_isNext 12 = .ok (.getfield 152, 3) := by decide +kernel
theorem dX12_isNext_15 : decode cX12_isNext 15 = .ok (.bipush 8, 2) := by decide +kernel
theorem dX12_isNext_17 : decode cX12_isNext 17 = .ok (.iload_n 2, 1) := by decide +kernel
theorem dX12_isNext_18 : decode cX12_isNext 18 = .ok (.imul, 1) := by decide +kernel
theorem dX12_isNext_19 : decode cX12_isNext 19 = .ok (.iload_n 1, 1) := by decide +kernel
theorem dX12_isNext_20 : decode cX12_isNext 20 = .ok (.iadd, 1) := by decide +kernel
theorem dX12_isNext_21 : decode cX12_isNext 21 = .ok (.iconst 1, 1) := by decide +kernel
theorem dX12_isNext_22 : decode cX12_isNext 22 = .ok (.isub, 1) := by decide +kernel
theorem dX12_isNext_23 : decode cX12_isNext 23 = .ok (.baload, 1) := by decide +kernel
theorem dX12_isNext_24 : decode cX12_isNext 24 = .ok (.ifCond .ne 86, 3) := by decide +kernel
theorem dX12_isNext_27 : decode cX12_isNext 27 = .ok (.aload_n 0, 1) := by decide +kernel
theorem dX12_isNext_28 : decode cX12_isNext 28 = .ok (.iload_n 1, 1) := by decide +kernel
theorem dX12_isNext_29 : decode cX12_isNext 29 = .ok (.iconst 1, 1) := by decide +kernel
theorem dX12_isNext_30 : decode cX12_isNext 30 = .ok (.iadd, 1) := by decide +kernel
theorem dX12_isNext_31 : decode cX12_isNext 31 = .ok (.iload_n 2, 1) := by decide +kernel
theorem dX12_isNext_32 : decode cX12_isNext 32 = .ok (.invokevirtual 394, 3) := by decide +kernel
theorem dX12_isNext_35 : decode cX12_isNext 35 = .ok (.ifCond .eq 19, 3) := by decide +kernel
theorem dX12_isNext_38 : decode cX12_isNext 38 = .ok (.aload_n 0, 1) := by decide +kernel
theorem dX12_isNext_39 : decode cX12_isNext 39 = .ok (.getfield 152, 3) := by decide +kernel
theorem dX12_isNext_42 : decode cX12_isNext 42 = .ok (.bipush 8, 2) := by decide +kernel
theorem dX12_isNext_44 : decode cX12_isNext 44 = .ok (.iload_n 2, 1) := by decide +kernel
theorem dX12_isNext_45 : decode cX12_isNext 45 = .ok (.imul, 1) := by decide +kernel
theorem dX12_isNext_46 : decode cX12_isNext 46 = .ok (.iload_n 1, 1) := by decide +kernel
theorem dX12_isNext_47 : decode cX12_isNext 47 = .ok (.iadd, 1) := by decide +kernel
theorem dX12_isNext_48 : decode cX12_isNext 48 = .ok (.iconst 1, 1) := by decide +kernel
theorem dX12_isNext_49 : decode cX12_isNext 49 = .ok (.iadd, 1) := by decide +kernel
theorem dX12_isNext_50 : decode cX12_isNext 50 = .ok (.baload, 1) := by decide +kernel
theorem dX12_isNext_51 : decode cX12_isNext 51 = .ok (.ifCond .ne 59, 3) := by decide +kernel
theorem dX12_isNext_54 : decode cX12_isNext 54 = .ok (.aload_n 0, 1) := by decide +kernel
theorem dX12_isNext_55 : decode cX12_isNext 55 = .ok (.iload_n 1, 1) := by decide +kernel
theorem dX12_isNext_56 : decode cX12_isNext 56 = .ok (.iload_n 2, 1) := by decide +kernel
theorem dX12_isNext_57 : decode cX12_isNext 57 = .ok (.iconst 1, 1) := by decide +kernel
theorem dX12_isNext_58 : decode cX12_isNext 58 = .ok (.isub, 1) := by decide +kernel
theorem dX12_isNext_59 : decode cX12_isNext 59 = .ok (.invokevirtual 394, 3) := by decide +kernel
theorem dX12_isNext_62 : decode cX12_isNext 62 = .ok (.ifCond .eq 20, 3) := by decide +kernel
theorem dX12_isNext_65 : decode cX12_isNext 65 = .ok (.aload_n 0, 1) := by decide +kernel
theorem dX12_isNext_66 : decode cX12_isNext 66 = .ok (.getfield 152, 3) := by decide +kernel
theorem dX12_isNext_69 : decode cX12_isNext 69 = .ok (.bipush 8, 2) := by decide +kernel
theorem dX12_isNext_71 : decode cX12_isNext 71 = .ok (.iload_n 2, 1) := by decide +kernel
theorem dX12_isNext_72 : decode cX12_isNext 72 = .ok (.imul, 1) := by decide +kernel
theorem dX12_isNext_73 : decode cX12_isNext 73 = .ok (.iload_n 1, 1) := by decide +kernel
theorem dX12_isNext_74 : decode cX12_isNext 74 = .ok (.iadd, 1) := by decide +kernel
theorem dX12_isNext_75 : decode cX12_isNext 75 = .ok (.bipush 8, 2) := by decide +kernel
theorem dX12_isNext_77 : decode cX12_isNext 77 = .ok (.isub, 1) := by decide +kernel
theorem dX12_isNext_78 : decode cX12_isNext 78 = .ok (.baload, 1) := by decide +kernel
theorem dX12_isNext_79 : decode cX12_isNext 79 = .ok (.ifCond .ne 31, 3) := by decide +kernel
theorem dX12_isNext_82 : decode cX12_isNext 82 = .ok (.aload_n 0, 1) := by decide +kernel
theorem dX12_isNext_83 : decode cX12_isNext 83 = .ok (.iload_n 1, 1) := by decide +kernel
theorem dX12_isNext_84 : decode cX12_isNext 84 = .ok (.iload_n 2, 1) := by decide +kernel
theorem dX12_isNext_85 : decode cX12_isNext 85 = .ok (.iconst 1, 1) := by decide +kernel
theorem dX12_isNext_86 : decode cX12_isNext 86 = .ok (.iadd, 1) := by decide +kernel
theorem dX12_isNext_87 : decode cX12_isNext 87 = .ok (.invokevirtual 394, 3) := by decide +kernel
theorem dX12_isNext_90 : decode cX12_isNext 90 = .ok (.ifCond .eq 24, 3) := by decide +kernel
theorem dX12_isNext_93 : decode cX12_isNext 93 = .ok (.aload_n 0, 1) := by decide +kernel
theorem dX12_isNext_94 : decode cX12_isNext 94 = .ok (.getfield 152, 3) := by decide +kernel
theorem dX12_isNext_97 : decode cX12_isNext 97 = .ok (.bipush 8, 2) := by decide +kernel
theorem dX12_isNext_99 : decode cX12_isNext 99 = .ok (.iload_n 2, 1) := by decide +kernel
theorem dX12_isNext_100 : decode cX12_isNext 100 = .ok (.imul, 1) := by decide +kernel
theorem dX12_isNext_101 : decode cX12_isNext 101 = .ok (.iload_n 1, 1) := by decide +kernel
theorem dX12_isNext_102 : decode cX12_isNext 102 = .ok (.iadd, 1) := by decide +kernel
theorem dX12_isNext_103 : decode cX12_isNext 103 = .ok (.bipush 8, 2) := by decide +kernel
theorem dX12_isNext_105 : decode cX12_isNext 105 = .ok (.iadd, 1) := by decide +kernel
theorem dX12_isNext_106 : decode cX12_isNext 106 = .ok (.baload, 1) := by decide +kernel
theorem dX12_isNext_107 : decode cX12_isNext 107 = .ok (.ifCond .eq 7, 3) := by decide +kernel
theorem dX12_isNext_110 : decode cX12_isNext 110 = .ok (.iconst 1, 1) := by decide +kernel
theorem dX12_isNext_111 : decode cX12_isNext 111 = .ok (.goto 4, 3) := by decide +kernel
theorem dX12_isNext_114 : decode cX12_isNext 114 = .ok (.iconst 0, 1) := by decide +kernel
theorem dX12_isNext_115 : decode cX12_isNext 115 = .ok (.ireturn, 1) := by decide +kernel
theorem dX12_unseen_0 : decode cX12_unseen 0 = .ok (.aload_n 0, 1) := by decide +kernel
theorem dX12_unseen_1 : decode cX12_unseen 1 = .ok (.iload_n 1, 1) := by decide +kernel
theorem dX12_unseen_2 : decode cX12_unseen 2 = .ok (.iload_n 2, 1) := by decide +kernel
theorem dX12_unseen_3 : decode cX12_unseen 3 = .ok (.invokevirtual 394, 3) := by decide +kernel
theorem dX12_unseen_6 : decode cX12_unseen 6 = .ok (.ifCond .eq 21, 3) := by decide +kernel
theorem dX12_unseen_9 : decode cX12_unseen 9 = .ok (.aload_n 0, 1) := by decide +kernel
theorem dX12_unseen_10 : decode cX12_unseen 10 = .ok (.iload_n 3, 1) := by decide +kernel
theorem dX12_unseen_11 : decode cX12_unseen 11 = .ok (.iload 4, 2) := by decide +kernel
theorem dX12_unseen_13 : decode cX12_unseen 13 = .ok (.invokevirtual 394, 3) := by decide +kernel
theorem dX12_unseen_16 : decode cX12_unseen 16 = .ok (.ifCond .eq 11, 3) := by decide +kernel
theorem dX12_unseen_19 : decode cX12_unseen 19 = .ok (.iload 5, 2) := by decide +kernel
theorem dX12_unseen_21 : decode cX12_unseen 21 = .ok (.invokestatic 447, 3) := by decide +kernel
theorem dX12_unseen_24 : decode cX12_unseen 24 = .ok (.ifCond .ne 5, 3) := by decide +kernel
theorem dX12_unseen_27 : decode cX12_unseen 27 = .ok (.iconst (-1), 1) := by decide +kernel
theorem dX12_unseen_28 : decode cX12_unseen 28 = .ok (.ireturn, 1) := by decide +kernel
theorem dX12_unseen_29 : decode cX12_unseen 29 = .ok (.aload_n 0, 1) := by decide +kernel
theorem dX12_unseen_30 : decode cX12_unseen 30 = .ok (.invokevirtual 413, 3) := by decide +kernel
theorem dX12_unseen_33 : decode cX12_unseen 33 = .ok (.iconst 0, 1) := by decide +kernel
theorem dX12_unseen_34 : decode cX12_unseen 34 = .ok (.istore 6, 2) := by decide +kernel
theorem dX12_unseen_36 : decode cX12_unseen 36 = .ok (.iload 6, 2) := by decide +kernel
theorem dX12_unseen_38 : decode cX12_unseen 38 = .ok (.bipush 40, 2) := by decide +kernel
theorem dX12_unseen_40 : decode cX12_unseen 40 = .ok (.if_icmp .ge 17, 3) := by decide +kernel
theorem dX12_unseen_43 : decode cX12_unseen 43 = .ok (.aload_n 0, 1) := by decide +kernel
theorem dX12_unseen_44 : decode cX12_unseen 44 = .ok (.getfield 152, 3) := by decide +kernel
theorem dX12_unseen_47 : decode cX12_unseen 47 = .ok (.iload 6, 2) := by decide +kernel
theorem dX12_unseen_49 : decode cX12_unseen 49 = .ok (.iconst 0, 1) := by decide +kernel
theorem dX12_unseen_50 : decode cX12_unseen 50 = .ok (.bastore, 1) := by decide +kernel
theorem dX12_unseen_51 : decode cX12_unseen 51 = .ok (.iinc 6 1, 3) := by decide +kernel
theorem dX12_unseen_54 : decode cX12_unseen 54 = .ok (.goto (-18), 3) := by decide +kernel
theorem dX12_unseen_57 : decode cX12_unseen 57 = .ok (.aload_n 0, 1) := by decide +kernel
theorem dX12_unseen_58 : decode cX12_unseen 58 = .ok (.getfield 152, 3) := by decide +kernel
theorem dX12_unseen_61 : decode cX12_unseen 61 = .ok (.bipush 8, 2) := by decide +kernel
theorem dX12_unseen_63 : decode cX12_unseen 63 = .ok (.iload_n 2, 1) := by decide +kernel
theorem dX12_unseen_64 : decode cX12_unseen 64 = .ok (.imul, 1) := by decide +kernel
theorem dX12_unseen_65 : decode cX12_unseen 65 = .ok (.iload_n 1, 1) := by decide +kernel
theorem dX12_unseen_66 : decode cX12_unseen 66 = .ok (.iadd, 1) := by decide +kernel
theorem dX12_unseen_67 : decode cX12_unseen 67 = .ok (.aload_n 0, 1) := by decide +kernel
theorem dX12_unseen_68 : decode cX12_unseen 68 = .ok (.getfield 143, 3) := by decide +kernel
theorem dX12_unseen_71 : decode cX12_unseen 71 = .ok (.bipush 8, 2) := by decide +kernel
theorem dX12_unseen_73 : decode cX12_unseen 73 = .ok (.iload_n 2, 1) := by decide +kernel
theorem dX12_unseen_74 : decode cX12_unseen 74 = .ok (.imul, 1) := by decide +kernel
theorem dX12_unseen_75 : decode cX12_unseen 75 = .ok (.iload_n 1, 1) := by decide +kernel
theorem dX12_unseen_76 : decode cX12_unseen 76 = .ok (.iadd, 1) := by decide +kernel
theorem dX12_unseen_77 : decode cX12_unseen 77 = .ok (.iaload, 1) := by decide +kernel
theorem dX12_unseen_78 : decode cX12_unseen 78 = .ok (.iload 5, 2) := by decide +kernel
theorem dX12_unseen_80 : decode cX12_unseen 80 = .ok (.if_icmp .lt 7, 3) := by decide +kernel
theorem dX12_unseen_83 : decode cX12_unseen 83 = .ok (.iconst 1, 1) := by decide +kernel
theorem dX12_unseen_84 : decode cX12_unseen 84 = .ok (.goto 4, 3) := by decide +kernel
theorem dX12_unseen_87 : decode cX12_unseen 87 = .ok (.iconst 0, 1) := by decide +kernel
theorem dX12_unseen_88 : decode cX12_unseen 88 = .ok (.bastore, 1) := by decide +kernel
theorem dX12_unseen_89 : decode cX12_unseen 89 = .ok (.iconst 0, 1) := by decide +kernel
theorem dX12_unseen_90 : decode cX12_unseen 90 = .ok (.istore 6, 2) := by decide +kernel
theorem dX12_unseen_92 : decode cX12_unseen 92 = .ok (.iload 6, 2) := by decide +kernel
theorem dX12_unseen_94 : decode cX12_unseen 94 = .ok (.bipush 40, 2) := by decide +kernel
theorem dX12_unseen_96 : decode cX12_unseen 96 = .ok (.if_icmp .gt 154, 3) := by decide +kernel
theorem dX12_unseen_99 : decode cX12_unseen 99 = .ok (.aload_n 0, 1) := by decide +kernel
theorem dX12_unseen_100 : decode cX12_unseen 100 = .ok (.getfield 152, 3) := by decide +kernel
theorem dX12_unseen_103 : decode cX12_unseen 103 = .ok (.bipush 8, 2) := by decide +kernel
theorem dX12_unseen_105 : decode cX12_unseen 105 = .ok (.iload 4, 2) := by decide +kernel
theorem dX12_unseen_107 : decode cX12_unseen 107 = .ok (.imul, 1) := by decide +kernel
theorem dX12_unseen_108 : decode cX12_unseen 108 = .ok (.iload_n 3, 1) := by decide +kernel
theorem dX12_unseen_109 : decode cX12_unseen 109 = .ok (.iadd, 1) := by decide +kernel
theorem dX12_unseen_110 : decode cX12_unseen 110 = .ok (.baload, 1) := by decide +kernel
theorem dX12_unseen_111 : decode cX12_unseen 111 = .ok (.ifCond .eq 6, 3) := by decide +kernel
theorem dX12_unseen_114 : decode cX12_unseen 114 = .ok (.iload 6, 2) := by decide +kernel
theorem dX12_unseen_116 : decode cX12_unseen 116 = .ok (.ireturn, 1) := by decide +kernel
theorem dX12_unseen_117 : decode cX12_unseen 117 = .ok (.aload_n 0, 1) := by decide +kernel
theorem dX12_unseen_118 : decode cX12_unseen 118 = .ok (.invokevirtual 410, 3) := by decide +kernel
theorem dX12_unseen_121 : decode cX12_unseen 121 = .ok (.iconst 0, 1) := by decide +kernel
theorem dX12_unseen_122 : decode cX12_unseen 122 = .ok (.istore 7, 2) := by decide +kernel
theorem dX12_unseen_124 : decode cX12_unseen 124 = .ok (.iload 7, 2) := by decide +kernel
theorem dX12_unseen_126 : decode cX12_unseen 126 = .ok (.aload_n 0, 1) := by decide +kernel
theorem dX12_unseen_127 : decode cX12_unseen 127 = .ok (.getfield 49, 3) := by decide +kernel
theorem dX12_unseen_130 : decode cX12_unseen 130 = .ok (.aload_n 0, 1) := by decide +kernel
theorem dX12_unseen_131 : decode cX12_unseen 131 = .ok (.getfield 260, 3) := by decide +kernel
theorem dX12_unseen_134 : decode cX12_unseen 134 = .ok (.iaload, 1) := by decide +kernel
theorem dX12_unseen_135 : decode cX12_unseen 135 = .ok (.if_icmp .ge 79, 3) := by decide +kernel
theorem dX12_unseen_138 : decode cX12_unseen 138 = .ok (.iconst 0, 1) := by decide +kernel
theorem dX12_unseen_139 : decode cX12_unseen 139 = .ok (.istore 8, 2) := by decide +kernel
theorem dX12_unseen_141 : decode cX12_unseen 141 = .ok (.iload 8, 2) := by decide +kernel
theorem dX12_unseen_143 : decode cX12_unseen 143 = .ok (.aload_n 0, 1) := by decide +kernel
theorem dX12_unseen_144 : decode cX12_unseen 144 = .ok (.getfield 46, 3) := by decide +kernel
theorem dX12_unseen_147 : decode cX12_unseen 147 = .ok (.aload_n 0, 1) := by decide +kernel
theorem dX12_unseen_148 : decode cX12_unseen 148 = .ok (.getfield 260, 3) := by decide +kernel
theorem dX12_unseen_151 : decode cX12_unseen 151 = .ok (.iaload, 1) := by decide +kernel
theorem dX12_unseen_152 : decode cX12_unseen 152 = .ok (.if_icmp .ge 56, 3) := by decide +kernel
theorem dX12_unseen_155 : decode cX12_unseen 155 = .ok (.aload_n 0, 1) := by decide +kernel
theorem dX12_unseen_156 : decode cX12_unseen 156 = .ok (.getfield 155, 3) := by decide +kernel
theorem dX12_unseen_159 : decode cX12_unseen 159 = .ok (.bipush 8, 2) := by decide +kernel
theorem dX12_unseen_161 : decode cX12_unseen 161 = .ok (.iload 7, 2) := by decide +kernel
theorem dX12_unseen_163 : decode cX12_unseen 163 = .ok (.imul, 1) := by decide +kernel
theorem dX12_unseen_164 : decode cX12_unseen 164 = .ok (.iload 8, 2) := by decide +kernel
theorem dX12_unseen_166 : decode cX12_unseen 166 = .ok (.iadd, 1) := by decide +kernel
theorem dX12_unseen_167 : decode cX12_unseen 167 = .ok (.aload_n 0, 1) := by decide +kernel
theorem dX12_unseen_168 : decode cX12_unseen 168 = .ok (.getfield 143, 3) := by decide +kernel
theorem dX12_unseen_171 : decode cX12_unseen 171 = .ok (.bipush 8, 2) := by decide +kernel
theorem dX12_unseen_173 : decode cX12_unseen 173 = .ok (.iload 7, 2) := by decide +kernel
theorem dX12_unseen_175 : decode cX12_unseen 175 = .ok (.imul, 1) := by decide +kernel
theorem dX12_unseen_176 : decode cX12_unseen 176 = .ok (.iload 8, 2) := by decide +kernel
theorem dX12_unseen_178 : decode cX12_unseen 178 = .ok (.iadd, 1) := by decide +kernel
theorem dX12_unseen_179 : decode cX12_unseen 179 = .ok (.iaload, 1) := by decide +kernel
theorem dX12_unseen_180 : decode cX12_unseen 180 = .ok (.iload 5, 2) := by decide +kernel
theorem dX12_unseen_182 : decode cX12_unseen 182 = .ok (.if_icmp .lt 18, 3) := by decide +kernel
theorem dX12_unseen_185 : decode cX12_unseen 185 = .ok (.aload_n 0, 1) := by decide +kernel
theorem dX12_unseen_186 : decode cX12_unseen 186 = .ok (.iload 8, 2) := by decide +kernel
theorem dX12_unseen_188 : decode cX12_unseen 188 = .ok (.iload 7, 2) := by decide +kernel
theorem dX12_unseen_190 : decode cX12_unseen 190 = .ok (.invokevirtual 456, 3) := by decide +kernel
theorem dX12_unseen_193 : decode cX12_unseen 193 = .ok (.ifCond .eq 7, 3) := by decide +kernel
theorem dX12_unseen_196 : decode cX12_unseen 196 = .ok (.iconst 1, 1) := by decide +kernel
theorem dX12_unseen_197 : decode cX12_unseen 197 = .ok (.goto 4, 3) := by decide +kernel
theorem dX12_unseen_200 : decode cX12_unseen 200 = .ok (.iconst 0, 1) := by decide +kernel
theorem dX12_unseen_201 : decode cX12_unseen 201 = .ok (.bastore, 1) := by decide +kernel
theorem dX12_unseen_202 : decode cX12_unseen 202 = .ok (.iinc 8 1, 3) := by decide +kernel
theorem dX12_unseen_205 : decode cX12_unseen 205 = .ok (.goto (-64), 3) := by decide +kernel
theorem dX12_unseen_208 : decode cX12_unseen 208 = .ok (.iinc 7 1, 3) := by decide +kernel
theorem dX12_unseen_211 : decode cX12_unseen 211 = .ok (.goto (-87), 3) := by decide +kernel
theorem dX12_unseen_214 : decode cX12_unseen 214 = .ok (.iconst 0, 1) := by decide +kernel
theorem dX12_unseen_215 : decode cX12_unseen 215 = .ok (.istore 7, 2) := by decide +kernel
theorem dX12_unseen_217 : decode cX12_unseen 217 = .ok (.iload 7, 2) := by decide +kernel
theorem dX12_unseen_219 : decode cX12_unseen 219 = .ok (.bipush 40, 2) := by decide +kernel
theorem dX12_unseen_221 : decode cX12_unseen 221 = .ok (.if_icmp .ge 23, 3) := by decide +kernel
theorem dX12_unseen_224 : decode cX12_unseen 224 = .ok (.aload_n 0, 1) := by decide +kernel
theorem dX12_unseen_225 : decode cX12_unseen 225 = .ok (.getfield 152, 3) := by decide +kernel
theorem dX12_unseen_228 : decode cX12_unseen 228 = .ok (.iload 7, 2) := by decide +kernel
theorem dX12_unseen_230 : decode cX12_unseen 230 = .ok (.aload_n 0, 1) := by decide +kernel
theorem dX12_unseen_231 : decode cX12_unseen 231 = .ok (.getfield 155, 3) := by decide +kernel
theorem dX12_unseen_234 : decode cX12_unseen 234 = .ok (.iload 7, 2) := by decide +kernel
theorem dX12_unseen_236 : decode cX12_unseen 236 = .ok (.baload, 1) := by decide +kernel
theorem dX12_unseen_237 : decode cX12_unseen 237 = .ok (.bastore, 1) := by decide +kernel
theorem dX12_unseen_238 : decode cX12_unseen 238 = .ok (.iinc 7 1, 3) := by decide +kernel
theorem dX12_unseen_241 : decode cX12_unseen 241 = .ok (.goto (-24), 3) := by decide +kernel
theorem dX12_unseen_244 : decode cX12_unseen 244 = .ok (.iinc 6 1, 3) := by decide +kernel
theorem dX12_unseen_247 : decode cX12_unseen 247 = .ok (.goto (-155), 3) := by decide +kernel
theorem dX12_unseen_250 : decode cX12_unseen 250 = .ok (.bipush (-2), 2) := by decide +kernel
theorem dX12_unseen_252 : decode cX12_unseen 252 = .ok (.ireturn, 1) := by decide +kernel
theorem dX12_isWatched_0 : decode cX12_isWatched 0 = .ok (.aload_n 0, 1) := by decide +kernel
theorem dX12_isWatched_1 : decode cX12_isWatched 1 = .ok (.getfield 158, 3) := by decide +kernel
theorem dX12_isWatched_4 : decode cX12_isWatched 4 = .ok (.iconst 0, 1) := by decide +kernel
theorem dX12_isWatched_5 : decode cX12_isWatched 5 = .ok (.iaload, 1) := by decide +kernel
theorem dX12_isWatched_6 : decode cX12_isWatched 6 = .ok (.bipush 10, 2) := by decide +kernel
theorem dX12_isWatched_8 : decode cX12_isWatched 8 = .ok (.iload_n 2, 1) := by decide +kernel
theorem dX12_isWatched_9 : decode cX12_isWatched 9 = .ok (.imul, 1) := by decide +kernel
theorem dX12_isWatched_10 : decode cX12_isWatched 10 = .ok (.iload_n 1, 1) := by decide +kernel
theorem dX12_isWatched_11 : decode cX12_isWatched 11 = .ok (.iadd, 1) := by decide +kernel
theorem dX12_isWatched_12 : decode cX12_isWatched 12 = .ok (.if_icmp .eq 33, 3) := by decide +kernel
theorem dX12_isWatched_15 : decode cX12_isWatched 15 = .ok (.aload_n 0, 1) := by decide +kernel
theorem dX12_isWatched_16 : decode cX12_isWatched 16 = .ok (.getfield 158, 3) := by decide +kernel
theorem dX12_isWatched_19 : decode cX12_isWatched 19 = .ok (.iconst 1, 1) := by decide +kernel
theorem dX12_isWatched_20 : decode cX12_isWatched 20 = .ok (.iaload, 1) := by decide +kernel
theorem dX12_isWatched_21 : decode cX12_isWatched 21 = .ok (.bipush 10, 2) := by decide +kernel
theorem dX12_isWatched_23 : decode cX12_isWatched 23 = .ok (.iload_n 2, 1) := by decide +kernel
theorem dX12_isWatched_24 : decode cX12_isWatched 24 = .ok (.imul, 1) := by decide +kernel
theorem dX12_isWatched_25 : decode cX12_isWatched 25 = .ok (.iload_n 1, 1) := by decide +kernel
theorem dX12_isWatched_26 : decode cX12_isWatched 26 = .ok (.iadd, 1) := by decide +kernel
theorem dX12_isWatched_27 : decode cX12_isWatched 27 = .ok (.if_icmp .eq 18, 3) := by decide +kernel
theorem dX12_isWatched_30 : decode cX12_isWatched 30 = .ok (.aload_n 0, 1) := by decide +kernel
theorem dX12_isWatched_31 : decode cX12_isWatched 31 = .ok (.getfield 158, 3) := by decide +kernel
theorem dX12_isWatched_34 : decode cX12_isWatched 34 = .ok (.iconst 2, 1) := by decide +kernel
theorem dX12_isWatched_35 : decode cX12_isWatched 35 = .ok (.iaload, 1) := by decide +kernel
theorem dX12_isWatched_36 : decode cX12_isWatched 36 = .ok (.bipush 10, 2) := by decide +kernel
theorem dX12_isWatched_38 : decode cX12_isWatched 38 = .ok (.iload_n 2, 1) := by decide +kernel
theorem dX12_isWatched_39 : decode cX12_isWatched 39 = .ok (.imul, 1) := by decide +kernel
theorem dX12_isWatched_40 : decode cX12_isWatched 40 = .ok (.iload_n 1, 1) := by decide +kernel
theorem dX12_isWatched_41 : decode cX12_isWatched 41 = .ok (.iadd, 1) := by decide +kernel
theorem dX12_isWatched_42 : decode cX12_isWatched 42 = .ok (.if_icmp .ne 7, 3) := by decide +kernel
theorem dX12_isWatched_45 : decode cX12_isWatched 45 = .ok (.iconst 1, 1) := by decide +kernel
theorem dX12_isWatched_46 : decode cX12_isWatched 46 = .ok (.goto 4, 3) := by decide +kernel
theorem dX12_isWatched_49 : decode cX12_isWatched 49 = .ok (.iconst 0, 1) := by decide +kernel
theorem dX12_isWatched_50 : decode cX12_isWatched 50 = .ok (.ireturn, 1) := by decide +kernel
theorem dX12_isOpen_0 : decode cX12_isOpen 0 = .ok (.aload_n 0, 1) := by decide +kernel
theorem dX12_isOpen_1 : decode cX12_isOpen 1 = .ok (.getfield 143, 3) := by decide +kernel
theorem dX12_isOpen_4 : decode cX12_isOpen 4 = .ok (.bipush 8, 2) := by decide +kernel
theorem dX12_isOpen_6 : decode cX12_isOpen 6 = .ok (.iload_n 1, 1) := by decide +kernel
theorem dX12_isOpen_7 : decode cX12_isOpen 7 = .ok (.bipush 10, 2) := by decide +kernel
theorem dX12_isOpen_9 : decode cX12_isOpen 9 = .ok (.idiv, 1) := by decide +kernel
theorem dX12_isOpen_10 : decode cX12_isOpen 10 = .ok (.imul, 1) := by decide +kernel
theorem dX12_isOpen_11 : decode cX12_isOpen 11 = .ok (.iload_n 1, 1) := by decide +kernel
theorem dX12_isOpen_12 : decode cX12_isOpen 12 = .ok (.bipush 10, 2) := by decide +kernel
theorem dX12_isOpen_14 : decode cX12_isOpen 14 = .ok (.irem, 1) := by decide +kernel
theorem dX12_isOpen_15 : decode cX12_isOpen 15 = .ok (.iadd, 1) := by decide +kernel
theorem dX12_isOpen_16 : decode cX12_isOpen 16 = .ok (.iaload, 1) := by decide +kernel
theorem dX12_isOpen_17 : decode cX12_isOpen 17 = .ok (.iload_n 3, 1) := by decide +kernel
theorem dX12_isOpen_18 : decode cX12_isOpen 18 = .ok (.if_icmp .lt 24, 3) := by decide +kernel
theorem dX12_isOpen_21 : decode cX12_isOpen 21 = .ok (.aload_n 0, 1) := by decide +kernel
theorem dX12_isOpen_22 : decode cX12_isOpen 22 = .ok (.getfield 143, 3) := by decide +kernel
theorem dX12_isOpen_25 : decode cX12_isOpen 25 = .ok (.bipush 8, 2) := by decide +kernel
theorem dX12_isOpen_27 : decode cX12_isOpen 27 = .ok (.iload_n 2, 1) := by decide +kernel
theorem dX12_isOpen_28 : decode cX12_isOpen 28 = .ok (.bipush 10, 2) := by decide +kernel
theorem dX12_isOpen_30 : decode cX12_isOpen 30 = .ok (.idiv, 1) := by decide +kernel
theorem dX12_isOpen_31 : decode cX12_isOpen 31 = .ok (.imul, 1) := by decide +kernel
theorem dX12_isOpen_32 : decode cX12_isOpen 32 = .ok (.iload_n 2, 1) := by decide +kernel
theorem dX12_isOpen_33 : decode cX12_isOpen 33 = .ok (.bipush 10, 2) := by decide +kernel
theorem dX12_isOpen_35 : decode cX12_isOpen 35 = .ok (.irem, 1) := by decide +kernel
theorem dX12_isOpen_36 : decode cX12_isOpen 36 = .ok (.iadd, 1) := by decide +kernel
theorem dX12_isOpen_37 : decode cX12_isOpen 37 = .ok (.iaload, 1) := by decide +kernel
theorem dX12_isOpen_38 : decode cX12_isOpen 38 = .ok (.iload_n 3, 1) := by decide +kernel
theorem dX12_isOpen_39 : decode cX12_isOpen 39 = .ok (.if_icmp .ge 5, 3) := by decide +kernel
theorem dX12_isOpen_42 : decode cX12_isOpen 42 = .ok (.iconst 0, 1) := by decide +kernel
theorem dX12_isOpen_43 : decode cX12_isOpen 43 = .ok (.ireturn, 1) := by decide +kernel
theorem dX12_isOpen_44 : decode cX12_isOpen 44 = .ok (.iconst 0, 1) := by decide +kernel
theorem dX12_isOpen_45 : decode cX12_isOpen 45 = .ok (.istore 4, 2) := by decide +kernel
theorem dX12_isOpen_47 : decode cX12_isOpen 47 = .ok (.iload 4, 2) := by decide +kernel
theorem dX12_isOpen_49 : decode cX12_isOpen 49 = .ok (.bipush 40, 2) := by decide +kernel
theorem dX12_isOpen_51 : decode cX12_isOpen 51 = .ok (.if_icmp .ge 17, 3) := by decide +kernel
theorem dX12_isOpen_54 : decode cX12_isOpen 54 = .ok (.aload_n 0, 1) := by decide +kernel
theorem dX12_isOpen_55 : decode cX12_isOpen 55 = .ok (.getfield 152, 3) := by decide +kernel
theorem dX12_isOpen_58 : decode cX12_isOpen 58 = .ok (.iload 4, 2) := by decide +kernel
theorem dX12_isOpen_60 : decode cX12_isOpen 60 = .ok (.iconst 0, 1) := by decide +kernel
theorem dX12_isOpen_61 : decode cX12_isOpen 61 = .ok (.bastore, 1) := by decide +kernel
theorem dX12_isOpen_62 : decode cX12_isOpen 62 = .ok (.iinc 4 1, 3) := by decide +kernel
theorem dX12_isOpen_65 : decode cX12_isOpen 65 = .ok (.goto (-18), 3) := by decide +kernel
theorem dX12_isOpen_68 : decode cX12_isOpen 68 = .ok (.aload_n 0, 1) := by decide +kernel
theorem dX12_isOpen_69 : decode cX12_isOpen 69 = .ok (.getfield 152, 3) := by decide +kernel
theorem dX12_isOpen_72 : decode cX12_isOpen 72 = .ok (.bipush 8, 2) := by decide +kernel
theorem dX12_isOpen_74 : decode cX12_isOpen 74 = .ok (.iload_n 1, 1) := by decide +kernel
theorem dX12_isOpen_75 : decode cX12_isOpen 75 = .ok (.bipush 10, 2) := by decide +kernel
theorem dX12_isOpen_77 : decode cX12_isOpen 77 = .ok (.idiv, 1) := by decide +kernel
theorem dX12_isOpen_78 : decode cX12_isOpen 78 = .ok (.imul, 1) := by decide +kernel
theorem dX12_isOpen_79 : decode cX12_isOpen 79 = .ok (.iload_n 1, 1) := by decide +kernel
theorem dX12_isOpen_80 : decode cX12_isOpen 80 = .ok (.bipush 10, 2) := by decide +kernel
theorem dX12_isOpen_82 : decode cX12_isOpen 82 = .ok (.irem, 1) := by decide +kernel
theorem dX12_isOpen_83 : decode cX12_isOpen 83 = .ok (.iadd, 1) := by decide +kernel
theorem dX12_isOpen_84 : decode cX12_isOpen 84 = .ok (.iconst 1, 1) := by decide +kernel
theorem dX12_isOpen_85 : decode cX12_isOpen 85 = .ok (.bastore, 1) := by decide +kernel
theorem dX12_isOpen_86 : decode cX12_isOpen 86 = .ok (.iconst 1, 1) := by decide +kernel
theorem dX12_isOpen_87 : decode cX12_isOpen 87 = .ok (.istore 4, 2) := by decide +kernel
theorem dX12_isOpen_89 : decode cX12_isOpen 89 = .ok (.iload 4, 2) := by decide +kernel
theorem dX12_isOpen_91 : decode cX12_isOpen 91 = .ok (.ifCond .eq 147, 3) := by decide +kernel
theorem dX12_isOpen_94 : decode cX12_isOpen 94 = .ok (.iconst 0, 1) := by decide +kernel
theorem dX12_isOpen_95 : decode cX12_isOpen 95 = .ok (.istore 4, 2) := by decide +kernel
theorem dX12_isOpen_97 : decode cX12_isOpen 97 = .ok (.iconst 0, 1) := by decide +kernel
theorem dX12_isOpen_98 : decode cX12_isOpen 98 = .ok (.istore 5, 2) := by decide +kernel
theorem dX12_isOpen_100 : decode cX12_isOpen 100 = .ok (.iload 5, 2) := by decide +kernel
theorem dX12_isOpen_102 : decode cX12_isOpen 102 = .ok (.aload_n 0, 1) := by decide +kernel
theorem dX12_isOpen_103 : decode cX12_isOpen 103 = .ok (.getfield 49, 3) := by decide +kernel
theorem dX12_isOpen_106 : decode cX12_isOpen 106 = .ok (.aload_n 0, 1) := by decide +kernel
theorem dX12_isOpen_107 : decode cX12_isOpen 107 = .ok (.getfield 260, 3) := by decide +kernel
theorem dX12_isOpen_110 : decode cX12_isOpen 110 = .ok (.iaload, 1) := by decide +kernel
theorem dX12_isOpen_111 : decode cX12_isOpen 111 = .ok (.if_icmp .ge 124, 3) := by decide +kernel
theorem dX12_isOpen_114 : decode cX12_isOpen 114 = .ok (.iconst 0, 1) := by decide +kernel
theorem dX12_isOpen_115 : decode cX12_isOpen 115 = .ok (.istore 6, 2) := by decide +kernel
theorem dX12_isOpen_117 : decode cX12_isOpen 117 = .ok (.iload 6, 2) := by decide +kernel
theorem dX12_isOpen_119 : decode cX12_isOpen 119 = .ok (.aload_n 0, 1) := by decide +kernel
theorem dX12_isOpen_120 : decode cX12_isOpen 120 = .ok (.getfield 46, 3) := by decide +kernel
theorem dX12_isOpen_123 : decode cX12_isOpen 123 = .ok (.aload_n 0, 1) := by decide +kernel
theorem dX12_isOpen_124 : decode cX12_isOpen 124 = .ok (.getfield 260, 3) := by decide +kernel
theorem dX12_isOpen_127 : decode cX12_isOpen 127 = .ok (.iaload, 1) := by decide +kernel
theorem dX12_isOpen_128 : decode cX12_isOpen 128 = .ok (.if_icmp .ge 101, 3) := by decide +kernel
theorem dX12_isOpen_131 : decode cX12_isOpen 131 = .ok (.aload_n 0, 1) := by decide +kernel
theorem dX12_isOpen_132 : decode cX12_isOpen 132 = .ok (.getfield 152, 3) := by decide +kernel
theorem dX12_isOpen_135 : decode cX12_isOpen 135 = .ok (.bipush 8, 2) := by decide +kernel
theorem dX12_isOpen_137 : decode cX12_isOpen 137 = .ok (.iload 5, 2) := by decide +kernel
theorem dX12_isOpen_139 : decode cX12_isOpen 139 = .ok (.imul, 1) := by decide +kernel
theorem dX12_isOpen_140 : decode cX12_isOpen 140 = .ok (.iload 6, 2) := by decide +kernel
theorem dX12_isOpen_142 : decode cX12_isOpen 142 = .ok (.iadd, 1) := by decide +kernel
theorem dX12_isOpen_143 : decode cX12_isOpen 143 = .ok (.baload, 1) := by decide +kernel
theorem dX12_isOpen_144 : decode cX12_isOpen 144 = .ok (.ifCond .ne 79, 3) := by decide +kernel
theorem dX12_isOpen_147 : decode cX12_isOpen 147 = .ok (.aload_n 0, 1) := by decide +kernel
theorem dX12_isOpen_148 : decode cX12_isOpen 148 = .ok (.iload 6, 2) := by decide +kernel
theorem dX12_isOpen_150 : decode cX12_isOpen 150 = .ok (.iload 5, 2) := by decide +kernel
theorem dX12_isOpen_152 : decode cX12_isOpen 152 = .ok (.invokevirtual 453, 3) := by decide +kernel
theorem dX12_isOpen_155 : decode cX12_isOpen 155 = .ok (.ifCond .ne 6, 3) := by decide +kernel
theorem dX12_isOpen_158 : decode cX12_isOpen 158 = .ok (.goto 65, 3) := by decide +kernel
theorem dX12_isOpen_161 : decode cX12_isOpen 161 = .ok (.bipush 10, 2) := by decide +kernel
theorem dX12_isOpen_163 : decode cX12_isOpen 163 = .ok (.iload 5, 2) := by decide +kernel
theorem dX12_isOpen_165 : decode cX12_isOpen 165 = .ok (.imul, 1) := by decide +kernel
theorem dX12_isOpen_166 : decode cX12_isOpen 166 = .ok (.iload 6, 2) := by decide +kernel
theorem dX12_isOpen_168 : decode cX12_isOpen 168 = .ok (.iadd, 1) := by decide +kernel
theorem dX12_isOpen_169 : decode cX12_isOpen 169 = .ok (.iload_n 2, 1) := by decide +kernel
theorem dX12_isOpen_170 : decode cX12_isOpen 170 = .ok (.if_icmp .ne 5, 3) := by decide +kernel
theorem dX12_isOpen_173 : decode cX12_isOpen 173 = .ok (.iconst 1, 1) := by decide +kernel
theorem dX12_isOpen_174 : decode cX12_isOpen 174 = .ok (.ireturn, 1) := by decide +kernel
theorem dX12_isOpen_175 : decode cX12_isOpen 175 = .ok (.aload_n 0, 1) := by decide +kernel
theorem dX12_isOpen_176 : decode cX12_isOpen 176 = .ok (.getfield 143, 3) := by decide +kernel
theorem dX12_isOpen_179 : decode cX12_isOpen 179 = .ok (.bipush 8, 2) := by decide +kernel
theorem dX12_isOpen_181 : decode cX12_isOpen 181 = .ok (.iload 5, 2) := by decide +kernel
theorem dX12_isOpen_183 : decode cX12_isOpen 183 = .ok (.imul, 1) := by decide +kernel
theorem dX12_isOpen_184 : decode cX12_isOpen 184 = .ok (.iload 6, 2) := by decide +kernel
theorem dX12_isOpen_186 : decode cX12_isOpen 186 = .ok (.iadd, 1) := by decide +kernel
theorem dX12_isOpen_187 : decode cX12_isOpen 187 = .ok (.iaload, 1) := by decide +kernel
theorem dX12_isOpen_188 : decode cX12_isOpen 188 = .ok (.iload_n 3, 1) := by decide +kernel
theorem dX12_isOpen_189 : decode cX12_isOpen 189 = .ok (.if_icmp .lt 34, 3) := by decide +kernel
theorem dX12_isOpen_192 : decode cX12_isOpen 192 = .ok (.aload_n 0, 1) := by decide +kernel
theorem dX12_isOpen_193 : decode cX12_isOpen 193 = .ok (.iload 6, 2) := by decide +kernel
theorem dX12_isOpen_195 : decode cX12_isOpen 195 = .ok (.iload 5, 2) := by decide +kernel
theorem dX12_isOpen_197 : decode cX12_isOpen 197 = .ok (.invokevirtual 459, 3) := by decide +kernel
theorem dX12_isOpen_200 : decode cX12_isOpen 200 = .ok (.ifCond .eq 6, 3) := by decide +kernel
theorem dX12_isOpen_203 : decode cX12_isOpen 203 = .ok (.goto 20, 3) := by decide +kernel
theorem dX12_isOpen_206 : decode cX12_isOpen 206 = .ok (.aload_n 0, 1) := by decide +kernel
theorem dX12_isOpen_207 : decode cX12_isOpen 207 = .ok (.getfield 152, 3) := by decide +kernel
theorem dX12_isOpen_210 : decode cX12_isOpen 210 = .ok (.bipush 8, 2) := by decide +kernel
theorem dX12_isOpen_212 : decode cX12_isOpen 212 = .ok (.iload 5, 2) := by decide +kernel
theorem dX12_isOpen_214 : decode cX12_isOpen 214 = .ok (.imul, 1) := by decide +kernel
theorem dX12_isOpen_215 : decode cX12_isOpen 215 = .ok (.iload 6, 2) := by decide +kernel
theorem dX12_isOpen_217 : decode cX12_isOpen 217 = .ok (.iadd, 1) := by decide +kernel
theorem dX12_isOpen_218 : decode cX12_isOpen 218 = .ok (.iconst 1, 1) := by decide +kernel
theorem dX12_isOpen_219 : decode cX12_isOpen 219 = .ok (.bastore, 1) := by decide +kernel
theorem dX12_isOpen_220 : decode cX12_isOpen 220 = .ok (.iconst 1, 1) := by decide +kernel
theorem dX12_isOpen_221 : decode cX12_isOpen 221 = .ok (.istore 4, 2) := by decide +kernel
theorem dX12_isOpen_223 : decode cX12_isOpen 223 = .ok (.iinc 6 1, 3) := by decide +kernel
theorem dX12_isOpen_226 : decode cX12_isOpen 226 = .ok (.goto (-109), 3) := by decide +kernel
theorem dX12_isOpen_229 : decode cX12_isOpen 229 = .ok (.iinc 5 1, 3) := by decide +kernel
theorem dX12_isOpen_232 : decode cX12_isOpen 232 = .ok (.goto (-132), 3) := by decide +kernel
theorem dX12_isOpen_235 : decode cX12_isOpen 235 = .ok (.goto (-146), 3) := by decide +kernel
theorem dX12_isOpen_238 : decode cX12_isOpen 238 = .ok (.iconst 0, 1) := by decide +kernel
theorem dX12_isOpen_239 : decode cX12_isOpen 239 = .ok (.ireturn, 1) := by decide +kernel
theorem dX12_isAt_0 : decode cX12_isAt 0 = .ok (.iload_n 1, 1) := by decide +kernel
theorem dX12_isAt_1 : decode cX12_isAt 1 = .ok (.ifCond .lt 22, 3) := by decide +kernel
theorem dX12_isAt_4 : decode cX12_isAt 4 = .ok (.aload_n 0, 1) := by decide +kernel
theorem dX12_isAt_5 : decode cX12_isAt 5 = .ok (.iload_n 1, 1) := by decide +kernel
theorem dX12_isAt_6 : decode cX12_isAt 6 = .ok (.bipush 10, 2) := by decide +kernel
theorem dX12_isAt_8 : decode cX12_isAt 8 = .ok (.irem, 1) := by decide +kernel
theorem dX12_isAt_9 : decode cX12_isAt 9 = .ok (.iload_n 1, 1) := by decide +kernel
theorem dX12_isAt_10 : decode cX12_isAt 10 = .ok (.bipush 10, 2) := by decide +kernel
theorem dX12_isAt_12 : decode cX12_isAt 12 = .ok (.idiv, 1) := by decide +kernel
theorem dX12_isAt_13 : decode cX12_isAt 13 = .ok (.invokevirtual 394, 3) := by decide +kernel
theorem dX12_isAt_16 : decode cX12_isAt 16 = .ok (.ifCond .eq 7, 3) := by decide +kernel
theorem dX12_isAt_19 : decode cX12_isAt 19 = .ok (.iconst 1, 1) := by decide +kernel
theorem dX12_isAt_20 : decode cX12_isAt 20 = .ok (.goto 4, 3) := by decide +kernel
theorem dX12_isAt_23 : decode cX12_isAt 23 = .ok (.iconst 0, 1) := by decide +kernel
theorem dX12_isAt_24 : decode cX12_isAt 24 = .ok (.ireturn, 1) := by decide +kernel
theorem dX12_mayWatch_0 : decode cX12_mayWatch 0 = .ok (.aload_n 0, 1) := by decide +kernel
theorem dX12_mayWatch_1 : decode cX12_mayWatch 1 = .ok (.iload_n 1, 1) := by decide +kernel
theorem dX12_mayWatch_2 : decode cX12_mayWatch 2 = .ok (.invokevirtual 462, 3) := by decide +kernel
theorem dX12_mayWatch_5 : decode cX12_mayWatch 5 = .ok (.ifCond .eq 39, 3) := by decide +kernel
theorem dX12_mayWatch_8 : decode cX12_mayWatch 8 = .ok (.iload_n 1, 1) := by decide +kernel
theorem dX12_mayWatch_9 : decode cX12_mayWatch 9 = .ok (.iload_n 2, 1) := by decide +kernel
theorem dX12_mayWatch_10 : decode cX12_mayWatch 10 = .ok (.if_icmp .eq 34, 3) := by decide +kernel
theorem dX12_mayWatch_13 : decode cX12_mayWatch 13 = .ok (.iload_n 1, 1) := by decide +kernel
theorem dX12_mayWatch_14 : decode cX12_mayWatch 14 = .ok (.iload_n 3, 1) := by decide +kernel
theorem dX12_mayWatch_15 : decode cX12_mayWatch 15 = .ok (.if_icmp .eq 29, 3) := by decide +kernel
theorem dX12_mayWatch_18 : decode cX12_mayWatch 18 = .ok (.aload_n 0, 1) := by decide +kernel
theorem dX12_mayWatch_19 : decode cX12_mayWatch 19 = .ok (.getfield 143, 3) := by decide +kernel
theorem dX12_mayWatch_22 : decode cX12_mayWatch 22 = .ok (.bipush 8, 2) := by decide +kernel
theorem dX12_mayWatch_24 : decode cX12_mayWatch 24 = .ok (.iload_n 1, 1) := by decide +kernel
theorem dX12_mayWatch_25 : decode cX12_mayWatch 25 = .ok (.bipush 10, 2) := by decide +kernel
theorem dX12_mayWatch_27 : decode cX12_mayWatch 27 = .ok (.idiv, 1) := by decide +kernel
theorem dX12_mayWatch_28 : decode cX12_mayWatch 28 = .ok (.imul, 1) := by decide +kernel
theorem dX12_mayWatch_29 : decode cX12_mayWatch 29 = .ok (.iload_n 1, 1) := by decide +kernel
theorem dX12_mayWatch_30 : decode cX12_mayWatch 30 = .ok (.bipush 10, 2) := by decide +kernel
theorem dX12_mayWatch_32 : decode cX12_mayWatch 32 = .ok (.irem, 1) := by decide +kernel
theorem dX12_mayWatch_33 : decode cX12_mayWatch 33 = .ok (.iadd, 1) := by decide +kernel
theorem dX12_mayWatch_34 : decode cX12_mayWatch 34 = .ok (.iaload, 1) := by decide +kernel
theorem dX12_mayWatch_35 : decode cX12_mayWatch 35 = .ok (.iload 4, 2) := by decide +kernel
theorem dX12_mayWatch_37 : decode cX12_mayWatch 37 = .ok (.if_icmp .lt 7, 3) := by decide +kernel
theorem dX12_mayWatch_40 : decode cX12_mayWatch 40 = .ok (.iconst 1, 1) := by decide +kernel
theorem dX12_mayWatch_41 : decode cX12_mayWatch 41 = .ok (.goto 4, 3) := by decide +kernel
theorem dX12_mayWatch_44 : decode cX12_mayWatch 44 = .ok (.iconst 0, 1) := by decide +kernel
theorem dX12_mayWatch_45 : decode cX12_mayWatch 45 = .ok (.ireturn, 1) := by decide +kernel
theorem dX12_findsWatch_0 : decode cX12_findsWatch 0 = .ok (.iload 4, 2) := by decide +kernel
theorem dX12_findsWatch_2 : decode cX12_findsWatch 2 = .ok (.ifCond .le 7, 3) := by decide +kernel
theorem dX12_findsWatch_5 : decode cX12_findsWatch 5 = .ok (.iconst 0, 1) := by decide +kernel
theorem dX12_findsWatch_6 : decode cX12_findsWatch 6 = .ok (.goto 5, 3) := by decide +kernel
theorem dX12_findsWatch_9 : decode cX12_findsWatch 9 = .ok (.bipush 99, 2) := by decide +kernel
theorem dX12_findsWatch_11 : decode cX12_findsWatch 11 = .ok (.istore 5, 2) := by decide +kernel
theorem dX12_findsWatch_13 : decode cX12_findsWatch 13 = .ok (.iload 5, 2) := by decide +kernel
theorem dX12_findsWatch_15 : decode cX12_findsWatch 15 = .ok (.bipush 100, 2) := by decide +kernel
theorem dX12_findsWatch_17 : decode cX12_findsWatch 17 = .ok (.if_icmp .ge 196, 3) := by decide +kernel
theorem dX12_findsWatch_20 : decode cX12_findsWatch 20 = .ok (.iload 4, 2) := by decide +kernel
theorem dX12_findsWatch_22 : decode cX12_findsWatch 22 = .ok (.ifCond .le 18, 3) := by decide +kernel
theorem dX12_findsWatch_25 : decode cX12_findsWatch 25 = .ok (.aload_n 0, 1) := by decide +kernel
theorem dX12_findsWatch_26 : decode cX12_findsWatch 26 = .ok (.iload 5, 2) := by decide +kernel
theorem dX12_findsWatch_28 : decode cX12_findsWatch 28 = .ok (.iload_n 1, 1) := by decide +kernel
theorem dX12_findsWatch_29 : decode cX12_findsWatch 29 = .ok (.iload_n 2, 1) := by decide +kernel
theorem dX12_findsWatch_30 : decode cX12_findsWatch 30 = .ok (.iload_n 3, 1) := by decide +kernel
theorem dX12_findsWatch_31 : decode cX12_findsWatch 31 = .ok (.invokevirtual 465, 3) := by decide +kernel
theorem dX12_findsWatch_34 : decode cX12_findsWatch 34 = .ok (.ifCond .ne 6, 3) := by decide +kernel
theorem dX12_findsWatch_37 : decode cX12_findsWatch 37 = .ok (.goto 170, 3) := by decide +kernel
theorem dX12_findsWatch_40 : decode cX12_findsWatch 40 = .ok (.iload 4, 2) := by decide +kernel
theorem dX12_findsWatch_42 : decode cX12_findsWatch 42 = .ok (.iconst 1, 1) := by decide +kernel
theorem dX12_findsWatch_43 : decode cX12_findsWatch 43 = .ok (.if_icmp .le 10, 3) := by decide +kernel
theorem dX12_findsWatch_46 : decode cX12_findsWatch 46 = .ok (.iload 5, 2) := by decide +kernel
theorem dX12_findsWatch_48 : decode cX12_findsWatch 48 = .ok (.iconst 1, 1) := by decide +kernel
theorem dX12_findsWatch_49 : decode cX12_findsWatch 49 = .ok (.iadd, 1) := by decide +kernel
theorem dX12_findsWatch_50 : decode cX12_findsWatch 50 = .ok (.goto 5, 3) := by decide +kernel
theorem dX12_findsWatch_53 : decode cX12_findsWatch 53 = .ok (.bipush 99, 2) := by decide +kernel
theorem dX12_findsWatch_55 : decode cX12_findsWatch 55 = .ok (.istore 6, 2) := by decide +kernel
theorem dX12_findsWatch_57 : decode cX12_findsWatch 57 = .ok (.iload 6, 2) := by decide +kernel
theorem dX12_findsWatch_59 : decode cX12_findsWatch 59 = .ok (.bipush 100, 2) := by decide +kernel
theorem dX12_findsWatch_61 : decode cX12_findsWatch 61 = .ok (.if_icmp .ge 146, 3) := by decide +kernel
theorem dX12_findsWatch_64 : decode cX12_findsWatch 64 = .ok (.iload 4, 2) := by decide +kernel
theorem dX12_findsWatch_66 : decode cX12_findsWatch 66 = .ok (.iconst 1, 1) := by decide +kernel
theorem dX12_findsWatch_67 : decode cX12_findsWatch 67 = .ok (.if_icmp .le 18, 3) := by decide +kernel
theorem dX12_findsWatch_70 : decode cX12_findsWatch 70 = .ok (.aload_n 0, 1) := by decide +kernel
theorem dX12_findsWatch_71 : decode cX12_findsWatch 71 = .ok (.iload 6, 2) := by decide +kernel
theorem dX12_findsWatch_73 : decode cX12_findsWatch 73 = .ok (.iload_n 1, 1) := by decide +kernel
theorem dX12_findsWatch_74 : decode cX12_findsWatch 74 = .ok (.iload_n 2, 1) := by decide +kernel
theorem dX12_findsWatch_75 : decode cX12_findsWatch 75 = .ok (.iload_n 3, 1) := by decide +kernel
theorem dX12_findsWatch_76 : decode cX12_findsWatch 76 = .ok (.invokevirtual 465, 3) := by decide +kernel
theorem dX12_findsWatch_79 : decode cX12_findsWatch 79 = .ok (.ifCond .ne 6, 3) := by decide +kernel
theorem dX12_findsWatch_82 : decode cX12_findsWatch 82 = .ok (.goto 119, 3) := by decide +kernel
theorem dX12_findsWatch_85 : decode cX12_findsWatch 85 = .ok (.iload 4, 2) := by decide +kernel
theorem dX12_findsWatch_87 : decode cX12_findsWatch 87 = .ok (.iconst 2, 1) := by decide +kernel
theorem dX12_findsWatch_88 : decode cX12_findsWatch 88 = .ok (.if_icmp .le 10, 3) := by decide +kernel
theorem dX12_findsWatch_91 : decode cX12_findsWatch 91 = .ok (.iload 6, 2) := by decide +kernel
theorem dX12_findsWatch_93 : decode cX12_findsWatch 93 = .ok (.iconst 1, 1) := by decide +kernel
theorem dX12_findsWatch_94 : decode cX12_findsWatch 94 = .ok (.iadd, 1) := by decide +kernel
theorem dX12_findsWatch_95 : decode cX12_findsWatch 95 = .ok (.goto 5, 3) := by decide +kernel
theorem dX12_findsWatch_98 : decode cX12_findsWatch 98 = .ok (.bipush 99, 2) := by decide +kernel
theorem dX12_findsWatch_100 : decode cX12_findsWatch 100 = .ok (.istore 7, 2) := by decide +kernel
theorem dX12_findsWatch_102 : decode cX12_findsWatch 102 = .ok (.iload 7, 2) := by decide +kernel
theorem dX12_findsWatch_104 : decode cX12_findsWatch 104 = .ok (.bipush 100, 2) := by decide +kernel
theorem dX12_findsWatch_106 : decode cX12_findsWatch 106 = .ok (.if_icmp .ge 95, 3) := by decide +kernel
theorem dX12_findsWatch_109 : decode cX12_findsWatch 109 = .ok (.iload 4, 2) := by decide +kernel
theorem dX12_findsWatch_111 : decode cX12_findsWatch 111 = .ok (.iconst 2, 1) := by decide +kernel
theorem dX12_findsWatch_112 : decode cX12_findsWatch 112 = .ok (.if_icmp .le 18, 3) := by decide +kernel
theorem dX12_findsWatch_115 : decode cX12_findsWatch 115 = .ok (.aload_n 0, 1) := by decide +kernel
theorem dX12_findsWatch_116 : decode cX12_findsWatch 116 = .ok (.iload 7, 2) := by decide +kernel
theorem dX12_findsWatch_118 : decode cX12_findsWatch 118 = .ok (.iload_n 1, 1) := by decide +kernel
theorem dX12_findsWatch_119 : decode cX12_findsWatch 119 = .ok (.iload_n 2, 1) := by decide +kernel
theorem dX12_findsWatch_120 : decode cX12_findsWatch 120 = .ok (.iload_n 3, 1) := by decide +kernel
theorem dX12_findsWatch_121 : decode cX12_findsWatch 121 = .ok (.invokevirtual 465, 3) := by decide +kernel
theorem dX12_findsWatch_124 : decode cX12_findsWatch 124 = .ok (.ifCond .ne 6, 3) := by decide +kernel
theorem dX12_findsWatch_127 : decode cX12_findsWatch 127 = .ok (.goto 68, 3) := by decide +kernel
theorem dX12_findsWatch_130 : decode cX12_findsWatch 130 = .ok (.aload_n 0, 1) := by decide +kernel
theorem dX12_findsWatch_131 : decode cX12_findsWatch 131 = .ok (.getfield 158, 3) := by decide +kernel
theorem dX12_findsWatch_134 : decode cX12_findsWatch 134 = .ok (.iconst 0, 1) := by decide +kernel
theorem dX12_findsWatch_135 : decode cX12_findsWatch 135 = .ok (.iload 4, 2) := by decide +kernel
theorem dX12_findsWatch_137 : decode cX12_findsWatch 137 = .ok (.ifCond .le 8, 3) := by decide +kernel
theorem dX12_findsWatch_140 : decode cX12_findsWatch 140 = .ok (.iload 5, 2) := by decide +kernel
theorem dX12_findsWatch_142 : decode cX12_findsWatch 142 = .ok (.goto 4, 3) := by decide +kernel
theorem dX12_findsWatch_145 : decode cX12_findsWatch 145 = .ok (.iconst (-1), 1) := by decide +kernel
theorem dX12_findsWatch_146 : decode cX12_findsWatch 146 = .ok (.iastore, 1) := by decide +kernel
theorem dX12_findsWatch_147 : decode cX12_findsWatch 147 = .ok (.aload_n 0, 1) := by decide +kernel
theorem dX12_findsWatch_148 : decode cX12_findsWatch 148 = .ok (.getfield 158, 3) := by decide +kernel
theorem dX12_findsWatch_151 : decode cX12_findsWatch 151 = .ok (.iconst 1, 1) := by decide +kernel
theorem dX12_findsWatch_152 : decode cX12_findsWatch 152 = .ok (.iload 4, 2) := by decide +kernel
theorem dX12_findsWatch_154 : decode cX12_findsWatch 154 = .ok (.iconst 1, 1) := by decide +kernel
theorem dX12_findsWatch_155 : decode cX12_findsWatch 155 = .ok (.if_icmp .le 8, 3) := by decide +kernel
theorem dX12_findsWatch_158 : decode cX12_findsWatch 158 = .ok (.iload 6, 2) := by decide +kernel
theorem dX12_findsWatch_160 : decode cX12_findsWatch 160 = .ok (.goto 4, 3) := by decide +kernel
theorem dX12_findsWatch_163 : decode cX12_findsWatch 163 = .ok (.iconst (-1), 1) := by decide +kernel
theorem dX12_findsWatch_164 : decode cX12_findsWatch 164 = .ok (.iastore, 1) := by decide +kernel
theorem dX12_findsWatch_165 : decode cX12_findsWatch 165 = .ok (.aload_n 0, 1) := by decide +kernel
theorem dX12_findsWatch_166 : decode cX12_findsWatch 166 = .ok (.getfield 158, 3) := by decide +kernel
theorem dX12_findsWatch_169 : decode cX12_findsWatch 169 = .ok (.iconst 2, 1) := by decide +kernel
theorem dX12_findsWatch_170 : decode cX12_findsWatch 170 = .ok (.iload 4, 2) := by decide +kernel
theorem dX12_findsWatch_172 : decode cX12_findsWatch 172 = .ok (.iconst 2, 1) := by decide +kernel
theorem dX12_findsWatch_173 : decode cX12_findsWatch 173 = .ok (.if_icmp .le 8, 3) := by decide +kernel
theorem dX12_findsWatch_176 : decode cX12_findsWatch 176 = .ok (.iload 7, 2) := by decide +kernel
theorem dX12_findsWatch_178 : decode cX12_findsWatch 178 = .ok (.goto 4, 3) := by decide +kernel
theorem dX12_findsWatch_181 : decode cX12_findsWatch 181 = .ok (.iconst (-1), 1) := by decide +kernel
theorem dX12_findsWatch_182 : decode cX12_findsWatch 182 = .ok (.iastore, 1) := by decide +kernel
theorem dX12_findsWatch_183 : decode cX12_findsWatch 183 = .ok (.aload_n 0, 1) := by decide +kernel
theorem dX12_findsWatch_184 : decode cX12_findsWatch 184 = .ok (.iload_n 1, 1) := by decide +kernel
theorem dX12_findsWatch_185 : decode cX12_findsWatch 185 = .ok (.iload_n 2, 1) := by decide +kernel
theorem dX12_findsWatch_186 : decode cX12_findsWatch 186 = .ok (.iload_n 3, 1) := by decide +kernel
theorem dX12_findsWatch_187 : decode cX12_findsWatch 187 = .ok (.invokevirtual 469, 3) := by decide +kernel
theorem dX12_findsWatch_190 : decode cX12_findsWatch 190 = .ok (.ifCond .ne 5, 3) := by decide +kernel
theorem dX12_findsWatch_193 : decode cX12_findsWatch 193 = .ok (.iconst 1, 1) := by decide +kernel
theorem dX12_findsWatch_194 : decode cX12_findsWatch 194 = .ok (.ireturn, 1) := by decide +kernel
theorem dX12_findsWatch_195 : decode cX12_findsWatch 195 = .ok (.iinc 7 1, 3) := by decide +kernel
theorem dX12_findsWatch_198 : decode cX12_findsWatch 198 = .ok (.goto (-96), 3) := by decide +kernel
theorem dX12_findsWatch_201 : decode cX12_findsWatch 201 = .ok (.iinc 6 1, 3) := by decide +kernel
theorem dX12_findsWatch_204 : decode cX12_findsWatch 204 = .ok (.goto (-147), 3) := by decide +kernel
theorem dX12_findsWatch_207 : decode cX12_findsWatch 207 = .ok (.iinc 5 1, 3) := by decide +kernel
theorem dX12_findsWatch_210 : decode cX12_findsWatch 210 = .ok (.goto (-197), 3) := by decide +kernel
theorem dX12_findsWatch_213 : decode cX12_findsWatch 213 = .ok (.iconst 0, 1) := by decide +kernel
theorem dX12_findsWatch_214 : decode cX12_findsWatch 214 = .ok (.ireturn, 1) := by decide +kernel
theorem dX12_watch_0 : decode cX12_watch 0 = .ok (.aload_n 0, 1) := by decide +kernel
theorem dX12_watch_1 : decode cX12_watch 1 = .ok (.iload_n 1, 1) := by decide +kernel
theorem dX12_watch_2 : decode cX12_watch 2 = .ok (.invokevirtual 462, 3) := by decide +kernel
theorem dX12_watch_5 : decode cX12_watch 5 = .ok (.ifCond .eq 33, 3) := by decide +kernel
theorem dX12_watch_8 : decode cX12_watch 8 = .ok (.aload_n 0, 1) := by decide +kernel
theorem dX12_watch_9 : decode cX12_watch 9 = .ok (.iload_n 2, 1) := by decide +kernel
theorem dX12_watch_10 : decode cX12_watch 10 = .ok (.invokevirtual 462, 3) := by decide +kernel
theorem dX12_watch_13 : decode cX12_watch 13 = .ok (.ifCond .eq 25, 3) := by decide +kernel
theorem dX12_watch_16 : decode cX12_watch 16 = .ok (.iload_n 1, 1) := by decide +kernel
theorem dX12_watch_17 : decode cX12_watch 17 = .ok (.iload_n 2, 1) := by decide +kernel
theorem dX12_watch_18 : decode cX12_watch 18 = .ok (.if_icmp .eq 20, 3) := by decide +kernel
theorem dX12_watch_21 : decode cX12_watch 21 = .ok (.iload_n 3, 1) := by decide +kernel
theorem dX12_watch_22 : decode cX12_watch 22 = .ok (.invokestatic 447, 3) := by decide +kernel
theorem dX12_watch_25 : decode cX12_watch 25 = .ok (.ifCond .eq 13, 3) := by decide +kernel
theorem dX12_watch_28 : decode cX12_watch 28 = .ok (.iload 4, 2) := by decide +kernel
theorem dX12_watch_30 : decode cX12_watch 30 = .ok (.iconst (-1), 1) := by decide +kernel
theorem dX12_watch_31 : decode cX12_watch 31 = .ok (.iconst 2, 1) := by decide +kernel
theorem dX12_watch_32 : decode cX12_watch 32 = .ok (.invokestatic 361, 3) := by decide +kernel
theorem dX12_watch_35 : decode cX12_watch 35 = .ok (.ifCond .ne 5, 3) := by decide +kernel
theorem dX12_watch_38 : decode cX12_watch 38 = .ok (.iconst (-1), 1) := by decide +kernel
theorem dX12_watch_39 : decode cX12_watch 39 = .ok (.ireturn, 1) := by decide +kernel
theorem dX12_watch_40 : decode cX12_watch 40 = .ok (.aload_n 0, 1) := by decide +kernel
theorem dX12_watch_41 : decode cX12_watch 41 = .ok (.invokevirtual 413, 3) := by decide +kernel
theorem dX12_watch_44 : decode cX12_watch 44 = .ok (.iconst 0, 1) := by decide +kernel
theorem dX12_watch_45 : decode cX12_watch 45 = .ok (.istore 5, 2) := by decide +kernel
theorem dX12_watch_47 : decode cX12_watch 47 = .ok (.iload 5, 2) := by decide +kernel
theorem dX12_watch_49 : decode cX12_watch 49 = .ok (.iconst 3, 1) := by decide +kernel
theorem dX12_watch_50 : decode cX12_watch 50 = .ok (.if_icmp .gt 54, 3) := by decide +kernel
theorem dX12_watch_53 : decode cX12_watch 53 = .ok (.aload_n 0, 1) := by decide +kernel
theorem dX12_watch_54 : decode cX12_watch 54 = .ok (.iload_n 1, 1) := by decide +kernel
theorem dX12_watch_55 : decode cX12_watch 55 = .ok (.iload_n 2, 1) := by decide +kernel
theorem dX12_watch_56 : decode cX12_watch 56 = .ok (.iload_n 3, 1) := by decide +kernel
theorem dX12_watch_57 : decode cX12_watch 57 = .ok (.iload 5, 2) := by decide +kernel
theorem dX12_watch_59 : decode cX12_watch 59 = .ok (.invokevirtual 472, 3) := by decide +kernel
theorem dX12_watch_62 : decode cX12_watch 62 = .ok (.ifCond .ne 6, 3) := by decide +kernel
theorem dX12_watch_65 : decode cX12_watch 65 = .ok (.goto 33, 3) := by decide +kernel
theorem dX12_watch_68 : decode cX12_watch 68 = .ok (.iload 4, 2) := by decide +kernel
theorem dX12_watch_70 : decode cX12_watch 70 = .ok (.iconst (-1), 1) := by decide +kernel
theorem dX12_watch_71 : decode cX12_watch 71 = .ok (.if_icmp .ne 8, 3) := by decide +kernel
theorem dX12_watch_74 : decode cX12_watch 74 = .ok (.iload 5, 2) := by decide +kernel
theorem dX12_watch_76 : decode cX12_watch 76 = .ok (.goto 21, 3) := by decide +kernel
theorem dX12_watch_79 : decode cX12_watch 79 = .ok (.iload 4, 2) := by decide +kernel
theorem dX12_watch_81 : decode cX12_watch 81 = .ok (.iload 5, 2) := by decide +kernel
theorem dX12_watch_83 : decode cX12_watch 83 = .ok (.if_icmp .ge 13, 3) := by decide +kernel
theorem dX12_watch_86 : decode cX12_watch 86 = .ok (.aload_n 0, 1) := by decide +kernel
theorem dX12_watch_87 : decode cX12_watch 87 = .ok (.getfield 158, 3) := by decide +kernel
theorem dX12_watch_90 : decode cX12_watch 90 = .ok (.iload 4, 2) := by decide +kernel
theorem dX12_watch_92 : decode cX12_watch 92 = .ok (.iaload, 1) := by decide +kernel
theorem dX12_watch_93 : decode cX12_watch 93 = .ok (.goto 4, 3) := by decide +kernel
theorem dX12_watch_96 : decode cX12_watch 96 = .ok (.iconst (-1), 1) := by decide +kernel
theorem dX12_watch_97 : decode cX12_watch 97 = .ok (.ireturn, 1) := by decide +kernel
theorem dX12_watch_98 : decode cX12_watch 98 = .ok (.iinc 5 1, 3) := by decide +kernel
theorem dX12_watch_101 : decode cX12_watch 101 = .ok (.goto (-54), 3) := by decide +kernel
theorem dX12_watch_104 : decode cX12_watch 104 = .ok (.bipush (-2), 2) := by decide +kernel
theorem dX12_watch_106 : decode cX12_watch 106 = .ok (.ireturn, 1) := by decide +kernel
theorem dX12_seesOn_0 : decode cX12_seesOn 0 = .ok (.iconst 0, 1) := by decide +kernel
theorem dX12_seesOn_1 : decode cX12_seesOn 1 = .ok (.istore 6, 2) := by decide +kernel
theorem dX12_seesOn_3 : decode cX12_seesOn 3 = .ok (.aload_n 0, 1) := by decide +kernel
theorem dX12_seesOn_4 : decode cX12_seesOn 4 = .ok (.iload_n 1, 1) := by decide +kernel
theorem dX12_seesOn_5 : decode cX12_seesOn 5 = .ok (.iload 6, 2) := by decide +kernel
theorem dX12_seesOn_7 : decode cX12_seesOn 7 = .ok (.iconst 1, 1) := by decide +kernel
theorem dX12_seesOn_8 : decode cX12_seesOn 8 = .ok (.iadd, 1) := by decide +kernel
theorem dX12_seesOn_9 : decode cX12_seesOn 9 = .ok (.iload_n 3, 1) := by decide +kernel
theorem dX12_seesOn_10 : decode cX12_seesOn 10 = .ok (.imul, 1) := by decide +kernel
theorem dX12_seesOn_11 : decode cX12_seesOn 11 = .ok (.iadd, 1) := by decide +kernel
theorem dX12_seesOn_12 : decode cX12_seesOn 12 = .ok (.iload_n 2, 1) := by decide +kernel
theorem dX12_seesOn_13 : decode cX12_seesOn 13 = .ok (.iload 6, 2) := by decide +kernel
theorem dX12_seesOn_15 : decode cX12_seesOn 15 = .ok (.iconst 1, 1) := by decide +kernel
theorem dX12_seesOn_16 : decode cX12_seesOn 16 = .ok (.iadd, 1) := by decide +kernel
theorem dX12_seesOn_17 : decode cX12_seesOn 17 = .ok (.iload 4, 2) := by decide +kernel
theorem dX12_seesOn_19 : decode cX12_seesOn 19 = .ok (.imul, 1) := by decide +kernel
theorem dX12_seesOn_20 : decode cX12_seesOn 20 = .ok (.iadd, 1) := by decide +kernel
theorem dX12_seesOn_21 : decode cX12_seesOn 21 = .ok (.invokevirtual 394, 3) := by decide +kernel
theorem dX12_seesOn_24 : decode cX12_seesOn 24 = .ok (.ifCond .eq 40, 3) := by decide +kernel
theorem dX12_seesOn_27 : decode cX12_seesOn 27 = .ok (.aload_n 0, 1) := by decide +kernel
theorem dX12_seesOn_28 : decode cX12_seesOn 28 = .ok (.getfield 143, 3) := by decide +kernel
theorem dX12_seesOn_31 : decode cX12_seesOn 31 = .ok (.bipush 8, 2) := by decide +kernel
theorem dX12_seesOn_33 : decode cX12_seesOn 33 = .ok (.iload_n 2, 1) := by decide +kernel
theorem dX12_seesOn_34 : decode cX12_seesOn 34 = .ok (.iload 6, 2) := by decide +kernel
theorem dX12_seesOn_36 : decode cX12_seesOn 36 = .ok (.iconst 1, 1) := by decide +kernel
theorem dX12_seesOn_37 : decode cX12_seesOn 37 = .ok (.iadd, 1) := by decide +kernel
theorem dX12_seesOn_38 : decode cX12_seesOn 38 = .ok (.iload 4, 2) := by decide +kernel
theorem dX12_seesOn_40 : decode cX12_seesOn 40 = .ok (.imul, 1) := by decide +kernel
theorem dX12_seesOn_41 : decode cX12_seesOn 41 = .ok (.iadd, 1) := by decide +kernel
theorem dX12_seesOn_42 : decode cX12_seesOn 42 = .ok (.imul, 1) := by decide +kernel
theorem dX12_seesOn_43 : decode cX12_seesOn 43 = .ok (.iload_n 1, 1) := by decide +kernel
theorem dX12_seesOn_44 : decode cX12_seesOn 44 = .ok (.iadd, 1) := by decide +kernel
theorem dX12_seesOn_45 : decode cX12_seesOn 45 = .ok (.iload 6, 2) := by decide +kernel
theorem dX12_seesOn_47 : decode cX12_seesOn 47 = .ok (.iconst 1, 1) := by decide +kernel
theorem dX12_seesOn_48 : decode cX12_seesOn 48 = .ok (.iadd, 1) := by decide +kernel
theorem dX12_seesOn_49 : decode cX12_seesOn 49 = .ok (.iload_n 3, 1) := by decide +kernel
theorem dX12_seesOn_50 : decode cX12_seesOn 50 = .ok (.imul, 1) := by decide +kernel
theorem dX12_seesOn_51 : decode cX12_seesOn 51 = .ok (.iadd, 1) := by decide +kernel
theorem dX12_seesOn_52 : decode cX12_seesOn 52 = .ok (.iaload, 1) := by decide +kernel
theorem dX12_seesOn_53 : decode cX12_seesOn 53 = .ok (.iload 5, 2) := by decide +kernel
theorem dX12_seesOn_55 : decode cX12_seesOn 55 = .ok (.if_icmp .ge 9, 3) := by decide +kernel
theorem dX12_seesOn_58 : decode cX12_seesOn 58 = .ok (.iinc 6 1, 3) := by decide +kernel
theorem dX12_seesOn_61 : decode cX12_seesOn 61 = .ok (.goto (-58), 3) := by decide +kernel
theorem dX12_seesOn_64 : decode cX12_seesOn 64 = .ok (.iload 6, 2) := by decide +kernel
theorem dX12_seesOn_66 : decode cX12_seesOn 66 = .ok (.ireturn, 1) := by decide +kernel
theorem dX12_sight_0 : decode cX12_sight 0 = .ok (.aload_n 0, 1) := by decide +kernel
theorem dX12_sight_1 : decode cX12_sight 1 = .ok (.iload_n 1, 1) := by decide +kernel
theorem dX12_sight_2 : decode cX12_sight 2 = .ok (.iload_n 2, 1) := by decide +kernel
theorem dX12_sight_3 : decode cX12_sight 3 = .ok (.invokevirtual 394, 3) := by decide +kernel
theorem dX12_sight_6 : decode cX12_sight 6 = .ok (.ifCond .eq 10, 3) := by decide +kernel
theorem dX12_sight_9 : decode cX12_sight 9 = .ok (.iload_n 3, 1) := by decide +kernel
theorem dX12_sight_10 : decode cX12_sight 10 = .ok (.invokestatic 447, 3) := by decide +kernel
theorem dX12_sight_13 : decode cX12_sight 13 = .ok (.ifCond .ne 5, 3) := by decide +kernel
theorem dX12_sight_16 : decode cX12_sight 16 = .ok (.iconst (-1), 1) := by decide +kernel
theorem dX12_sight_17 : decode cX12_sight 17 = .ok (.ireturn, 1) := by decide +kernel
theorem dX12_sight_18 : decode cX12_sight 18 = .ok (.aload_n 0, 1) := by decide +kernel
theorem dX12_sight_19 : decode cX12_sight 19 = .ok (.invokevirtual 413, 3) := by decide +kernel
theorem dX12_sight_22 : decode cX12_sight 22 = .ok (.aload_n 0, 1) := by decide +kernel
theorem dX12_sight_23 : decode cX12_sight 23 = .ok (.iload_n 1, 1) := by decide +kernel
theorem dX12_sight_24 : decode cX12_sight 24 = .ok (.iload_n 2, 1) := by decide +kernel
theorem dX12_sight_25 : decode cX12_sight 25 = .ok (.iconst 1, 1) := by decide +kernel
theorem dX12_sight_26 : decode cX12_sight 26 = .ok (.iconst 0, 1) := by decide +kernel
theorem dX12_sight_27 : decode cX12_sight 27 = .ok (.iload_n 3, 1) := by decide +kernel
theorem dX12_sight_28 : decode cX12_sight 28 = .ok (.invokevirtual 475, 3) := by decide +kernel
theorem dX12_sight_31 : decode cX12_sight 31 = .ok (.aload_n 0, 1) := by decide +kernel
theorem dX12_sight_32 : decode cX12_sight 32 = .ok (.iload_n 1, 1) := by decide +kernel
theorem dX12_sight_33 : decode cX12_sight 33 = .ok (.iload_n 2, 1) := by decide +kernel
theorem dX12_sight_34 : decode cX12_sight 34 = .ok (.iconst (-1), 1) := by decide +kernel
theorem dX12_sight_35 : decode cX12_sight 35 = .ok (.iconst 0, 1) := by decide +kernel
theorem dX12_sight_36 : decode cX12_sight 36 = .ok (.iload_n 3, 1) := by decide +kernel
theorem dX12_sight_37 : decode cX12_sight 37 = .ok (.invokevirtual 475, 3) := by decide +kernel
theorem dX12_sight_40 : decode cX12_sight 40 = .ok (.iadd, 1) := by decide +kernel
theorem dX12_sight_41 : decode cX12_sight 41 = .ok (.aload_n 0, 1) := by decide +kernel
theorem dX12_sight_42 : decode cX12_sight 42 = .ok (.iload_n 1, 1) := by decide +kernel
theorem dX12_sight_43 : decode cX12_sight 43 = .ok (.iload_n 2, 1) := by decide +kernel
theorem dX12_sight_44 : decode cX12_sight 44 = .ok (.iconst 0, 1) := by decide +kernel
theorem dX12_sight_45 : decode cX12_sight 45 = .ok (.iconst 1, 1) := by decide +kernel
theorem dX12_sight_46 : decode cX12_sight 46 = .ok (.iload_n 3, 1) := by decide +kernel
theorem dX12_sight_47 : decode cX12_sight 47 = .ok (.invokevirtual 475, 3) := by decide +kernel
theorem dX12_sight_50 : decode cX12_sight 50 = .ok (.iadd, 1) := by decide +kernel
theorem dX12_sight_51 : decode cX12_sight 51 = .ok (.aload_n 0, 1) := by decide +kernel
theorem dX12_sight_52 : decode cX12_sight 52 = .ok (.iload_n 1, 1) := by decide +kernel
theorem dX12_sight_53 : decode cX12_sight 53 = .ok (.iload_n 2, 1) := by decide +kernel
theorem dX12_sight_54 : decode cX12_sight 54 = .ok (.iconst 0, 1) := by decide +kernel
theorem dX12_sight_55 : decode cX12_sight 55 = .ok (.iconst (-1), 1) := by decide +kernel
theorem dX12_sight_56 : decode cX12_sight 56 = .ok (.iload_n 3, 1) := by decide +kernel
theorem dX12_sight_57 : decode cX12_sight 57 = .ok (.invokevirtual 475, 3) := by decide +kernel
theorem dX12_sight_60 : decode cX12_sight 60 = .ok (.iadd, 1) := by decide +kernel
theorem dX12_sight_61 : decode cX12_sight 61 = .ok (.ireturn, 1) := by decide +kernel
theorem dX12_wind_0 : decode cX12_wind 0 = .ok (.iload_n 1, 1) := by decide +kernel
theorem dX12_wind_1 : decode cX12_wind 1 = .ok (.invokestatic 441, 3) := by decide +kernel
theorem dX12_wind_4 : decode cX12_wind 4 = .ok (.ifCond .eq 19, 3) := by decide +kernel
theorem dX12_wind_7 : decode cX12_wind 7 = .ok (.aload_n 0, 1) := by decide +kernel
theorem dX12_wind_8 : decode cX12_wind 8 = .ok (.aload_n 0, 1) := by decide +kernel
theorem dX12_wind_9 : decode cX12_wind 9 = .ok (.getfield 140, 3) := by decide +kernel
theorem dX12_wind_12 : decode cX12_wind 12 = .ok (.bipush 104, 2) := by decide +kernel
theorem dX12_wind_14 : decode cX12_wind 14 = .ok (.iaload, 1) := by decide +kernel
theorem dX12_wind_15 : decode cX12_wind 15 = .ok (.iload_n 1, 1) := by decide +kernel
theorem dX12_wind_16 : decode cX12_wind 16 = .ok (.iadd, 1) := by decide +kernel
theorem dX12_wind_17 : decode cX12_wind 17 = .ok (.invokevirtual 398, 3) := by decide +kernel
theorem dX12_wind_20 : decode cX12_wind 20 = .ok (.goto 4, 3) := by decide +kernel
theorem dX12_wind_23 : decode cX12_wind 23 = .ok (.iconst (-1), 1) := by decide +kernel
theorem dX12_wind_24 : decode cX12_wind 24 = .ok (.ireturn, 1) := by decide +kernel
theorem dX12_lent_0 : decode cX12_lent 0 = .ok (.aload_n 0, 1) := by decide +kernel
theorem dX12_lent_1 : decode cX12_lent 1 = .ok (.iload_n 1, 1) := by decide +kernel
theorem dX12_lent_2 : decode cX12_lent 2 = .ok (.invokevirtual 416, 3) := by decide +kernel
theorem dX12_lent_5 : decode cX12_lent 5 = .ok (.ifCond .eq 32, 3) := by decide +kernel
theorem dX12_lent_8 : decode cX12_lent 8 = .ok (.aload_n 0, 1) := by decide +kernel
theorem dX12_lent_9 : decode cX12_lent 9 = .ok (.iload_n 2, 1) := by decide +kernel
theorem dX12_lent_10 : decode cX12_lent 10 = .ok (.invokevirtual 416, 3) := by decide +kernel
theorem dX12_lent_13 : decode cX12_lent 13 = .ok (.ifCond .eq 24, 3) := by decide +kernel
theorem dX12_lent_16 : decode cX12_lent 16 = .ok (.iload_n 1, 1) := by decide +kernel
theorem dX12_lent_17 : decode cX12_lent 17 = .ok (.iload_n 2, 1) := by decide +kernel
theorem dX12_lent_18 : decode cX12_lent 18 = .ok (.if_icmp .eq 19, 3) := by decide +kernel
theorem dX12_lent_21 : decode cX12_lent 21 = .ok (.aload_n 0, 1) := by decide +kernel
theorem dX12_lent_22 : decode cX12_lent 22 = .ok (.getfield 140, 3) := by decide +kernel
theorem dX12_lent_25 : decode cX12_lent 25 = .ok (.bipush 88, 2) := by decide +kernel
theorem dX12_lent_27 : decode cX12_lent 27 = .ok (.iconst 4, 1) := by decide +kernel
theorem dX12_lent_28 : decode cX12_lent 28 = .ok (.iload_n 1, 1) := by decide +kernel
theorem dX12_lent_29 : decode cX12_lent 29 = .ok (.imul, 1) := by decide +kernel
theorem dX12_lent_30 : decode cX12_lent 30 = .ok (.iadd, 1) := by decide +kernel
theorem dX12_lent_31 : decode cX12_lent 31 = .ok (.iload_n 2, 1) := by decide +kernel
theorem dX12_lent_32 : decode cX12_lent 32 = .ok (.iadd, 1) := by decide +kernel
theorem dX12_lent_33 : decode cX12_lent 33 = .ok (.iaload, 1) := by decide +kernel
theorem dX12_lent_34 : decode cX12_lent 34 = .ok (.goto 4, 3) := by decide +kernel
theorem dX12_lent_37 : decode cX12_lent 37 = .ok (.iconst (-1), 1) := by decide +kernel
theorem dX12_lent_38 : decode cX12_lent 38 = .ok (.ireturn, 1) := by decide +kernel
theorem dX12_gone_0 : decode cX12_gone 0 = .ok (.iload_n 1, 1) := by decide +kernel
theorem dX12_gone_1 : decode cX12_gone 1 = .ok (.iconst 0, 1) := by decide +kernel
theorem dX12_gone_2 : decode cX12_gone 2 = .ok (.iconst 1, 1) := by decide +kernel
theorem dX12_gone_3 : decode cX12_gone 3 = .ok (.invokestatic 361, 3) := by decide +kernel
theorem dX12_gone_6 : decode cX12_gone 6 = .ok (.ifCond .ne 5, 3) := by decide +kernel
theorem dX12_gone_9 : decode cX12_gone 9 = .ok (.iconst (-1), 1) := by decide +kernel
theorem dX12_gone_10 : decode cX12_gone 10 = .ok (.ireturn, 1) := by decide +kernel
theorem dX12_gone_11 : decode cX12_gone 11 = .ok (.aload_n 0, 1) := by decide +kernel
theorem dX12_gone_12 : decode cX12_gone 12 = .ok (.invokevirtual 413, 3) := by decide +kernel
theorem dX12_gone_15 : decode cX12_gone 15 = .ok (.iconst 0, 1) := by decide +kernel
theorem dX12_gone_16 : decode cX12_gone 16 = .ok (.istore_n 2, 1) := by decide +kernel
theorem dX12_gone_17 : decode cX12_gone 17 = .ok (.iload_n 2, 1) := by decide +kernel
theorem dX12_gone_18 : decode cX12_gone 18 = .ok (.bipush 72, 2) := by decide +kernel
theorem dX12_gone_20 : decode cX12_gone 20 = .ok (.if_icmp .gt 60, 3) := by decide +kernel
theorem dX12_gone_23 : decode cX12_gone 23 = .ok (.iconst 0, 1) := by decide +kernel
theorem dX12_gone_24 : decode cX12_gone 24 = .ok (.istore_n 3, 1) := by decide +kernel
theorem dX12_gone_25 : decode cX12_gone 25 = .ok (.iload_n 3, 1) := by decide +kernel
theorem dX12_gone_26 : decode cX12_gone 26 = .ok (.aload_n 0, 1) := by decide +kernel
theorem dX12_gone_27 : decode cX12_gone 27 = .ok (.getfield 58, 3) := by decide +kernel
theorem dX12_gone_30 : decode cX12_gone 30 = .ok (.aload_n 0, 1) := by decide +kernel
theorem dX12_gone_31 : decode cX12_gone 31 = .ok (.getfield 260, 3) := by decide +kernel
theorem dX12_gone_34 : decode cX12_gone 34 = .ok (.iaload, 1) := by decide +kernel
theorem dX12_gone_35 : decode cX12_gone 35 = .ok (.if_icmp .ge 35, 3) := by decide +kernel
theorem dX12_gone_38 : decode cX12_gone 38 = .ok (.aload_n 0, 1) := by decide +kernel
theorem dX12_gone_39 : decode cX12_gone 39 = .ok (.iload_n 3, 1) := by decide +kernel
theorem dX12_gone_40 : decode cX12_gone 40 = .ok (.invokevirtual 420, 3) := by decide +kernel
theorem dX12_gone_43 : decode cX12_gone 43 = .ok (.ifCond .le 21, 3) := by decide +kernel
theorem dX12_gone_46 : decode cX12_gone 46 = .ok (.aload_n 0, 1) := by decide +kernel
theorem dX12_gone_47 : decode cX12_gone 47 = .ok (.iload_n 3, 1) := by decide +kernel
theorem dX12_gone_48 : decode cX12_gone 48 = .ok (.invokevirtual 387, 3) := by decide +kernel
theorem dX12_gone_51 : decode cX12_gone 51 = .ok (.ifCond .ne 13, 3) := by decide +kernel
theorem dX12_gone_54 : decode cX12_gone 54 = .ok (.iload_n 1, 1) := by decide +kernel
theorem dX12_gone_55 : decode cX12_gone 55 = .ok (.ifCond .ne 7, 3) := by decide +kernel
theorem dX12_gone_58 : decode cX12_gone 58 = .ok (.iload_n 3, 1) := by decide +kernel
theorem dX12_gone_59 : decode cX12_gone 59 = .ok (.goto 4, 3) := by decide +kernel
theorem dX12_gone_62 : decode cX12_gone 62 = .ok (.iload_n 2, 1) := by decide +kernel
theorem dX12_gone_63 : decode cX12_gone 63 = .ok (.ireturn, 1) := by decide +kernel
theorem dX12_gone_64 : decode cX12_gone 64 = .ok (.iinc 3 1, 3) := by decide +kernel
theorem dX12_gone_67 : decode cX12_gone 67 = .ok (.goto (-42), 3) := by decide +kernel
theorem dX12_gone_70 : decode cX12_gone 70 = .ok (.aload_n 0, 1) := by decide +kernel
theorem dX12_gone_71 : decode cX12_gone 71 = .ok (.invokevirtual 410, 3) := by decide +kernel
theorem dX12_gone_74 : decode cX12_gone 74 = .ok (.iinc 2 1, 3) := by decide +kernel
theorem dX12_gone_77 : decode cX12_gone 77 = .ok (.goto (-60), 3) := by decide +kernel
theorem dX12_gone_80 : decode cX12_gone 80 = .ok (.bipush (-2), 2) := by decide +kernel
theorem dX12_gone_82 : decode cX12_gone 82 = .ok (.ireturn, 1) := by decide +kernel
theorem dX12_year_0 : decode cX12_year 0 = .ok (.aload_n 0, 1) := by decide +kernel
theorem dX12_year_1 : decode cX12_year 1 = .ok (.iload_n 1, 1) := by decide +kernel
theorem dX12_year_2 : decode cX12_year 2 = .ok (.invokevirtual 429, 3) := by decide +kernel
theorem dX12_year_5 : decode cX12_year 5 = .ok (.ifCond .eq 20, 3) := by decide +kernel
theorem dX12_year_8 : decode cX12_year 8 = .ok (.iload_n 2, 1) := by decide +kernel
theorem dX12_year_9 : decode cX12_year 9 = .ok (.invokestatic 441, 3) := by decide +kernel
theorem dX12_year_12 : decode cX12_year 12 = .ok (.ifCond .eq 13, 3) := by decide +kernel
theorem dX12_year_15 : decode cX12_year 15 = .ok (.iload_n 3, 1) := by decide +kernel
theorem dX12_year_16 : decode cX12_year 16 = .ok (.iconst 1, 1) := by decide +kernel
theorem dX12_year_17 : decode cX12_year 17 = .ok (.bipush 20, 2) := by decide +kernel
theorem dX12_year_19 : decode cX12_year 19 = .ok (.invokestatic 361, 3) := by decide +kernel
theorem dX12_year_22 : decode cX12_year 22 = .ok (.ifCond .ne 5, 3) := by decide +kernel
theorem dX12_year_25 : decode cX12_year 25 = .ok (.iconst (-1), 1) := by decide +kernel
theorem dX12_year_26 : decode cX12_year 26 = .ok (.ireturn, 1) := by decide +kernel
theorem dX12_year_27 : decode cX12_year 27 = .ok (.iconst 0, 1) := by decide +kernel
theorem dX12_year_28 : decode cX12_year 28 = .ok (.istore 4, 2) := by decide +kernel
theorem dX12_year_30 : decode cX12_year 30 = .ok (.iconst 0, 1) := by decide +kernel
theorem dX12_year_31 : decode cX12_year 31 = .ok (.istore 5, 2) := by decide +kernel
theorem dX12_year_33 : decode cX12_year 33 = .ok (.iload 5, 2) := by decide +kernel
theorem dX12_year_35 : decode cX12_year 35 = .ok (.iload_n 3, 1) := by decide +kernel
theorem dX12_year_36 : decode cX12_year 36 = .ok (.if_icmp .ge 40, 3) := by decide +kernel
theorem dX12_year_39 : decode cX12_year 39 = .ok (.aload_n 0, 1) := by decide +kernel
theorem dX12_year_40 : decode cX12_year 40 = .ok (.invokevirtual 413, 3) := by decide +kernel
theorem dX12_year_43 : decode cX12_year 43 = .ok (.aload_n 0, 1) := by decide +kernel
theorem dX12_year_44 : decode cX12_year 44 = .ok (.dup, 1) := by decide +kernel
theorem dX12_year_45 : decode cX12_year 45 = .ok (.getfield 365, 3) := by decide +kernel
theorem dX12_year_48 : decode cX12_year 48 = .ok (.iload 5, 2) := by decide +kernel
theorem dX12_year_50 : decode cX12_year 50 = .ok (.iadd, 1) := by decide +kernel
theorem dX12_year_51 : decode cX12_year 51 = .ok (.putfield 365, 3) := by decide +kernel
theorem dX12_year_54 : decode cX12_year 54 = .ok (.aload_n 0, 1) := by decide +kernel
theorem dX12_year_55 : decode cX12_year 55 = .ok (.iload_n 2, 1) := by decide +kernel
theorem dX12_year_56 : decode cX12_year 56 = .ok (.invokevirtual 438, 3) := by decide +kernel
theorem dX12_year_59 : decode cX12_year 59 = .ok (.aload_n 0, 1) := by decide +kernel
theorem dX12_year_60 : decode cX12_year 60 = .ok (.iload_n 1, 1) := by decide +kernel
theorem dX12_year_61 : decode cX12_year 61 = .ok (.invokevirtual 450, 3) := by decide +kernel
theorem dX12_year_64 : decode cX12_year 64 = .ok (.ifCond .eq 6, 3) := by decide +kernel
theorem dX12_year_67 : decode cX12_year 67 = .ok (.iinc 4 1, 3) := by decide +kernel
theorem dX12_year_70 : decode cX12_year 70 = .ok (.iinc 5 1, 3) := by decide +kernel
theorem dX12_year_73 : decode cX12_year 73 = .ok (.goto (-40), 3) := by decide +kernel
theorem dX12_year_76 : decode cX12_year 76 = .ok (.iload 4, 2) := by decide +kernel
theorem dX12_year_78 : decode cX12_year 78 = .ok (.ireturn, 1) := by decide +kernel
theorem dX12_tell_0 : decode cX12_tell 0 = .ok (.aload_n 0, 1) := by decide +kernel
theorem dX12_tell_1 : decode cX12_tell 1 = .ok (.getfield 289, 3) := by decide +kernel
theorem dX12_tell_4 : decode cX12_tell 4 = .ok (.bipush 20, 2) := by decide +kernel
theorem dX12_tell_6 : decode cX12_tell 6 = .ok (.if_icmp .eq 33, 3) := by decide +kernel
theorem dX12_tell_9 : decode cX12_tell 9 = .ok (.aload_n 0, 1) := by decide +kernel
theorem dX12_tell_10 : decode cX12_tell 10 = .ok (.iload_n 1, 1) := by decide +kernel
theorem dX12_tell_11 : decode cX12_tell 11 = .ok (.iload_n 2, 1) := by decide +kernel
theorem dX12_tell_12 : decode cX12_tell 12 = .ok (.invokevirtual 394, 3) := by decide +kernel
