theorem dX12_must_12 : decode cX12_must 12 = .ok (.goto 8, 3) := by decide +kernel
theorem dX12_must_15 : decode cX12_must 15 = .ok (.aload_n 0, 1) := by decide +kernel
theorem dX12_must_16 : decode cX12_must 16 = .ok (.iconst 1, 1) := by decide +kernel
theorem dX12_must_17 : decode cX12_must 17 = .ok (.invokevirtual 245, 3) := by decide +kernel
theorem dX12_must_20 : decode cX12_must 20 = .ok (.return_, 1) := by decide +kernel
theorem dX12_plain_0 : decode cX12_plain 0 = .ok (.aload_n 0, 1) := by decide +kernel
theorem dX12_plain_1 : decode cX12_plain 1 = .ok (.getfield 46, 3) := by decide +kernel
theorem dX12_plain_4 : decode cX12_plain 4 = .ok (.iload_n 1, 1) := by decide +kernel
theorem dX12_plain_5 : decode cX12_plain 5 = .ok (.iconst 0, 1) := by decide +kernel
theorem dX12_plain_6 : decode cX12_plain 6 = .ok (.iastore, 1) := by decide +kernel
theorem dX12_plain_7 : decode cX12_plain 7 = .ok (.aload_n 0, 1) := by decide +kernel
theorem dX12_plain_8 : decode cX12_plain 8 = .ok (.getfield 49, 3) := by decide +kernel
theorem dX12_plain_11 : decode cX12_plain 11 = .ok (.iload_n 1, 1) := by decide +kernel
theorem dX12_plain_12 : decode cX12_plain 12 = .ok (.iconst 0, 1) := by decide +kernel
theorem dX12_plain_13 : decode cX12_plain 13 = .ok (.iastore, 1) := by decide +kernel
theorem dX12_plain_14 : decode cX12_plain 14 = .ok (.aload_n 0, 1) := by decide +kernel
theorem dX12_plain_15 : decode cX12_plain 15 = .ok (.getfield 58, 3) := by decide +kernel
theorem dX12_plain_18 : decode cX12_plain 18 = .ok (.iload_n 1, 1) := by decide +kernel
theorem dX12_plain_19 : decode cX12_plain 19 = .ok (.iconst 0, 1) := by decide +kernel
theorem dX12_plain_20 : decode cX12_plain 20 = .ok (.iastore, 1) := by decide +kernel
theorem dX12_plain_21 : decode cX12_plain 21 = .ok (.aload_n 0, 1) := by decide +kernel
theorem dX12_plain_22 : decode cX12_plain 22 = .ok (.getfield 67, 3) := by decide +kernel
theorem dX12_plain_25 : decode cX12_plain 25 = .ok (.iload_n 1, 1) := by decide +kernel
theorem dX12_plain_26 : decode cX12_plain 26 = .ok (.iconst 0, 1) := by decide +kernel
theorem dX12_plain_27 : decode cX12_plain 27 = .ok (.iastore, 1) := by decide +kernel
theorem dX12_plain_28 : decode cX12_plain 28 = .ok (.aload_n 0, 1) := by decide +kernel
theorem dX12_plain_29 : decode cX12_plain 29 = .ok (.getfield 82, 3) := by decide +kernel
theorem dX12_plain_32 : decode cX12_plain 32 = .ok (.iload_n 1, 1) := by decide +kernel
theorem dX12_plain_33 : decode cX12_plain 33 = .ok (.iconst 0, 1) := by decide +kernel
theorem dX12_plain_34 : decode cX12_plain 34 = .ok (.iastore, 1) := by decide +kernel
theorem dX12_plain_35 : decode cX12_plain 35 = .ok (.aload_n 0, 1) := by decide +kernel
theorem dX12_plain_36 : decode cX12_plain 36 = .ok (.getfield 94, 3) := by decide +kernel
theorem dX12_plain_39 : decode cX12_plain 39 = .ok (.iload_n 1, 1) := by decide +kernel
theorem dX12_plain_40 : decode cX12_plain 40 = .ok (.iconst 0, 1) := by decide +kernel
theorem dX12_plain_41 : decode cX12_plain 41 = .ok (.iastore, 1) := by decide +kernel
theorem dX12_plain_42 : decode cX12_plain 42 = .ok (.aload_n 0, 1) := by decide +kernel
theorem dX12_plain_43 : decode cX12_plain 43 = .ok (.getfield 97, 3) := by decide +kernel
theorem dX12_plain_46 : decode cX12_plain 46 = .ok (.iload_n 1, 1) := by decide +kernel
theorem dX12_plain_47 : decode cX12_plain 47 = .ok (.iconst 3, 1) := by decide +kernel
theorem dX12_plain_48 : decode cX12_plain 48 = .ok (.iastore, 1) := by decide +kernel
theorem dX12_plain_49 : decode cX12_plain 49 = .ok (.aload_n 0, 1) := by decide +kernel
theorem dX12_plain_50 : decode cX12_plain 50 = .ok (.getfield 100, 3) := by decide +kernel
theorem dX12_plain_53 : decode cX12_plain 53 = .ok (.iload_n 1, 1) := by decide +kernel
theorem dX12_plain_54 : decode cX12_plain 54 = .ok (.iconst 0, 1) := by decide +kernel
theorem dX12_plain_55 : decode cX12_plain 55 = .ok (.iastore, 1) := by decide +kernel
theorem dX12_plain_56 : decode cX12_plain 56 = .ok (.iconst 0, 1) := by decide +kernel
theorem dX12_plain_57 : decode cX12_plain 57 = .ok (.istore_n 2, 1) := by decide +kernel
theorem dX12_plain_58 : decode cX12_plain 58 = .ok (.iload_n 2, 1) := by decide +kernel
theorem dX12_plain_59 : decode cX12_plain 59 = .ok (.iconst 4, 1) := by decide +kernel
theorem dX12_plain_60 : decode cX12_plain 60 = .ok (.if_icmp .ge 31, 3) := by decide +kernel
theorem dX12_plain_63 : decode cX12_plain 63 = .ok (.aload_n 0, 1) := by decide +kernel
theorem dX12_plain_64 : decode cX12_plain 64 = .ok (.getfield 103, 3) := by decide +kernel
theorem dX12_plain_67 : decode cX12_plain 67 = .ok (.iconst 4, 1) := by decide +kernel
theorem dX12_plain_68 : decode cX12_plain 68 = .ok (.iload_n 1, 1) := by decide +kernel
theorem dX12_plain_69 : decode cX12_plain 69 = .ok (.imul, 1) := by decide +kernel
theorem dX12_plain_70 : decode cX12_plain 70 = .ok (.iload_n 2, 1) := by decide +kernel
theorem dX12_plain_71 : decode cX12_plain 71 = .ok (.iadd, 1) := by decide +kernel
theorem dX12_plain_72 : decode cX12_plain 72 = .ok (.iconst 0, 1) := by decide +kernel
theorem dX12_plain_73 : decode cX12_plain 73 = .ok (.iastore, 1) := by decide +kernel
theorem dX12_plain_74 : decode cX12_plain 74 = .ok (.aload_n 0, 1) := by decide +kernel
theorem dX12_plain_75 : decode cX12_plain 75 = .ok (.getfield 106, 3) := by decide +kernel
theorem dX12_plain_78 : decode cX12_plain 78 = .ok (.iconst 4, 1) := by decide +kernel
theorem dX12_plain_79 : decode cX12_plain 79 = .ok (.iload_n 1, 1) := by decide +kernel
theorem dX12_plain_80 : decode cX12_plain 80 = .ok (.imul, 1) := by decide +kernel
theorem dX12_plain_81 : decode cX12_plain 81 = .ok (.iload_n 2, 1) := by decide +kernel
theorem dX12_plain_82 : decode cX12_plain 82 = .ok (.iadd, 1) := by decide +kernel
theorem dX12_plain_83 : decode cX12_plain 83 = .ok (.iconst 0, 1) := by decide +kernel
theorem dX12_plain_84 : decode cX12_plain 84 = .ok (.iastore, 1) := by decide +kernel
theorem dX12_plain_85 : decode cX12_plain 85 = .ok (.iinc 2 1, 3) := by decide +kernel
theorem dX12_plain_88 : decode cX12_plain 88 = .ok (.goto (-30), 3) := by decide +kernel
theorem dX12_plain_91 : decode cX12_plain 91 = .ok (.return_, 1) := by decide +kernel
theorem dX12_read_0 : decode cX12_read 0 = .ok (.aload_n 0, 1) := by decide +kernel
theorem dX12_read_1 : decode cX12_read 1 = .ok (.aload_n 0, 1) := by decide +kernel
theorem dX12_read_2 : decode cX12_read 2 = .ok (.getfield 193, 3) := by decide +kernel
theorem dX12_read_5 : decode cX12_read 5 = .ok (.putfield 199, 3) := by decide +kernel
theorem dX12_read_8 : decode cX12_read 8 = .ok (.iconst 0, 1) := by decide +kernel
theorem dX12_read_9 : decode cX12_read 9 = .ok (.istore_n 1, 1) := by decide +kernel
theorem dX12_read_10 : decode cX12_read 10 = .ok (.iload_n 1, 1) := by decide +kernel
theorem dX12_read_11 : decode cX12_read 11 = .ok (.aload_n 0, 1) := by decide +kernel
theorem dX12_read_12 : decode cX12_read 12 = .ok (.getfield 199, 3) := by decide +kernel
theorem dX12_read_15 : decode cX12_read 15 = .ok (.if_icmp .ge 21, 3) := by decide +kernel
theorem dX12_read_18 : decode cX12_read 18 = .ok (.aload_n 0, 1) := by decide +kernel
theorem dX12_read_19 : decode cX12_read 19 = .ok (.getfield 17, 3) := by decide +kernel
theorem dX12_read_22 : decode cX12_read 22 = .ok (.iload_n 1, 1) := by decide +kernel
theorem dX12_read_23 : decode cX12_read 23 = .ok (.aload_n 0, 1) := by decide +kernel
theorem dX12_read_24 : decode cX12_read 24 = .ok (.getfield 13, 3) := by decide +kernel
theorem dX12_read_27 : decode cX12_read 27 = .ok (.iload_n 1, 1) := by decide +kernel
theorem dX12_read_28 : decode cX12_read 28 = .ok (.baload, 1) := by decide +kernel
theorem dX12_read_29 : decode cX12_read 29 = .ok (.bastore, 1) := by decide +kernel
theorem dX12_read_30 : decode cX12_read 30 = .ok (.iinc 1 1, 3) := by decide +kernel
theorem dX12_read_33 : decode cX12_read 33 = .ok (.goto (-23), 3) := by decide +kernel
theorem dX12_read_36 : decode cX12_read 36 = .ok (.aload_n 0, 1) := by decide +kernel
theorem dX12_read_37 : decode cX12_read 37 = .ok (.iconst 0, 1) := by decide +kernel
theorem dX12_read_38 : decode cX12_read 38 = .ok (.putfield 193, 3) := by decide +kernel
theorem dX12_read_41 : decode cX12_read 41 = .ok (.aload_n 0, 1) := by decide +kernel
theorem dX12_read_42 : decode cX12_read 42 = .ok (.invokevirtual 254, 3) := by decide +kernel
theorem dX12_read_45 : decode cX12_read 45 = .ok (.aload_n 0, 1) := by decide +kernel
theorem dX12_read_46 : decode cX12_read 46 = .ok (.iconst 0, 1) := by decide +kernel
theorem dX12_read_47 : decode cX12_read 47 = .ok (.putfield 233, 3) := by decide +kernel
theorem dX12_read_50 : decode cX12_read 50 = .ok (.aload_n 0, 1) := by decide +kernel
theorem dX12_read_51 : decode cX12_read 51 = .ok (.iconst 0, 1) := by decide +kernel
theorem dX12_read_52 : decode cX12_read 52 = .ok (.putfield 257, 3) := by decide +kernel
theorem dX12_read_55 : decode cX12_read 55 = .ok (.aload_n 0, 1) := by decide +kernel
theorem dX12_read_56 : decode cX12_read 56 = .ok (.iconst 0, 1) := by decide +kernel
theorem dX12_read_57 : decode cX12_read 57 = .ok (.putfield 230, 3) := by decide +kernel
theorem dX12_read_60 : decode cX12_read 60 = .ok (.aload_n 0, 1) := by decide +kernel
theorem dX12_read_61 : decode cX12_read 61 = .ok (.iconst 0, 1) := by decide +kernel
theorem dX12_read_62 : decode cX12_read 62 = .ok (.putfield 239, 3) := by decide +kernel
theorem dX12_read_65 : decode cX12_read 65 = .ok (.aload_n 0, 1) := by decide +kernel
theorem dX12_read_66 : decode cX12_read 66 = .ok (.iconst 1, 1) := by decide +kernel
theorem dX12_read_67 : decode cX12_read 67 = .ok (.aload_n 0, 1) := by decide +kernel
theorem dX12_read_68 : decode cX12_read 68 = .ok (.getfield 260, 3) := by decide +kernel
theorem dX12_read_71 : decode cX12_read 71 = .ok (.isub, 1) := by decide +kernel
theorem dX12_read_72 : decode cX12_read 72 = .ok (.putfield 263, 3) := by decide +kernel
theorem dX12_read_75 : decode cX12_read 75 = .ok (.aload_n 0, 1) := by decide +kernel
theorem dX12_read_76 : decode cX12_read 76 = .ok (.iconst 0, 1) := by decide +kernel
theorem dX12_read_77 : decode cX12_read 77 = .ok (.putfield 266, 3) := by decide +kernel
theorem dX12_read_80 : decode cX12_read 80 = .ok (.aload_n 0, 1) := by decide +kernel
theorem dX12_read_81 : decode cX12_read 81 = .ok (.aload_n 0, 1) := by decide +kernel
theorem dX12_read_82 : decode cX12_read 82 = .ok (.getfield 263, 3) := by decide +kernel
theorem dX12_read_85 : decode cX12_read 85 = .ok (.invokevirtual 179, 3) := by decide +kernel
theorem dX12_read_88 : decode cX12_read 88 = .ok (.aload_n 0, 1) := by decide +kernel
theorem dX12_read_89 : decode cX12_read 89 = .ok (.sipush 130, 3) := by decide +kernel
theorem dX12_read_92 : decode cX12_read 92 = .ok (.aload_n 0, 1) := by decide +kernel
theorem dX12_read_93 : decode cX12_read 93 = .ok (.getfield 263, 3) := by decide +kernel
theorem dX12_read_96 : decode cX12_read 96 = .ok (.imul, 1) := by decide +kernel
theorem dX12_read_97 : decode cX12_read 97 = .ok (.putfield 269, 3) := by decide +kernel
theorem dX12_read_100 : decode cX12_read 100 = .ok (.aload_n 0, 1) := by decide +kernel
theorem dX12_read_101 : decode cX12_read 101 = .ok (.sipush 420, 3) := by decide +kernel
theorem dX12_read_104 : decode cX12_read 104 = .ok (.aload_n 0, 1) := by decide +kernel
theorem dX12_read_105 : decode cX12_read 105 = .ok (.getfield 263, 3) := by decide +kernel
theorem dX12_read_108 : decode cX12_read 108 = .ok (.imul, 1) := by decide +kernel
theorem dX12_read_109 : decode cX12_read 109 = .ok (.putfield 272, 3) := by decide +kernel
theorem dX12_read_112 : decode cX12_read 112 = .ok (.aload_n 0, 1) := by decide +kernel
theorem dX12_read_113 : decode cX12_read 113 = .ok (.getfield 230, 3) := by decide +kernel
theorem dX12_read_116 : decode cX12_read 116 = .ok (.ifCond .ne 18, 3) := by decide +kernel
theorem dX12_read_119 : decode cX12_read 119 = .ok (.aload_n 0, 1) := by decide +kernel
theorem dX12_read_120 : decode cX12_read 120 = .ok (.iconst 0, 1) := by decide +kernel
theorem dX12_read_121 : decode cX12_read 121 = .ok (.invokevirtual 248, 3) := by decide +kernel
theorem dX12_read_124 : decode cX12_read 124 = .ok (.ifCond .ne 10, 3) := by decide +kernel
theorem dX12_read_127 : decode cX12_read 127 = .ok (.aload_n 0, 1) := by decide +kernel
theorem dX12_read_128 : decode cX12_read 128 = .ok (.invokevirtual 275, 3) := by decide +kernel
theorem dX12_read_131 : decode cX12_read 131 = .ok (.goto (-19), 3) := by decide +kernel
theorem dX12_read_134 : decode cX12_read 134 = .ok (.aload_n 0, 1) := by decide +kernel
theorem dX12_read_135 : decode cX12_read 135 = .ok (.getfield 230, 3) := by decide +kernel
theorem dX12_read_138 : decode cX12_read 138 = .ok (.ifCond .ne 20, 3) := by decide +kernel
theorem dX12_read_141 : decode cX12_read 141 = .ok (.aload_n 0, 1) := by decide +kernel
theorem dX12_read_142 : decode cX12_read 142 = .ok (.invokevirtual 278, 3) := by decide +kernel
theorem dX12_read_145 : decode cX12_read 145 = .ok (.ifCond .ne 13, 3) := by decide +kernel
theorem dX12_read_148 : decode cX12_read 148 = .ok (.aload_n 0, 1) := by decide +kernel
theorem dX12_read_149 : decode cX12_read 149 = .ok (.bipush 6, 2) := by decide +kernel
theorem dX12_read_151 : decode cX12_read 151 = .ok (.aload_n 0, 1) := by decide +kernel
theorem dX12_read_152 : decode cX12_read 152 = .ok (.getfield 233, 3) := by decide +kernel
theorem dX12_read_155 : decode cX12_read 155 = .ok (.invokevirtual 282, 3) := by decide +kernel
theorem dX12_read_158 : decode cX12_read 158 = .ok (.aload_n 0, 1) := by decide +kernel
theorem dX12_read_159 : decode cX12_read 159 = .ok (.aload_n 0, 1) := by decide +kernel
theorem dX12_read_160 : decode cX12_read 160 = .ok (.getfield 230, 3) := by decide +kernel
theorem dX12_read_163 : decode cX12_read 163 = .ok (.ifCond .le 10, 3) := by decide +kernel
theorem dX12_read_166 : decode cX12_read 166 = .ok (.aload_n 0, 1) := by decide +kernel
theorem dX12_read_167 : decode cX12_read 167 = .ok (.getfield 236, 3) := by decide +kernel
theorem dX12_read_170 : decode cX12_read 170 = .ok (.goto 18, 3) := by decide +kernel
theorem dX12_read_173 : decode cX12_read 173 = .ok (.aload_n 0, 1) := by decide +kernel
theorem dX12_read_174 : decode cX12_read 174 = .ok (.getfield 239, 3) := by decide +kernel
theorem dX12_read_177 : decode cX12_read 177 = .ok (.ifCond .le 10, 3) := by decide +kernel
theorem dX12_read_180 : decode cX12_read 180 = .ok (.aload_n 0, 1) := by decide +kernel
theorem dX12_read_181 : decode cX12_read 181 = .ok (.getfield 242, 3) := by decide +kernel
theorem dX12_read_184 : decode cX12_read 184 = .ok (.goto 4, 3) := by decide +kernel
theorem dX12_read_187 : decode cX12_read 187 = .ok (.iconst (-1), 1) := by decide +kernel
theorem dX12_read_188 : decode cX12_read 188 = .ok (.putfield 37, 3) := by decide +kernel
theorem dX12_read_191 : decode cX12_read 191 = .ok (.aload_n 0, 1) := by decide +kernel
theorem dX12_read_192 : decode cX12_read 192 = .ok (.getfield 230, 3) := by decide +kernel
theorem dX12_read_195 : decode cX12_read 195 = .ok (.ifCond .le 8, 3) := by decide +kernel
theorem dX12_read_198 : decode cX12_read 198 = .ok (.aload_n 0, 1) := by decide +kernel
theorem dX12_read_199 : decode cX12_read 199 = .ok (.getfield 230, 3) := by decide +kernel
theorem dX12_read_202 : decode cX12_read 202 = .ok (.ireturn, 1) := by decide +kernel
theorem dX12_read_203 : decode cX12_read 203 = .ok (.aload_n 0, 1) := by decide +kernel
theorem dX12_read_204 : decode cX12_read 204 = .ok (.getfield 239, 3) := by decide +kernel
theorem dX12_read_207 : decode cX12_read 207 = .ok (.ifCond .le 8, 3) := by decide +kernel
theorem dX12_read_210 : decode cX12_read 210 = .ok (.aload_n 0, 1) := by decide +kernel
theorem dX12_read_211 : decode cX12_read 211 = .ok (.getfield 239, 3) := by decide +kernel
theorem dX12_read_214 : decode cX12_read 214 = .ok (.ireturn, 1) := by decide +kernel
theorem dX12_read_215 : decode cX12_read 215 = .ok (.aload_n 0, 1) := by decide +kernel
theorem dX12_read_216 : decode cX12_read 216 = .ok (.aload_n 0, 1) := by decide +kernel
theorem dX12_read_217 : decode cX12_read 217 = .ok (.getfield 263, 3) := by decide +kernel
theorem dX12_read_220 : decode cX12_read 220 = .ok (.putfield 260, 3) := by decide +kernel
theorem dX12_read_223 : decode cX12_read 223 = .ok (.iconst 0, 1) := by decide +kernel
theorem dX12_read_224 : decode cX12_read 224 = .ok (.istore_n 1, 1) := by decide +kernel
theorem dX12_read_225 : decode cX12_read 225 = .ok (.iload_n 1, 1) := by decide +kernel
theorem dX12_read_226 : decode cX12_read 226 = .ok (.bipush 40, 2) := by decide +kernel
theorem dX12_read_228 : decode cX12_read 228 = .ok (.if_icmp .ge 24, 3) := by decide +kernel
theorem dX12_read_231 : decode cX12_read 231 = .ok (.aload_n 0, 1) := by decide +kernel
theorem dX12_read_232 : decode cX12_read 232 = .ok (.getfield 55, 3) := by decide +kernel
theorem dX12_read_235 : decode cX12_read 235 = .ok (.bipush 40, 2) := by decide +kernel
theorem dX12_read_237 : decode cX12_read 237 = .ok (.aload_n 0, 1) := by decide +kernel
theorem dX12_read_238 : decode cX12_read 238 = .ok (.getfield 260, 3) := by decide +kernel
theorem dX12_read_241 : decode cX12_read 241 = .ok (.imul, 1) := by decide +kernel
theorem dX12_read_242 : decode cX12_read 242 = .ok (.iload_n 1, 1) := by decide +kernel
theorem dX12_read_243 : decode cX12_read 243 = .ok (.iadd, 1) := by decide +kernel
theorem dX12_read_244 : decode cX12_read 244 = .ok (.iconst 0, 1) := by decide +kernel
theorem dX12_read_245 : decode cX12_read 245 = .ok (.iastore, 1) := by decide +kernel
theorem dX12_read_246 : decode cX12_read 246 = .ok (.iinc 1 1, 3) := by decide +kernel
theorem dX12_read_249 : decode cX12_read 249 = .ok (.goto (-24), 3) := by decide +kernel
theorem dX12_read_252 : decode cX12_read 252 = .ok (.iconst 0, 1) := by decide +kernel
theorem dX12_read_253 : decode cX12_read 253 = .ok (.istore_n 1, 1) := by decide +kernel
theorem dX12_read_254 : decode cX12_read 254 = .ok (.iload_n 1, 1) := by decide +kernel
theorem dX12_read_255 : decode cX12_read 255 = .ok (.aload_n 0, 1) := by decide +kernel
theorem dX12_read_256 : decode cX12_read 256 = .ok (.getfield 82, 3) := by decide +kernel
theorem dX12_read_259 : decode cX12_read 259 = .ok (.aload_n 0, 1) := by decide +kernel
theorem dX12_read_260 : decode cX12_read 260 = .ok (.getfield 260, 3) := by decide +kernel
theorem dX12_read_263 : decode cX12_read 263 = .ok (.iaload, 1) := by decide +kernel
theorem dX12_read_264 : decode cX12_read 264 = .ok (.if_icmp .ge 68, 3) := by decide +kernel
theorem dX12_read_267 : decode cX12_read 267 = .ok (.aload_n 0, 1) := by decide +kernel
theorem dX12_read_268 : decode cX12_read 268 = .ok (.getfield 55, 3) := by decide +kernel
theorem dX12_read_271 : decode cX12_read 271 = .ok (.bipush 40, 2) := by decide +kernel
theorem dX12_read_273 : decode cX12_read 273 = .ok (.aload_n 0, 1) := by decide +kernel
theorem dX12_read_274 : decode cX12_read 274 = .ok (.getfield 260, 3) := by decide +kernel
theorem dX12_read_277 : decode cX12_read 277 = .ok (.imul, 1) := by decide +kernel
theorem dX12_read_278 : decode cX12_read 278 = .ok (.bipush 8, 2) := by decide +kernel
theorem dX12_read_280 : decode cX12_read 280 = .ok (.aload_n 0, 1) := by decide +kernel
theorem dX12_read_281 : decode cX12_read 281 = .ok (.getfield 88, 3) := by decide +kernel
theorem dX12_read_284 : decode cX12_read 284 = .ok (.bipush 12, 2) := by decide +kernel
theorem dX12_read_286 : decode cX12_read 286 = .ok (.aload_n 0, 1) := by decide +kernel
theorem dX12_read_287 : decode cX12_read 287 = .ok (.getfield 260, 3) := by decide +kernel
theorem dX12_read_290 : decode cX12_read 290 = .ok (.imul, 1) := by decide +kernel
theorem dX12_read_291 : decode cX12_read 291 = .ok (.iload_n 1, 1) := by decide +kernel
theorem dX12_read_292 : decode cX12_read 292 = .ok (.iadd, 1) := by decide +kernel
theorem dX12_read_293 : decode cX12_read 293 = .ok (.iaload, 1) := by decide +kernel
theorem dX12_read_294 : decode cX12_read 294 = .ok (.imul, 1) := by decide +kernel
theorem dX12_read_295 : decode cX12_read 295 = .ok (.iadd, 1) := by decide +kernel
theorem dX12_read_296 : decode cX12_read 296 = .ok (.aload_n 0, 1) := by decide +kernel
theorem dX12_read_297 : decode cX12_read 297 = .ok (.getfield 85, 3) := by decide +kernel
theorem dX12_read_300 : decode cX12_read 300 = .ok (.bipush 12, 2) := by decide +kernel
theorem dX12_read_302 : decode cX12_read 302 = .ok (.aload_n 0, 1) := by decide +kernel
theorem dX12_read_303 : decode cX12_read 303 = .ok (.getfield 260, 3) := by decide +kernel
theorem dX12_read_306 : decode cX12_read 306 = .ok (.imul, 1) := by decide +kernel
theorem dX12_read_307 : decode cX12_read 307 = .ok (.iload_n 1, 1) := by decide +kernel
theorem dX12_read_308 : decode cX12_read 308 = .ok (.iadd, 1) := by decide +kernel
theorem dX12_read_309 : decode cX12_read 309 = .ok (.iaload, 1) := by decide +kernel
theorem dX12_read_310 : decode cX12_read 310 = .ok (.iadd, 1) := by decide +kernel
theorem dX12_read_311 : decode cX12_read 311 = .ok (.aload_n 0, 1) := by decide +kernel
theorem dX12_read_312 : decode cX12_read 312 = .ok (.getfield 91, 3) := by decide +kernel
theorem dX12_read_315 : decode cX12_read 315 = .ok (.bipush 12, 2) := by decide +kernel
theorem dX12_read_317 : decode cX12_read 317 = .ok (.aload_n 0, 1) := by decide +kernel
theorem dX12_read_318 : decode cX12_read 318 = .ok (.getfield 260, 3) := by decide +kernel
theorem dX12_read_321 : decode cX12_read 321 = .ok (.imul, 1) := by decide +kernel
theorem dX12_read_322 : decode cX12_read 322 = .ok (.iload_n 1, 1) := by decide +kernel
theorem dX12_read_323 : decode cX12_read 323 = .ok (.iadd, 1) := by decide +kernel
theorem dX12_read_324 : decode cX12_read 324 = .ok (.iaload, 1) := by decide +kernel
theorem dX12_read_325 : decode cX12_read 325 = .ok (.iastore, 1) := by decide +kernel
theorem dX12_read_326 : decode cX12_read 326 = .ok (.iinc 1 1, 3) := by decide +kernel
theorem dX12_read_329 : decode cX12_read 329 = .ok (.goto (-75), 3) := by decide +kernel
theorem dX12_read_332 : decode cX12_read 332 = .ok (.aload_n 0, 1) := by decide +kernel
theorem dX12_read_333 : decode cX12_read 333 = .ok (.invokevirtual 187, 3) := by decide +kernel
theorem dX12_read_336 : decode cX12_read 336 = .ok (.aload_n 0, 1) := by decide +kernel
theorem dX12_read_337 : decode cX12_read 337 = .ok (.invokevirtual 190, 3) := by decide +kernel
theorem dX12_read_340 : decode cX12_read 340 = .ok (.aload_n 0, 1) := by decide +kernel
theorem dX12_read_341 : decode cX12_read 341 = .ok (.iconst 0, 1) := by decide +kernel
theorem dX12_read_342 : decode cX12_read 342 = .ok (.putfield 286, 3) := by decide +kernel
theorem dX12_read_345 : decode cX12_read 345 = .ok (.aload_n 0, 1) := by decide +kernel
theorem dX12_read_346 : decode cX12_read 346 = .ok (.iconst 0, 1) := by decide +kernel
theorem dX12_read_347 : decode cX12_read 347 = .ok (.putfield 289, 3) := by decide +kernel
theorem dX12_read_350 : decode cX12_read 350 = .ok (.iconst 0, 1) := by decide +kernel
theorem dX12_read_351 : decode cX12_read 351 = .ok (.istore_n 1, 1) := by decide +kernel
theorem dX12_read_352 : decode cX12_read 352 = .ok (.iload_n 1, 1) := by decide +kernel
theorem dX12_read_353 : decode cX12_read 353 = .ok (.iconst 3, 1) := by decide +kernel
theorem dX12_read_354 : decode cX12_read 354 = .ok (.if_icmp .ge 16, 3) := by decide +kernel
theorem dX12_read_357 : decode cX12_read 357 = .ok (.aload_n 0, 1) := by decide +kernel
theorem dX12_read_358 : decode cX12_read 358 = .ok (.getfield 173, 3) := by decide +kernel
theorem dX12_read_361 : decode cX12_read 361 = .ok (.iload_n 1, 1) := by decide +kernel
theorem dX12_read_362 : decode cX12_read 362 = .ok (.iconst 0, 1) := by decide +kernel
theorem dX12_read_363 : decode cX12_read 363 = .ok (.bastore, 1) := by decide +kernel
theorem dX12_read_364 : decode cX12_read 364 = .ok (.iinc 1 1, 3) := by decide +kernel
theorem dX12_read_367 : decode cX12_read 367 = .ok (.goto (-15), 3) := by decide +kernel
theorem dX12_read_370 : decode cX12_read 370 = .ok (.iconst 0, 1) := by decide +kernel
theorem dX12_read_371 : decode cX12_read 371 = .ok (.ireturn, 1) := by decide +kernel
theorem dX12_place_0 : decode cX12_place 0 = .ok (.aload_n 0, 1) := by decide +kernel
theorem dX12_place_1 : decode cX12_place 1 = .ok (.getfield 37, 3) := by decide +kernel
theorem dX12_place_4 : decode cX12_place 4 = .ok (.ireturn, 1) := by decide +kernel
theorem dX12_isLand_0 : decode cX12_isLand 0 = .ok (.iconst 0, 1) := by decide +kernel
theorem dX12_isLand_1 : decode cX12_isLand 1 = .ok (.istore_n 1, 1) := by decide +kernel
theorem dX12_isLand_2 : decode cX12_isLand 2 = .ok (.iload_n 1, 1) := by decide +kernel
theorem dX12_isLand_3 : decode cX12_isLand 3 = .ok (.aload_n 0, 1) := by decide +kernel
theorem dX12_isLand_4 : decode cX12_isLand 4 = .ok (.getfield 49, 3) := by decide +kernel
theorem dX12_isLand_7 : decode cX12_isLand 7 = .ok (.aload_n 0, 1) := by decide +kernel
theorem dX12_isLand_8 : decode cX12_isLand 8 = .ok (.getfield 263, 3) := by decide +kernel
theorem dX12_isLand_11 : decode cX12_isLand 11 = .ok (.iaload, 1) := by decide +kernel
theorem dX12_isLand_12 : decode cX12_isLand 12 = .ok (.if_icmp .ge 71, 3) := by decide +kernel
theorem dX12_isLand_15 : decode cX12_isLand 15 = .ok (.iconst 0, 1) := by decide +kernel
theorem dX12_isLand_16 : decode cX12_isLand 16 = .ok (.istore_n 2, 1) := by decide +kernel
theorem dX12_isLand_17 : decode cX12_isLand 17 = .ok (.iload_n 2, 1) := by decide +kernel
theorem dX12_isLand_18 : decode cX12_isLand 18 = .ok (.aload_n 0, 1) := by decide +kernel
theorem dX12_isLand_19 : decode cX12_isLand 19 = .ok (.getfield 46, 3) := by decide +kernel
theorem dX12_isLand_22 : decode cX12_isLand 22 = .ok (.aload_n 0, 1) := by decide +kernel
theorem dX12_isLand_23 : decode cX12_isLand 23 = .ok (.getfield 263, 3) := by decide +kernel
theorem dX12_isLand_26 : decode cX12_isLand 26 = .ok (.iaload, 1) := by decide +kernel
theorem dX12_isLand_27 : decode cX12_isLand 27 = .ok (.if_icmp .ge 50, 3) := by decide +kernel
theorem dX12_isLand_30 : decode cX12_isLand 30 = .ok (.aload_n 0, 1) := by decide +kernel
theorem dX12_isLand_31 : decode cX12_isLand 31 = .ok (.getfield 52, 3) := by decide +kernel
theorem dX12_isLand_34 : decode cX12_isLand 34 = .ok (.bipush 40, 2) := by decide +kernel
theorem dX12_isLand_36 : decode cX12_isLand 36 = .ok (.aload_n 0, 1) := by decide +kernel
theorem dX12_isLand_37 : decode cX12_isLand 37 = .ok (.getfield 263, 3) := by decide +kernel
theorem dX12_isLand_40 : decode cX12_isLand 40 = .ok (.imul, 1) := by decide +kernel
theorem dX12_isLand_41 : decode cX12_isLand 41 = .ok (.bipush 8, 2) := by decide +kernel
theorem dX12_isLand_43 : decode cX12_isLand 43 = .ok (.iload_n 1, 1) := by decide +kernel
theorem dX12_isLand_44 : decode cX12_isLand 44 = .ok (.imul, 1) := by decide +kernel
theorem dX12_isLand_45 : decode cX12_isLand 45 = .ok (.iadd, 1) := by decide +kernel
theorem dX12_isLand_46 : decode cX12_isLand 46 = .ok (.iload_n 2, 1) := by decide +kernel
theorem dX12_isLand_47 : decode cX12_isLand 47 = .ok (.iadd, 1) := by decide +kernel
theorem dX12_isLand_48 : decode cX12_isLand 48 = .ok (.iaload, 1) := by decide +kernel
theorem dX12_isLand_49 : decode cX12_isLand 49 = .ok (.istore_n 3, 1) := by decide +kernel
theorem dX12_isLand_50 : decode cX12_isLand 50 = .ok (.iload_n 3, 1) := by decide +kernel
theorem dX12_isLand_51 : decode cX12_isLand 51 = .ok (.bipush 9, 2) := by decide +kernel
theorem dX12_isLand_53 : decode cX12_isLand 53 = .ok (.if_icmp .eq 18, 3) := by decide +kernel
theorem dX12_isLand_56 : decode cX12_isLand 56 = .ok (.iload_n 3, 1) := by decide +kernel
theorem dX12_isLand_57 : decode cX12_isLand 57 = .ok (.aload_n 0, 1) := by decide +kernel
theorem dX12_isLand_58 : decode cX12_isLand 58 = .ok (.getfield 58, 3) := by decide +kernel
theorem dX12_isLand_61 : decode cX12_isLand 61 = .ok (.aload_n 0, 1) := by decide +kernel
theorem dX12_isLand_62 : decode cX12_isLand 62 = .ok (.getfield 263, 3) := by decide +kernel
theorem dX12_isLand_65 : decode cX12_isLand 65 = .ok (.iaload, 1) := by decide +kernel
theorem dX12_isLand_66 : decode cX12_isLand 66 = .ok (.if_icmp .lt 5, 3) := by decide +kernel
theorem dX12_isLand_69 : decode cX12_isLand 69 = .ok (.iconst 0, 1) := by decide +kernel
theorem dX12_isLand_70 : decode cX12_isLand 70 = .ok (.ireturn, 1) := by decide +kernel
theorem dX12_isLand_71 : decode cX12_isLand 71 = .ok (.iinc 2 1, 3) := by decide +kernel
theorem dX12_isLand_74 : decode cX12_isLand 74 = .ok (.goto (-57), 3) := by decide +kernel
theorem dX12_isLand_77 : decode cX12_isLand 77 = .ok (.iinc 1 1, 3) := by decide +kernel
theorem dX12_isLand_80 : decode cX12_isLand 80 = .ok (.goto (-78), 3) := by decide +kernel
theorem dX12_isLand_83 : decode cX12_isLand 83 = .ok (.iconst 0, 1) := by decide +kernel
theorem dX12_isLand_84 : decode cX12_isLand 84 = .ok (.istore_n 1, 1) := by decide +kernel
theorem dX12_isLand_85 : decode cX12_isLand 85 = .ok (.iload_n 1, 1) := by decide +kernel
theorem dX12_isLand_86 : decode cX12_isLand 86 = .ok (.aload_n 0, 1) := by decide +kernel
theorem dX12_isLand_87 : decode cX12_isLand 87 = .ok (.getfield 82, 3) := by decide +kernel
theorem dX12_isLand_90 : decode cX12_isLand 90 = .ok (.aload_n 0, 1) := by decide +kernel
theorem dX12_isLand_91 : decode cX12_isLand 91 = .ok (.getfield 263, 3) := by decide +kernel
theorem dX12_isLand_94 : decode cX12_isLand 94 = .ok (.iaload, 1) := by decide +kernel
theorem dX12_isLand_95 : decode cX12_isLand 95 = .ok (.if_icmp .ge 63, 3) := by decide +kernel
theorem dX12_isLand_98 : decode cX12_isLand 98 = .ok (.aload_n 0, 1) := by decide +kernel
theorem dX12_isLand_99 : decode cX12_isLand 99 = .ok (.getfield 85, 3) := by decide +kernel
theorem dX12_isLand_102 : decode cX12_isLand 102 = .ok (.bipush 12, 2) := by decide +kernel
theorem dX12_isLand_104 : decode cX12_isLand 104 = .ok (.aload_n 0, 1) := by decide +kernel
theorem dX12_isLand_105 : decode cX12_isLand 105 = .ok (.getfield 263, 3) := by decide +kernel
theorem dX12_isLand_108 : decode cX12_isLand 108 = .ok (.imul, 1) := by decide +kernel
theorem dX12_isLand_109 : decode cX12_isLand 109 = .ok (.iload_n 1, 1) := by decide +kernel
theorem dX12_isLand_110 : decode cX12_isLand 110 = .ok (.iadd, 1) := by decide +kernel
theorem dX12_isLand_111 : decode cX12_isLand 111 = .ok (.iaload, 1) := by decide +kernel
theorem dX12_isLand_112 : decode cX12_isLand 112 = .ok (.aload_n 0, 1) := by decide +kernel
theorem dX12_isLand_113 : decode cX12_isLand 113 = .ok (.getfield 46, 3) := by decide +kernel
theorem dX12_isLand_116 : decode cX12_isLand 116 = .ok (.aload_n 0, 1) := by decide +kernel
theorem dX12_isLand_117 : decode cX12_isLand 117 = .ok (.getfield 263, 3) := by decide +kernel
theorem dX12_isLand_120 : decode cX12_isLand 120 = .ok (.iaload, 1) := by decide +kernel
theorem dX12_isLand_121 : decode cX12_isLand 121 = .ok (.if_icmp .ge 29, 3) := by decide +kernel
theorem dX12_isLand_124 : decode cX12_isLand 124 = .ok (.aload_n 0, 1) := by decide +kernel
theorem dX12_isLand_125 : decode cX12_isLand 125 = .ok (.getfield 88, 3) := by decide +kernel
theorem dX12_isLand_128 : decode cX12_isLand 128 = .ok (.bipush 12, 2) := by decide +kernel
theorem dX12_isLand_130 : decode cX12_isLand 130 = .ok (.aload_n 0, 1) := by decide +kernel
theorem dX12_isLand_131 : decode cX12_isLand 131 = .ok (.getfield 263, 3) := by decide +kernel
theorem dX12_isLand_134 : decode cX12_isLand 134 = .ok (.imul, 1) := by decide +kernel
theorem dX12_isLand_135 : decode cX12_isLand 135 = .ok (.iload_n 1, 1) := by decide +kernel
theorem dX12_isLand_136 : decode cX12_isLand 136 = .ok (.iadd, 1) := by decide +kernel
theorem dX12_isLand_137 : decode cX12_isLand 137 = .ok (.iaload, 1) := by decide +kernel
theorem dX12_isLand_138 : decode cX12_isLand 138 = .ok (.aload_n 0, 1) := by decide +kernel
theorem dX12_isLand_139 : decode cX12_isLand 139 = .ok (.getfield 49, 3) := by decide +kernel
theorem dX12_isLand_142 : decode cX12_isLand 142 = .ok (.aload_n 0, 1) := by decide +kernel
theorem dX12_isLand_143 : decode cX12_isLand 143 = .ok (.getfield 263, 3) := by decide +kernel
theorem dX12_isLand_146 : decode cX12_isLand 146 = .ok (.iaload, 1) := by decide +kernel
theorem dX12_isLand_147 : decode cX12_isLand 147 = .ok (.if_icmp .lt 5, 3) := by decide +kernel
theorem dX12_isLand_150 : decode cX12_isLand 150 = .ok (.iconst 0, 1) := by decide +kernel
theorem dX12_isLand_151 : decode cX12_isLand 151 = .ok (.ireturn, 1) := by decide +kernel
theorem dX12_isLand_152 : decode cX12_isLand 152 = .ok (.iinc 1 1, 3) := by decide +kernel
theorem dX12_isLand_155 : decode cX12_isLand 155 = .ok (.goto (-70), 3) := by decide +kernel
theorem dX12_isLand_158 : decode cX12_isLand 158 = .ok (.iconst 1, 1) := by decide +kernel
theorem dX12_isLand_159 : decode cX12_isLand 159 = .ok (.ireturn, 1) := by decide +kernel
theorem dX12_roomFor_0 : decode cX12_roomFor 0 = .ok (.iload_n 1, 1) := by decide +kernel
theorem dX12_roomFor_1 : decode cX12_roomFor 1 = .ok (.iload_n 2, 1) := by decide +kernel
theorem dX12_roomFor_2 : decode cX12_roomFor 2 = .ok (.if_icmp .ne 8, 3) := by decide +kernel
theorem dX12_roomFor_5 : decode cX12_roomFor 5 = .ok (.aload_n 0, 1) := by decide +kernel
theorem dX12_roomFor_6 : decode cX12_roomFor 6 = .ok (.iconst 2, 1) := by decide +kernel
theorem dX12_roomFor_7 : decode cX12_roomFor 7 = .ok (.invokevirtual 245, 3) := by decide +kernel
theorem dX12_roomFor_10 : decode cX12_roomFor 10 = .ok (.aload_n 0, 1) := by decide +kernel
theorem dX12_roomFor_11 : decode cX12_roomFor 11 = .ok (.getfield 230, 3) := by decide +kernel
theorem dX12_roomFor_14 : decode cX12_roomFor 14 = .ok (.ifCond .ne 7, 3) := by decide +kernel
theorem dX12_roomFor_17 : decode cX12_roomFor 17 = .ok (.aload_n 0, 1) := by decide +kernel
theorem dX12_roomFor_18 : decode cX12_roomFor 18 = .ok (.invokevirtual 251, 3) := by decide +kernel
theorem dX12_roomFor_21 : decode cX12_roomFor 21 = .ok (.return_, 1) := by decide +kernel
theorem dX12_toldInt_0 : decode cX12_toldInt 0 = .ok (.aload_n 0, 1) := by decide +kernel
theorem dX12_toldInt_1 : decode cX12_toldInt 1 = .ok (.invokevirtual 251, 3) := by decide +kernel
theorem dX12_toldInt_4 : decode cX12_toldInt 4 = .ok (.aload_n 0, 1) := by decide +kernel
theorem dX12_toldInt_5 : decode cX12_toldInt 5 = .ok (.iload_n 1, 1) := by decide +kernel
theorem dX12_toldInt_6 : decode cX12_toldInt 6 = .ok (.iload_n 2, 1) := by decide +kernel
theorem dX12_toldInt_7 : decode cX12_toldInt 7 = .ok (.invokevirtual 292, 3) := by decide +kernel
theorem dX12_toldInt_10 : decode cX12_toldInt 10 = .ok (.istore_n 3, 1) := by decide +kernel
theorem dX12_toldInt_11 : decode cX12_toldInt 11 = .ok (.aload_n 0, 1) := by decide +kernel
theorem dX12_toldInt_12 : decode cX12_toldInt 12 = .ok (.iconst 4, 1) := by decide +kernel
theorem dX12_toldInt_13 : decode cX12_toldInt 13 = .ok (.invokevirtual 296, 3) := by decide +kernel
theorem dX12_toldInt_16 : decode cX12_toldInt 16 = .ok (.iload_n 3, 1) := by decide +kernel
theorem dX12_toldInt_17 : decode cX12_toldInt 17 = .ok (.ireturn, 1) := by decide +kernel
theorem dX12_tellOne_0 : decode cX12_tellOne 0 = .ok (.aload_n 0, 1) := by decide +kernel
theorem dX12_tellOne_1 : decode cX12_tellOne 1 = .ok (.getfield 20, 3) := by decide +kernel
theorem dX12_tellOne_4 : decode cX12_tellOne 4 = .ok (.aload_n 0, 1) := by decide +kernel
theorem dX12_tellOne_5 : decode cX12_tellOne 5 = .ok (.getfield 233, 3) := by decide +kernel
theorem dX12_tellOne_8 : decode cX12_tellOne 8 = .ok (.iaload, 1) := by decide +kernel
theorem dX12_tellOne_9 : decode cX12_tellOne 9 = .ok (.tableswitch 231 20 30 #[59, 87, 115, 144, 231, 231, 231, 231, 173, 192, 211], 59) := by decide +kernel
theorem dX12_tellOne_68 : decode cX12_tellOne 68 = .ok (.aload_n 0, 1) := by decide +kernel
theorem dX12_tellOne_69 : decode cX12_tellOne 69 = .ok (.aload_n 0, 1) := by decide +kernel
theorem dX12_tellOne_70 : decode cX12_tellOne 70 = .ok (.getfield 49, 3) := by decide +kernel
theorem dX12_tellOne_73 : decode cX12_tellOne 73 = .ok (.aload_n 0, 1) := by decide +kernel
theorem dX12_tellOne_74 : decode cX12_tellOne 74 = .ok (.getfield 263, 3) := by decide +kernel
theorem dX12_tellOne_77 : decode cX12_tellOne 77 = .ok (.iaload, 1) := by decide +kernel
theorem dX12_tellOne_78 : decode cX12_tellOne 78 = .ok (.iconst 5, 1) := by decide +kernel
theorem dX12_tellOne_79 : decode cX12_tellOne 79 = .ok (.invokevirtual 299, 3) := by decide +kernel
theorem dX12_tellOne_82 : decode cX12_tellOne 82 = .ok (.aload_n 0, 1) := by decide +kernel
theorem dX12_tellOne_83 : decode cX12_tellOne 83 = .ok (.getfield 230, 3) := by decide +kernel
theorem dX12_tellOne_86 : decode cX12_tellOne 86 = .ok (.ifCond .ne 207, 3) := by decide +kernel
theorem dX12_tellOne_89 : decode cX12_tellOne 89 = .ok (.aload_n 0, 1) := by decide +kernel
theorem dX12_tellOne_90 : decode cX12_tellOne 90 = .ok (.invokevirtual 302, 3) := by decide +kernel
theorem dX12_tellOne_93 : decode cX12_tellOne 93 = .ok (.goto 200, 3) := by decide +kernel
theorem dX12_tellOne_96 : decode cX12_tellOne 96 = .ok (.aload_n 0, 1) := by decide +kernel
theorem dX12_tellOne_97 : decode cX12_tellOne 97 = .ok (.aload_n 0, 1) := by decide +kernel
theorem dX12_tellOne_98 : decode cX12_tellOne 98 = .ok (.getfield 58, 3) := by decide +kernel
theorem dX12_tellOne_101 : decode cX12_tellOne 101 = .ok (.aload_n 0, 1) := by decide +kernel
theorem dX12_tellOne_102 : decode cX12_tellOne 102 = .ok (.getfield 263, 3) := by decide +kernel
theorem dX12_tellOne_105 : decode cX12_tellOne 105 = .ok (.iaload, 1) := by decide +kernel
theorem dX12_tellOne_106 : decode cX12_tellOne 106 = .ok (.iconst 4, 1) := by decide +kernel
theorem dX12_tellOne_107 : decode cX12_tellOne 107 = .ok (.invokevirtual 299, 3) := by decide +kernel
theorem dX12_tellOne_110 : decode cX12_tellOne 110 = .ok (.aload_n 0, 1) := by decide +kernel
theorem dX12_tellOne_111 : decode cX12_tellOne 111 = .ok (.getfield 230, 3) := by decide +kernel
theorem dX12_tellOne_114 : decode cX12_tellOne 114 = .ok (.ifCond .ne 179, 3) := by decide +kernel
theorem dX12_tellOne_117 : decode cX12_tellOne 117 = .ok (.aload_n 0, 1) := by decide +kernel
theorem dX12_tellOne_118 : decode cX12_tellOne 118 = .ok (.invokevirtual 305, 3) := by decide +kernel
theorem dX12_tellOne_121 : decode cX12_tellOne 121 = .ok (.goto 172, 3) := by decide +kernel
theorem dX12_tellOne_124 : decode cX12_tellOne 124 = .ok (.aload_n 0, 1) := by decide +kernel
theorem dX12_tellOne_125 : decode cX12_tellOne 125 = .ok (.aload_n 0, 1) := by decide +kernel
theorem dX12_tellOne_126 : decode cX12_tellOne 126 = .ok (.getfield 67, 3) := by decide +kernel
theorem dX12_tellOne_129 : decode cX12_tellOne 129 = .ok (.aload_n 0, 1) := by decide +kernel
theorem dX12_tellOne_130 : decode cX12_tellOne 130 = .ok (.getfield 263, 3) := by decide +kernel
theorem dX12_tellOne_133 : decode cX12_tellOne 133 = .ok (.iaload, 1) := by decide +kernel
theorem dX12_tellOne_134 : decode cX12_tellOne 134 = .ok (.bipush 6, 2) := by decide +kernel
theorem dX12_tellOne_136 : decode cX12_tellOne 136 = .ok (.invokevirtual 299, 3) := by decide +kernel
theorem dX12_tellOne_139 : decode cX12_tellOne 139 = .ok (.aload_n 0, 1) := by decide +kernel
theorem dX12_tellOne_140 : decode cX12_tellOne 140 = .ok (.getfield 230, 3) := by decide +kernel
theorem dX12_tellOne_143 : decode cX12_tellOne 143 = .ok (.ifCond .ne 150, 3) := by decide +kernel
theorem dX12_tellOne_146 : decode cX12_tellOne 146 = .ok (.aload_n 0, 1) := by decide +kernel
theorem dX12_tellOne_147 : decode cX12_tellOne 147 = .ok (.invokevirtual 308, 3) := by decide +kernel
theorem dX12_tellOne_150 : decode cX12_tellOne 150 = .ok (.goto 143, 3) := by decide +kernel
theorem dX12_tellOne_153 : decode cX12_tellOne 153 = .ok (.aload_n 0, 1) := by decide +kernel
theorem dX12_tellOne_154 : decode cX12_tellOne 154 = .ok (.aload_n 0, 1) := by decide +kernel
theorem dX12_tellOne_155 : decode cX12_tellOne 155 = .ok (.getfield 82, 3) := by decide +kernel
theorem dX12_tellOne_158 : decode cX12_tellOne 158 = .ok (.aload_n 0, 1) := by decide +kernel
theorem dX12_tellOne_159 : decode cX12_tellOne 159 = .ok (.getfield 263, 3) := by decide +kernel
theorem dX12_tellOne_162 : decode cX12_tellOne 162 = .ok (.iaload, 1) := by decide +kernel
theorem dX12_tellOne_163 : decode cX12_tellOne 163 = .ok (.bipush 12, 2) := by decide +kernel
theorem dX12_tellOne_165 : decode cX12_tellOne 165 = .ok (.invokevirtual 299, 3) := by decide +kernel
theorem dX12_tellOne_168 : decode cX12_tellOne 168 = .ok (.aload_n 0, 1) := by decide +kernel
theorem dX12_tellOne_169 : decode cX12_tellOne 169 = .ok (.getfield 230, 3) := by decide +kernel
theorem dX12_tellOne_172 : decode cX12_tellOne 172 = .ok (.ifCond .ne 121, 3) := by decide +kernel
theorem dX12_tellOne_175 : decode cX12_tellOne 175 = .ok (.aload_n 0, 1) := by decide +kernel
theorem dX12_tellOne_176 : decode cX12_tellOne 176 = .ok (.invokevirtual 311, 3) := by decide +kernel
theorem dX12_tellOne_179 : decode cX12_tellOne 179 = .ok (.goto 114, 3) := by decide +kernel
theorem dX12_tellOne_182 : decode cX12_tellOne 182 = .ok (.aload_n 0, 1) := by decide +kernel
theorem dX12_tellOne_183 : decode cX12_tellOne 183 = .ok (.getfield 94, 3) := by decide +kernel
theorem dX12_tellOne_186 : decode cX12_tellOne 186 = .ok (.aload_n 0, 1) := by decide +kernel
theorem dX12_tellOne_187 : decode cX12_tellOne 187 = .ok (.getfield 263, 3) := by decide +kernel
theorem dX12_tellOne_190 : decode cX12_tellOne 190 = .ok (.aload_n 0, 1) := by decide +kernel
theorem dX12_tellOne_191 : decode cX12_tellOne 191 = .ok (.iconst 0, 1) := by decide +kernel
theorem dX12_tellOne_192 : decode cX12_tellOne 192 = .ok (.bipush 100, 2) := by decide +kernel
theorem dX12_tellOne_194 : decode cX12_tellOne 194 = .ok (.invokevirtual 314, 3) := by decide +kernel
theorem dX12_tellOne_197 : decode cX12_tellOne 197 = .ok (.iastore, 1) := by decide +kernel
theorem dX12_tellOne_198 : decode cX12_tellOne 198 = .ok (.goto 95, 3) := by decide +kernel
theorem dX12_tellOne_201 : decode cX12_tellOne 201 = .ok (.aload_n 0, 1) := by decide +kernel
theorem dX12_tellOne_202 : decode cX12_tellOne 202 = .ok (.getfield 97, 3) := by decide +kernel
theorem dX12_tellOne_205 : decode cX12_tellOne 205 = .ok (.aload_n 0, 1) := by decide +kernel
theorem dX12_tellOne_206 : decode cX12_tellOne 206 = .ok (.getfield 263, 3) := by decide +kernel
theorem dX12_tellOne_209 : decode cX12_tellOne 209 = .ok (.aload_n 0, 1) := by decide +kernel
theorem dX12_tellOne_210 : decode cX12_tellOne 210 = .ok (.iconst 0, 1) := by decide +kernel
theorem dX12_tellOne_211 : decode cX12_tellOne 211 = .ok (.bipush 99, 2) := by decide +kernel
theorem dX12_tellOne_213 : decode cX12_tellOne 213 = .ok (.invokevirtual 314, 3) := by decide +kernel
theorem dX12_tellOne_216 : decode cX12_tellOne 216 = .ok (.iastore, 1) := by decide +kernel
theorem dX12_tellOne_217 : decode cX12_tellOne 217 = .ok (.goto 76, 3) := by decide +kernel
theorem dX12_tellOne_220 : decode cX12_tellOne 220 = .ok (.aload_n 0, 1) := by decide +kernel
theorem dX12_tellOne_221 : decode cX12_tellOne 221 = .ok (.getfield 100, 3) := by decide +kernel
theorem dX12_tellOne_224 : decode cX12_tellOne 224 = .ok (.aload_n 0, 1) := by decide +kernel
theorem dX12_tellOne_225 : decode cX12_tellOne 225 = .ok (.getfield 263, 3) := by decide +kernel
theorem dX12_tellOne_228 : decode cX12_tellOne 228 = .ok (.aload_n 0, 1) := by decide +kernel
theorem dX12_tellOne_229 : decode cX12_tellOne 229 = .ok (.iconst 0, 1) := by decide +kernel
theorem dX12_tellOne_230 : decode cX12_tellOne 230 = .ok (.sipush 9999, 3) := by decide +kernel
theorem dX12_tellOne_233 : decode cX12_tellOne 233 = .ok (.invokevirtual 314, 3) := by decide +kernel
theorem dX12_tellOne_236 : decode cX12_tellOne 236 = .ok (.iastore, 1) := by decide +kernel
theorem dX12_tellOne_237 : decode cX12_tellOne 237 = .ok (.goto 56, 3) := by decide +kernel
theorem dX12_tellOne_240 : decode cX12_tellOne 240 = .ok (.aload_n 0, 1) := by decide +kernel
theorem dX12_tellOne_241 : decode cX12_tellOne 241 = .ok (.getfield 20, 3) := by decide +kernel
theorem dX12_tellOne_244 : decode cX12_tellOne 244 = .ok (.aload_n 0, 1) := by decide +kernel
theorem dX12_tellOne_245 : decode cX12_tellOne 245 = .ok (.getfield 233, 3) := by decide +kernel
theorem dX12_tellOne_248 : decode cX12_tellOne 248 = .ok (.iaload, 1) := by decide +kernel
theorem dX12_tellOne_249 : decode cX12_tellOne 249 = .ok (.bipush 24, 2) := by decide +kernel
theorem dX12_tellOne_251 : decode cX12_tellOne 251 = .ok (.isub, 1) := by decide +kernel
theorem dX12_tellOne_252 : decode cX12_tellOne 252 = .ok (.istore_n 1, 1) := by decide +kernel
theorem dX12_tellOne_253 : decode cX12_tellOne 253 = .ok (.iload_n 1, 1) := by decide +kernel
theorem dX12_tellOne_254 : decode cX12_tellOne 254 = .ok (.ifCond .lt 17, 3) := by decide +kernel
theorem dX12_tellOne_257 : decode cX12_tellOne 257 = .ok (.aload_n 0, 1) := by decide +kernel
theorem dX12_tellOne_258 : decode cX12_tellOne 258 = .ok (.getfield 20, 3) := by decide +kernel
theorem dX12_tellOne_261 : decode cX12_tellOne 261 = .ok (.aload_n 0, 1) := by decide +kernel
theorem dX12_tellOne_262 : decode cX12_tellOne 262 = .ok (.getfield 233, 3) := by decide +kernel
theorem dX12_tellOne_265 : decode cX12_tellOne 265 = .ok (.iaload, 1) := by decide +kernel
theorem dX12_tellOne_266 : decode cX12_tellOne 266 = .ok (.bipush 27, 2) := by decide +kernel
theorem dX12_tellOne_268 : decode cX12_tellOne 268 = .ok (.if_icmp .le 8, 3) := by decide +kernel
theorem dX12_tellOne_271 : decode cX12_tellOne 271 = .ok (.aload_n 0, 1) := by decide +kernel
theorem dX12_tellOne_272 : decode cX12_tellOne 272 = .ok (.iconst 1, 1) := by decide +kernel
theorem dX12_tellOne_273 : decode cX12_tellOne 273 = .ok (.invokevirtual 245, 3) := by decide +kernel
theorem dX12_tellOne_276 : decode cX12_tellOne 276 = .ok (.aload_n 0, 1) := by decide +kernel
theorem dX12_tellOne_277 : decode cX12_tellOne 277 = .ok (.getfield 230, 3) := by decide +kernel
theorem dX12_tellOne_280 : decode cX12_tellOne 280 = .ok (.ifCond .le 4, 3) := by decide +kernel
theorem dX12_tellOne_283 : decode cX12_tellOne 283 = .ok (.return_, 1) := by decide +kernel
theorem dX12_tellOne_284 : decode cX12_tellOne 284 = .ok (.aload_n 0, 1) := by decide +kernel
theorem dX12_tellOne_285 : decode cX12_tellOne 285 = .ok (.invokevirtual 251, 3) := by decide +kernel
theorem dX12_tellOne_288 : decode cX12_tellOne 288 = .ok (.aload_n 0, 1) := by decide +kernel
theorem dX12_tellOne_289 : decode cX12_tellOne 289 = .ok (.iload_n 1, 1) := by decide +kernel
theorem dX12_tellOne_290 : decode cX12_tellOne 290 = .ok (.invokevirtual 317, 3) := by decide +kernel
theorem dX12_tellOne_293 : decode cX12_tellOne 293 = .ok (.return_, 1) := by decide +kernel
theorem dX12_lettersIn_0 : decode cX12_lettersIn 0 = .ok (.iconst 0, 1) := by decide +kernel
theorem dX12_lettersIn_1 : decode cX12_lettersIn 1 = .ok (.istore_n 2, 1) := by decide +kernel
theorem dX12_lettersIn_2 : decode cX12_lettersIn 2 = .ok (.lload_n 0, 1) := by decide +kernel
theorem dX12_lettersIn_3 : decode cX12_lettersIn 3 = .ok (.lstore_n 3, 1) := by decide +kernel
theorem dX12_lettersIn_4 : decode cX12_lettersIn 4 = .ok (.lload_n 3, 1) := by decide +kernel
theorem dX12_lettersIn_5 : decode cX12_lettersIn 5 = .ok (.lconst 0, 1) := by decide +kernel
theorem dX12_lettersIn_6 : decode cX12_lettersIn 6 = .ok (.lcmp, 1) := by decide +kernel
theorem dX12_lettersIn_7 : decode cX12_lettersIn 7 = .ok (.ifCond .le 15, 3) := by decide +kernel
theorem dX12_lettersIn_10 : decode cX12_lettersIn 10 = .ok (.iinc 2 1, 3) := by decide +kernel
theorem dX12_lettersIn_13 : decode cX12_lettersIn 13 = .ok (.lload_n 3, 1) := by decide +kernel
theorem dX12_lettersIn_14 : decode cX12_lettersIn 14 = .ok (.ldc2_w 202, 3) := by decide +kernel
theorem dX12_lettersIn_17 : decode cX12_lettersIn 17 = .ok (.ldiv, 1) := by decide +kernel
theorem dX12_lettersIn_18 : decode cX12_lettersIn 18 = .ok (.lstore_n 3, 1) := by decide +kernel
theorem dX12_lettersIn_19 : decode cX12_lettersIn 19 = .ok (.goto (-15), 3) := by decide +kernel
theorem dX12_lettersIn_22 : decode cX12_lettersIn 22 = .ok (.iload_n 2, 1) := by decide +kernel
theorem dX12_lettersIn_23 : decode cX12_lettersIn 23 = .ok (.ireturn, 1) := by decide +kernel
theorem dX12_letterIn_0 : decode cX12_letterIn 0 = .ok (.lload_n 0, 1) := by decide +kernel
theorem dX12_letterIn_1 : decode cX12_letterIn 1 = .ok (.lstore_n 3, 1) := by decide +kernel
theorem dX12_letterIn_2 : decode cX12_letterIn 2 = .ok (.lload_n 0, 1) := by decide +kernel
theorem dX12_letterIn_3 : decode cX12_letterIn 3 = .ok (.invokestatic 320, 3) := by decide +kernel
theorem dX12_letterIn_6 : decode cX12_letterIn 6 = .ok (.iconst 1, 1) := by decide +kernel
theorem dX12_letterIn_7 : decode cX12_letterIn 7 = .ok (.isub, 1) := by decide +kernel
theorem dX12_letterIn_8 : decode cX12_letterIn 8 = .ok (.istore 5, 2) := by decide +kernel
theorem dX12_letterIn_10 : decode cX12_letterIn 10 = .ok (.iload 5, 2) := by decide +kernel
theorem dX12_letterIn_12 : decode cX12_letterIn 12 = .ok (.iload_n 2, 1) := by decide +kernel
theorem dX12_letterIn_13 : decode cX12_letterIn 13 = .ok (.if_icmp .le 15, 3) := by decide +kernel
theorem dX12_letterIn_16 : decode cX12_letterIn 16 = .ok (.lload_n 3, 1) := by decide +kernel
theorem dX12_letterIn_17 : decode cX12_letterIn 17 = .ok (.ldc2_w 202, 3) := by decide +kernel
theorem dX12_letterIn_20 : decode cX12_letterIn 20 = .ok (.ldiv, 1) := by decide +kernel
theorem dX12_letterIn_21 : decode cX12_letterIn 21 = .ok (.lstore_n 3, 1) := by decide +kernel
theorem dX12_letterIn_22 : decode cX12_letterIn 22 = .ok (.iinc 5 (-1), 3) := by decide +kernel
theorem dX12_letterIn_25 : decode cX12_letterIn 25 = .ok (.goto (-15), 3) := by decide +kernel
theorem dX12_letterIn_28 : decode cX12_letterIn 28 = .ok (.lload_n 3, 1) := by decide +kernel
theorem dX12_letterIn_29 : decode cX12_letterIn 29 = .ok (.ldc2_w 202, 3) := by decide +kernel
theorem dX12_letterIn_32 : decode cX12_letterIn 32 = .ok (.lrem, 1) := by decide +kernel
theorem dX12_letterIn_33 : decode cX12_letterIn 33 = .ok (.l2i, 1) := by decide +kernel
theorem dX12_letterIn_34 : decode cX12_letterIn 34 = .ok (.ireturn, 1) := by decide +kernel
theorem dX12_tellRow_0 : decode cX12_tellRow 0 = .ok (.aload_n 0, 1) := by decide +kernel
theorem dX12_tellRow_1 : decode cX12_tellRow 1 = .ok (.getfield 233, 3) := by decide +kernel
theorem dX12_tellRow_4 : decode cX12_tellRow 4 = .ok (.istore_n 1, 1) := by decide +kernel
theorem dX12_tellRow_5 : decode cX12_tellRow 5 = .ok (.aload_n 0, 1) := by decide +kernel
theorem dX12_tellRow_6 : decode cX12_tellRow 6 = .ok (.iconst 1, 1) := by decide +kernel
theorem dX12_tellRow_7 : decode cX12_tellRow 7 = .ok (.invokevirtual 296, 3) := by decide +kernel
theorem dX12_tellRow_10 : decode cX12_tellRow 10 = .ok (.aload_n 0, 1) := by decide +kernel
theorem dX12_tellRow_11 : decode cX12_tellRow 11 = .ok (.getfield 230, 3) := by decide +kernel
theorem dX12_tellRow_14 : decode cX12_tellRow 14 = .ok (.ifCond .le 4, 3) := by decide +kernel
theorem dX12_tellRow_17 : decode cX12_tellRow 17 = .ok (.return_, 1) := by decide +kernel
theorem dX12_tellRow_18 : decode cX12_tellRow 18 = .ok (.aload_n 0, 1) := by decide +kernel
theorem dX12_tellRow_19 : decode cX12_tellRow 19 = .ok (.getfield 30, 3) := by decide +kernel
theorem dX12_tellRow_22 : decode cX12_tellRow 22 = .ok (.iload_n 1, 1) := by decide +kernel
theorem dX12_tellRow_23 : decode cX12_tellRow 23 = .ok (.laload, 1) := by decide +kernel
theorem dX12_tellRow_24 : decode cX12_tellRow 24 = .ok (.invokestatic 320, 3) := by decide +kernel
theorem dX12_tellRow_27 : decode cX12_tellRow 27 = .ok (.istore_n 2, 1) := by decide +kernel
theorem dX12_tellRow_28 : decode cX12_tellRow 28 = .ok (.aload_n 0, 1) := by decide +kernel
theorem dX12_tellRow_29 : decode cX12_tellRow 29 = .ok (.getfield 49, 3) := by decide +kernel
theorem dX12_tellRow_32 : decode cX12_tellRow 32 = .ok (.aload_n 0, 1) := by decide +kernel
theorem dX12_tellRow_33 : decode cX12_tellRow 33 = .ok (.getfield 263, 3) := by decide +kernel
theorem dX12_tellRow_36 : decode cX12_tellRow 36 = .ok (.iaload, 1) := by decide +kernel
theorem dX12_tellRow_37 : decode cX12_tellRow 37 = .ok (.ifCond .ne 13, 3) := by decide +kernel
theorem dX12_tellRow_40 : decode cX12_tellRow 40 = .ok (.aload_n 0, 1) := by decide +kernel
theorem dX12_tellRow_41 : decode cX12_tellRow 41 = .ok (.getfield 46, 3) := by decide +kernel
theorem dX12_tellRow_44 : decode cX12_tellRow 44 = .ok (.aload_n 0, 1) := by decide +kernel
theorem dX12_tellRow_45 : decode cX12_tellRow 45 = .ok (.getfield 263, 3) := by decide +kernel
theorem dX12_tellRow_48 : decode cX12_tellRow 48 = .ok (.iload_n 2, 1) := by decide +kernel
theorem dX12_tellRow_49 : decode cX12_tellRow 49 = .ok (.iastore, 1) := by decide +kernel
theorem dX12_tellRow_50 : decode cX12_tellRow 50 = .ok (.iload_n 2, 1) := by decide +kernel
theorem dX12_tellRow_51 : decode cX12_tellRow 51 = .ok (.aload_n 0, 1) := by decide +kernel
theorem dX12_tellRow_52 : decode cX12_tellRow 52 = .ok (.getfield 46, 3) := by decide +kernel
theorem dX12_tellRow_55 : decode cX12_tellRow 55 = .ok (.aload_n 0, 1) := by decide +kernel
theorem dX12_tellRow_56 : decode cX12_tellRow 56 = .ok (.getfield 263, 3) := by decide +kernel
theorem dX12_tellRow_59 : decode cX12_tellRow 59 = .ok (.iaload, 1) := by decide +kernel
theorem dX12_tellRow_60 : decode cX12_tellRow 60 = .ok (.if_icmp .ne 7, 3) := by decide +kernel
theorem dX12_tellRow_63 : decode cX12_tellRow 63 = .ok (.iconst 1, 1) := by decide +kernel
theorem dX12_tellRow_64 : decode cX12_tellRow 64 = .ok (.goto 4, 3) := by decide +kernel
theorem dX12_tellRow_67 : decode cX12_tellRow 67 = .ok (.iconst 0, 1) := by decide +kernel
theorem dX12_tellRow_68 : decode cX12_tellRow 68 = .ok (.istore_n 3, 1) := by decide +kernel
theorem dX12_tellRow_69 : decode cX12_tellRow 69 = .ok (.iconst 0, 1) := by decide +kernel
theorem dX12_tellRow_70 : decode cX12_tellRow 70 = .ok (.istore 4, 2) := by decide +kernel
theorem dX12_tellRow_72 : decode cX12_tellRow 72 = .ok (.iload 4, 2) := by decide +kernel
theorem dX12_tellRow_74 : decode cX12_tellRow 74 = .ok (.iload_n 2, 1) := by decide +kernel
theorem dX12_tellRow_75 : decode cX12_tellRow 75 = .ok (.if_icmp .ge 81, 3) := by decide +kernel
theorem dX12_tellRow_78 : decode cX12_tellRow 78 = .ok (.aload_n 0, 1) := by decide +kernel
theorem dX12_tellRow_79 : decode cX12_tellRow 79 = .ok (.getfield 30, 3) := by decide +kernel
theorem dX12_tellRow_82 : decode cX12_tellRow 82 = .ok (.iload_n 1, 1) := by decide +kernel
theorem dX12_tellRow_83 : decode cX12_tellRow 83 = .ok (.laload, 1) := by decide +kernel
theorem dX12_tellRow_84 : decode cX12_tellRow 84 = .ok (.iload 4, 2) := by decide +kernel
theorem dX12_tellRow_86 : decode cX12_tellRow 86 = .ok (.invokestatic 324, 3) := by decide +kernel
theorem dX12_tellRow_89 : decode cX12_tellRow 89 = .ok (.istore 5, 2) := by decide +kernel
theorem dX12_tellRow_91 : decode cX12_tellRow 91 = .ok (.iload 5, 2) := by decide +kernel
theorem dX12_tellRow_93 : decode cX12_tellRow 93 = .ok (.iconst 4, 1) := by decide +kernel
theorem dX12_tellRow_94 : decode cX12_tellRow 94 = .ok (.if_icmp .le 12, 3) := by decide +kernel
theorem dX12_tellRow_97 : decode cX12_tellRow 97 = .ok (.iload 5, 2) := by decide +kernel
theorem dX12_tellRow_99 : decode cX12_tellRow 99 = .ok (.bipush 15, 2) := by decide +kernel
theorem dX12_tellRow_101 : decode cX12_tellRow 101 = .ok (.if_icmp .eq 5, 3) := by decide +kernel
theorem dX12_tellRow_104 : decode cX12_tellRow 104 = .ok (.iconst 0, 1) := by decide +kernel
theorem dX12_tellRow_105 : decode cX12_tellRow 105 = .ok (.istore_n 3, 1) := by decide +kernel
theorem dX12_tellRow_106 : decode cX12_tellRow 106 = .ok (.aload_n 0, 1) := by decide +kernel
theorem dX12_tellRow_107 : decode cX12_tellRow 107 = .ok (.getfield 52, 3) := by decide +kernel
theorem dX12_tellRow_110 : decode cX12_tellRow 110 = .ok (.bipush 40, 2) := by decide +kernel
theorem dX12_tellRow_112 : decode cX12_tellRow 112 = .ok (.aload_n 0, 1) := by decide +kernel
theorem dX12_tellRow_113 : decode cX12_tellRow 113 = .ok (.getfield 263, 3) := by decide +kernel
theorem dX12_tellRow_116 : decode cX12_tellRow 116 = .ok (.imul, 1) := by decide +kernel
theorem dX12_tellRow_117 : decode cX12_tellRow 117 = .ok (.bipush 8, 2) := by decide +kernel
theorem dX12_tellRow_119 : decode cX12_tellRow 119 = .ok (.aload_n 0, 1) := by decide +kernel
theorem dX12_tellRow_120 : decode cX12_tellRow 120 = .ok (.getfield 49, 3) := by decide +kernel
theorem dX12_tellRow_123 : decode cX12_tellRow 123 = .ok (.aload_n 0, 1) := by decide +kernel
theorem dX12_tellRow_124 : decode cX12_tellRow 124 = .ok (.getfield 263, 3) := by decide +kernel
theorem dX12_tellRow_127 : decode cX12_tellRow 127 = .ok (.iaload, 1) := by decide +kernel
theorem dX12_tellRow_128 : decode cX12_tellRow 128 = .ok (.imul, 1) := by decide +kernel
theorem dX12_tellRow_129 : decode cX12_tellRow 129 = .ok (.iadd, 1) := by decide +kernel
theorem dX12_tellRow_130 : decode cX12_tellRow 130 = .ok (.iload 4, 2) := by decide +kernel
theorem dX12_tellRow_132 : decode cX12_tellRow 132 = .ok (.iadd, 1) := by decide +kernel
theorem dX12_tellRow_133 : decode cX12_tellRow 133 = .ok (.iload 5, 2) := by decide +kernel
theorem dX12_tellRow_135 : decode cX12_tellRow 135 = .ok (.bipush 15, 2) := by decide +kernel
theorem dX12_tellRow_137 : decode cX12_tellRow 137 = .ok (.if_icmp .ne 8, 3) := by decide +kernel
theorem dX12_tellRow_140 : decode cX12_tellRow 140 = .ok (.bipush 9, 2) := by decide +kernel
theorem dX12_tellRow_142 : decode cX12_tellRow 142 = .ok (.goto 7, 3) := by decide +kernel
theorem dX12_tellRow_145 : decode cX12_tellRow 145 = .ok (.iload 5, 2) := by decide +kernel
theorem dX12_tellRow_147 : decode cX12_tellRow 147 = .ok (.iconst 1, 1) := by decide +kernel
theorem dX12_tellRow_148 : decode cX12_tellRow 148 = .ok (.isub, 1) := by decide +kernel
theorem dX12_tellRow_149 : decode cX12_tellRow 149 = .ok (.iastore, 1) := by decide +kernel
theorem dX12_tellRow_150 : decode cX12_tellRow 150 = .ok (.iinc 4 1, 3) := by decide +kernel
theorem dX12_tellRow_153 : decode cX12_tellRow 153 = .ok (.goto (-81), 3) := by decide +kernel
theorem dX12_tellRow_156 : decode cX12_tellRow 156 = .ok (.iload_n 3, 1) := by decide +kernel
theorem dX12_tellRow_157 : decode cX12_tellRow 157 = .ok (.ifCond .ne 10, 3) := by decide +kernel
theorem dX12_tellRow_160 : decode cX12_tellRow 160 = .ok (.aload_n 0, 1) := by decide +kernel
theorem dX12_tellRow_161 : decode cX12_tellRow 161 = .ok (.bipush 6, 2) := by decide +kernel
theorem dX12_tellRow_163 : decode cX12_tellRow 163 = .ok (.iload_n 1, 1) := by decide +kernel
theorem dX12_tellRow_164 : decode cX12_tellRow 164 = .ok (.invokevirtual 282, 3) := by decide +kernel
theorem dX12_tellRow_167 : decode cX12_tellRow 167 = .ok (.aload_n 0, 1) := by decide +kernel
theorem dX12_tellRow_168 : decode cX12_tellRow 168 = .ok (.iconst 4, 1) := by decide +kernel
theorem dX12_tellRow_169 : decode cX12_tellRow 169 = .ok (.invokevirtual 296, 3) := by decide +kernel
theorem dX12_tellRow_172 : decode cX12_tellRow 172 = .ok (.aload_n 0, 1) := by decide +kernel
theorem dX12_tellRow_173 : decode cX12_tellRow 173 = .ok (.getfield 230, 3) := by decide +kernel
theorem dX12_tellRow_176 : decode cX12_tellRow 176 = .ok (.ifCond .ne 16, 3) := by decide +kernel
theorem dX12_tellRow_179 : decode cX12_tellRow 179 = .ok (.aload_n 0, 1) := by decide +kernel
theorem dX12_tellRow_180 : decode cX12_tellRow 180 = .ok (.getfield 49, 3) := by decide +kernel
theorem dX12_tellRow_183 : decode cX12_tellRow 183 = .ok (.aload_n 0, 1) := by decide +kernel
theorem dX12_tellRow_184 : decode cX12_tellRow 184 = .ok (.getfield 263, 3) := by decide +kernel
theorem dX12_tellRow_187 : decode cX12_tellRow 187 = .ok (.dup2, 1) := by decide +kernel
theorem dX12_tellRow_188 : decode cX12_tellRow 188 = .ok (.iaload, 1) := by decide +kernel
theorem dX12_tellRow_189 : decode cX12_tellRow 189 = .ok (.iconst 1, 1) := by decide +kernel
theorem dX12_tellRow_190 : decode cX12_tellRow 190 = .ok (.iadd, 1) := by decide +kernel
theorem dX12_tellRow_191 : decode cX12_tellRow 191 = .ok (.iastore, 1) := by decide +kernel
theorem dX12_tellRow_192 : decode cX12_tellRow 192 = .ok (.return_, 1) := by decide +kernel
theorem dX12_named_0 : decode cX12_named 0 = .ok (.aload_n 0, 1) := by decide +kernel
theorem dX12_named_1 : decode cX12_named 1 = .ok (.getfield 233, 3) := by decide +kernel
theorem dX12_named_4 : decode cX12_named 4 = .ok (.istore_n 1, 1) := by decide +kernel
theorem dX12_named_5 : decode cX12_named 5 = .ok (.aload_n 0, 1) := by decide +kernel
theorem dX12_named_6 : decode cX12_named 6 = .ok (.iconst 1, 1) := by decide +kernel
theorem dX12_named_7 : decode cX12_named 7 = .ok (.invokevirtual 296, 3) := by decide +kernel
theorem dX12_named_10 : decode cX12_named 10 = .ok (.iconst 0, 1) := by decide +kernel
theorem dX12_named_11 : decode cX12_named 11 = .ok (.istore_n 2, 1) := by decide +kernel
theorem dX12_named_12 : decode cX12_named 12 = .ok (.iload_n 2, 1) := by decide +kernel
theorem dX12_named_13 : decode cX12_named 13 = .ok (.aload_n 0, 1) := by decide +kernel
theorem dX12_named_14 : decode cX12_named 14 = .ok (.getfield 266, 3) := by decide +kernel
theorem dX12_named_17 : decode cX12_named 17 = .ok (.if_icmp .ge 38, 3) := by decide +kernel
theorem dX12_named_20 : decode cX12_named 20 = .ok (.aload_n 0, 1) := by decide +kernel
theorem dX12_named_21 : decode cX12_named 21 = .ok (.getfield 230, 3) := by decide +kernel
theorem dX12_named_24 : decode cX12_named 24 = .ok (.ifCond .ne 31, 3) := by decide +kernel
theorem dX12_named_27 : decode cX12_named 27 = .ok (.aload_n 0, 1) := by decide +kernel
theorem dX12_named_28 : decode cX12_named 28 = .ok (.getfield 40, 3) := by decide +kernel
theorem dX12_named_31 : decode cX12_named 31 = .ok (.iload_n 2, 1) := by decide +kernel
theorem dX12_named_32 : decode cX12_named 32 = .ok (.laload, 1) := by decide +kernel
theorem dX12_named_33 : decode cX12_named 33 = .ok (.aload_n 0, 1) := by decide +kernel
theorem dX12_named_34 : decode cX12_named 34 = .ok (.getfield 30, 3) := by decide +kernel
theorem dX12_named_37 : decode cX12_named 37 = .ok (.iload_n 1, 1) := by decide +kernel
theorem dX12_named_38 : decode cX12_named 38 = .ok (.laload, 1) := by decide +kernel
theorem dX12_named_39 : decode cX12_named 39 = .ok (.lcmp, 1) := by decide +kernel
theorem dX12_named_40 : decode cX12_named 40 = .ok (.ifCond .ne 9, 3) := by decide +kernel
theorem dX12_named_43 : decode cX12_named 43 = .ok (.aload_n 0, 1) := by decide +kernel
theorem dX12_named_44 : decode cX12_named 44 = .ok (.iconst 3, 1) := by decide +kernel
theorem dX12_named_45 : decode cX12_named 45 = .ok (.iload_n 1, 1) := by decide +kernel
theorem dX12_named_46 : decode cX12_named 46 = .ok (.invokevirtual 282, 3) := by decide +kernel
theorem dX12_named_49 : decode cX12_named 49 = .ok (.iinc 2 1, 3) := by decide +kernel
theorem dX12_named_52 : decode cX12_named 52 = .ok (.goto (-40), 3) := by decide +kernel
theorem dX12_named_55 : decode cX12_named 55 = .ok (.iload_n 1, 1) := by decide +kernel
theorem dX12_named_56 : decode cX12_named 56 = .ok (.ireturn, 1) := by decide +kernel
theorem dX12_ends_0 : decode cX12_ends 0 = .ok (.aload_n 0, 1) := by decide +kernel
theorem dX12_ends_1 : decode cX12_ends 1 = .ok (.iconst 4, 1) := by decide +kernel
theorem dX12_ends_2 : decode cX12_ends 2 = .ok (.invokevirtual 296, 3) := by decide +kernel
theorem dX12_ends_5 : decode cX12_ends 5 = .ok (.aload_n 0, 1) := by decide +kernel
theorem dX12_ends_6 : decode cX12_ends 6 = .ok (.getfield 230, 3) := by decide +kernel
theorem dX12_ends_9 : decode cX12_ends 9 = .ok (.ifCond .le 4, 3) := by decide +kernel
theorem dX12_ends_12 : decode cX12_ends 12 = .ok (.return_, 1) := by decide +kernel
theorem dX12_ends_13 : decode cX12_ends 13 = .ok (.aload_n 0, 1) := by decide +kernel
theorem dX12_ends_14 : decode cX12_ends 14 = .ok (.getfield 40, 3) := by decide +kernel
theorem dX12_ends_17 : decode cX12_ends 17 = .ok (.aload_n 0, 1) := by decide +kernel
theorem dX12_ends_18 : decode cX12_ends 18 = .ok (.getfield 266, 3) := by decide +kernel
theorem dX12_ends_21 : decode cX12_ends 21 = .ok (.aload_n 0, 1) := by decide +kernel
theorem dX12_ends_22 : decode cX12_ends 22 = .ok (.getfield 30, 3) := by decide +kernel
theorem dX12_ends_25 : decode cX12_ends 25 = .ok (.iload_n 1, 1) := by decide +kernel
theorem dX12_ends_26 : decode cX12_ends 26 = .ok (.laload, 1) := by decide +kernel
theorem dX12_ends_27 : decode cX12_ends 27 = .ok (.lastore, 1) := by decide +kernel
theorem dX12_ends_28 : decode cX12_ends 28 = .ok (.aload_n 0, 1) := by decide +kernel
theorem dX12_ends_29 : decode cX12_ends 29 = .ok (.getfield 43, 3) := by decide +kernel
theorem dX12_ends_32 : decode cX12_ends 32 = .ok (.aload_n 0, 1) := by decide +kernel
theorem dX12_ends_33 : decode cX12_ends 33 = .ok (.getfield 266, 3) := by decide +kernel
theorem dX12_ends_36 : decode cX12_ends 36 = .ok (.iload_n 2, 1) := by decide +kernel
theorem dX12_ends_37 : decode cX12_ends 37 = .ok (.iastore, 1) := by decide +kernel
theorem dX12_ends_38 : decode cX12_ends 38 = .ok (.aload_n 0, 1) := by decide +kernel
theorem dX12_ends_39 : decode cX12_ends 39 = .ok (.dup, 1) := by decide +kernel
theorem dX12_ends_40 : decode cX12_ends 40 = .ok (.getfield 266, 3) := by decide +kernel
theorem dX12_ends_43 : decode cX12_ends 43 = .ok (.iconst 1, 1) := by decide +kernel
theorem dX12_ends_44 : decode cX12_ends 44 = .ok (.iadd, 1) := by decide +kernel
theorem dX12_ends_45 : decode cX12_ends 45 = .ok (.putfield 266, 3) := by decide +kernel
theorem dX12_ends_48 : decode cX12_ends 48 = .ok (.return_, 1) := by decide +kernel
theorem dX12_knownHolding_0 : decode cX12_knownHolding 0 = .ok (.aload_n 0, 1) := by decide +kernel
theorem dX12_knownHolding_1 : decode cX12_knownHolding 1 = .ok (.getfield 233, 3) := by decide +kernel
theorem dX12_knownHolding_4 : decode cX12_knownHolding 4 = .ok (.istore_n 1, 1) := by decide +kernel
theorem dX12_knownHolding_5 : decode cX12_knownHolding 5 = .ok (.aload_n 0, 1) := by decide +kernel
theorem dX12_knownHolding_6 : decode cX12_knownHolding 6 = .ok (.iconst 1, 1) := by decide +kernel
theorem dX12_knownHolding_7 : decode cX12_knownHolding 7 = .ok (.invokevirtual 296, 3) := by decide +kernel
theorem dX12_knownHolding_10 : decode cX12_knownHolding 10 = .ok (.aload_n 0, 1) := by decide +kernel
theorem dX12_knownHolding_11 : decode cX12_knownHolding 11 = .ok (.getfield 230, 3) := by decide +kernel
theorem dX12_knownHolding_14 : decode cX12_knownHolding 14 = .ok (.ifCond .le 5, 3) := by decide +kernel
theorem dX12_knownHolding_17 : decode cX12_knownHolding 17 = .ok (.iconst (-1), 1) := by decide +kernel
theorem dX12_knownHolding_18 : decode cX12_knownHolding 18 = .ok (.ireturn, 1) := by decide +kernel
theorem dX12_knownHolding_19 : decode cX12_knownHolding 19 = .ok (.iconst 0, 1) := by decide +kernel
theorem dX12_knownHolding_20 : decode cX12_knownHolding 20 = .ok (.istore_n 2, 1) := by decide +kernel
theorem dX12_knownHolding_21 : decode cX12_knownHolding 21 = .ok (.iload_n 2, 1) := by decide +kernel
theorem dX12_knownHolding_22 : decode cX12_knownHolding 22 = .ok (.aload_n 0, 1) := by decide +kernel
theorem dX12_knownHolding_23 : decode cX12_knownHolding 23 = .ok (.getfield 266, 3) := by decide +kernel
theorem dX12_knownHolding_26 : decode cX12_knownHolding 26 = .ok (.if_icmp .ge 41, 3) := by decide +kernel
theorem dX12_knownHolding_29 : decode cX12_knownHolding 29 = .ok (.aload_n 0, 1) := by decide +kernel
theorem dX12_knownHolding_30 : decode cX12_knownHolding 30 = .ok (.getfield 40, 3) := by decide +kernel
theorem dX12_knownHolding_33 : decode cX12_knownHolding 33 = .ok (.iload_n 2, 1) := by decide +kernel
theorem dX12_knownHolding_34 : decode cX12_knownHolding 34 = .ok (.laload, 1) := by decide +kernel
theorem dX12_knownHolding_35 : decode cX12_knownHolding 35 = .ok (.aload_n 0, 1) := by decide +kernel
theorem dX12_knownHolding_36 : decode cX12_knownHolding 36 = .ok (.getfield 30, 3) := by decide +kernel
theorem dX12_knownHolding_39 : decode cX12_knownHolding 39 = .ok (.iload_n 1, 1) := by decide +kernel
theorem dX12_knownHolding_40 : decode cX12_knownHolding 40 = .ok (.laload, 1) := by decide +kernel
theorem dX12_knownHolding_41 : decode cX12_knownHolding 41 = .ok (.lcmp, 1) := by decide +kernel
theorem dX12_knownHolding_42 : decode cX12_knownHolding 42 = .ok (.ifCond .ne 19, 3) := by decide +kernel
theorem dX12_knownHolding_45 : decode cX12_knownHolding 45 = .ok (.aload_n 0, 1) := by decide +kernel
theorem dX12_knownHolding_46 : decode cX12_knownHolding 46 = .ok (.getfield 43, 3) := by decide +kernel
theorem dX12_knownHolding_49 : decode cX12_knownHolding 49 = .ok (.iload_n 2, 1) := by decide +kernel
theorem dX12_knownHolding_50 : decode cX12_knownHolding 50 = .ok (.iaload, 1) := by decide +kernel
theorem dX12_knownHolding_51 : decode cX12_knownHolding 51 = .ok (.ifCond .lt 10, 3) := by decide +kernel
theorem dX12_knownHolding_54 : decode cX12_knownHolding 54 = .ok (.aload_n 0, 1) := by decide +kernel
theorem dX12_knownHolding_55 : decode cX12_knownHolding 55 = .ok (.getfield 43, 3) := by decide +kernel
theorem dX12_knownHolding_58 : decode cX12_knownHolding 58 = .ok (.iload_n 2, 1) := by decide +kernel
theorem dX12_knownHolding_59 : decode cX12_knownHolding 59 = .ok (.iaload, 1) := by decide +kernel
theorem dX12_knownHolding_60 : decode cX12_knownHolding 60 = .ok (.ireturn, 1) := by decide +kernel
theorem dX12_knownHolding_61 : decode cX12_knownHolding 61 = .ok (.iinc 2 1, 3) := by decide +kernel
theorem dX12_knownHolding_64 : decode cX12_knownHolding 64 = .ok (.goto (-43), 3) := by decide +kernel
theorem dX12_knownHolding_67 : decode cX12_knownHolding 67 = .ok (.aload_n 0, 1) := by decide +kernel
theorem dX12_knownHolding_68 : decode cX12_knownHolding 68 = .ok (.iconst 4, 1) := by decide +kernel
theorem dX12_knownHolding_69 : decode cX12_knownHolding 69 = .ok (.iload_n 1, 1) := by decide +kernel
theorem dX12_knownHolding_70 : decode cX12_knownHolding 70 = .ok (.invokevirtual 282, 3) := by decide +kernel
theorem dX12_knownHolding_73 : decode cX12_knownHolding 73 = .ok (.iconst (-1), 1) := by decide +kernel
theorem dX12_knownHolding_74 : decode cX12_knownHolding 74 = .ok (.ireturn, 1) := by decide +kernel
theorem dX12_bounded_0 : decode cX12_bounded 0 = .ok (.aload_n 0, 1) := by decide +kernel
theorem dX12_bounded_1 : decode cX12_bounded 1 = .ok (.getfield 230, 3) := by decide +kernel
theorem dX12_bounded_4 : decode cX12_bounded 4 = .ok (.ifCond .gt 11, 3) := by decide +kernel
theorem dX12_bounded_7 : decode cX12_bounded 7 = .ok (.aload_n 0, 1) := by decide +kernel
theorem dX12_bounded_8 : decode cX12_bounded 8 = .ok (.iconst 2, 1) := by decide +kernel
theorem dX12_bounded_9 : decode cX12_bounded 9 = .ok (.invokevirtual 248, 3) := by decide +kernel
theorem dX12_bounded_12 : decode cX12_bounded 12 = .ok (.ifCond .ne 10, 3) := by decide +kernel
theorem dX12_bounded_15 : decode cX12_bounded 15 = .ok (.aload_n 0, 1) := by decide +kernel
theorem dX12_bounded_16 : decode cX12_bounded 16 = .ok (.iconst 1, 1) := by decide +kernel
theorem dX12_bounded_17 : decode cX12_bounded 17 = .ok (.invokevirtual 245, 3) := by decide +kernel
theorem dX12_bounded_20 : decode cX12_bounded 20 = .ok (.iload_n 1, 1) := by decide +kernel
theorem dX12_bounded_21 : decode cX12_bounded 21 = .ok (.ireturn, 1) := by decide +kernel
theorem dX12_bounded_22 : decode cX12_bounded 22 = .ok (.aload_n 0, 1) := by decide +kernel
theorem dX12_bounded_23 : decode cX12_bounded 23 = .ok (.getfield 27, 3) := by decide +kernel
theorem dX12_bounded_26 : decode cX12_bounded 26 = .ok (.aload_n 0, 1) := by decide +kernel
theorem dX12_bounded_27 : decode cX12_bounded 27 = .ok (.getfield 233, 3) := by decide +kernel
theorem dX12_bounded_30 : decode cX12_bounded 30 = .ok (.iaload, 1) := by decide +kernel
theorem dX12_bounded_31 : decode cX12_bounded 31 = .ok (.istore_n 3, 1) := by decide +kernel
theorem dX12_bounded_32 : decode cX12_bounded 32 = .ok (.iload_n 3, 1) := by decide +kernel
theorem dX12_bounded_33 : decode cX12_bounded 33 = .ok (.iload_n 1, 1) := by decide +kernel
theorem dX12_bounded_34 : decode cX12_bounded 34 = .ok (.if_icmp .lt 8, 3) := by decide +kernel
theorem dX12_bounded_37 : decode cX12_bounded 37 = .ok (.iload_n 3, 1) := by decide +kernel
theorem dX12_bounded_38 : decode cX12_bounded 38 = .ok (.iload_n 2, 1) := by decide +kernel
theorem dX12_bounded_39 : decode cX12_bounded 39 = .ok (.if_icmp .le 12, 3) := by decide +kernel
theorem dX12_bounded_42 : decode cX12_bounded 42 = .ok (.aload_n 0, 1) := by decide +kernel
theorem dX12_bounded_43 : decode cX12_bounded 43 = .ok (.iconst 5, 1) := by decide +kernel
theorem dX12_bounded_44 : decode cX12_bounded 44 = .ok (.aload_n 0, 1) := by decide +kernel
theorem dX12_bounded_45 : decode cX12_bounded 45 = .ok (.getfield 233, 3) := by decide +kernel
theorem dX12_bounded_48 : decode cX12_bounded 48 = .ok (.invokevirtual 282, 3) := by decide +kernel
theorem dX12_bounded_51 : decode cX12_bounded 51 = .ok (.aload_n 0, 1) := by decide +kernel
theorem dX12_bounded_52 : decode cX12_bounded 52 = .ok (.invokevirtual 251, 3) := by decide +kernel
theorem dX12_bounded_55 : decode cX12_bounded 55 = .ok (.iload_n 3, 1) := by decide +kernel
theorem dX12_bounded_56 : decode cX12_bounded 56 = .ok (.ireturn, 1) := by decide +kernel
theorem dX12_tellHolding_0 : decode cX12_tellHolding 0 = .ok (.iconst 4, 1) := by decide +kernel
theorem dX12_tellHolding_1 : decode cX12_tellHolding 1 = .ok (.aload_n 0, 1) := by decide +kernel
theorem dX12_tellHolding_2 : decode cX12_tellHolding 2 = .ok (.getfield 263, 3) := by decide +kernel
theorem dX12_tellHolding_5 : decode cX12_tellHolding 5 = .ok (.imul, 1) := by decide +kernel
theorem dX12_tellHolding_6 : decode cX12_tellHolding 6 = .ok (.aload_n 0, 1) := by decide +kernel
theorem dX12_tellHolding_7 : decode cX12_tellHolding 7 = .ok (.getfield 58, 3) := by decide +kernel
theorem dX12_tellHolding_10 : decode cX12_tellHolding 10 = .ok (.aload_n 0, 1) := by decide +kernel
theorem dX12_tellHolding_11 : decode cX12_tellHolding 11 = .ok (.getfield 263, 3) := by decide +kernel
theorem dX12_tellHolding_14 : decode cX12_tellHolding 14 = .ok (.iaload, 1) := by decide +kernel
theorem dX12_tellHolding_15 : decode cX12_tellHolding 15 = .ok (.iadd, 1) := by decide +kernel
theorem dX12_tellHolding_16 : decode cX12_tellHolding 16 = .ok (.istore_n 1, 1) := by decide +kernel
theorem dX12_tellHolding_17 : decode cX12_tellHolding 17 = .ok (.aload_n 0, 1) := by decide +kernel
theorem dX12_tellHolding_18 : decode cX12_tellHolding 18 = .ok (.invokevirtual 328, 3) := by decide +kernel
theorem dX12_tellHolding_21 : decode cX12_tellHolding 21 = .ok (.istore_n 2, 1) := by decide +kernel
theorem dX12_tellHolding_22 : decode cX12_tellHolding 22 = .ok (.aload_n 0, 1) := by decide +kernel
theorem dX12_tellHolding_23 : decode cX12_tellHolding 23 = .ok (.getfield 61, 3) := by decide +kernel
theorem dX12_tellHolding_26 : decode cX12_tellHolding 26 = .ok (.iload_n 1, 1) := by decide +kernel
theorem dX12_tellHolding_27 : decode cX12_tellHolding 27 = .ok (.aload_n 0, 1) := by decide +kernel
theorem dX12_tellHolding_28 : decode cX12_tellHolding 28 = .ok (.iconst 0, 1) := by decide +kernel
theorem dX12_tellHolding_29 : decode cX12_tellHolding 29 = .ok (.bipush 99, 2) := by decide +kernel
theorem dX12_tellHolding_31 : decode cX12_tellHolding 31 = .ok (.invokevirtual 292, 3) := by decide +kernel
theorem dX12_tellHolding_34 : decode cX12_tellHolding 34 = .ok (.iastore, 1) := by decide +kernel
theorem dX12_tellHolding_35 : decode cX12_tellHolding 35 = .ok (.aload_n 0, 1) := by decide +kernel
theorem dX12_tellHolding_36 : decode cX12_tellHolding 36 = .ok (.getfield 64, 3) := by decide +kernel
theorem dX12_tellHolding_39 : decode cX12_tellHolding 39 = .ok (.iload_n 1, 1) := by decide +kernel
theorem dX12_tellHolding_40 : decode cX12_tellHolding 40 = .ok (.aload_n 0, 1) := by decide +kernel
theorem dX12_tellHolding_41 : decode cX12_tellHolding 41 = .ok (.iconst 0, 1) := by decide +kernel
theorem dX12_tellHolding_42 : decode cX12_tellHolding 42 = .ok (.sipush 999, 3) := by decide +kernel
theorem dX12_tellHolding_45 : decode cX12_tellHolding 45 = .ok (.invokevirtual 292, 3) := by decide +kernel
theorem dX12_tellHolding_48 : decode cX12_tellHolding 48 = .ok (.iastore, 1) := by decide +kernel
theorem dX12_tellHolding_49 : decode cX12_tellHolding 49 = .ok (.aload_n 0, 1) := by decide +kernel
theorem dX12_tellHolding_50 : decode cX12_tellHolding 50 = .ok (.iload_n 2, 1) := by decide +kernel
theorem dX12_tellHolding_51 : decode cX12_tellHolding 51 = .ok (.aload_n 0, 1) := by decide +kernel
theorem dX12_tellHolding_52 : decode cX12_tellHolding 52 = .ok (.getfield 58, 3) := by decide +kernel
theorem dX12_tellHolding_55 : decode cX12_tellHolding 55 = .ok (.aload_n 0, 1) := by decide +kernel
theorem dX12_tellHolding_56 : decode cX12_tellHolding 56 = .ok (.getfield 263, 3) := by decide +kernel
theorem dX12_tellHolding_59 : decode cX12_tellHolding 59 = .ok (.iaload, 1) := by decide +kernel
theorem dX12_tellHolding_60 : decode cX12_tellHolding 60 = .ok (.invokevirtual 332, 3) := by decide +kernel
theorem dX12_tellHolding_63 : decode cX12_tellHolding 63 = .ok (.aload_n 0, 1) := by decide +kernel
theorem dX12_tellHolding_64 : decode cX12_tellHolding 64 = .ok (.getfield 230, 3) := by decide +kernel
theorem dX12_tellHolding_67 : decode cX12_tellHolding 67 = .ok (.ifCond .ne 16, 3) := by decide +kernel
theorem dX12_tellHolding_70 : decode cX12_tellHolding 70 = .ok (.aload_n 0, 1) := by decide +kernel
theorem dX12_tellHolding_71 : decode cX12_tellHolding 71 = .ok (.getfield 58, 3) := by decide +kernel
theorem dX12_tellHolding_74 : decode cX12_tellHolding 74 = .ok (.aload_n 0, 1) := by decide +kernel
theorem dX12_tellHolding_75 : decode cX12_tellHolding 75 = .ok (.getfield 263, 3) := by decide +kernel
theorem dX12_tellHolding_78 : decode cX12_tellHolding 78 = .ok (.dup2, 1) := by decide +kernel
theorem dX12_tellHolding_79 : decode cX12_tellHolding 79 = .ok (.iaload, 1) := by decide +kernel
theorem dX12_tellHolding_80 : decode cX12_tellHolding 80 = .ok (.iconst 1, 1) := by decide +kernel
theorem dX12_tellHolding_81 : decode cX12_tellHolding 81 = .ok (.iadd, 1) := by decide +kernel
theorem dX12_tellHolding_82 : decode cX12_tellHolding 82 = .ok (.iastore, 1) := by decide +kernel
theorem dX12_tellHolding_83 : decode cX12_tellHolding 83 = .ok (.return_, 1) := by decide +kernel
theorem dX12_tellUse_0 : decode cX12_tellUse 0 = .ok (.bipush 6, 2) := by decide +kernel
theorem dX12_tellUse_2 : decode cX12_tellUse 2 = .ok (.aload_n 0, 1) := by decide +kernel
theorem dX12_tellUse_3 : decode cX12_tellUse 3 = .ok (.getfield 263, 3) := by decide +kernel
theorem dX12_tellUse_6 : decode cX12_tellUse 6 = .ok (.imul, 1) := by decide +kernel
theorem dX12_tellUse_7 : decode cX12_tellUse 7 = .ok (.aload_n 0, 1) := by decide +kernel
theorem dX12_tellUse_8 : decode cX12_tellUse 8 = .ok (.getfield 67, 3) := by decide +kernel
theorem dX12_tellUse_11 : decode cX12_tellUse 11 = .ok (.aload_n 0, 1) := by decide +kernel
theorem dX12_tellUse_12 : decode cX12_tellUse 12 = .ok (.getfield 263, 3) := by decide +kernel
theorem dX12_tellUse_15 : decode cX12_tellUse 15 = .ok (.iaload, 1) := by decide +kernel
theorem dX12_tellUse_16 : decode cX12_tellUse 16 = .ok (.iadd, 1) := by decide +kernel
theorem dX12_tellUse_17 : decode cX12_tellUse 17 = .ok (.istore_n 1, 1) := by decide +kernel
theorem dX12_tellUse_18 : decode cX12_tellUse 18 = .ok (.aload_n 0, 1) := by decide +kernel
theorem dX12_tellUse_19 : decode cX12_tellUse 19 = .ok (.invokevirtual 328, 3) := by decide +kernel
theorem dX12_tellUse_22 : decode cX12_tellUse 22 = .ok (.istore_n 2, 1) := by decide +kernel
theorem dX12_tellUse_23 : decode cX12_tellUse 23 = .ok (.aload_n 0, 1) := by decide +kernel
theorem dX12_tellUse_24 : decode cX12_tellUse 24 = .ok (.getfield 70, 3) := by decide +kernel
theorem dX12_tellUse_27 : decode cX12_tellUse 27 = .ok (.iload_n 1, 1) := by decide +kernel
theorem dX12_tellUse_28 : decode cX12_tellUse 28 = .ok (.aload_n 0, 1) := by decide +kernel
theorem dX12_tellUse_29 : decode cX12_tellUse 29 = .ok (.invokevirtual 335, 3) := by decide +kernel
theorem dX12_tellUse_32 : decode cX12_tellUse 32 = .ok (.iastore, 1) := by decide +kernel
theorem dX12_tellUse_33 : decode cX12_tellUse 33 = .ok (.aload_n 0, 1) := by decide +kernel
theorem dX12_tellUse_34 : decode cX12_tellUse 34 = .ok (.getfield 73, 3) := by decide +kernel
theorem dX12_tellUse_37 : decode cX12_tellUse 37 = .ok (.iload_n 1, 1) := by decide +kernel
theorem dX12_tellUse_38 : decode cX12_tellUse 38 = .ok (.aload_n 0, 1) := by decide +kernel
theorem dX12_tellUse_39 : decode cX12_tellUse 39 = .ok (.iconst 0, 1) := by decide +kernel
theorem dX12_tellUse_40 : decode cX12_tellUse 40 = .ok (.bipush 23, 2) := by decide +kernel
theorem dX12_tellUse_42 : decode cX12_tellUse 42 = .ok (.invokevirtual 292, 3) := by decide +kernel
theorem dX12_tellUse_45 : decode cX12_tellUse 45 = .ok (.iastore, 1) := by decide +kernel
theorem dX12_tellUse_46 : decode cX12_tellUse 46 = .ok (.aload_n 0, 1) := by decide +kernel
theorem dX12_tellUse_47 : decode cX12_tellUse 47 = .ok (.getfield 233, 3) := by decide +kernel
theorem dX12_tellUse_50 : decode cX12_tellUse 50 = .ok (.istore_n 3, 1) := by decide +kernel
theorem dX12_tellUse_51 : decode cX12_tellUse 51 = .ok (.aload_n 0, 1) := by decide +kernel
theorem dX12_tellUse_52 : decode cX12_tellUse 52 = .ok (.getfield 76, 3) := by decide +kernel
theorem dX12_tellUse_55 : decode cX12_tellUse 55 = .ok (.iload_n 1, 1) := by decide +kernel
theorem dX12_tellUse_56 : decode cX12_tellUse 56 = .ok (.aload_n 0, 1) := by decide +kernel
theorem dX12_tellUse_57 : decode cX12_tellUse 57 = .ok (.iconst 0, 1) := by decide +kernel
theorem dX12_tellUse_58 : decode cX12_tellUse 58 = .ok (.bipush 23, 2) := by decide +kernel
theorem dX12_tellUse_60 : decode cX12_tellUse 60 = .ok (.invokevirtual 292, 3) := by decide +kernel
theorem dX12_tellUse_63 : decode cX12_tellUse 63 = .ok (.iastore, 1) := by decide +kernel
theorem dX12_tellUse_64 : decode cX12_tellUse 64 = .ok (.aload_n 0, 1) := by decide +kernel
theorem dX12_tellUse_65 : decode cX12_tellUse 65 = .ok (.getfield 230, 3) := by decide +kernel
theorem dX12_tellUse_68 : decode cX12_tellUse 68 = .ok (.ifCond .ne 24, 3) := by decide +kernel
theorem dX12_tellUse_71 : decode cX12_tellUse 71 = .ok (.aload_n 0, 1) := by decide +kernel
theorem dX12_tellUse_72 : decode cX12_tellUse 72 = .ok (.getfield 76, 3) := by decide +kernel
theorem dX12_tellUse_75 : decode cX12_tellUse 75 = .ok (.iload_n 1, 1) := by decide +kernel
theorem dX12_tellUse_76 : decode cX12_tellUse 76 = .ok (.iaload, 1) := by decide +kernel
theorem dX12_tellUse_77 : decode cX12_tellUse 77 = .ok (.aload_n 0, 1) := by decide +kernel
theorem dX12_tellUse_78 : decode cX12_tellUse 78 = .ok (.getfield 73, 3) := by decide +kernel
theorem dX12_tellUse_81 : decode cX12_tellUse 81 = .ok (.iload_n 1, 1) := by decide +kernel
theorem dX12_tellUse_82 : decode cX12_tellUse 82 = .ok (.iaload, 1) := by decide +kernel
theorem dX12_tellUse_83 : decode cX12_tellUse 83 = .ok (.if_icmp .ge 9, 3) := by decide +kernel
theorem dX12_tellUse_86 : decode cX12_tellUse 86 = .ok (.aload_n 0, 1) := by decide +kernel
theorem dX12_tellUse_87 : decode cX12_tellUse 87 = .ok (.iconst 5, 1) := by decide +kernel
theorem dX12_tellUse_88 : decode cX12_tellUse 88 = .ok (.iload_n 3, 1) := by decide +kernel
theorem dX12_tellUse_89 : decode cX12_tellUse 89 = .ok (.invokevirtual 282, 3) := by decide +kernel
theorem dX12_tellUse_92 : decode cX12_tellUse 92 = .ok (.aload_n 0, 1) := by decide +kernel
theorem dX12_tellUse_93 : decode cX12_tellUse 93 = .ok (.getfield 79, 3) := by decide +kernel
theorem dX12_tellUse_96 : decode cX12_tellUse 96 = .ok (.iload_n 1, 1) := by decide +kernel
theorem dX12_tellUse_97 : decode cX12_tellUse 97 = .ok (.aload_n 0, 1) := by decide +kernel
theorem dX12_tellUse_98 : decode cX12_tellUse 98 = .ok (.iconst 1, 1) := by decide +kernel
theorem dX12_tellUse_99 : decode cX12_tellUse 99 = .ok (.bipush 99, 2) := by decide +kernel
theorem dX12_tellUse_101 : decode cX12_tellUse 101 = .ok (.invokevirtual 292, 3) := by decide +kernel
theorem dX12_tellUse_104 : decode cX12_tellUse 104 = .ok (.iastore, 1) := by decide +kernel
theorem dX12_tellUse_105 : decode cX12_tellUse 105 = .ok (.aload_n 0, 1) := by decide +kernel
theorem dX12_tellUse_106 : decode cX12_tellUse 106 = .ok (.iload_n 2, 1) := by decide +kernel
theorem dX12_tellUse_107 : decode cX12_tellUse 107 = .ok (.iconst (-1), 1) := by decide +kernel
theorem dX12_tellUse_108 : decode cX12_tellUse 108 = .ok (.invokevirtual 332, 3) := by decide +kernel
theorem dX12_tellUse_111 : decode cX12_tellUse 111 = .ok (.aload_n 0, 1) := by decide +kernel
theorem dX12_tellUse_112 : decode cX12_tellUse 112 = .ok (.getfield 230, 3) := by decide +kernel
theorem dX12_tellUse_115 : decode cX12_tellUse 115 = .ok (.ifCond .ne 16, 3) := by decide +kernel
theorem dX12_tellUse_118 : decode cX12_tellUse 118 = .ok (.aload_n 0, 1) := by decide +kernel
theorem dX12_tellUse_119 : decode cX12_tellUse 119 = .ok (.getfield 67, 3) := by decide +kernel
theorem dX12_tellUse_122 : decode cX12_tellUse 122 = .ok (.aload_n 0, 1) := by decide +kernel
theorem dX12_tellUse_123 : decode cX12_tellUse 123 = .ok (.getfield 263, 3) := by decide +kernel
theorem dX12_tellUse_126 : decode cX12_tellUse 126 = .ok (.dup2, 1) := by decide +kernel
theorem dX12_tellUse_127 : decode cX12_tellUse 127 = .ok (.iaload, 1) := by decide +kernel
theorem dX12_tellUse_128 : decode cX12_tellUse 128 = .ok (.iconst 1, 1) := by decide +kernel
theorem dX12_tellUse_129 : decode cX12_tellUse 129 = .ok (.iadd, 1) := by decide +kernel
theorem dX12_tellUse_130 : decode cX12_tellUse 130 = .ok (.iastore, 1) := by decide +kernel
theorem dX12_tellUse_131 : decode cX12_tellUse 131 = .ok (.return_, 1) := by decide +kernel
theorem dX12_tellBank_0 : decode cX12_tellBank 0 = .ok (.bipush 12, 2) := by decide +kernel
theorem dX12_tellBank_2 : decode cX12_tellBank 2 = .ok (.aload_n 0, 1) := by decide +kernel
theorem dX12_tellBank_3 : decode cX12_tellBank 3 = .ok (.getfield 263, 3) := by decide +kernel
theorem dX12_tellBank_6 : decode cX12_tellBank 6 = .ok (.imul, 1) := by decide +kernel
theorem dX12_tellBank_7 : decode cX12_tellBank 7 = .ok (.aload_n 0, 1) := by decide +kernel
theorem dX12_tellBank_8 : decode cX12_tellBank 8 = .ok (.getfield 82, 3) := by decide +kernel
theorem dX12_tellBank_11 : decode cX12_tellBank 11 = .ok (.aload_n 0, 1) := by decide +kernel
theorem dX12_tellBank_12 : decode cX12_tellBank 12 = .ok (.getfield 263, 3) := by decide +kernel
theorem dX12_tellBank_15 : decode cX12_tellBank 15 = .ok (.iaload, 1) := by decide +kernel
theorem dX12_tellBank_16 : decode cX12_tellBank 16 = .ok (.iadd, 1) := by decide +kernel
theorem dX12_tellBank_17 : decode cX12_tellBank 17 = .ok (.istore_n 1, 1) := by decide +kernel
theorem dX12_tellBank_18 : decode cX12_tellBank 18 = .ok (.aload_n 0, 1) := by decide +kernel
theorem dX12_tellBank_19 : decode cX12_tellBank 19 = .ok (.getfield 85, 3) := by decide +kernel
theorem dX12_tellBank_22 : decode cX12_tellBank 22 = .ok (.iload_n 1, 1) := by decide +kernel
theorem dX12_tellBank_23 : decode cX12_tellBank 23 = .ok (.aload_n 0, 1) := by decide +kernel
theorem dX12_tellBank_24 : decode cX12_tellBank 24 = .ok (.iconst 0, 1) := by decide +kernel
theorem dX12_tellBank_25 : decode cX12_tellBank 25 = .ok (.bipush 7, 2) := by decide +kernel
theorem dX12_tellBank_27 : decode cX12_tellBank 27 = .ok (.invokevirtual 292, 3) := by decide +kernel
theorem dX12_tellBank_30 : decode cX12_tellBank 30 = .ok (.iastore, 1) := by decide +kernel
theorem dX12_tellBank_31 : decode cX12_tellBank 31 = .ok (.aload_n 0, 1) := by decide +kernel
theorem dX12_tellBank_32 : decode cX12_tellBank 32 = .ok (.getfield 88, 3) := by decide +kernel
theorem dX12_tellBank_35 : decode cX12_tellBank 35 = .ok (.iload_n 1, 1) := by decide +kernel
theorem dX12_tellBank_36 : decode cX12_tellBank 36 = .ok (.aload_n 0, 1) := by decide +kernel
theorem dX12_tellBank_37 : decode cX12_tellBank 37 = .ok (.iconst 0, 1) := by decide +kernel
theorem dX12_tellBank_38 : decode cX12_tellBank 38 = .ok (.iconst 4, 1) := by decide +kernel
theorem dX12_tellBank_39 : decode cX12_tellBank 39 = .ok (.invokevirtual 292, 3) := by decide +kernel
theorem dX12_tellBank_42 : decode cX12_tellBank 42 = .ok (.iastore, 1) := by decide +kernel
theorem dX12_tellBank_43 : decode cX12_tellBank 43 = .ok (.aload_n 0, 1) := by decide +kernel
theorem dX12_tellBank_44 : decode cX12_tellBank 44 = .ok (.getfield 91, 3) := by decide +kernel
theorem dX12_tellBank_47 : decode cX12_tellBank 47 = .ok (.iload_n 1, 1) := by decide +kernel
theorem dX12_tellBank_48 : decode cX12_tellBank 48 = .ok (.aload_n 0, 1) := by decide +kernel
theorem dX12_tellBank_49 : decode cX12_tellBank 49 = .ok (.iconst 0, 1) := by decide +kernel
theorem dX12_tellBank_50 : decode cX12_tellBank 50 = .ok (.bipush 99, 2) := by decide +kernel
theorem dX12_tellBank_52 : decode cX12_tellBank 52 = .ok (.invokevirtual 292, 3) := by decide +kernel
theorem dX12_tellBank_55 : decode cX12_tellBank 55 = .ok (.iastore, 1) := by decide +kernel
theorem dX12_tellBank_56 : decode cX12_tellBank 56 = .ok (.aload_n 0, 1) := by decide +kernel
theorem dX12_tellBank_57 : decode cX12_tellBank 57 = .ok (.iconst 4, 1) := by decide +kernel
theorem dX12_tellBank_58 : decode cX12_tellBank 58 = .ok (.invokevirtual 296, 3) := by decide +kernel
theorem dX12_tellBank_61 : decode cX12_tellBank 61 = .ok (.aload_n 0, 1) := by decide +kernel
theorem dX12_tellBank_62 : decode cX12_tellBank 62 = .ok (.getfield 230, 3) := by decide +kernel
theorem dX12_tellBank_65 : decode cX12_tellBank 65 = .ok (.ifCond .ne 16, 3) := by decide +kernel
theorem dX12_tellBank_68 : decode cX12_tellBank 68 = .ok (.aload_n 0, 1) := by decide +kernel
theorem dX12_tellBank_69 : decode cX12_tellBank 69 = .ok (.getfield 82, 3) := by decide +kernel
theorem dX12_tellBank_72 : decode cX12_tellBank 72 = .ok (.aload_n 0, 1) := by decide +kernel
theorem dX12_tellBank_73 : decode cX12_tellBank 73 = .ok (.getfield 263, 3) := by decide +kernel
theorem dX12_tellBank_76 : decode cX12_tellBank 76 = .ok (.dup2, 1) := by decide +kernel
theorem dX12_tellBank_77 : decode cX12_tellBank 77 = .ok (.iaload, 1) := by decide +kernel
theorem dX12_tellBank_78 : decode cX12_tellBank 78 = .ok (.iconst 1, 1) := by decide +kernel
theorem dX12_tellBank_79 : decode cX12_tellBank 79 = .ok (.iadd, 1) := by decide +kernel
theorem dX12_tellBank_80 : decode cX12_tellBank 80 = .ok (.iastore, 1) := by decide +kernel
theorem dX12_tellBank_81 : decode cX12_tellBank 81 = .ok (.return_, 1) := by decide +kernel
theorem dX12_tellLaw_0 : decode cX12_tellLaw 0 = .ok (.aload_n 0, 1) := by decide +kernel
theorem dX12_tellLaw_1 : decode cX12_tellLaw 1 = .ok (.iconst 5, 1) := by decide +kernel
theorem dX12_tellLaw_2 : decode cX12_tellLaw 2 = .ok (.invokevirtual 296, 3) := by decide +kernel
theorem dX12_tellLaw_5 : decode cX12_tellLaw 5 = .ok (.aload_n 0, 1) := by decide +kernel
theorem dX12_tellLaw_6 : decode cX12_tellLaw 6 = .ok (.getfield 269, 3) := by decide +kernel
theorem dX12_tellLaw_9 : decode cX12_tellLaw 9 = .ok (.istore_n 2, 1) := by decide +kernel
theorem dX12_tellLaw_10 : decode cX12_tellLaw 10 = .ok (.iconst 0, 1) := by decide +kernel
theorem dX12_tellLaw_11 : decode cX12_tellLaw 11 = .ok (.istore_n 3, 1) := by decide +kernel
theorem dX12_tellLaw_12 : decode cX12_tellLaw 12 = .ok (.aload_n 0, 1) := by decide +kernel
theorem dX12_tellLaw_13 : decode cX12_tellLaw 13 = .ok (.getfield 230, 3) := by decide +kernel
theorem dX12_tellLaw_16 : decode cX12_tellLaw 16 = .ok (.ifCond .ne 113, 3) := by decide +kernel
theorem dX12_tellLaw_19 : decode cX12_tellLaw 19 = .ok (.aload_n 0, 1) := by decide +kernel
theorem dX12_tellLaw_20 : decode cX12_tellLaw 20 = .ok (.bipush 31, 2) := by decide +kernel
theorem dX12_tellLaw_22 : decode cX12_tellLaw 22 = .ok (.invokevirtual 248, 3) := by decide +kernel
theorem dX12_tellLaw_25 : decode cX12_tellLaw 25 = .ok (.ifCond .eq 104, 3) := by decide +kernel
theorem dX12_tellLaw_28 : decode cX12_tellLaw 28 = .ok (.iload_n 3, 1) := by decide +kernel
theorem dX12_tellLaw_29 : decode cX12_tellLaw 29 = .ok (.iconst 4, 1) := by decide +kernel
theorem dX12_tellLaw_30 : decode cX12_tellLaw 30 = .ok (.if_icmp .ne 8, 3) := by decide +kernel
theorem dX12_tellLaw_33 : decode cX12_tellLaw 33 = .ok (.aload_n 0, 1) := by decide +kernel
theorem dX12_tellLaw_34 : decode cX12_tellLaw 34 = .ok (.iconst 2, 1) := by decide +kernel
theorem dX12_tellLaw_35 : decode cX12_tellLaw 35 = .ok (.invokevirtual 245, 3) := by decide +kernel
theorem dX12_tellLaw_38 : decode cX12_tellLaw 38 = .ok (.aload_n 0, 1) := by decide +kernel
theorem dX12_tellLaw_39 : decode cX12_tellLaw 39 = .ok (.getfield 230, 3) := by decide +kernel
theorem dX12_tellLaw_42 : decode cX12_tellLaw 42 = .ok (.ifCond .le 4, 3) := by decide +kernel
theorem dX12_tellLaw_45 : decode cX12_tellLaw 45 = .ok (.return_, 1) := by decide +kernel
theorem dX12_tellLaw_46 : decode cX12_tellLaw 46 = .ok (.iinc 3 1, 3) := by decide +kernel
theorem dX12_tellLaw_49 : decode cX12_tellLaw 49 = .ok (.aload_n 0, 1) := by decide +kernel
theorem dX12_tellLaw_50 : decode cX12_tellLaw 50 = .ok (.invokevirtual 251, 3) := by decide +kernel
theorem dX12_tellLaw_53 : decode cX12_tellLaw 53 = .ok (.aload_n 0, 1) := by decide +kernel
theorem dX12_tellLaw_54 : decode cX12_tellLaw 54 = .ok (.getfield 109, 3) := by decide +kernel
theorem dX12_tellLaw_57 : decode cX12_tellLaw 57 = .ok (.aload_n 0, 1) := by decide +kernel
theorem dX12_tellLaw_58 : decode cX12_tellLaw 58 = .ok (.getfield 269, 3) := by decide +kernel
theorem dX12_tellLaw_61 : decode cX12_tellLaw 61 = .ok (.iconst 1, 1) := by decide +kernel
theorem dX12_tellLaw_62 : decode cX12_tellLaw 62 = .ok (.bastore, 1) := by decide +kernel
theorem dX12_tellLaw_63 : decode cX12_tellLaw 63 = .ok (.aload_n 0, 1) := by decide +kernel
theorem dX12_tellLaw_64 : decode cX12_tellLaw 64 = .ok (.getfield 113, 3) := by decide +kernel
theorem dX12_tellLaw_67 : decode cX12_tellLaw 67 = .ok (.aload_n 0, 1) := by decide +kernel
theorem dX12_tellLaw_68 : decode cX12_tellLaw 68 = .ok (.getfield 269, 3) := by decide +kernel
theorem dX12_tellLaw_71 : decode cX12_tellLaw 71 = .ok (.aload_n 0, 1) := by decide +kernel
theorem dX12_tellLaw_72 : decode cX12_tellLaw 72 = .ok (.getfield 272, 3) := by decide +kernel
theorem dX12_tellLaw_75 : decode cX12_tellLaw 75 = .ok (.iastore, 1) := by decide +kernel
theorem dX12_tellLaw_76 : decode cX12_tellLaw 76 = .ok (.aload_n 0, 1) := by decide +kernel
theorem dX12_tellLaw_77 : decode cX12_tellLaw 77 = .ok (.invokevirtual 338, 3) := by decide +kernel
theorem dX12_tellLaw_80 : decode cX12_tellLaw 80 = .ok (.aload_n 0, 1) := by decide +kernel
theorem dX12_tellLaw_81 : decode cX12_tellLaw 81 = .ok (.bipush 13, 2) := by decide +kernel
theorem dX12_tellLaw_83 : decode cX12_tellLaw 83 = .ok (.invokevirtual 296, 3) := by decide +kernel
theorem dX12_tellLaw_86 : decode cX12_tellLaw 86 = .ok (.aload_n 0, 1) := by decide +kernel
theorem dX12_tellLaw_87 : decode cX12_tellLaw 87 = .ok (.getfield 116, 3) := by decide +kernel
theorem dX12_tellLaw_90 : decode cX12_tellLaw 90 = .ok (.aload_n 0, 1) := by decide +kernel
theorem dX12_tellLaw_91 : decode cX12_tellLaw 91 = .ok (.getfield 269, 3) := by decide +kernel
theorem dX12_tellLaw_94 : decode cX12_tellLaw 94 = .ok (.aload_n 0, 1) := by decide +kernel
theorem dX12_tellLaw_95 : decode cX12_tellLaw 95 = .ok (.getfield 272, 3) := by decide +kernel
theorem dX12_tellLaw_98 : decode cX12_tellLaw 98 = .ok (.iastore, 1) := by decide +kernel
theorem dX12_tellLaw_99 : decode cX12_tellLaw 99 = .ok (.aload_n 0, 1) := by decide +kernel
theorem dX12_tellLaw_100 : decode cX12_tellLaw 100 = .ok (.getfield 230, 3) := by decide +kernel
theorem dX12_tellLaw_103 : decode cX12_tellLaw 103 = .ok (.ifCond .ne 7, 3) := by decide +kernel
theorem dX12_tellLaw_106 : decode cX12_tellLaw 106 = .ok (.aload_n 0, 1) := by decide +kernel
theorem dX12_tellLaw_107 : decode cX12_tellLaw 107 = .ok (.invokevirtual 338, 3) := by decide +kernel
theorem dX12_tellLaw_110 : decode cX12_tellLaw 110 = .ok (.aload_n 0, 1) := by decide +kernel
theorem dX12_tellLaw_111 : decode cX12_tellLaw 111 = .ok (.bipush 32, 2) := by decide +kernel
theorem dX12_tellLaw_113 : decode cX12_tellLaw 113 = .ok (.invokevirtual 296, 3) := by decide +kernel
theorem dX12_tellLaw_116 : decode cX12_tellLaw 116 = .ok (.aload_n 0, 1) := by decide +kernel
theorem dX12_tellLaw_117 : decode cX12_tellLaw 117 = .ok (.invokevirtual 341, 3) := by decide +kernel
theorem dX12_tellLaw_120 : decode cX12_tellLaw 120 = .ok (.aload_n 0, 1) := by decide +kernel
theorem dX12_tellLaw_121 : decode cX12_tellLaw 121 = .ok (.bipush 33, 2) := by decide +kernel
theorem dX12_tellLaw_123 : decode cX12_tellLaw 123 = .ok (.invokevirtual 296, 3) := by decide +kernel
theorem dX12_tellLaw_126 : decode cX12_tellLaw 126 = .ok (.goto (-114), 3) := by decide +kernel
theorem dX12_tellLaw_129 : decode cX12_tellLaw 129 = .ok (.aload_n 0, 1) := by decide +kernel
theorem dX12_tellLaw_130 : decode cX12_tellLaw 130 = .ok (.getfield 109, 3) := by decide +kernel
theorem dX12_tellLaw_133 : decode cX12_tellLaw 133 = .ok (.aload_n 0, 1) := by decide +kernel
theorem dX12_tellLaw_134 : decode cX12_tellLaw 134 = .ok (.getfield 269, 3) := by decide +kernel
theorem dX12_tellLaw_137 : decode cX12_tellLaw 137 = .ok (.iconst 0, 1) := by decide +kernel
theorem dX12_tellLaw_138 : decode cX12_tellLaw 138 = .ok (.bastore, 1) := by decide +kernel
theorem dX12_tellLaw_139 : decode cX12_tellLaw 139 = .ok (.aload_n 0, 1) := by decide +kernel
theorem dX12_tellLaw_140 : decode cX12_tellLaw 140 = .ok (.invokevirtual 341, 3) := by decide +kernel
theorem dX12_tellLaw_143 : decode cX12_tellLaw 143 = .ok (.aload_n 0, 1) := by decide +kernel
theorem dX12_tellLaw_144 : decode cX12_tellLaw 144 = .ok (.iconst 4, 1) := by decide +kernel
theorem dX12_tellLaw_145 : decode cX12_tellLaw 145 = .ok (.invokevirtual 296, 3) := by decide +kernel
theorem dX12_tellLaw_148 : decode cX12_tellLaw 148 = .ok (.aload_n 0, 1) := by decide +kernel
theorem dX12_tellLaw_149 : decode cX12_tellLaw 149 = .ok (.getfield 230, 3) := by decide +kernel
theorem dX12_tellLaw_152 : decode cX12_tellLaw 152 = .ok (.ifCond .le 4, 3) := by decide +kernel
theorem dX12_tellLaw_155 : decode cX12_tellLaw 155 = .ok (.return_, 1) := by decide +kernel
theorem dX12_tellLaw_156 : decode cX12_tellLaw 156 = .ok (.aload_n 0, 1) := by decide +kernel
theorem dX12_tellLaw_157 : decode cX12_tellLaw 157 = .ok (.getfield 103, 3) := by decide +kernel
theorem dX12_tellLaw_160 : decode cX12_tellLaw 160 = .ok (.iconst 4, 1) := by decide +kernel
theorem dX12_tellLaw_161 : decode cX12_tellLaw 161 = .ok (.aload_n 0, 1) := by decide +kernel
theorem dX12_tellLaw_162 : decode cX12_tellLaw 162 = .ok (.getfield 263, 3) := by decide +kernel
theorem dX12_tellLaw_165 : decode cX12_tellLaw 165 = .ok (.imul, 1) := by decide +kernel
theorem dX12_tellLaw_166 : decode cX12_tellLaw 166 = .ok (.iload_n 1, 1) := by decide +kernel
theorem dX12_tellLaw_167 : decode cX12_tellLaw 167 = .ok (.iadd, 1) := by decide +kernel
theorem dX12_tellLaw_168 : decode cX12_tellLaw 168 = .ok (.iload_n 2, 1) := by decide +kernel
theorem dX12_tellLaw_169 : decode cX12_tellLaw 169 = .ok (.iastore, 1) := by decide +kernel
theorem dX12_tellLaw_170 : decode cX12_tellLaw 170 = .ok (.aload_n 0, 1) := by decide +kernel
theorem dX12_tellLaw_171 : decode cX12_tellLaw 171 = .ok (.getfield 106, 3) := by decide +kernel
theorem dX12_tellLaw_174 : decode cX12_tellLaw 174 = .ok (.iconst 4, 1) := by decide +kernel
theorem dX12_tellLaw_175 : decode cX12_tellLaw 175 = .ok (.aload_n 0, 1) := by decide +kernel
theorem dX12_tellLaw_176 : decode cX12_tellLaw 176 = .ok (.getfield 263, 3) := by decide +kernel
theorem dX12_tellLaw_179 : decode cX12_tellLaw 179 = .ok (.imul, 1) := by decide +kernel
theorem dX12_tellLaw_180 : decode cX12_tellLaw 180 = .ok (.iload_n 1, 1) := by decide +kernel
theorem dX12_tellLaw_181 : decode cX12_tellLaw 181 = .ok (.iadd, 1) := by decide +kernel
theorem dX12_tellLaw_182 : decode cX12_tellLaw 182 = .ok (.aload_n 0, 1) := by decide +kernel
theorem dX12_tellLaw_183 : decode cX12_tellLaw 183 = .ok (.getfield 269, 3) := by decide +kernel
theorem dX12_tellLaw_186 : decode cX12_tellLaw 186 = .ok (.iastore, 1) := by decide +kernel
theorem dX12_tellLaw_187 : decode cX12_tellLaw 187 = .ok (.return_, 1) := by decide +kernel
theorem dX12_term_0 : decode cX12_term 0 = .ok (.aload_n 0, 1) := by decide +kernel
theorem dX12_term_1 : decode cX12_term 1 = .ok (.getfield 119, 3) := by decide +kernel
theorem dX12_term_4 : decode cX12_term 4 = .ok (.aload_n 0, 1) := by decide +kernel
theorem dX12_term_5 : decode cX12_term 5 = .ok (.getfield 269, 3) := by decide +kernel
theorem dX12_term_8 : decode cX12_term 8 = .ok (.aload_n 0, 1) := by decide +kernel
theorem dX12_term_9 : decode cX12_term 9 = .ok (.getfield 272, 3) := by decide +kernel
theorem dX12_term_12 : decode cX12_term 12 = .ok (.iastore, 1) := by decide +kernel
theorem dX12_term_13 : decode cX12_term 13 = .ok (.aload_n 0, 1) := by decide +kernel
theorem dX12_term_14 : decode cX12_term 14 = .ok (.getfield 230, 3) := by decide +kernel
theorem dX12_term_17 : decode cX12_term 17 = .ok (.ifCond .ne 7, 3) := by decide +kernel
theorem dX12_term_20 : decode cX12_term 20 = .ok (.aload_n 0, 1) := by decide +kernel
theorem dX12_term_21 : decode cX12_term 21 = .ok (.invokevirtual 338, 3) := by decide +kernel
theorem dX12_term_24 : decode cX12_term 24 = .ok (.aload_n 0, 1) := by decide +kernel
theorem dX12_term_25 : decode cX12_term 25 = .ok (.getfield 122, 3) := by decide +kernel
theorem dX12_term_28 : decode cX12_term 28 = .ok (.aload_n 0, 1) := by decide +kernel
theorem dX12_term_29 : decode cX12_term 29 = .ok (.getfield 269, 3) := by decide +kernel
theorem dX12_term_32 : decode cX12_term 32 = .ok (.aload_n 0, 1) := by decide +kernel
theorem dX12_term_33 : decode cX12_term 33 = .ok (.getfield 272, 3) := by decide +kernel
theorem dX12_term_36 : decode cX12_term 36 = .ok (.iastore, 1) := by decide +kernel
theorem dX12_term_37 : decode cX12_term 37 = .ok (.aload_n 0, 1) := by decide +kernel
theorem dX12_term_38 : decode cX12_term 38 = .ok (.dup, 1) := by decide +kernel
theorem dX12_term_39 : decode cX12_term 39 = .ok (.getfield 269, 3) := by decide +kernel
theorem dX12_term_42 : decode cX12_term 42 = .ok (.iconst 1, 1) := by decide +kernel
theorem dX12_term_43 : decode cX12_term 43 = .ok (.iadd, 1) := by decide +kernel
theorem dX12_term_44 : decode cX12_term 44 = .ok (.putfield 269, 3) := by decide +kernel
theorem dX12_term_47 : decode cX12_term 47 = .ok (.return_, 1) := by decide +kernel
theorem dX12_emit_0 : decode cX12_emit 0 = .ok (.aload_n 0, 1) := by decide +kernel
theorem dX12_emit_1 : decode cX12_emit 1 = .ok (.getfield 125, 3) := by decide +kernel
theorem dX12_emit_4 : decode cX12_emit 4 = .ok (.aload_n 0, 1) := by decide +kernel
theorem dX12_emit_5 : decode cX12_emit 5 = .ok (.getfield 272, 3) := by decide +kernel
theorem dX12_emit_8 : decode cX12_emit 8 = .ok (.iload_n 1, 1) := by decide +kernel
theorem dX12_emit_9 : decode cX12_emit 9 = .ok (.iastore, 1) := by decide +kernel
theorem dX12_emit_10 : decode cX12_emit 10 = .ok (.aload_n 0, 1) := by decide +kernel
theorem dX12_emit_11 : decode cX12_emit 11 = .ok (.getfield 128, 3) := by decide +kernel
theorem dX12_emit_14 : decode cX12_emit 14 = .ok (.aload_n 0, 1) := by decide +kernel
theorem dX12_emit_15 : decode cX12_emit 15 = .ok (.getfield 272, 3) := by decide +kernel
theorem dX12_emit_18 : decode cX12_emit 18 = .ok (.iload_n 2, 1) := by decide +kernel
theorem dX12_emit_19 : decode cX12_emit 19 = .ok (.iastore, 1) := by decide +kernel
theorem dX12_emit_20 : decode cX12_emit 20 = .ok (.aload_n 0, 1) := by decide +kernel
theorem dX12_emit_21 : decode cX12_emit 21 = .ok (.dup, 1) := by decide +kernel
theorem dX12_emit_22 : decode cX12_emit 22 = .ok (.getfield 272, 3) := by decide +kernel
theorem dX12_emit_25 : decode cX12_emit 25 = .ok (.iconst 1, 1) := by decide +kernel
theorem dX12_emit_26 : decode cX12_emit 26 = .ok (.iadd, 1) := by decide +kernel
theorem dX12_emit_27 : decode cX12_emit 27 = .ok (.putfield 272, 3) := by decide +kernel
theorem dX12_emit_30 : decode cX12_emit 30 = .ok (.return_, 1) := by decide +kernel
theorem dX12_comesOut_0 : decode cX12_comesOut 0 = .ok (.aload_n 0, 1) := by decide +kernel
theorem dX12_comesOut_1 : decode cX12_comesOut 1 = .ok (.getfield 344, 3) := by decide +kernel
theorem dX12_comesOut_4 : decode cX12_comesOut 4 = .ok (.ifCond .le 87, 3) := by decide +kernel
theorem dX12_comesOut_7 : decode cX12_comesOut 7 = .ok (.aload_n 0, 1) := by decide +kernel
theorem dX12_comesOut_8 : decode cX12_comesOut 8 = .ok (.getfield 131, 3) := by decide +kernel
theorem dX12_comesOut_11 : decode cX12_comesOut 11 = .ok (.aload_n 0, 1) := by decide +kernel
theorem dX12_comesOut_12 : decode cX12_comesOut 12 = .ok (.getfield 344, 3) := by decide +kernel
theorem dX12_comesOut_15 : decode cX12_comesOut 15 = .ok (.iconst 1, 1) := by decide +kernel
theorem dX12_comesOut_16 : decode cX12_comesOut 16 = .ok (.isub, 1) := by decide +kernel
theorem dX12_comesOut_17 : decode cX12_comesOut 17 = .ok (.iaload, 1) := by decide +kernel
theorem dX12_comesOut_18 : decode cX12_comesOut 18 = .ok (.istore_n 2, 1) := by decide +kernel
theorem dX12_comesOut_19 : decode cX12_comesOut 19 = .ok (.iload_n 2, 1) := by decide +kernel
theorem dX12_comesOut_20 : decode cX12_comesOut 20 = .ok (.bipush 6, 2) := by decide +kernel
theorem dX12_comesOut_22 : decode cX12_comesOut 22 = .ok (.if_icmp .eq 19, 3) := by decide +kernel
theorem dX12_comesOut_25 : decode cX12_comesOut 25 = .ok (.iload_n 1, 1) := by decide +kernel
theorem dX12_comesOut_26 : decode cX12_comesOut 26 = .ok (.ifCond .eq 16, 3) := by decide +kernel
theorem dX12_comesOut_29 : decode cX12_comesOut 29 = .ok (.iload_n 2, 1) := by decide +kernel
theorem dX12_comesOut_30 : decode cX12_comesOut 30 = .ok (.bipush 8, 2) := by decide +kernel
theorem dX12_comesOut_32 : decode cX12_comesOut 32 = .ok (.if_icmp .eq 9, 3) := by decide +kernel
theorem dX12_comesOut_35 : decode cX12_comesOut 35 = .ok (.iload_n 2, 1) := by decide +kernel
theorem dX12_comesOut_36 : decode cX12_comesOut 36 = .ok (.bipush 9, 2) := by decide +kernel
theorem dX12_comesOut_38 : decode cX12_comesOut 38 = .ok (.if_icmp .ne 4, 3) := by decide +kernel
theorem dX12_comesOut_41 : decode cX12_comesOut 41 = .ok (.return_, 1) := by decide +kernel
theorem dX12_comesOut_42 : decode cX12_comesOut 42 = .ok (.aload_n 0, 1) := by decide +kernel
theorem dX12_comesOut_43 : decode cX12_comesOut 43 = .ok (.dup, 1) := by decide +kernel
theorem dX12_comesOut_44 : decode cX12_comesOut 44 = .ok (.getfield 344, 3) := by decide +kernel
theorem dX12_comesOut_47 : decode cX12_comesOut 47 = .ok (.iconst 1, 1) := by decide +kernel
theorem dX12_comesOut_48 : decode cX12_comesOut 48 = .ok (.isub, 1) := by decide +kernel
theorem dX12_comesOut_49 : decode cX12_comesOut 49 = .ok (.putfield 344, 3) := by decide +kernel
theorem dX12_comesOut_52 : decode cX12_comesOut 52 = .ok (.aload_n 0, 1) := by decide +kernel
theorem dX12_comesOut_53 : decode cX12_comesOut 53 = .ok (.iload_n 2, 1) := by decide +kernel
theorem dX12_comesOut_54 : decode cX12_comesOut 54 = .ok (.bipush 8, 2) := by decide +kernel
theorem dX12_comesOut_56 : decode cX12_comesOut 56 = .ok (.if_icmp .ne 7, 3) := by decide +kernel
theorem dX12_comesOut_59 : decode cX12_comesOut 59 = .ok (.iconst 2, 1) := by decide +kernel
theorem dX12_comesOut_60 : decode cX12_comesOut 60 = .ok (.goto 24, 3) := by decide +kernel
theorem dX12_comesOut_63 : decode cX12_comesOut 63 = .ok (.iload_n 2, 1) := by decide +kernel
theorem dX12_comesOut_64 : decode cX12_comesOut 64 = .ok (.bipush 9, 2) := by decide +kernel
theorem dX12_comesOut_66 : decode cX12_comesOut 66 = .ok (.if_icmp .ne 7, 3) := by decide +kernel
theorem dX12_comesOut_69 : decode cX12_comesOut 69 = .ok (.iconst 3, 1) := by decide +kernel
theorem dX12_comesOut_70 : decode cX12_comesOut 70 = .ok (.goto 14, 3) := by decide +kernel
theorem dX12_comesOut_73 : decode cX12_comesOut 73 = .ok (.iload_n 2, 1) := by decide +kernel
theorem dX12_comesOut_74 : decode cX12_comesOut 74 = .ok (.bipush 10, 2) := by decide +kernel
theorem dX12_comesOut_76 : decode cX12_comesOut 76 = .ok (.if_icmp .ne 7, 3) := by decide +kernel
theorem dX12_comesOut_79 : decode cX12_comesOut 79 = .ok (.iconst 4, 1) := by decide +kernel
theorem dX12_comesOut_80 : decode cX12_comesOut 80 = .ok (.goto 4, 3) := by decide +kernel
theorem dX12_comesOut_83 : decode cX12_comesOut 83 = .ok (.iconst 5, 1) := by decide +kernel
theorem dX12_comesOut_84 : decode cX12_comesOut 84 = .ok (.iconst 0, 1) := by decide +kernel
theorem dX12_comesOut_85 : decode cX12_comesOut 85 = .ok (.invokevirtual 347, 3) := by decide +kernel
theorem dX12_comesOut_88 : decode cX12_comesOut 88 = .ok (.goto (-88), 3) := by decide +kernel
theorem dX12_comesOut_91 : decode cX12_comesOut 91 = .ok (.return_, 1) := by decide +kernel
theorem dX12_expression_0 : decode cX12_expression 0 = .ok (.aload_n 0, 1) := by decide +kernel
theorem dX12_expression_1 : decode cX12_expression 1 = .ok (.iconst 0, 1) := by decide +kernel
theorem dX12_expression_2 : decode cX12_expression 2 = .ok (.putfield 344, 3) := by decide +kernel
theorem dX12_expression_5 : decode cX12_expression 5 = .ok (.aload_n 0, 1) := by decide +kernel
theorem dX12_expression_6 : decode cX12_expression 6 = .ok (.getfield 257, 3) := by decide +kernel
theorem dX12_expression_9 : decode cX12_expression 9 = .ok (.istore_n 1, 1) := by decide +kernel
theorem dX12_expression_10 : decode cX12_expression 10 = .ok (.iconst 1, 1) := by decide +kernel
theorem dX12_expression_11 : decode cX12_expression 11 = .ok (.istore_n 2, 1) := by decide +kernel
theorem dX12_expression_12 : decode cX12_expression 12 = .ok (.iload_n 2, 1) := by decide +kernel
theorem dX12_expression_13 : decode cX12_expression 13 = .ok (.ifCond .eq 259, 3) := by decide +kernel
theorem dX12_expression_16 : decode cX12_expression 16 = .ok (.aload_n 0, 1) := by decide +kernel
theorem dX12_expression_17 : decode cX12_expression 17 = .ok (.getfield 230, 3) := by decide +kernel
theorem dX12_expression_20 : decode cX12_expression 20 = .ok (.ifCond .ne 252, 3) := by decide +kernel
theorem dX12_expression_23 : decode cX12_expression 23 = .ok (.aload_n 0, 1) := by decide +kernel
theorem dX12_expression_24 : decode cX12_expression 24 = .ok (.bipush 6, 2) := by decide +kernel
theorem dX12_expression_26 : decode cX12_expression 26 = .ok (.invokevirtual 248, 3) := by decide +kernel
theorem dX12_expression_29 : decode cX12_expression 29 = .ok (.ifCond .eq 55, 3) := by decide +kernel
theorem dX12_expression_32 : decode cX12_expression 32 = .ok (.aload_n 0, 1) := by decide +kernel
theorem dX12_expression_33 : decode cX12_expression 33 = .ok (.getfield 257, 3) := by decide +kernel
theorem dX12_expression_36 : decode cX12_expression 36 = .ok (.bipush 6, 2) := by decide +kernel
theorem dX12_expression_38 : decode cX12_expression 38 = .ok (.if_icmp .ne 8, 3) := by decide +kernel
theorem dX12_expression_41 : decode cX12_expression 41 = .ok (.aload_n 0, 1) := by decide +kernel
theorem dX12_expression_42 : decode cX12_expression 42 = .ok (.iconst 2, 1) := by decide +kernel
theorem dX12_expression_43 : decode cX12_expression 43 = .ok (.invokevirtual 245, 3) := by decide +kernel
theorem dX12_expression_46 : decode cX12_expression 46 = .ok (.aload_n 0, 1) := by decide +kernel
theorem dX12_expression_47 : decode cX12_expression 47 = .ok (.dup, 1) := by decide +kernel
theorem dX12_expression_48 : decode cX12_expression 48 = .ok (.getfield 257, 3) := by decide +kernel
theorem dX12_expression_51 : decode cX12_expression 51 = .ok (.iconst 1, 1) := by decide +kernel
theorem dX12_expression_52 : decode cX12_expression 52 = .ok (.iadd, 1) := by decide +kernel
theorem dX12_expression_53 : decode cX12_expression 53 = .ok (.putfield 257, 3) := by decide +kernel
theorem dX12_expression_56 : decode cX12_expression 56 = .ok (.aload_n 0, 1) := by decide +kernel
theorem dX12_expression_57 : decode cX12_expression 57 = .ok (.invokevirtual 251, 3) := by decide +kernel
theorem dX12_expression_60 : decode cX12_expression 60 = .ok (.aload_n 0, 1) := by decide +kernel
theorem dX12_expression_61 : decode cX12_expression 61 = .ok (.getfield 131, 3) := by decide +kernel
theorem dX12_expression_64 : decode cX12_expression 64 = .ok (.aload_n 0, 1) := by decide +kernel
theorem dX12_expression_65 : decode cX12_expression 65 = .ok (.getfield 344, 3) := by decide +kernel
theorem dX12_expression_68 : decode cX12_expression 68 = .ok (.bipush 6, 2) := by decide +kernel
theorem dX12_expression_70 : decode cX12_expression 70 = .ok (.iastore, 1) := by decide +kernel
theorem dX12_expression_71 : decode cX12_expression 71 = .ok (.aload_n 0, 1) := by decide +kernel
theorem dX12_expression_72 : decode cX12_expression 72 = .ok (.dup, 1) := by decide +kernel
theorem dX12_expression_73 : decode cX12_expression 73 = .ok (.getfield 344, 3) := by decide +kernel
theorem dX12_expression_76 : decode cX12_expression 76 = .ok (.iconst 1, 1) := by decide +kernel
theorem dX12_expression_77 : decode cX12_expression 77 = .ok (.iadd, 1) := by decide +kernel
theorem dX12_expression_78 : decode cX12_expression 78 = .ok (.putfield 344, 3) := by decide +kernel
theorem dX12_expression_81 : decode cX12_expression 81 = .ok (.goto (-58), 3) := by decide +kernel
theorem dX12_expression_84 : decode cX12_expression 84 = .ok (.aload_n 0, 1) := by decide +kernel
theorem dX12_expression_85 : decode cX12_expression 85 = .ok (.invokevirtual 350, 3) := by decide +kernel
theorem dX12_expression_88 : decode cX12_expression 88 = .ok (.aload_n 0, 1) := by decide +kernel
theorem dX12_expression_89 : decode cX12_expression 89 = .ok (.getfield 230, 3) := by decide +kernel
theorem dX12_expression_92 : decode cX12_expression 92 = .ok (.ifCond .le 4, 3) := by decide +kernel
theorem dX12_expression_95 : decode cX12_expression 95 = .ok (.return_, 1) := by decide +kernel
theorem dX12_expression_96 : decode cX12_expression 96 = .ok (.aload_n 0, 1) := by decide +kernel
theorem dX12_expression_97 : decode cX12_expression 97 = .ok (.bipush 7, 2) := by decide +kernel
theorem dX12_expression_99 : decode cX12_expression 99 = .ok (.invokevirtual 248, 3) := by decide +kernel
theorem dX12_expression_102 : decode cX12_expression 102 = .ok (.ifCond .eq 43, 3) := by decide +kernel
theorem dX12_expression_105 : decode cX12_expression 105 = .ok (.aload_n 0, 1) := by decide +kernel
theorem dX12_expression_106 : decode cX12_expression 106 = .ok (.getfield 257, 3) := by decide +kernel
theorem dX12_expression_109 : decode cX12_expression 109 = .ok (.iload_n 1, 1) := by decide +kernel
theorem dX12_expression_110 : decode cX12_expression 110 = .ok (.if_icmp .le 35, 3) := by decide +kernel
theorem dX12_expression_113 : decode cX12_expression 113 = .ok (.aload_n 0, 1) := by decide +kernel
theorem dX12_expression_114 : decode cX12_expression 114 = .ok (.iconst 0, 1) := by decide +kernel
theorem dX12_expression_115 : decode cX12_expression 115 = .ok (.invokevirtual 353, 3) := by decide +kernel
theorem dX12_expression_118 : decode cX12_expression 118 = .ok (.aload_n 0, 1) := by decide +kernel
theorem dX12_expression_119 : decode cX12_expression 119 = .ok (.dup, 1) := by decide +kernel
theorem dX12_expression_120 : decode cX12_expression 120 = .ok (.getfield 344, 3) := by decide +kernel
theorem dX12_expression_123 : decode cX12_expression 123 = .ok (.iconst 1, 1) := by decide +kernel
theorem dX12_expression_124 : decode cX12_expression 124 = .ok (.isub, 1) := by decide +kernel
theorem dX12_expression_125 : decode cX12_expression 125 = .ok (.putfield 344, 3) := by decide +kernel
theorem dX12_expression_128 : decode cX12_expression 128 = .ok (.aload_n 0, 1) := by decide +kernel
theorem dX12_expression_129 : decode cX12_expression 129 = .ok (.dup, 1) := by decide +kernel
theorem dX12_expression_130 : decode cX12_expression 130 = .ok (.getfield 257, 3) := by decide +kernel
theorem dX12_expression_133 : decode cX12_expression 133 = .ok (.iconst 1, 1) := by decide +kernel
theorem dX12_expression_134 : decode cX12_expression 134 = .ok (.isub, 1) := by decide +kernel
theorem dX12_expression_135 : decode cX12_expression 135 = .ok (.putfield 257, 3) := by decide +kernel
theorem dX12_expression_138 : decode cX12_expression 138 = .ok (.aload_n 0, 1) := by decide +kernel
theorem dX12_expression_139 : decode cX12_expression 139 = .ok (.invokevirtual 251, 3) := by decide +kernel
theorem dX12_expression_142 : decode cX12_expression 142 = .ok (.goto (-46), 3) := by decide +kernel
theorem dX12_expression_145 : decode cX12_expression 145 = .ok (.aload_n 0, 1) := by decide +kernel
theorem dX12_expression_146 : decode cX12_expression 146 = .ok (.bipush 8, 2) := by decide +kernel
theorem dX12_expression_148 : decode cX12_expression 148 = .ok (.invokevirtual 248, 3) := by decide +kernel
theorem dX12_expression_151 : decode cX12_expression 151 = .ok (.ifCond .ne 30, 3) := by decide +kernel
theorem dX12_expression_154 : decode cX12_expression 154 = .ok (.aload_n 0, 1) := by decide +kernel
theorem dX12_expression_155 : decode cX12_expression 155 = .ok (.bipush 9, 2) := by decide +kernel
theorem dX12_expression_157 : decode cX12_expression 157 = .ok (.invokevirtual 248, 3) := by decide +kernel
theorem dX12_expression_160 : decode cX12_expression 160 = .ok (.ifCond .ne 21, 3) := by decide +kernel
theorem dX12_expression_163 : decode cX12_expression 163 = .ok (.aload_n 0, 1) := by decide +kernel
theorem dX12_expression_164 : decode cX12_expression 164 = .ok (.bipush 10, 2) := by decide +kernel
theorem dX12_expression_166 : decode cX12_expression 166 = .ok (.invokevirtual 248, 3) := by decide +kernel
theorem dX12_expression_169 : decode cX12_expression 169 = .ok (.ifCond .ne 12, 3) := by decide +kernel
theorem dX12_expression_172 : decode cX12_expression 172 = .ok (.aload_n 0, 1) := by decide +kernel
theorem dX12_expression_173 : decode cX12_expression 173 = .ok (.bipush 15, 2) := by decide +kernel
theorem dX12_expression_175 : decode cX12_expression 175 = .ok (.invokevirtual 248, 3) := by decide +kernel
theorem dX12_expression_178 : decode cX12_expression 178 = .ok (.ifCond .eq 7, 3) := by decide +kernel
theorem dX12_expression_181 : decode cX12_expression 181 = .ok (.iconst 1, 1) := by decide +kernel
theorem dX12_expression_182 : decode cX12_expression 182 = .ok (.goto 4, 3) := by decide +kernel
theorem dX12_expression_185 : decode cX12_expression 185 = .ok (.iconst 0, 1) := by decide +kernel
theorem dX12_expression_186 : decode cX12_expression 186 = .ok (.istore_n 2, 1) := by decide +kernel
theorem dX12_expression_187 : decode cX12_expression 187 = .ok (.iload_n 2, 1) := by decide +kernel
theorem dX12_expression_188 : decode cX12_expression 188 = .ok (.ifCond .ne 22, 3) := by decide +kernel
theorem dX12_expression_191 : decode cX12_expression 191 = .ok (.aload_n 0, 1) := by decide +kernel
theorem dX12_expression_192 : decode cX12_expression 192 = .ok (.getfield 257, 3) := by decide +kernel
theorem dX12_expression_195 : decode cX12_expression 195 = .ok (.iload_n 1, 1) := by decide +kernel
theorem dX12_expression_196 : decode cX12_expression 196 = .ok (.if_icmp .le 8, 3) := by decide +kernel
theorem dX12_expression_199 : decode cX12_expression 199 = .ok (.aload_n 0, 1) := by decide +kernel
theorem dX12_expression_200 : decode cX12_expression 200 = .ok (.iconst 1, 1) := by decide +kernel
theorem dX12_expression_201 : decode cX12_expression 201 = .ok (.invokevirtual 245, 3) := by decide +kernel
theorem dX12_expression_204 : decode cX12_expression 204 = .ok (.aload_n 0, 1) := by decide +kernel
theorem dX12_expression_205 : decode cX12_expression 205 = .ok (.iconst 0, 1) := by decide +kernel
theorem dX12_expression_206 : decode cX12_expression 206 = .ok (.invokevirtual 353, 3) := by decide +kernel
theorem dX12_expression_209 : decode cX12_expression 209 = .ok (.return_, 1) := by decide +kernel
theorem dX12_expression_210 : decode cX12_expression 210 = .ok (.aload_n 0, 1) := by decide +kernel
theorem dX12_expression_211 : decode cX12_expression 211 = .ok (.aload_n 0, 1) := by decide +kernel
theorem dX12_expression_212 : decode cX12_expression 212 = .ok (.bipush 10, 2) := by decide +kernel
theorem dX12_expression_214 : decode cX12_expression 214 = .ok (.invokevirtual 248, 3) := by decide +kernel
theorem dX12_expression_217 : decode cX12_expression 217 = .ok (.ifCond .ne 12, 3) := by decide +kernel
theorem dX12_expression_220 : decode cX12_expression 220 = .ok (.aload_n 0, 1) := by decide +kernel
theorem dX12_expression_221 : decode cX12_expression 221 = .ok (.bipush 15, 2) := by decide +kernel
theorem dX12_expression_223 : decode cX12_expression 223 = .ok (.invokevirtual 248, 3) := by decide +kernel
theorem dX12_expression_226 : decode cX12_expression 226 = .ok (.ifCond .eq 7, 3) := by decide +kernel
theorem dX12_expression_229 : decode cX12_expression 229 = .ok (.iconst 1, 1) := by decide +kernel
theorem dX12_expression_230 : decode cX12_expression 230 = .ok (.goto 4, 3) := by decide +kernel
theorem dX12_expression_233 : decode cX12_expression 233 = .ok (.iconst 0, 1) := by decide +kernel
theorem dX12_expression_234 : decode cX12_expression 234 = .ok (.invokevirtual 353, 3) := by decide +kernel
theorem dX12_expression_237 : decode cX12_expression 237 = .ok (.aload_n 0, 1) := by decide +kernel
theorem dX12_expression_238 : decode cX12_expression 238 = .ok (.getfield 131, 3) := by decide +kernel
theorem dX12_expression_241 : decode cX12_expression 241 = .ok (.aload_n 0, 1) := by decide +kernel
theorem dX12_expression_242 : decode cX12_expression 242 = .ok (.getfield 344, 3) := by decide +kernel
theorem dX12_expression_245 : decode cX12_expression 245 = .ok (.aload_n 0, 1) := by decide +kernel
theorem dX12_expression_246 : decode cX12_expression 246 = .ok (.getfield 20, 3) := by decide +kernel
theorem dX12_expression_249 : decode cX12_expression 249 = .ok (.aload_n 0, 1) := by decide +kernel
theorem dX12_expression_250 : decode cX12_expression 250 = .ok (.getfield 233, 3) := by decide +kernel
theorem dX12_expression_253 : decode cX12_expression 253 = .ok (.iaload, 1) := by decide +kernel
theorem dX12_expression_254 : decode cX12_expression 254 = .ok (.iastore, 1) := by decide +kernel
theorem dX12_expression_255 : decode cX12_expression 255 = .ok (.aload_n 0, 1) := by decide +kernel
theorem dX12_expression_256 : decode cX12_expression 256 = .ok (.dup, 1) := by decide +kernel
theorem dX12_expression_257 : decode cX12_expression 257 = .ok (.getfield 344, 3) := by decide +kernel
theorem dX12_expression_260 : decode cX12_expression 260 = .ok (.iconst 1, 1) := by decide +kernel
theorem dX12_expression_261 : decode cX12_expression 261 = .ok (.iadd, 1) := by decide +kernel
theorem dX12_expression_262 : decode cX12_expression 262 = .ok (.putfield 344, 3) := by decide +kernel
theorem dX12_expression_265 : decode cX12_expression 265 = .ok (.aload_n 0, 1) := by decide +kernel
theorem dX12_expression_266 : decode cX12_expression 266 = .ok (.invokevirtual 251, 3) := by decide +kernel
theorem dX12_expression_269 : decode cX12_expression 269 = .ok (.goto (-257), 3) := by decide +kernel
theorem dX12_expression_272 : decode cX12_expression 272 = .ok (.return_, 1) := by decide +kernel
theorem dX12_unit_0 : decode cX12_unit 0 = .ok (.aload_n 0, 1) := by decide +kernel
theorem dX12_unit_1 : decode cX12_unit 1 = .ok (.iconst 2, 1) := by decide +kernel
theorem dX12_unit_2 : decode cX12_unit 2 = .ok (.invokevirtual 248, 3) := by decide +kernel
theorem dX12_unit_5 : decode cX12_unit 5 = .ok (.ifCond .eq 24, 3) := by decide +kernel
theorem dX12_unit_8 : decode cX12_unit 8 = .ok (.aload_n 0, 1) := by decide +kernel
theorem dX12_unit_9 : decode cX12_unit 9 = .ok (.iconst 0, 1) := by decide +kernel
theorem dX12_unit_10 : decode cX12_unit 10 = .ok (.aload_n 0, 1) := by decide +kernel
theorem dX12_unit_11 : decode cX12_unit 11 = .ok (.getfield 27, 3) := by decide +kernel
theorem dX12_unit_14 : decode cX12_unit 14 = .ok (.aload_n 0, 1) := by decide +kernel
theorem dX12_unit_15 : decode cX12_unit 15 = .ok (.getfield 233, 3) := by decide +kernel
theorem dX12_unit_18 : decode cX12_unit 18 = .ok (.iaload, 1) := by decide +kernel
theorem dX12_unit_19 : decode cX12_unit 19 = .ok (.invokevirtual 347, 3) := by decide +kernel
theorem dX12_unit_22 : decode cX12_unit 22 = .ok (.aload_n 0, 1) := by decide +kernel
theorem dX12_unit_23 : decode cX12_unit 23 = .ok (.invokevirtual 251, 3) := by decide +kernel
theorem dX12_unit_26 : decode cX12_unit 26 = .ok (.goto 67, 3) := by decide +kernel
theorem dX12_unit_29 : decode cX12_unit 29 = .ok (.aload_n 0, 1) := by decide +kernel
theorem dX12_unit_30 : decode cX12_unit 30 = .ok (.getfield 230, 3) := by decide +kernel
theorem dX12_unit_33 : decode cX12_unit 33 = .ok (.ifCond .ne 55, 3) := by decide +kernel
theorem dX12_unit_36 : decode cX12_unit 36 = .ok (.aload_n 0, 1) := by decide +kernel
theorem dX12_unit_37 : decode cX12_unit 37 = .ok (.getfield 20, 3) := by decide +kernel
theorem dX12_unit_40 : decode cX12_unit 40 = .ok (.aload_n 0, 1) := by decide +kernel
theorem dX12_unit_41 : decode cX12_unit 41 = .ok (.getfield 233, 3) := by decide +kernel
theorem dX12_unit_44 : decode cX12_unit 44 = .ok (.iaload, 1) := by decide +kernel
theorem dX12_unit_45 : decode cX12_unit 45 = .ok (.bipush 34, 2) := by decide +kernel
theorem dX12_unit_47 : decode cX12_unit 47 = .ok (.if_icmp .lt 41, 3) := by decide +kernel
theorem dX12_unit_50 : decode cX12_unit 50 = .ok (.aload_n 0, 1) := by decide +kernel
theorem dX12_unit_51 : decode cX12_unit 51 = .ok (.getfield 20, 3) := by decide +kernel
theorem dX12_unit_54 : decode cX12_unit 54 = .ok (.aload_n 0, 1) := by decide +kernel
theorem dX12_unit_55 : decode cX12_unit 55 = .ok (.getfield 233, 3) := by decide +kernel
theorem dX12_unit_58 : decode cX12_unit 58 = .ok (.iaload, 1) := by decide +kernel
theorem dX12_unit_59 : decode cX12_unit 59 = .ok (.bipush 42, 2) := by decide +kernel
theorem dX12_unit_61 : decode cX12_unit 61 = .ok (.if_icmp .gt 27, 3) := by decide +kernel
theorem dX12_unit_64 : decode cX12_unit 64 = .ok (.aload_n 0, 1) := by decide +kernel
theorem dX12_unit_65 : decode cX12_unit 65 = .ok (.iconst 1, 1) := by decide +kernel
theorem dX12_unit_66 : decode cX12_unit 66 = .ok (.aload_n 0, 1) := by decide +kernel
theorem dX12_unit_67 : decode cX12_unit 67 = .ok (.getfield 20, 3) := by decide +kernel
theorem dX12_unit_70 : decode cX12_unit 70 = .ok (.aload_n 0, 1) := by decide +kernel
theorem dX12_unit_71 : decode cX12_unit 71 = .ok (.getfield 233, 3) := by decide +kernel
theorem dX12_unit_74 : decode cX12_unit 74 = .ok (.iaload, 1) := by decide +kernel
theorem dX12_unit_75 : decode cX12_unit 75 = .ok (.bipush 34, 2) := by decide +kernel
theorem dX12_unit_77 : decode cX12_unit 77 = .ok (.isub, 1) := by decide +kernel
theorem dX12_unit_78 : decode cX12_unit 78 = .ok (.invokevirtual 347, 3) := by decide +kernel
theorem dX12_unit_81 : decode cX12_unit 81 = .ok (.aload_n 0, 1) := by decide +kernel
theorem dX12_unit_82 : decode cX12_unit 82 = .ok (.invokevirtual 251, 3) := by decide +kernel
theorem dX12_unit_85 : decode cX12_unit 85 = .ok (.goto 8, 3) := by decide +kernel
theorem dX12_unit_88 : decode cX12_unit 88 = .ok (.aload_n 0, 1) := by decide +kernel
theorem dX12_unit_89 : decode cX12_unit 89 = .ok (.iconst 1, 1) := by decide +kernel
theorem dX12_unit_90 : decode cX12_unit 90 = .ok (.invokevirtual 245, 3) := by decide +kernel
theorem dX12_unit_93 : decode cX12_unit 93 = .ok (.return_, 1) := by decide +kernel
theorem dX12_termOf_0 : decode cX12_termOf 0 = .ok (.iconst 0, 1) := by decide +kernel
theorem dX12_termOf_1 : decode cX12_termOf 1 = .ok (.istore_n 3, 1) := by decide +kernel
theorem dX12_termOf_2 : decode cX12_termOf 2 = .ok (.iload_n 1, 1) := by decide +kernel
theorem dX12_termOf_3 : decode cX12_termOf 3 = .ok (.istore 4, 2) := by decide +kernel
theorem dX12_termOf_5 : decode cX12_termOf 5 = .ok (.iload 4, 2) := by decide +kernel
theorem dX12_termOf_7 : decode cX12_termOf 7 = .ok (.iload_n 2, 1) := by decide +kernel
theorem dX12_termOf_8 : decode cX12_termOf 8 = .ok (.if_icmp .ge 157, 3) := by decide +kernel
theorem dX12_termOf_11 : decode cX12_termOf 11 = .ok (.aload_n 0, 1) := by decide +kernel
theorem dX12_termOf_12 : decode cX12_termOf 12 = .ok (.getfield 125, 3) := by decide +kernel
theorem dX12_termOf_15 : decode cX12_termOf 15 = .ok (.iload 4, 2) := by decide +kernel
theorem dX12_termOf_17 : decode cX12_termOf 17 = .ok (.iaload, 1) := by decide +kernel
theorem dX12_termOf_18 : decode cX12_termOf 18 = .ok (.istore 5, 2) := by decide +kernel
theorem dX12_termOf_20 : decode cX12_termOf 20 = .ok (.iload 5, 2) := by decide +kernel
theorem dX12_termOf_22 : decode cX12_termOf 22 = .ok (.iconst 2, 1) := by decide +kernel
theorem dX12_termOf_23 : decode cX12_termOf 23 = .ok (.if_icmp .ge 42, 3) := by decide +kernel
theorem dX12_termOf_26 : decode cX12_termOf 26 = .ok (.aload_n 0, 1) := by decide +kernel
theorem dX12_termOf_27 : decode cX12_termOf 27 = .ok (.getfield 137, 3) := by decide +kernel
theorem dX12_termOf_30 : decode cX12_termOf 30 = .ok (.iload_n 3, 1) := by decide +kernel
theorem dX12_termOf_31 : decode cX12_termOf 31 = .ok (.iload 5, 2) := by decide +kernel
theorem dX12_termOf_33 : decode cX12_termOf 33 = .ok (.ifCond .ne 13, 3) := by decide +kernel
theorem dX12_termOf_36 : decode cX12_termOf 36 = .ok (.aload_n 0, 1) := by decide +kernel
theorem dX12_termOf_37 : decode cX12_termOf 37 = .ok (.getfield 128, 3) := by decide +kernel
theorem dX12_termOf_40 : decode cX12_termOf 40 = .ok (.iload 4, 2) := by decide +kernel
theorem dX12_termOf_42 : decode cX12_termOf 42 = .ok (.iaload, 1) := by decide +kernel
theorem dX12_termOf_43 : decode cX12_termOf 43 = .ok (.goto 15, 3) := by decide +kernel
theorem dX12_termOf_46 : decode cX12_termOf 46 = .ok (.aload_n 0, 1) := by decide +kernel
theorem dX12_termOf_47 : decode cX12_termOf 47 = .ok (.getfield 134, 3) := by decide +kernel
theorem dX12_termOf_50 : decode cX12_termOf 50 = .ok (.aload_n 0, 1) := by decide +kernel
theorem dX12_termOf_51 : decode cX12_termOf 51 = .ok (.getfield 128, 3) := by decide +kernel
theorem dX12_termOf_54 : decode cX12_termOf 54 = .ok (.iload 4, 2) := by decide +kernel
theorem dX12_termOf_56 : decode cX12_termOf 56 = .ok (.iaload, 1) := by decide +kernel
theorem dX12_termOf_57 : decode cX12_termOf 57 = .ok (.iaload, 1) := by decide +kernel
theorem dX12_termOf_58 : decode cX12_termOf 58 = .ok (.iastore, 1) := by decide +kernel
theorem dX12_termOf_59 : decode cX12_termOf 59 = .ok (.iinc 3 1, 3) := by decide +kernel
theorem dX12_termOf_62 : decode cX12_termOf 62 = .ok (.goto 97, 3) := by decide +kernel
theorem dX12_termOf_65 : decode cX12_termOf 65 = .ok (.iinc 3 (-1), 3) := by decide +kernel
theorem dX12_termOf_68 : decode cX12_termOf 68 = .ok (.aload_n 0, 1) := by decide +kernel
theorem dX12_termOf_69 : decode cX12_termOf 69 = .ok (.getfield 137, 3) := by decide +kernel
theorem dX12_termOf_72 : decode cX12_termOf 72 = .ok (.iload_n 3, 1) := by decide +kernel
theorem dX12_termOf_73 : decode cX12_termOf 73 = .ok (.iconst 1, 1) := by decide +kernel
theorem dX12_termOf_74 : decode cX12_termOf 74 = .ok (.isub, 1) := by decide +kernel
theorem dX12_termOf_75 : decode cX12_termOf 75 = .ok (.iaload, 1) := by decide +kernel
theorem dX12_termOf_76 : decode cX12_termOf 76 = .ok (.istore 6, 2) := by decide +kernel
theorem dX12_termOf_78 : decode cX12_termOf 78 = .ok (.aload_n 0, 1) := by decide +kernel
theorem dX12_termOf_79 : decode cX12_termOf 79 = .ok (.getfield 137, 3) := by decide +kernel
theorem dX12_termOf_82 : decode cX12_termOf 82 = .ok (.iload_n 3, 1) := by decide +kernel
theorem dX12_termOf_83 : decode cX12_termOf 83 = .ok (.iaload, 1) := by decide +kernel
theorem dX12_termOf_84 : decode cX12_termOf 84 = .ok (.istore 7, 2) := by decide +kernel
theorem dX12_termOf_86 : decode cX12_termOf 86 = .ok (.iload 5, 2) := by decide +kernel
theorem dX12_termOf_88 : decode cX12_termOf 88 = .ok (.iconst 5, 1) := by decide +kernel
theorem dX12_termOf_89 : decode cX12_termOf 89 = .ok (.if_icmp .ne 15, 3) := by decide +kernel
theorem dX12_termOf_92 : decode cX12_termOf 92 = .ok (.iload 7, 2) := by decide +kernel
theorem dX12_termOf_94 : decode cX12_termOf 94 = .ok (.ifCond .ne 10, 3) := by decide +kernel
theorem dX12_termOf_97 : decode cX12_termOf 97 = .ok (.aload_n 0, 1) := by decide +kernel
theorem dX12_termOf_98 : decode cX12_termOf 98 = .ok (.iconst 1, 1) := by decide +kernel
theorem dX12_termOf_99 : decode cX12_termOf 99 = .ok (.putfield 357, 3) := by decide +kernel
theorem dX12_termOf_102 : decode cX12_termOf 102 = .ok (.iconst 0, 1) := by decide +kernel
theorem dX12_termOf_103 : decode cX12_termOf 103 = .ok (.ireturn, 1) := by decide +kernel
theorem dX12_termOf_104 : decode cX12_termOf 104 = .ok (.aload_n 0, 1) := by decide +kernel
theorem dX12_termOf_105 : decode cX12_termOf 105 = .ok (.getfield 137, 3) := by decide +kernel
theorem dX12_termOf_108 : decode cX12_termOf 108 = .ok (.iload_n 3, 1) := by decide +kernel
theorem dX12_termOf_109 : decode cX12_termOf 109 = .ok (.iconst 1, 1) := by decide +kernel
theorem dX12_termOf_110 : decode cX12_termOf 110 = .ok (.isub, 1) := by decide +kernel
theorem dX12_termOf_111 : decode cX12_termOf 111 = .ok (.iload 5, 2) := by decide +kernel
theorem dX12_termOf_113 : decode cX12_termOf 113 = .ok (.iconst 2, 1) := by decide +kernel
theorem dX12_termOf_114 : decode cX12_termOf 114 = .ok (.if_icmp .ne 11, 3) := by decide +kernel
theorem dX12_termOf_117 : decode cX12_termOf 117 = .ok (.iload 6, 2) := by decide +kernel
theorem dX12_termOf_119 : decode cX12_termOf 119 = .ok (.iload 7, 2) := by decide +kernel
theorem dX12_termOf_121 : decode cX12_termOf 121 = .ok (.iadd, 1) := by decide +kernel
theorem dX12_termOf_122 : decode cX12_termOf 122 = .ok (.goto 36, 3) := by decide +kernel
theorem dX12_termOf_125 : decode cX12_termOf 125 = .ok (.iload 5, 2) := by decide +kernel
theorem dX12_termOf_127 : decode cX12_termOf 127 = .ok (.iconst 3, 1) := by decide +kernel
theorem dX12_termOf_128 : decode cX12_termOf 128 = .ok (.if_icmp .ne 11, 3) := by decide +kernel
theorem dX12_termOf_131 : decode cX12_termOf 131 = .ok (.iload 6, 2) := by decide +kernel
theorem dX12_termOf_133 : decode cX12_termOf 133 = .ok (.iload 7, 2) := by decide +kernel
theorem dX12_termOf_135 : decode cX12_termOf 135 = .ok (.isub, 1) := by decide +kernel
theorem dX12_termOf_136 : decode cX12_termOf 136 = .ok (.goto 22, 3) := by decide +kernel
theorem dX12_termOf_139 : decode cX12_termOf 139 = .ok (.iload 5, 2) := by decide +kernel
theorem dX12_termOf_141 : decode cX12_termOf 141 = .ok (.iconst 4, 1) := by decide +kernel
theorem dX12_termOf_142 : decode cX12_termOf 142 = .ok (.if_icmp .ne 11, 3) := by decide +kernel
theorem dX12_termOf_145 : decode cX12_termOf 145 = .ok (.iload 6, 2) := by decide +kernel
theorem dX12_termOf_147 : decode cX12_termOf 147 = .ok (.iload 7, 2) := by decide +kernel
theorem dX12_termOf_149 : decode cX12_termOf 149 = .ok (.imul, 1) := by decide +kernel
theorem dX12_termOf_150 : decode cX12_termOf 150 = .ok (.goto 8, 3) := by decide +kernel
theorem dX12_termOf_153 : decode cX12_termOf 153 = .ok (.iload 6, 2) := by decide +kernel
theorem dX12_termOf_155 : decode cX12_termOf 155 = .ok (.iload 7, 2) := by decide +kernel
theorem dX12_termOf_157 : decode cX12_termOf 157 = .ok (.idiv, 1) := by decide +kernel
theorem dX12_termOf_158 : decode cX12_termOf 158 = .ok (.iastore, 1) := by decide +kernel
theorem dX12_termOf_159 : decode cX12_termOf 159 = .ok (.iinc 4 1, 3) := by decide +kernel
theorem dX12_termOf_162 : decode cX12_termOf 162 = .ok (.goto (-157), 3) := by decide +kernel
theorem dX12_termOf_165 : decode cX12_termOf 165 = .ok (.aload_n 0, 1) := by decide +kernel
theorem dX12_termOf_166 : decode cX12_termOf 166 = .ok (.getfield 137, 3) := by decide +kernel
theorem dX12_termOf_169 : decode cX12_termOf 169 = .ok (.iconst 0, 1) := by decide +kernel
theorem dX12_termOf_170 : decode cX12_termOf 170 = .ok (.iaload, 1) := by decide +kernel
theorem dX12_termOf_171 : decode cX12_termOf 171 = .ok (.ireturn, 1) := by decide +kernel
theorem dX12_in_0 : decode cX12_in 0 = .ok (.iload_n 0, 1) := by decide +kernel
theorem dX12_in_1 : decode cX12_in 1 = .ok (.iload_n 1, 1) := by decide +kernel
theorem dX12_in_2 : decode cX12_in 2 = .ok (.if_icmp .lt 12, 3) := by decide +kernel
theorem dX12_in_5 : decode cX12_in 5 = .ok (.iload_n 0, 1) := by decide +kernel
theorem dX12_in_6 : decode cX12_in 6 = .ok (.iload_n 2, 1) := by decide +kernel
theorem dX12_in_7 : decode cX12_in 7 = .ok (.if_icmp .gt 7, 3) := by decide +kernel
theorem dX12_in_10 : decode cX12_in 10 = .ok (.iconst 1, 1) := by decide +kernel
theorem dX12_in_11 : decode cX12_in 11 = .ok (.goto 4, 3) := by decide +kernel
theorem dX12_in_14 : decode cX12_in 14 = .ok (.iconst 0, 1) := by decide +kernel
theorem dX12_in_15 : decode cX12_in 15 = .ok (.ireturn, 1) := by decide +kernel
theorem dX12_held_0 : decode cX12_held 0 = .ok (.iload_n 0, 1) := by decide +kernel
theorem dX12_held_1 : decode cX12_held 1 = .ok (.iload_n 1, 1) := by decide +kernel
theorem dX12_held_2 : decode cX12_held 2 = .ok (.if_icmp .ge 7, 3) := by decide +kernel
theorem dX12_held_5 : decode cX12_held 5 = .ok (.iload_n 1, 1) := by decide +kernel
theorem dX12_held_6 : decode cX12_held 6 = .ok (.goto 13, 3) := by decide +kernel
theorem dX12_held_9 : decode cX12_held 9 = .ok (.iload_n 0, 1) := by decide +kernel
theorem dX12_held_10 : decode cX12_held 10 = .ok (.iload_n 2, 1) := by decide +kernel
theorem dX12_held_11 : decode cX12_held 11 = .ok (.if_icmp .le 7, 3) := by decide +kernel
theorem dX12_held_14 : decode cX12_held 14 = .ok (.iload_n 2, 1) := by decide +kernel
theorem dX12_held_15 : decode cX12_held 15 = .ok (.goto 4, 3) := by decide +kernel
theorem dX12_held_18 : decode cX12_held 18 = .ok (.iload_n 0, 1) := by decide +kernel
theorem dX12_held_19 : decode cX12_held 19 = .ok (.ireturn, 1) := by decide +kernel
theorem dX12_isCell_0 : decode cX12_isCell 0 = .ok (.iload_n 1, 1) := by decide +kernel
theorem dX12_isCell_1 : decode cX12_isCell 1 = .ok (.iconst 0, 1) := by decide +kernel
theorem dX12_isCell_2 : decode cX12_isCell 2 = .ok (.aload_n 0, 1) := by decide +kernel
theorem dX12_isCell_3 : decode cX12_isCell 3 = .ok (.getfield 46, 3) := by decide +kernel
theorem dX12_isCell_6 : decode cX12_isCell 6 = .ok (.aload_n 0, 1) := by decide +kernel
theorem dX12_isCell_7 : decode cX12_isCell 7 = .ok (.getfield 260, 3) := by decide +kernel
theorem dX12_isCell_10 : decode cX12_isCell 10 = .ok (.iaload, 1) := by decide +kernel
theorem dX12_isCell_11 : decode cX12_isCell 11 = .ok (.iconst 1, 1) := by decide +kernel
theorem dX12_isCell_12 : decode cX12_isCell 12 = .ok (.isub, 1) := by decide +kernel
theorem dX12_isCell_13 : decode cX12_isCell 13 = .ok (.invokestatic 361, 3) := by decide +kernel
theorem dX12_isCell_16 : decode cX12_isCell 16 = .ok (.ifCond .eq 26, 3) := by decide +kernel
theorem dX12_isCell_19 : decode cX12_isCell 19 = .ok (.iload_n 2, 1) := by decide +kernel
theorem dX12_isCell_20 : decode cX12_isCell 20 = .ok (.iconst 0, 1) := by decide +kernel
theorem dX12_isCell_21 : decode cX12_isCell 21 = .ok (.aload_n 0, 1) := by decide +kernel
theorem dX12_isCell_22 : decode cX12_isCell 22 = .ok (.getfield 49, 3) := by decide +kernel
theorem dX12_isCell_25 : decode cX12_isCell 25 = .ok (.aload_n 0, 1) := by decide +kernel
theorem dX12_isCell_26 : decode cX12_isCell 26 = .ok (.getfield 260, 3) := by decide +kernel
theorem dX12_isCell_29 : decode cX12_isCell 29 = .ok (.iaload, 1) := by decide +kernel
theorem dX12_isCell_30 : decode cX12_isCell 30 = .ok (.iconst 1, 1) := by decide +kernel
theorem dX12_isCell_31 : decode cX12_isCell 31 = .ok (.isub, 1) := by decide +kernel
theorem dX12_isCell_32 : decode cX12_isCell 32 = .ok (.invokestatic 361, 3) := by decide +kernel
theorem dX12_isCell_35 : decode cX12_isCell 35 = .ok (.ifCond .eq 7, 3) := by decide +kernel
theorem dX12_isCell_38 : decode cX12_isCell 38 = .ok (.iconst 1, 1) := by decide +kernel
theorem dX12_isCell_39 : decode cX12_isCell 39 = .ok (.goto 4, 3) := by decide +kernel
theorem dX12_isCell_42 : decode cX12_isCell 42 = .ok (.iconst 0, 1) := by decide +kernel
theorem dX12_isCell_43 : decode cX12_isCell 43 = .ok (.ireturn, 1) := by decide +kernel
theorem dX12_isHolding_0 : decode cX12_isHolding 0 = .ok (.iload_n 1, 1) := by decide +kernel
theorem dX12_isHolding_1 : decode cX12_isHolding 1 = .ok (.iconst 0, 1) := by decide +kernel
theorem dX12_isHolding_2 : decode cX12_isHolding 2 = .ok (.aload_n 0, 1) := by decide +kernel
theorem dX12_isHolding_3 : decode cX12_isHolding 3 = .ok (.getfield 58, 3) := by decide +kernel
theorem dX12_isHolding_6 : decode cX12_isHolding 6 = .ok (.aload_n 0, 1) := by decide +kernel
theorem dX12_isHolding_7 : decode cX12_isHolding 7 = .ok (.getfield 260, 3) := by decide +kernel
theorem dX12_isHolding_10 : decode cX12_isHolding 10 = .ok (.iaload, 1) := by decide +kernel
theorem dX12_isHolding_11 : decode cX12_isHolding 11 = .ok (.iconst 1, 1) := by decide +kernel
theorem dX12_isHolding_12 : decode cX12_isHolding 12 = .ok (.isub, 1) := by decide +kernel
theorem dX12_isHolding_13 : decode cX12_isHolding 13 = .ok (.invokestatic 361, 3) := by decide +kernel
theorem dX12_isHolding_16 : decode cX12_isHolding 16 = .ok (.ireturn, 1) := by decide +kernel
theorem dX12_isUse_0 : decode cX12_isUse 0 = .ok (.iload_n 1, 1) := by decide +kernel
theorem dX12_isUse_1 : decode cX12_isUse 1 = .ok (.iconst 0, 1) := by decide +kernel
theorem dX12_isUse_2 : decode cX12_isUse 2 = .ok (.aload_n 0, 1) := by decide +kernel
theorem dX12_isUse_3 : decode cX12_isUse 3 = .ok (.getfield 67, 3) := by decide +kernel
theorem dX12_isUse_6 : decode cX12_isUse 6 = .ok (.aload_n 0, 1) := by decide +kernel
theorem dX12_isUse_7 : decode cX12_isUse 7 = .ok (.getfield 260, 3) := by decide +kernel
theorem dX12_isUse_10 : decode cX12_isUse 10 = .ok (.iaload, 1) := by decide +kernel
theorem dX12_isUse_11 : decode cX12_isUse 11 = .ok (.iconst 1, 1) := by decide +kernel
theorem dX12_isUse_12 : decode cX12_isUse 12 = .ok (.isub, 1) := by decide +kernel
theorem dX12_isUse_13 : decode cX12_isUse 13 = .ok (.invokestatic 361, 3) := by decide +kernel
theorem dX12_isUse_16 : decode cX12_isUse 16 = .ok (.ireturn, 1) := by decide +kernel
theorem dX12_begins_0 : decode cX12_begins 0 = .ok (.iconst 0, 1) := by decide +kernel
theorem dX12_begins_1 : decode cX12_begins 1 = .ok (.istore_n 1, 1) := by decide +kernel
theorem dX12_begins_2 : decode cX12_begins 2 = .ok (.iload_n 1, 1) := by decide +kernel
theorem dX12_begins_3 : decode cX12_begins 3 = .ok (.bipush 105, 2) := by decide +kernel
theorem dX12_begins_5 : decode cX12_begins 5 = .ok (.if_icmp .ge 16, 3) := by decide +kernel
theorem dX12_begins_8 : decode cX12_begins 8 = .ok (.aload_n 0, 1) := by decide +kernel
theorem dX12_begins_9 : decode cX12_begins 9 = .ok (.getfield 143, 3) := by decide +kernel
theorem dX12_begins_12 : decode cX12_begins 12 = .ok (.iload_n 1, 1) := by decide +kernel
theorem dX12_begins_13 : decode cX12_begins 13 = .ok (.iconst 0, 1) := by decide +kernel
theorem dX12_begins_14 : decode cX12_begins 14 = .ok (.iastore, 1) := by decide +kernel
theorem dX12_begins_15 : decode cX12_begins 15 = .ok (.iinc 1 1, 3) := by decide +kernel
theorem dX12_begins_18 : decode cX12_begins 18 = .ok (.goto (-16), 3) := by decide +kernel
theorem dX12_begins_21 : decode cX12_begins 21 = .ok (.iconst 0, 1) := by decide +kernel
theorem dX12_begins_22 : decode cX12_begins 22 = .ok (.istore_n 1, 1) := by decide +kernel
theorem dX12_begins_23 : decode cX12_begins 23 = .ok (.iload_n 1, 1) := by decide +kernel
theorem dX12_begins_24 : decode cX12_begins 24 = .ok (.aload_n 0, 1) := by decide +kernel
theorem dX12_begins_25 : decode cX12_begins 25 = .ok (.getfield 49, 3) := by decide +kernel
theorem dX12_begins_28 : decode cX12_begins 28 = .ok (.aload_n 0, 1) := by decide +kernel
theorem dX12_begins_29 : decode cX12_begins 29 = .ok (.getfield 260, 3) := by decide +kernel
theorem dX12_begins_32 : decode cX12_begins 32 = .ok (.iaload, 1) := by decide +kernel
theorem dX12_begins_33 : decode cX12_begins 33 = .ok (.if_icmp .ge 93, 3) := by decide +kernel
theorem dX12_begins_36 : decode cX12_begins 36 = .ok (.iconst 0, 1) := by decide +kernel
theorem dX12_begins_37 : decode cX12_begins 37 = .ok (.istore_n 2, 1) := by decide +kernel
theorem dX12_begins_38 : decode cX12_begins 38 = .ok (.iload_n 2, 1) := by decide +kernel
theorem dX12_begins_39 : decode cX12_begins 39 = .ok (.aload_n 0, 1) := by decide +kernel
theorem dX12_begins_40 : decode cX12_begins 40 = .ok (.getfield 46, 3) := by decide +kernel
theorem dX12_begins_43 : decode cX12_begins 43 = .ok (.aload_n 0, 1) := by decide +kernel
theorem dX12_begins_44 : decode cX12_begins 44 = .ok (.getfield 260, 3) := by decide +kernel
theorem dX12_begins_47 : decode cX12_begins 47 = .ok (.iaload, 1) := by decide +kernel
theorem dX12_begins_48 : decode cX12_begins 48 = .ok (.if_icmp .ge 72, 3) := by decide +kernel
theorem dX12_begins_51 : decode cX12_begins 51 = .ok (.aload_n 0, 1) := by decide +kernel
theorem dX12_begins_52 : decode cX12_begins 52 = .ok (.getfield 143, 3) := by decide +kernel
theorem dX12_begins_55 : decode cX12_begins 55 = .ok (.bipush 8, 2) := by decide +kernel
theorem dX12_begins_57 : decode cX12_begins 57 = .ok (.iload_n 1, 1) := by decide +kernel
theorem dX12_begins_58 : decode cX12_begins 58 = .ok (.imul, 1) := by decide +kernel
theorem dX12_begins_59 : decode cX12_begins 59 = .ok (.iload_n 2, 1) := by decide +kernel
theorem dX12_begins_60 : decode cX12_begins 60 = .ok (.iadd, 1) := by decide +kernel
theorem dX12_begins_61 : decode cX12_begins 61 = .ok (.aload_n 0, 1) := by decide +kernel
theorem dX12_begins_62 : decode cX12_begins 62 = .ok (.getfield 55, 3) := by decide +kernel
theorem dX12_begins_65 : decode cX12_begins 65 = .ok (.bipush 40, 2) := by decide +kernel
theorem dX12_begins_67 : decode cX12_begins 67 = .ok (.aload_n 0, 1) := by decide +kernel
theorem dX12_begins_68 : decode cX12_begins 68 = .ok (.getfield 260, 3) := by decide +kernel
theorem dX12_begins_71 : decode cX12_begins 71 = .ok (.imul, 1) := by decide +kernel
theorem dX12_begins_72 : decode cX12_begins 72 = .ok (.bipush 8, 2) := by decide +kernel
theorem dX12_begins_74 : decode cX12_begins 74 = .ok (.iload_n 1, 1) := by decide +kernel
theorem dX12_begins_75 : decode cX12_begins 75 = .ok (.imul, 1) := by decide +kernel
theorem dX12_begins_76 : decode cX12_begins 76 = .ok (.iadd, 1) := by decide +kernel
theorem dX12_begins_77 : decode cX12_begins 77 = .ok (.iload_n 2, 1) := by decide +kernel
theorem dX12_begins_78 : decode cX12_begins 78 = .ok (.iadd, 1) := by decide +kernel
theorem dX12_begins_79 : decode cX12_begins 79 = .ok (.iaload, 1) := by decide +kernel
theorem dX12_begins_80 : decode cX12_begins 80 = .ok (.iastore, 1) := by decide +kernel
theorem dX12_begins_81 : decode cX12_begins 81 = .ok (.aload_n 0, 1) := by decide +kernel
theorem dX12_begins_82 : decode cX12_begins 82 = .ok (.getfield 143, 3) := by decide +kernel
theorem dX12_begins_85 : decode cX12_begins 85 = .ok (.bipush 40, 2) := by decide +kernel
theorem dX12_begins_87 : decode cX12_begins 87 = .ok (.bipush 8, 2) := by decide +kernel
theorem dX12_begins_89 : decode cX12_begins 89 = .ok (.iload_n 1, 1) := by decide +kernel
theorem dX12_begins_90 : decode cX12_begins 90 = .ok (.imul, 1) := by decide +kernel
theorem dX12_begins_91 : decode cX12_begins 91 = .ok (.iadd, 1) := by decide +kernel
theorem dX12_begins_92 : decode cX12_begins 92 = .ok (.iload_n 2, 1) := by decide +kernel
theorem dX12_begins_93 : decode cX12_begins 93 = .ok (.iadd, 1) := by decide +kernel
theorem dX12_begins_94 : decode cX12_begins 94 = .ok (.aload_n 0, 1) := by decide +kernel
theorem dX12_begins_95 : decode cX12_begins 95 = .ok (.getfield 52, 3) := by decide +kernel
theorem dX12_begins_98 : decode cX12_begins 98 = .ok (.bipush 40, 2) := by decide +kernel
theorem dX12_begins_100 : decode cX12_begins 100 = .ok (.aload_n 0, 1) := by decide +kernel
theorem dX12_begins_101 : decode cX12_begins 101 = .ok (.getfield 260, 3) := by decide +kernel
theorem dX12_begins_104 : decode cX12_begins 104 = .ok (.imul, 1) := by decide +kernel
theorem dX12_begins_105 : decode cX12_begins 105 = .ok (.bipush 8, 2) := by decide +kernel
theorem dX12_begins_107 : decode cX12_begins 107 = .ok (.iload_n 1, 1) := by decide +kernel
theorem dX12_begins_108 : decode cX12_begins 108 = .ok (.imul, 1) := by decide +kernel
theorem dX12_begins_109 : decode cX12_begins 109 = .ok (.iadd, 1) := by decide +kernel
theorem dX12_begins_110 : decode cX12_begins 110 = .ok (.iload_n 2, 1) := by decide +kernel
theorem dX12_begins_111 : decode cX12_begins 111 = .ok (.iadd, 1) := by decide +kernel
theorem dX12_begins_112 : decode cX12_begins 112 = .ok (.iaload, 1) := by decide +kernel
theorem dX12_begins_113 : decode cX12_begins 113 = .ok (.iastore, 1) := by decide +kernel
theorem dX12_begins_114 : decode cX12_begins 114 = .ok (.iinc 2 1, 3) := by decide +kernel
theorem dX12_begins_117 : decode cX12_begins 117 = .ok (.goto (-79), 3) := by decide +kernel
theorem dX12_begins_120 : decode cX12_begins 120 = .ok (.iinc 1 1, 3) := by decide +kernel
theorem dX12_begins_123 : decode cX12_begins 123 = .ok (.goto (-100), 3) := by decide +kernel
theorem dX12_begins_126 : decode cX12_begins 126 = .ok (.iconst 0, 1) := by decide +kernel
theorem dX12_begins_127 : decode cX12_begins 127 = .ok (.istore_n 1, 1) := by decide +kernel
theorem dX12_begins_128 : decode cX12_begins 128 = .ok (.iload_n 1, 1) := by decide +kernel
theorem dX12_begins_129 : decode cX12_begins 129 = .ok (.aload_n 0, 1) := by decide +kernel
theorem dX12_begins_130 : decode cX12_begins 130 = .ok (.getfield 58, 3) := by decide +kernel
theorem dX12_begins_133 : decode cX12_begins 133 = .ok (.aload_n 0, 1) := by decide +kernel
theorem dX12_begins_134 : decode cX12_begins 134 = .ok (.getfield 260, 3) := by decide +kernel
theorem dX12_begins_137 : decode cX12_begins 137 = .ok (.iaload, 1) := by decide +kernel
theorem dX12_begins_138 : decode cX12_begins 138 = .ok (.if_icmp .ge 31, 3) := by decide +kernel
theorem dX12_begins_141 : decode cX12_begins 141 = .ok (.aload_n 0, 1) := by decide +kernel
theorem dX12_begins_142 : decode cX12_begins 142 = .ok (.getfield 143, 3) := by decide +kernel
theorem dX12_begins_145 : decode cX12_begins 145 = .ok (.bipush 80, 2) := by decide +kernel
theorem dX12_begins_147 : decode cX12_begins 147 = .ok (.iload_n 1, 1) := by decide +kernel
theorem dX12_begins_148 : decode cX12_begins 148 = .ok (.iadd, 1) := by decide +kernel
theorem dX12_begins_149 : decode cX12_begins 149 = .ok (.aload_n 0, 1) := by decide +kernel
theorem dX12_begins_150 : decode cX12_begins 150 = .ok (.getfield 64, 3) := by decide +kernel
theorem dX12_begins_153 : decode cX12_begins 153 = .ok (.iconst 4, 1) := by decide +kernel
theorem dX12_begins_154 : decode cX12_begins 154 = .ok (.aload_n 0, 1) := by decide +kernel
theorem dX12_begins_155 : decode cX12_begins 155 = .ok (.getfield 260, 3) := by decide +kernel
theorem dX12_begins_158 : decode cX12_begins 158 = .ok (.imul, 1) := by decide +kernel
theorem dX12_begins_159 : decode cX12_begins 159 = .ok (.iload_n 1, 1) := by decide +kernel
theorem dX12_begins_160 : decode cX12_begins 160 = .ok (.iadd, 1) := by decide +kernel
theorem dX12_begins_161 : decode cX12_begins 161 = .ok (.iaload, 1) := by decide +kernel
theorem dX12_begins_162 : decode cX12_begins 162 = .ok (.iastore, 1) := by decide +kernel
theorem dX12_begins_163 : decode cX12_begins 163 = .ok (.iinc 1 1, 3) := by decide +kernel
theorem dX12_begins_166 : decode cX12_begins 166 = .ok (.goto (-38), 3) := by decide +kernel
theorem dX12_begins_169 : decode cX12_begins 169 = .ok (.aload_n 0, 1) := by decide +kernel
theorem dX12_begins_170 : decode cX12_begins 170 = .ok (.aload_n 0, 1) := by decide +kernel
theorem dX12_begins_171 : decode cX12_begins 171 = .ok (.getfield 100, 3) := by decide +kernel
theorem dX12_begins_174 : decode cX12_begins 174 = .ok (.aload_n 0, 1) := by decide +kernel
theorem dX12_begins_175 : decode cX12_begins 175 = .ok (.getfield 260, 3) := by decide +kernel
theorem dX12_begins_178 : decode cX12_begins 178 = .ok (.iaload, 1) := by decide +kernel
theorem dX12_begins_179 : decode cX12_begins 179 = .ok (.putfield 365, 3) := by decide +kernel
theorem dX12_begins_182 : decode cX12_begins 182 = .ok (.aload_n 0, 1) := by decide +kernel
theorem dX12_begins_183 : decode cX12_begins 183 = .ok (.iconst (-1), 1) := by decide +kernel
theorem dX12_begins_184 : decode cX12_begins 184 = .ok (.putfield 368, 3) := by decide +kernel
theorem dX12_begins_187 : decode cX12_begins 187 = .ok (.return_, 1) := by decide +kernel
theorem dX12_keepsRow_0 : decode cX12_keepsRow 0 = .ok (.iconst 0, 1) := by decide +kernel
theorem dX12_keepsRow_1 : decode cX12_keepsRow 1 = .ok (.istore_n 1, 1) := by decide +kernel
theorem dX12_keepsRow_2 : decode cX12_keepsRow 2 = .ok (.iload_n 1, 1) := by decide +kernel
theorem dX12_keepsRow_3 : decode cX12_keepsRow 3 = .ok (.bipush 105, 2) := by decide +kernel
theorem dX12_keepsRow_5 : decode cX12_keepsRow 5 = .ok (.if_icmp .ge 21, 3) := by decide +kernel
theorem dX12_keepsRow_8 : decode cX12_keepsRow 8 = .ok (.aload_n 0, 1) := by decide +kernel
theorem dX12_keepsRow_9 : decode cX12_keepsRow 9 = .ok (.getfield 140, 3) := by decide +kernel
theorem dX12_keepsRow_12 : decode cX12_keepsRow 12 = .ok (.iload_n 1, 1) := by decide +kernel
theorem dX12_keepsRow_13 : decode cX12_keepsRow 13 = .ok (.aload_n 0, 1) := by decide +kernel
theorem dX12_keepsRow_14 : decode cX12_keepsRow 14 = .ok (.getfield 143, 3) := by decide +kernel
theorem dX12_keepsRow_17 : decode cX12_keepsRow 17 = .ok (.iload_n 1, 1) := by decide +kernel
theorem dX12_keepsRow_18 : decode cX12_keepsRow 18 = .ok (.iaload, 1) := by decide +kernel
theorem dX12_keepsRow_19 : decode cX12_keepsRow 19 = .ok (.iastore, 1) := by decide +kernel
theorem dX12_keepsRow_20 : decode cX12_keepsRow 20 = .ok (.iinc 1 1, 3) := by decide +kernel
theorem dX12_keepsRow_23 : decode cX12_keepsRow 23 = .ok (.goto (-21), 3) := by decide +kernel
theorem dX12_keepsRow_26 : decode cX12_keepsRow 26 = .ok (.return_, 1) := by decide +kernel
theorem dX12_copies_0 : decode cX12_copies 0 = .ok (.iconst 0, 1) := by decide +kernel
theorem dX12_copies_1 : decode cX12_copies 1 = .ok (.istore_n 1, 1) := by decide +kernel
theorem dX12_copies_2 : decode cX12_copies 2 = .ok (.iload_n 1, 1) := by decide +kernel
theorem dX12_copies_3 : decode cX12_copies 3 = .ok (.bipush 105, 2) := by decide +kernel
theorem dX12_copies_5 : decode cX12_copies 5 = .ok (.if_icmp .ge 21, 3) := by decide +kernel
theorem dX12_copies_8 : decode cX12_copies 8 = .ok (.aload_n 0, 1) := by decide +kernel
theorem dX12_copies_9 : decode cX12_copies 9 = .ok (.getfield 143, 3) := by decide +kernel
theorem dX12_copies_12 : decode cX12_copies 12 = .ok (.iload_n 1, 1) := by decide +kernel
theorem dX12_copies_13 : decode cX12_copies 13 = .ok (.aload_n 0, 1) := by decide +kernel
theorem dX12_copies_14 : decode cX12_copies 14 = .ok (.getfield 140, 3) := by decide +kernel
theorem dX12_copies_17 : decode cX12_copies 17 = .ok (.iload_n 1, 1) := by decide +kernel
theorem dX12_copies_18 : decode cX12_copies 18 = .ok (.iaload, 1) := by decide +kernel
theorem dX12_copies_19 : decode cX12_copies 19 = .ok (.iastore, 1) := by decide +kernel
theorem dX12_copies_20 : decode cX12_copies 20 = .ok (.iinc 1 1, 3) := by decide +kernel
theorem dX12_copies_23 : decode cX12_copies 23 = .ok (.goto (-21), 3) := by decide +kernel
theorem dX12_copies_26 : decode cX12_copies 26 = .ok (.aload_n 0, 1) := by decide +kernel
theorem dX12_copies_27 : decode cX12_copies 27 = .ok (.aload_n 0, 1) := by decide +kernel
theorem dX12_copies_28 : decode cX12_copies 28 = .ok (.getfield 100, 3) := by decide +kernel
theorem dX12_copies_31 : decode cX12_copies 31 = .ok (.aload_n 0, 1) := by decide +kernel
theorem dX12_copies_32 : decode cX12_copies 32 = .ok (.getfield 260, 3) := by decide +kernel
theorem dX12_copies_35 : decode cX12_copies 35 = .ok (.iaload, 1) := by decide +kernel
theorem dX12_copies_36 : decode cX12_copies 36 = .ok (.putfield 365, 3) := by decide +kernel
theorem dX12_copies_39 : decode cX12_copies 39 = .ok (.aload_n 0, 1) := by decide +kernel
theorem dX12_copies_40 : decode cX12_copies 40 = .ok (.iconst (-1), 1) := by decide +kernel
theorem dX12_copies_41 : decode cX12_copies 41 = .ok (.putfield 368, 3) := by decide +kernel
theorem dX12_copies_44 : decode cX12_copies 44 = .ok (.return_, 1) := by decide +kernel
theorem dX12_mixed_0 : decode cX12_mixed 0 = .ok (.iload_n 0, 1) := by decide +kernel
theorem dX12_mixed_1 : decode cX12_mixed 1 = .ok (.iload_n 1, 1) := by decide +kernel
theorem dX12_mixed_2 : decode cX12_mixed 2 = .ok (.ixor, 1) := by decide +kernel
theorem dX12_mixed_3 : decode cX12_mixed 3 = .ok (.ldc_w 371, 3) := by decide +kernel
theorem dX12_mixed_6 : decode cX12_mixed 6 = .ok (.imul, 1) := by decide +kernel
theorem dX12_mixed_7 : decode cX12_mixed 7 = .ok (.sipush 12345, 3) := by decide +kernel
theorem dX12_mixed_10 : decode cX12_mixed 10 = .ok (.iadd, 1) := by decide +kernel
theorem dX12_mixed_11 : decode cX12_mixed 11 = .ok (.istore_n 2, 1) := by decide +kernel
theorem dX12_mixed_12 : decode cX12_mixed 12 = .ok (.iload_n 2, 1) := by decide +kernel
theorem dX12_mixed_13 : decode cX12_mixed 13 = .ok (.iload_n 2, 1) := by decide +kernel
theorem dX12_mixed_14 : decode cX12_mixed 14 = .ok (.bipush 15, 2) := by decide +kernel
theorem dX12_mixed_16 : decode cX12_mixed 16 = .ok (.iushr, 1) := by decide +kernel
theorem dX12_mixed_17 : decode cX12_mixed 17 = .ok (.ixor, 1) := by decide +kernel
theorem dX12_mixed_18 : decode cX12_mixed 18 = .ok (.ireturn, 1) := by decide +kernel
theorem dX12_isGust_0 : decode cX12_isGust 0 = .ok (.aload_n 0, 1) := by decide +kernel
theorem dX12_isGust_1 : decode cX12_isGust 1 = .ok (.getfield 365, 3) := by decide +kernel
theorem dX12_isGust_4 : decode cX12_isGust 4 = .ok (.bipush 105, 2) := by decide +kernel
theorem dX12_isGust_6 : decode cX12_isGust 6 = .ok (.invokestatic 372, 3) := by decide +kernel
theorem dX12_isGust_9 : decode cX12_isGust 9 = .ok (.iconst 4, 1) := by decide +kernel
theorem dX12_isGust_10 : decode cX12_isGust 10 = .ok (.aload_n 0, 1) := by decide +kernel
theorem dX12_isGust_11 : decode cX12_isGust 11 = .ok (.getfield 143, 3) := by decide +kernel
theorem dX12_isGust_14 : decode cX12_isGust 14 = .ok (.bipush 104, 2) := by decide +kernel
theorem dX12_isGust_16 : decode cX12_isGust 16 = .ok (.iaload, 1) := by decide +kernel
theorem dX12_isGust_17 : decode cX12_isGust 17 = .ok (.imul, 1) := by decide +kernel
theorem dX12_isGust_18 : decode cX12_isGust 18 = .ok (.invokestatic 372, 3) := by decide +kernel
theorem dX12_isGust_21 : decode cX12_isGust 21 = .ok (.iconst 1, 1) := by decide +kernel
theorem dX12_isGust_22 : decode cX12_isGust 22 = .ok (.iushr, 1) := by decide +kernel
theorem dX12_isGust_23 : decode cX12_isGust 23 = .ok (.bipush 100, 2) := by decide +kernel
theorem dX12_isGust_25 : decode cX12_isGust 25 = .ok (.irem, 1) := by decide +kernel
theorem dX12_isGust_26 : decode cX12_isGust 26 = .ok (.aload_n 0, 1) := by decide +kernel
theorem dX12_isGust_27 : decode cX12_isGust 27 = .ok (.getfield 94, 3) := by decide +kernel
theorem dX12_isGust_30 : decode cX12_isGust 30 = .ok (.aload_n 0, 1) := by decide +kernel
theorem dX12_isGust_31 : decode cX12_isGust 31 = .ok (.getfield 260, 3) := by decide +kernel
theorem dX12_isGust_34 : decode cX12_isGust 34 = .ok (.iaload, 1) := by decide +kernel
theorem dX12_isGust_35 : decode cX12_isGust 35 = .ok (.if_icmp .ge 7, 3) := by decide +kernel
theorem dX12_isGust_38 : decode cX12_isGust 38 = .ok (.iconst 1, 1) := by decide +kernel
theorem dX12_isGust_39 : decode cX12_isGust 39 = .ok (.goto 4, 3) := by decide +kernel
theorem dX12_isGust_42 : decode cX12_isGust 42 = .ok (.iconst 0, 1) := by decide +kernel
theorem dX12_isGust_43 : decode cX12_isGust 43 = .ok (.ireturn, 1) := by decide +kernel
theorem dX12_looks_0 : decode cX12_looks 0 = .ok (.iconst 0, 1) := by decide +kernel
theorem dX12_looks_1 : decode cX12_looks 1 = .ok (.istore_n 2, 1) := by decide +kernel
theorem dX12_looks_2 : decode cX12_looks 2 = .ok (.iload_n 2, 1) := by decide +kernel
theorem dX12_looks_3 : decode cX12_looks 3 = .ok (.bipush 9, 2) := by decide +kernel
theorem dX12_looks_5 : decode cX12_looks 5 = .ok (.if_icmp .ge 16, 3) := by decide +kernel
theorem dX12_looks_8 : decode cX12_looks 8 = .ok (.aload_n 0, 1) := by decide +kernel
theorem dX12_looks_9 : decode cX12_looks 9 = .ok (.getfield 134, 3) := by decide +kernel
theorem dX12_looks_12 : decode cX12_looks 12 = .ok (.iload_n 2, 1) := by decide +kernel
theorem dX12_looks_13 : decode cX12_looks 13 = .ok (.iconst 0, 1) := by decide +kernel
theorem dX12_looks_14 : decode cX12_looks 14 = .ok (.iastore, 1) := by decide +kernel
theorem dX12_looks_15 : decode cX12_looks 15 = .ok (.iinc 2 1, 3) := by decide +kernel
theorem dX12_looks_18 : decode cX12_looks 18 = .ok (.goto (-16), 3) := by decide +kernel
theorem dX12_looks_21 : decode cX12_looks 21 = .ok (.aload_n 0, 1) := by decide +kernel
theorem dX12_looks_22 : decode cX12_looks 22 = .ok (.getfield 134, 3) := by decide +kernel
theorem dX12_looks_25 : decode cX12_looks 25 = .ok (.iconst 1, 1) := by decide +kernel
theorem dX12_looks_26 : decode cX12_looks 26 = .ok (.iload_n 1, 1) := by decide +kernel
theorem dX12_looks_27 : decode cX12_looks 27 = .ok (.bipush 24, 2) := by decide +kernel
theorem dX12_looks_29 : decode cX12_looks 29 = .ok (.irem, 1) := by decide +kernel
theorem dX12_looks_30 : decode cX12_looks 30 = .ok (.iastore, 1) := by decide +kernel
theorem dX12_looks_31 : decode cX12_looks 31 = .ok (.aload_n 0, 1) := by decide +kernel
theorem dX12_looks_32 : decode cX12_looks 32 = .ok (.getfield 134, 3) := by decide +kernel
theorem dX12_looks_35 : decode cX12_looks 35 = .ok (.iconst 2, 1) := by decide +kernel
theorem dX12_looks_36 : decode cX12_looks 36 = .ok (.iload_n 1, 1) := by decide +kernel
theorem dX12_looks_37 : decode cX12_looks 37 = .ok (.bipush 24, 2) := by decide +kernel
theorem dX12_looks_39 : decode cX12_looks 39 = .ok (.idiv, 1) := by decide +kernel
theorem dX12_looks_40 : decode cX12_looks 40 = .ok (.iastore, 1) := by decide +kernel
theorem dX12_looks_41 : decode cX12_looks 41 = .ok (.return_, 1) := by decide +kernel
theorem dX12_lawTells_0 : decode cX12_lawTells 0 = .ok (.iconst 4, 1) := by decide +kernel
theorem dX12_lawTells_1 : decode cX12_lawTells 1 = .ok (.aload_n 0, 1) := by decide +kernel
theorem dX12_lawTells_2 : decode cX12_lawTells 2 = .ok (.getfield 260, 3) := by decide +kernel
theorem dX12_lawTells_5 : decode cX12_lawTells 5 = .ok (.imul, 1) := by decide +kernel
theorem dX12_lawTells_6 : decode cX12_lawTells 6 = .ok (.iload_n 1, 1) := by decide +kernel
theorem dX12_lawTells_7 : decode cX12_lawTells 7 = .ok (.iadd, 1) := by decide +kernel
theorem dX12_lawTells_8 : decode cX12_lawTells 8 = .ok (.istore_n 3, 1) := by decide +kernel
theorem dX12_lawTells_9 : decode cX12_lawTells 9 = .ok (.aload_n 0, 1) := by decide +kernel
theorem dX12_lawTells_10 : decode cX12_lawTells 10 = .ok (.getfield 103, 3) := by decide +kernel
theorem dX12_lawTells_13 : decode cX12_lawTells 13 = .ok (.iload_n 3, 1) := by decide +kernel
theorem dX12_lawTells_14 : decode cX12_lawTells 14 = .ok (.iaload, 1) := by decide +kernel
theorem dX12_lawTells_15 : decode cX12_lawTells 15 = .ok (.aload_n 0, 1) := by decide +kernel
theorem dX12_lawTells_16 : decode cX12_lawTells 16 = .ok (.getfield 106, 3) := by decide +kernel
theorem dX12_lawTells_19 : decode cX12_lawTells 19 = .ok (.iload_n 3, 1) := by decide +kernel
theorem dX12_lawTells_20 : decode cX12_lawTells 20 = .ok (.iaload, 1) := by decide +kernel
theorem dX12_lawTells_21 : decode cX12_lawTells 21 = .ok (.if_icmp .ne 5, 3) := by decide +kernel
theorem dX12_lawTells_24 : decode cX12_lawTells 24 = .ok (.iload_n 2, 1) := by decide +kernel
theorem dX12_lawTells_25 : decode cX12_lawTells 25 = .ok (.ireturn, 1) := by decide +kernel
theorem dX12_lawTells_26 : decode cX12_lawTells 26 = .ok (.aload_n 0, 1) := by decide +kernel
theorem dX12_lawTells_27 : decode cX12_lawTells 27 = .ok (.iconst 0, 1) := by decide +kernel
theorem dX12_lawTells_28 : decode cX12_lawTells 28 = .ok (.putfield 357, 3) := by decide +kernel
theorem dX12_lawTells_31 : decode cX12_lawTells 31 = .ok (.aload_n 0, 1) := by decide +kernel
theorem dX12_lawTells_32 : decode cX12_lawTells 32 = .ok (.getfield 103, 3) := by decide +kernel
theorem dX12_lawTells_35 : decode cX12_lawTells 35 = .ok (.iload_n 3, 1) := by decide +kernel
theorem dX12_lawTells_36 : decode cX12_lawTells 36 = .ok (.iaload, 1) := by decide +kernel
theorem dX12_lawTells_37 : decode cX12_lawTells 37 = .ok (.istore 4, 2) := by decide +kernel
theorem dX12_lawTells_39 : decode cX12_lawTells 39 = .ok (.iload 4, 2) := by decide +kernel
theorem dX12_lawTells_41 : decode cX12_lawTells 41 = .ok (.aload_n 0, 1) := by decide +kernel
theorem dX12_lawTells_42 : decode cX12_lawTells 42 = .ok (.getfield 106, 3) := by decide +kernel
theorem dX12_lawTells_45 : decode cX12_lawTells 45 = .ok (.iload_n 3, 1) := by decide +kernel
theorem dX12_lawTells_46 : decode cX12_lawTells 46 = .ok (.iaload, 1) := by decide +kernel
theorem dX12_lawTells_47 : decode cX12_lawTells 47 = .ok (.if_icmp .ge 112, 3) := by decide +kernel
theorem dX12_lawTells_50 : decode cX12_lawTells 50 = .ok (.aload_n 0, 1) := by decide +kernel
theorem dX12_lawTells_51 : decode cX12_lawTells 51 = .ok (.getfield 109, 3) := by decide +kernel
theorem dX12_lawTells_54 : decode cX12_lawTells 54 = .ok (.iload 4, 2) := by decide +kernel
theorem dX12_lawTells_56 : decode cX12_lawTells 56 = .ok (.baload, 1) := by decide +kernel
theorem dX12_lawTells_57 : decode cX12_lawTells 57 = .ok (.ifCond .eq 62, 3) := by decide +kernel
theorem dX12_lawTells_60 : decode cX12_lawTells 60 = .ok (.aload_n 0, 1) := by decide +kernel
theorem dX12_lawTells_61 : decode cX12_lawTells 61 = .ok (.aload_n 0, 1) := by decide +kernel
theorem dX12_lawTells_62 : decode cX12_lawTells 62 = .ok (.getfield 113, 3) := by decide +kernel
theorem dX12_lawTells_65 : decode cX12_lawTells 65 = .ok (.iload 4, 2) := by decide +kernel
theorem dX12_lawTells_67 : decode cX12_lawTells 67 = .ok (.iaload, 1) := by decide +kernel
theorem dX12_lawTells_68 : decode cX12_lawTells 68 = .ok (.aload_n 0, 1) := by decide +kernel
theorem dX12_lawTells_69 : decode cX12_lawTells 69 = .ok (.getfield 116, 3) := by decide +kernel
theorem dX12_lawTells_72 : decode cX12_lawTells 72 = .ok (.iload 4, 2) := by decide +kernel
theorem dX12_lawTells_74 : decode cX12_lawTells 74 = .ok (.iaload, 1) := by decide +kernel
theorem dX12_lawTells_75 : decode cX12_lawTells 75 = .ok (.invokevirtual 375, 3) := by decide +kernel
theorem dX12_lawTells_78 : decode cX12_lawTells 78 = .ok (.istore 5, 2) := by decide +kernel
theorem dX12_lawTells_80 : decode cX12_lawTells 80 = .ok (.aload_n 0, 1) := by decide +kernel
theorem dX12_lawTells_81 : decode cX12_lawTells 81 = .ok (.aload_n 0, 1) := by decide +kernel
theorem dX12_lawTells_82 : decode cX12_lawTells 82 = .ok (.getfield 116, 3) := by decide +kernel
theorem dX12_lawTells_85 : decode cX12_lawTells 85 = .ok (.iload 4, 2) := by decide +kernel
theorem dX12_lawTells_87 : decode cX12_lawTells 87 = .ok (.iaload, 1) := by decide +kernel
theorem dX12_lawTells_88 : decode cX12_lawTells 88 = .ok (.aload_n 0, 1) := by decide +kernel
theorem dX12_lawTells_89 : decode cX12_lawTells 89 = .ok (.getfield 119, 3) := by decide +kernel
theorem dX12_lawTells_92 : decode cX12_lawTells 92 = .ok (.iload 4, 2) := by decide +kernel
theorem dX12_lawTells_94 : decode cX12_lawTells 94 = .ok (.iaload, 1) := by decide +kernel
theorem dX12_lawTells_95 : decode cX12_lawTells 95 = .ok (.invokevirtual 375, 3) := by decide +kernel
theorem dX12_lawTells_98 : decode cX12_lawTells 98 = .ok (.istore 6, 2) := by decide +kernel
theorem dX12_lawTells_100 : decode cX12_lawTells 100 = .ok (.aload_n 0, 1) := by decide +kernel
theorem dX12_lawTells_101 : decode cX12_lawTells 101 = .ok (.getfield 357, 3) := by decide +kernel
theorem dX12_lawTells_104 : decode cX12_lawTells 104 = .ok (.ifCond .eq 5, 3) := by decide +kernel
theorem dX12_lawTells_107 : decode cX12_lawTells 107 = .ok (.iconst 0, 1) := by decide +kernel
theorem dX12_lawTells_108 : decode cX12_lawTells 108 = .ok (.ireturn, 1) := by decide +kernel
theorem dX12_lawTells_109 : decode cX12_lawTells 109 = .ok (.iload 5, 2) := by decide +kernel
theorem dX12_lawTells_111 : decode cX12_lawTells 111 = .ok (.iload 6, 2) := by decide +kernel
theorem dX12_lawTells_113 : decode cX12_lawTells 113 = .ok (.if_icmp .lt 6, 3) := by decide +kernel
theorem dX12_lawTells_116 : decode cX12_lawTells 116 = .ok (.goto 37, 3) := by decide +kernel
theorem dX12_lawTells_119 : decode cX12_lawTells 119 = .ok (.aload_n 0, 1) := by decide +kernel
theorem dX12_lawTells_120 : decode cX12_lawTells 120 = .ok (.aload_n 0, 1) := by decide +kernel
theorem dX12_lawTells_121 : decode cX12_lawTells 121 = .ok (.getfield 119, 3) := by decide +kernel
theorem dX12_lawTells_124 : decode cX12_lawTells 124 = .ok (.iload 4, 2) := by decide +kernel
theorem dX12_lawTells_126 : decode cX12_lawTells 126 = .ok (.iaload, 1) := by decide +kernel
theorem dX12_lawTells_127 : decode cX12_lawTells 127 = .ok (.aload_n 0, 1) := by decide +kernel
theorem dX12_lawTells_128 : decode cX12_lawTells 128 = .ok (.getfield 122, 3) := by decide +kernel
theorem dX12_lawTells_131 : decode cX12_lawTells 131 = .ok (.iload 4, 2) := by decide +kernel
theorem dX12_lawTells_133 : decode cX12_lawTells 133 = .ok (.iaload, 1) := by decide +kernel
theorem dX12_lawTells_134 : decode cX12_lawTells 134 = .ok (.invokevirtual 375, 3) := by decide +kernel
theorem dX12_lawTells_137 : decode cX12_lawTells 137 = .ok (.istore 5, 2) := by decide +kernel
theorem dX12_lawTells_139 : decode cX12_lawTells 139 = .ok (.aload_n 0, 1) := by decide +kernel
theorem dX12_lawTells_140 : decode cX12_lawTells 140 = .ok (.getfield 357, 3) := by decide +kernel
theorem dX12_lawTells_143 : decode cX12_lawTells 143 = .ok (.ifCond .eq 7, 3) := by decide +kernel
theorem dX12_lawTells_146 : decode cX12_lawTells 146 = .ok (.iconst 0, 1) := by decide +kernel
theorem dX12_lawTells_147 : decode cX12_lawTells 147 = .ok (.goto 5, 3) := by decide +kernel
theorem dX12_lawTells_150 : decode cX12_lawTells 150 = .ok (.iload 5, 2) := by decide +kernel
theorem dX12_lawTells_152 : decode cX12_lawTells 152 = .ok (.ireturn, 1) := by decide +kernel
theorem dX12_lawTells_153 : decode cX12_lawTells 153 = .ok (.iinc 4 1, 3) := by decide +kernel
theorem dX12_lawTells_156 : decode cX12_lawTells 156 = .ok (.goto (-117), 3) := by decide +kernel
theorem dX12_lawTells_159 : decode cX12_lawTells 159 = .ok (.iconst 0, 1) := by decide +kernel
theorem dX12_lawTells_160 : decode cX12_lawTells 160 = .ok (.ireturn, 1) := by decide +kernel
theorem dX12_windIn_0 : decode cX12_windIn 0 = .ok (.aload_n 0, 1) := by decide +kernel
theorem dX12_windIn_1 : decode cX12_windIn 1 = .ok (.iload_n 1, 1) := by decide +kernel
theorem dX12_windIn_2 : decode cX12_windIn 2 = .ok (.invokevirtual 378, 3) := by decide +kernel
theorem dX12_windIn_5 : decode cX12_windIn 5 = .ok (.aload_n 0, 1) := by decide +kernel
theorem dX12_windIn_6 : decode cX12_windIn 6 = .ok (.iconst 0, 1) := by decide +kernel
theorem dX12_windIn_7 : decode cX12_windIn 7 = .ok (.iconst 0, 1) := by decide +kernel
theorem dX12_windIn_8 : decode cX12_windIn 8 = .ok (.invokevirtual 381, 3) := by decide +kernel
theorem dX12_windIn_11 : decode cX12_windIn 11 = .ok (.istore_n 2, 1) := by decide +kernel
theorem dX12_windIn_12 : decode cX12_windIn 12 = .ok (.iload_n 2, 1) := by decide +kernel
theorem dX12_windIn_13 : decode cX12_windIn 13 = .ok (.ifCond .ge 7, 3) := by decide +kernel
theorem dX12_windIn_16 : decode cX12_windIn 16 = .ok (.iconst 0, 1) := by decide +kernel
theorem dX12_windIn_17 : decode cX12_windIn 17 = .ok (.goto 6, 3) := by decide +kernel
theorem dX12_windIn_20 : decode cX12_windIn 20 = .ok (.iload_n 2, 1) := by decide +kernel
theorem dX12_windIn_21 : decode cX12_windIn 21 = .ok (.iconst 5, 1) := by decide +kernel
theorem dX12_windIn_22 : decode cX12_windIn 22 = .ok (.irem, 1) := by decide +kernel
theorem dX12_windIn_23 : decode cX12_windIn 23 = .ok (.ireturn, 1) := by decide +kernel
theorem dX12_cellTells_0 : decode cX12_cellTells 0 = .ok (.aload_n 0, 1) := by decide +kernel
theorem dX12_cellTells_1 : decode cX12_cellTells 1 = .ok (.getfield 143, 3) := by decide +kernel
theorem dX12_cellTells_4 : decode cX12_cellTells 4 = .ok (.bipush 8, 2) := by decide +kernel
theorem dX12_cellTells_6 : decode cX12_cellTells 6 = .ok (.iload_n 3, 1) := by decide +kernel
theorem dX12_cellTells_7 : decode cX12_cellTells 7 = .ok (.imul, 1) := by decide +kernel
theorem dX12_cellTells_8 : decode cX12_cellTells 8 = .ok (.iload_n 2, 1) := by decide +kernel
theorem dX12_cellTells_9 : decode cX12_cellTells 9 = .ok (.iadd, 1) := by decide +kernel
theorem dX12_cellTells_10 : decode cX12_cellTells 10 = .ok (.iaload, 1) := by decide +kernel
theorem dX12_cellTells_11 : decode cX12_cellTells 11 = .ok (.istore 5, 2) := by decide +kernel
theorem dX12_cellTells_13 : decode cX12_cellTells 13 = .ok (.aload_n 0, 1) := by decide +kernel
theorem dX12_cellTells_14 : decode cX12_cellTells 14 = .ok (.aload_n 0, 1) := by decide +kernel
theorem dX12_cellTells_15 : decode cX12_cellTells 15 = .ok (.getfield 143, 3) := by decide +kernel
theorem dX12_cellTells_18 : decode cX12_cellTells 18 = .ok (.bipush 104, 2) := by decide +kernel
theorem dX12_cellTells_20 : decode cX12_cellTells 20 = .ok (.iaload, 1) := by decide +kernel
theorem dX12_cellTells_21 : decode cX12_cellTells 21 = .ok (.invokevirtual 378, 3) := by decide +kernel
theorem dX12_cellTells_24 : decode cX12_cellTells 24 = .ok (.aload_n 0, 1) := by decide +kernel
theorem dX12_cellTells_25 : decode cX12_cellTells 25 = .ok (.getfield 134, 3) := by decide +kernel
theorem dX12_cellTells_28 : decode cX12_cellTells 28 = .ok (.iconst 0, 1) := by decide +kernel
theorem dX12_cellTells_29 : decode cX12_cellTells 29 = .ok (.iload 5, 2) := by decide +kernel
theorem dX12_cellTells_31 : decode cX12_cellTells 31 = .ok (.iastore, 1) := by decide +kernel
theorem dX12_cellTells_32 : decode cX12_cellTells 32 = .ok (.aload_n 0, 1) := by decide +kernel
theorem dX12_cellTells_33 : decode cX12_cellTells 33 = .ok (.getfield 134, 3) := by decide +kernel
theorem dX12_cellTells_36 : decode cX12_cellTells 36 = .ok (.iconst 3, 1) := by decide +kernel
theorem dX12_cellTells_37 : decode cX12_cellTells 37 = .ok (.iload_n 2, 1) := by decide +kernel
theorem dX12_cellTells_38 : decode cX12_cellTells 38 = .ok (.iastore, 1) := by decide +kernel
theorem dX12_cellTells_39 : decode cX12_cellTells 39 = .ok (.aload_n 0, 1) := by decide +kernel
theorem dX12_cellTells_40 : decode cX12_cellTells 40 = .ok (.getfield 134, 3) := by decide +kernel
theorem dX12_cellTells_43 : decode cX12_cellTells 43 = .ok (.iconst 4, 1) := by decide +kernel
theorem dX12_cellTells_44 : decode cX12_cellTells 44 = .ok (.iload_n 3, 1) := by decide +kernel
theorem dX12_cellTells_45 : decode cX12_cellTells 45 = .ok (.iastore, 1) := by decide +kernel
theorem dX12_cellTells_46 : decode cX12_cellTells 46 = .ok (.aload_n 0, 1) := by decide +kernel
theorem dX12_cellTells_47 : decode cX12_cellTells 47 = .ok (.getfield 134, 3) := by decide +kernel
theorem dX12_cellTells_50 : decode cX12_cellTells 50 = .ok (.iconst 5, 1) := by decide +kernel
theorem dX12_cellTells_51 : decode cX12_cellTells 51 = .ok (.aload_n 0, 1) := by decide +kernel
theorem dX12_cellTells_52 : decode cX12_cellTells 52 = .ok (.getfield 143, 3) := by decide +kernel
theorem dX12_cellTells_55 : decode cX12_cellTells 55 = .ok (.bipush 40, 2) := by decide +kernel
theorem dX12_cellTells_57 : decode cX12_cellTells 57 = .ok (.bipush 8, 2) := by decide +kernel
theorem dX12_cellTells_59 : decode cX12_cellTells 59 = .ok (.iload_n 3, 1) := by decide +kernel
theorem dX12_cellTells_60 : decode cX12_cellTells 60 = .ok (.imul, 1) := by decide +kernel
theorem dX12_cellTells_61 : decode cX12_cellTells 61 = .ok (.iadd, 1) := by decide +kernel
theorem dX12_cellTells_62 : decode cX12_cellTells 62 = .ok (.iload_n 2, 1) := by decide +kernel
theorem dX12_cellTells_63 : decode cX12_cellTells 63 = .ok (.iadd, 1) := by decide +kernel
theorem dX12_cellTells_64 : decode cX12_cellTells 64 = .ok (.iaload, 1) := by decide +kernel
theorem dX12_cellTells_65 : decode cX12_cellTells 65 = .ok (.iastore, 1) := by decide +kernel
theorem dX12_cellTells_66 : decode cX12_cellTells 66 = .ok (.aload_n 0, 1) := by decide +kernel
theorem dX12_cellTells_67 : decode cX12_cellTells 67 = .ok (.getfield 134, 3) := by decide +kernel
theorem dX12_cellTells_70 : decode cX12_cellTells 70 = .ok (.bipush 8, 2) := by decide +kernel
theorem dX12_cellTells_72 : decode cX12_cellTells 72 = .ok (.iload 4, 2) := by decide +kernel
theorem dX12_cellTells_74 : decode cX12_cellTells 74 = .ok (.iastore, 1) := by decide +kernel
theorem dX12_cellTells_75 : decode cX12_cellTells 75 = .ok (.aload_n 0, 1) := by decide +kernel
theorem dX12_cellTells_76 : decode cX12_cellTells 76 = .ok (.iload_n 1, 1) := by decide +kernel
theorem dX12_cellTells_77 : decode cX12_cellTells 77 = .ok (.iload_n 1, 1) := by decide +kernel
theorem dX12_cellTells_78 : decode cX12_cellTells 78 = .ok (.iconst 1, 1) := by decide +kernel
theorem dX12_cellTells_79 : decode cX12_cellTells 79 = .ok (.if_icmp .ne 10, 3) := by decide +kernel
theorem dX12_cellTells_82 : decode cX12_cellTells 82 = .ok (.iload 5, 2) := by decide +kernel
theorem dX12_cellTells_84 : decode cX12_cellTells 84 = .ok (.iconst 4, 1) := by decide +kernel
theorem dX12_cellTells_85 : decode cX12_cellTells 85 = .ok (.idiv, 1) := by decide +kernel
theorem dX12_cellTells_86 : decode cX12_cellTells 86 = .ok (.goto 4, 3) := by decide +kernel
theorem dX12_cellTells_89 : decode cX12_cellTells 89 = .ok (.iconst 1, 1) := by decide +kernel
theorem dX12_cellTells_90 : decode cX12_cellTells 90 = .ok (.invokevirtual 381, 3) := by decide +kernel
theorem dX12_cellTells_93 : decode cX12_cellTells 93 = .ok (.iconst 0, 1) := by decide +kernel
theorem dX12_cellTells_94 : decode cX12_cellTells 94 = .ok (.iload 5, 2) := by decide +kernel
theorem dX12_cellTells_96 : decode cX12_cellTells 96 = .ok (.invokestatic 384, 3) := by decide +kernel
theorem dX12_cellTells_99 : decode cX12_cellTells 99 = .ok (.ireturn, 1) := by decide +kernel
theorem dX12_fogOf_0 : decode cX12_fogOf 0 = .ok (.iconst 0, 1) := by decide +kernel
theorem dX12_fogOf_1 : decode cX12_fogOf 1 = .ok (.istore_n 2, 1) := by decide +kernel
theorem dX12_fogOf_2 : decode cX12_fogOf 2 = .ok (.iconst 0, 1) := by decide +kernel
theorem dX12_fogOf_3 : decode cX12_fogOf 3 = .ok (.istore_n 3, 1) := by decide +kernel
theorem dX12_fogOf_4 : decode cX12_fogOf 4 = .ok (.iload_n 3, 1) := by decide +kernel
theorem dX12_fogOf_5 : decode cX12_fogOf 5 = .ok (.aload_n 0, 1) := by decide +kernel
theorem dX12_fogOf_6 : decode cX12_fogOf 6 = .ok (.getfield 49, 3) := by decide +kernel
theorem dX12_fogOf_9 : decode cX12_fogOf 9 = .ok (.aload_n 0, 1) := by decide +kernel
theorem dX12_fogOf_10 : decode cX12_fogOf 10 = .ok (.getfield 260, 3) := by decide +kernel
theorem dX12_fogOf_13 : decode cX12_fogOf 13 = .ok (.iaload, 1) := by decide +kernel
theorem dX12_fogOf_14 : decode cX12_fogOf 14 = .ok (.if_icmp .ge 66, 3) := by decide +kernel
theorem dX12_fogOf_17 : decode cX12_fogOf 17 = .ok (.iconst 0, 1) := by decide +kernel
theorem dX12_fogOf_18 : decode cX12_fogOf 18 = .ok (.istore 4, 2) := by decide +kernel
theorem dX12_fogOf_20 : decode cX12_fogOf 20 = .ok (.iload 4, 2) := by decide +kernel
theorem dX12_fogOf_22 : decode cX12_fogOf 22 = .ok (.aload_n 0, 1) := by decide +kernel
theorem dX12_fogOf_23 : decode cX12_fogOf 23 = .ok (.getfield 46, 3) := by decide +kernel
theorem dX12_fogOf_26 : decode cX12_fogOf 26 = .ok (.aload_n 0, 1) := by decide +kernel
theorem dX12_fogOf_27 : decode cX12_fogOf 27 = .ok (.getfield 260, 3) := by decide +kernel
theorem dX12_fogOf_30 : decode cX12_fogOf 30 = .ok (.iaload, 1) := by decide +kernel
theorem dX12_fogOf_31 : decode cX12_fogOf 31 = .ok (.if_icmp .ge 43, 3) := by decide +kernel
theorem dX12_fogOf_34 : decode cX12_fogOf 34 = .ok (.aload_n 0, 1) := by decide +kernel
theorem dX12_fogOf_35 : decode cX12_fogOf 35 = .ok (.getfield 143, 3) := by decide +kernel
theorem dX12_fogOf_38 : decode cX12_fogOf 38 = .ok (.bipush 40, 2) := by decide +kernel
theorem dX12_fogOf_40 : decode cX12_fogOf 40 = .ok (.bipush 8, 2) := by decide +kernel
theorem dX12_fogOf_42 : decode cX12_fogOf 42 = .ok (.iload_n 3, 1) := by decide +kernel
theorem dX12_fogOf_43 : decode cX12_fogOf 43 = .ok (.imul, 1) := by decide +kernel
theorem dX12_fogOf_44 : decode cX12_fogOf 44 = .ok (.iadd, 1) := by decide +kernel
theorem dX12_fogOf_45 : decode cX12_fogOf 45 = .ok (.iload 4, 2) := by decide +kernel
theorem dX12_fogOf_47 : decode cX12_fogOf 47 = .ok (.iadd, 1) := by decide +kernel
theorem dX12_fogOf_48 : decode cX12_fogOf 48 = .ok (.iaload, 1) := by decide +kernel
theorem dX12_fogOf_49 : decode cX12_fogOf 49 = .ok (.iload_n 1, 1) := by decide +kernel
theorem dX12_fogOf_50 : decode cX12_fogOf 50 = .ok (.if_icmp .ne 18, 3) := by decide +kernel
theorem dX12_fogOf_53 : decode cX12_fogOf 53 = .ok (.iload_n 2, 1) := by decide +kernel
theorem dX12_fogOf_54 : decode cX12_fogOf 54 = .ok (.aload_n 0, 1) := by decide +kernel
theorem dX12_fogOf_55 : decode cX12_fogOf 55 = .ok (.getfield 143, 3) := by decide +kernel
theorem dX12_fogOf_58 : decode cX12_fogOf 58 = .ok (.bipush 8, 2) := by decide +kernel
theorem dX12_fogOf_60 : decode cX12_fogOf 60 = .ok (.iload_n 3, 1) := by decide +kernel
theorem dX12_fogOf_61 : decode cX12_fogOf 61 = .ok (.imul, 1) := by decide +kernel
theorem dX12_fogOf_62 : decode cX12_fogOf 62 = .ok (.iload 4, 2) := by decide +kernel
theorem dX12_fogOf_64 : decode cX12_fogOf 64 = .ok (.iadd, 1) := by decide +kernel
theorem dX12_fogOf_65 : decode cX12_fogOf 65 = .ok (.iaload, 1) := by decide +kernel
theorem dX12_fogOf_66 : decode cX12_fogOf 66 = .ok (.iadd, 1) := by decide +kernel
theorem dX12_fogOf_67 : decode cX12_fogOf 67 = .ok (.istore_n 2, 1) := by decide +kernel
theorem dX12_fogOf_68 : decode cX12_fogOf 68 = .ok (.iinc 4 1, 3) := by decide +kernel
theorem dX12_fogOf_71 : decode cX12_fogOf 71 = .ok (.goto (-51), 3) := by decide +kernel
theorem dX12_fogOf_74 : decode cX12_fogOf 74 = .ok (.iinc 3 1, 3) := by decide +kernel
theorem dX12_fogOf_77 : decode cX12_fogOf 77 = .ok (.goto (-73), 3) := by decide +kernel
theorem dX12_fogOf_80 : decode cX12_fogOf 80 = .ok (.iload_n 2, 1) := by decide +kernel
theorem dX12_fogOf_81 : decode cX12_fogOf 81 = .ok (.ireturn, 1) := by decide +kernel
theorem dX12_cellsOf_0 : decode cX12_cellsOf 0 = .ok (.iconst 0, 1) := by decide +kernel
theorem dX12_cellsOf_1 : decode cX12_cellsOf 1 = .ok (.istore_n 2, 1) := by decide +kernel
theorem dX12_cellsOf_2 : decode cX12_cellsOf 2 = .ok (.iconst 0, 1) := by decide +kernel
theorem dX12_cellsOf_3 : decode cX12_cellsOf 3 = .ok (.istore_n 3, 1) := by decide +kernel
theorem dX12_cellsOf_4 : decode cX12_cellsOf 4 = .ok (.iload_n 3, 1) := by decide +kernel
theorem dX12_cellsOf_5 : decode cX12_cellsOf 5 = .ok (.aload_n 0, 1) := by decide +kernel
theorem dX12_cellsOf_6 : decode cX12_cellsOf 6 = .ok (.getfield 49, 3) := by decide +kernel
theorem dX12_cellsOf_9 : decode cX12_cellsOf 9 = .ok (.aload_n 0, 1) := by decide +kernel
theorem dX12_cellsOf_10 : decode cX12_cellsOf 10 = .ok (.getfield 260, 3) := by decide +kernel
theorem dX12_cellsOf_13 : decode cX12_cellsOf 13 = .ok (.iaload, 1) := by decide +kernel
theorem dX12_cellsOf_14 : decode cX12_cellsOf 14 = .ok (.if_icmp .ge 54, 3) := by decide +kernel
theorem dX12_cellsOf_17 : decode cX12_cellsOf 17 = .ok (.iconst 0, 1) := by decide +kernel
theorem dX12_cellsOf_18 : decode cX12_cellsOf 18 = .ok (.istore 4, 2) := by decide +kernel
theorem dX12_cellsOf_20 : decode cX12_cellsOf 20 = .ok (.iload 4, 2) := by decide +kernel
theorem dX12_cellsOf_22 : decode cX12_cellsOf 22 = .ok (.aload_n 0, 1) := by decide +kernel
theorem dX12_cellsOf_23 : decode cX12_cellsOf 23 = .ok (.getfield 46, 3) := by decide +kernel
theorem dX12_cellsOf_26 : decode cX12_cellsOf 26 = .ok (.aload_n 0, 1) := by decide +kernel
theorem dX12_cellsOf_27 : decode cX12_cellsOf 27 = .ok (.getfield 260, 3) := by decide +kernel
theorem dX12_cellsOf_30 : decode cX12_cellsOf 30 = .ok (.iaload, 1) := by decide +kernel
theorem dX12_cellsOf_31 : decode cX12_cellsOf 31 = .ok (.if_icmp .ge 31, 3) := by decide +kernel
theorem dX12_cellsOf_34 : decode cX12_cellsOf 34 = .ok (.aload_n 0, 1) := by decide +kernel
theorem dX12_cellsOf_35 : decode cX12_cellsOf 35 = .ok (.getfield 143, 3) := by decide +kernel
theorem dX12_cellsOf_38 : decode cX12_cellsOf 38 = .ok (.bipush 40, 2) := by decide +kernel
theorem dX12_cellsOf_40 : decode cX12_cellsOf 40 = .ok (.bipush 8, 2) := by decide +kernel
theorem dX12_cellsOf_42 : decode cX12_cellsOf 42 = .ok (.iload_n 3, 1) := by decide +kernel
theorem dX12_cellsOf_43 : decode cX12_cellsOf 43 = .ok (.imul, 1) := by decide +kernel
theorem dX12_cellsOf_44 : decode cX12_cellsOf 44 = .ok (.iadd, 1) := by decide +kernel
theorem dX12_cellsOf_45 : decode cX12_cellsOf 45 = .ok (.iload 4, 2) := by decide +kernel
theorem dX12_cellsOf_47 : decode cX12_cellsOf 47 = .ok (.iadd, 1) := by decide +kernel
theorem dX12_cellsOf_48 : decode cX12_cellsOf 48 = .ok (.iaload, 1) := by decide +kernel
theorem dX12_cellsOf_49 : decode cX12_cellsOf 49 = .ok (.iload_n 1, 1) := by decide +kernel
theorem dX12_cellsOf_50 : decode cX12_cellsOf 50 = .ok (.if_icmp .ne 6, 3) := by decide +kernel
theorem dX12_cellsOf_53 : decode cX12_cellsOf 53 = .ok (.iinc 2 1, 3) := by decide +kernel
theorem dX12_cellsOf_56 : decode cX12_cellsOf 56 = .ok (.iinc 4 1, 3) := by decide +kernel
theorem dX12_cellsOf_59 : decode cX12_cellsOf 59 = .ok (.goto (-39), 3) := by decide +kernel
theorem dX12_cellsOf_62 : decode cX12_cellsOf 62 = .ok (.iinc 3 1, 3) := by decide +kernel
theorem dX12_cellsOf_65 : decode cX12_cellsOf 65 = .ok (.goto (-61), 3) := by decide +kernel
theorem dX12_cellsOf_68 : decode cX12_cellsOf 68 = .ok (.iload_n 2, 1) := by decide +kernel
theorem dX12_cellsOf_69 : decode cX12_cellsOf 69 = .ok (.ireturn, 1) := by decide +kernel
theorem dX12_givesTo_0 : decode cX12_givesTo 0 = .ok (.aload_n 0, 1) := by decide +kernel
theorem dX12_givesTo_1 : decode cX12_givesTo 1 = .ok (.iload_n 1, 1) := by decide +kernel
theorem dX12_givesTo_2 : decode cX12_givesTo 2 = .ok (.invokevirtual 387, 3) := by decide +kernel
theorem dX12_givesTo_5 : decode cX12_givesTo 5 = .ok (.istore_n 2, 1) := by decide +kernel
theorem dX12_givesTo_6 : decode cX12_givesTo 6 = .ok (.aload_n 0, 1) := by decide +kernel
theorem dX12_givesTo_7 : decode cX12_givesTo 7 = .ok (.aload_n 0, 1) := by decide +kernel
theorem dX12_givesTo_8 : decode cX12_givesTo 8 = .ok (.getfield 143, 3) := by decide +kernel
theorem dX12_givesTo_11 : decode cX12_givesTo 11 = .ok (.bipush 104, 2) := by decide +kernel
theorem dX12_givesTo_13 : decode cX12_givesTo 13 = .ok (.iaload, 1) := by decide +kernel
theorem dX12_givesTo_14 : decode cX12_givesTo 14 = .ok (.invokevirtual 378, 3) := by decide +kernel
theorem dX12_givesTo_17 : decode cX12_givesTo 17 = .ok (.aload_n 0, 1) := by decide +kernel
theorem dX12_givesTo_18 : decode cX12_givesTo 18 = .ok (.getfield 134, 3) := by decide +kernel
theorem dX12_givesTo_21 : decode cX12_givesTo 21 = .ok (.iconst 0, 1) := by decide +kernel
theorem dX12_givesTo_22 : decode cX12_givesTo 22 = .ok (.iload_n 2, 1) := by decide +kernel
theorem dX12_givesTo_23 : decode cX12_givesTo 23 = .ok (.iastore, 1) := by decide +kernel
theorem dX12_givesTo_24 : decode cX12_givesTo 24 = .ok (.aload_n 0, 1) := by decide +kernel
theorem dX12_givesTo_25 : decode cX12_givesTo 25 = .ok (.getfield 134, 3) := by decide +kernel
theorem dX12_givesTo_28 : decode cX12_givesTo 28 = .ok (.iconst 5, 1) := by decide +kernel
theorem dX12_givesTo_29 : decode cX12_givesTo 29 = .ok (.iload_n 1, 1) := by decide +kernel
theorem dX12_givesTo_30 : decode cX12_givesTo 30 = .ok (.iastore, 1) := by decide +kernel
theorem dX12_givesTo_31 : decode cX12_givesTo 31 = .ok (.aload_n 0, 1) := by decide +kernel
theorem dX12_givesTo_32 : decode cX12_givesTo 32 = .ok (.getfield 134, 3) := by decide +kernel
theorem dX12_givesTo_35 : decode cX12_givesTo 35 = .ok (.bipush 6, 2) := by decide +kernel
theorem dX12_givesTo_37 : decode cX12_givesTo 37 = .ok (.aload_n 0, 1) := by decide +kernel
theorem dX12_givesTo_38 : decode cX12_givesTo 38 = .ok (.getfield 143, 3) := by decide +kernel
theorem dX12_givesTo_41 : decode cX12_givesTo 41 = .ok (.bipush 80, 2) := by decide +kernel
theorem dX12_givesTo_43 : decode cX12_givesTo 43 = .ok (.iload_n 1, 1) := by decide +kernel
theorem dX12_givesTo_44 : decode cX12_givesTo 44 = .ok (.iadd, 1) := by decide +kernel
theorem dX12_givesTo_45 : decode cX12_givesTo 45 = .ok (.iaload, 1) := by decide +kernel
theorem dX12_givesTo_46 : decode cX12_givesTo 46 = .ok (.iastore, 1) := by decide +kernel
theorem dX12_givesTo_47 : decode cX12_givesTo 47 = .ok (.aload_n 0, 1) := by decide +kernel
theorem dX12_givesTo_48 : decode cX12_givesTo 48 = .ok (.getfield 134, 3) := by decide +kernel
theorem dX12_givesTo_51 : decode cX12_givesTo 51 = .ok (.bipush 7, 2) := by decide +kernel
theorem dX12_givesTo_53 : decode cX12_givesTo 53 = .ok (.aload_n 0, 1) := by decide +kernel
theorem dX12_givesTo_54 : decode cX12_givesTo 54 = .ok (.getfield 61, 3) := by decide +kernel
theorem dX12_givesTo_57 : decode cX12_givesTo 57 = .ok (.iconst 4, 1) := by decide +kernel
theorem dX12_givesTo_58 : decode cX12_givesTo 58 = .ok (.aload_n 0, 1) := by decide +kernel
theorem dX12_givesTo_59 : decode cX12_givesTo 59 = .ok (.getfield 260, 3) := by decide +kernel
theorem dX12_givesTo_62 : decode cX12_givesTo 62 = .ok (.imul, 1) := by decide +kernel
theorem dX12_givesTo_63 : decode cX12_givesTo 63 = .ok (.iload_n 1, 1) := by decide +kernel
theorem dX12_givesTo_64 : decode cX12_givesTo 64 = .ok (.iadd, 1) := by decide +kernel
theorem dX12_givesTo_65 : decode cX12_givesTo 65 = .ok (.iaload, 1) := by decide +kernel
theorem dX12_givesTo_66 : decode cX12_givesTo 66 = .ok (.iastore, 1) := by decide +kernel
theorem dX12_givesTo_67 : decode cX12_givesTo 67 = .ok (.aload_n 0, 1) := by decide +kernel
theorem dX12_givesTo_68 : decode cX12_givesTo 68 = .ok (.iconst 3, 1) := by decide +kernel
theorem dX12_givesTo_69 : decode cX12_givesTo 69 = .ok (.aload_n 0, 1) := by decide +kernel
theorem dX12_givesTo_70 : decode cX12_givesTo 70 = .ok (.getfield 134, 3) := by decide +kernel
theorem dX12_givesTo_73 : decode cX12_givesTo 73 = .ok (.bipush 7, 2) := by decide +kernel
theorem dX12_givesTo_75 : decode cX12_givesTo 75 = .ok (.iaload, 1) := by decide +kernel
theorem dX12_givesTo_76 : decode cX12_givesTo 76 = .ok (.invokevirtual 381, 3) := by decide +kernel
theorem dX12_givesTo_79 : decode cX12_givesTo 79 = .ok (.iconst 0, 1) := by decide +kernel
theorem dX12_givesTo_80 : decode cX12_givesTo 80 = .ok (.bipush 99, 2) := by decide +kernel
theorem dX12_givesTo_82 : decode cX12_givesTo 82 = .ok (.invokestatic 384, 3) := by decide +kernel
theorem dX12_givesTo_85 : decode cX12_givesTo 85 = .ok (.ireturn, 1) := by decide +kernel
theorem dX12_steps_0 : decode cX12_steps 0 = .ok (.iconst 0, 1) := by decide +kernel
theorem dX12_steps_1 : decode cX12_steps 1 = .ok (.istore_n 2, 1) := by decide +kernel
theorem dX12_steps_2 : decode cX12_steps 2 = .ok (.iload_n 2, 1) := by decide +kernel
theorem dX12_steps_3 : decode cX12_steps 3 = .ok (.bipush 40, 2) := by decide +kernel
theorem dX12_steps_5 : decode cX12_steps 5 = .ok (.if_icmp .ge 21, 3) := by decide +kernel
theorem dX12_steps_8 : decode cX12_steps 8 = .ok (.aload_n 0, 1) := by decide +kernel
theorem dX12_steps_9 : decode cX12_steps 9 = .ok (.getfield 146, 3) := by decide +kernel
theorem dX12_steps_12 : decode cX12_steps 12 = .ok (.iload_n 2, 1) := by decide +kernel
theorem dX12_steps_13 : decode cX12_steps 13 = .ok (.aload_n 0, 1) := by decide +kernel
theorem dX12_steps_14 : decode cX12_steps 14 = .ok (.getfield 143, 3) := by decide +kernel
theorem dX12_steps_17 : decode cX12_steps 17 = .ok (.iload_n 2, 1) := by decide +kernel
theorem dX12_steps_18 : decode cX12_steps 18 = .ok (.iaload, 1) := by decide +kernel
theorem dX12_steps_19 : decode cX12_steps 19 = .ok (.iastore, 1) := by decide +kernel
theorem dX12_steps_20 : decode cX12_steps 20 = .ok (.iinc 2 1, 3) := by decide +kernel
theorem dX12_steps_23 : decode cX12_steps 23 = .ok (.goto (-21), 3) := by decide +kernel
theorem dX12_steps_26 : decode cX12_steps 26 = .ok (.iconst 0, 1) := by decide +kernel
theorem dX12_steps_27 : decode cX12_steps 27 = .ok (.istore_n 2, 1) := by decide +kernel
theorem dX12_steps_28 : decode cX12_steps 28 = .ok (.iload_n 2, 1) := by decide +kernel
theorem dX12_steps_29 : decode cX12_steps 29 = .ok (.aload_n 0, 1) := by decide +kernel
theorem dX12_steps_30 : decode cX12_steps 30 = .ok (.getfield 49, 3) := by decide +kernel
theorem dX12_steps_33 : decode cX12_steps 33 = .ok (.aload_n 0, 1) := by decide +kernel
theorem dX12_steps_34 : decode cX12_steps 34 = .ok (.getfield 260, 3) := by decide +kernel
theorem dX12_steps_37 : decode cX12_steps 37 = .ok (.iaload, 1) := by decide +kernel
theorem dX12_steps_38 : decode cX12_steps 38 = .ok (.if_icmp .ge 131, 3) := by decide +kernel
theorem dX12_steps_41 : decode cX12_steps 41 = .ok (.iconst 0, 1) := by decide +kernel
