/-! decode rows: laid by my program out of the listing -/
theorem dM_trouble_0 : decode bM_trouble 0 = .ok (.aload_n 0, 1) := by decide +kernel
theorem dM_trouble_1 : decode bM_trouble 1 = .ok (.iload_n 1, 1) := by decide +kernel
theorem dM_trouble_2 : decode bM_trouble 2 = .ok (.invokevirtual 156, 3) := by decide +kernel
theorem dM_trouble_5 : decode bM_trouble 5 = .ok (.ifCond .ne 5, 3) := by decide +kernel
theorem dM_trouble_8 : decode bM_trouble 8 = .ok (.iconst 2, 1) := by decide +kernel
theorem dM_trouble_9 : decode bM_trouble 9 = .ok (.ireturn, 1) := by decide +kernel
theorem dM_trouble_10 : decode bM_trouble 10 = .ok (.aload_n 0, 1) := by decide +kernel
theorem dM_trouble_11 : decode bM_trouble 11 = .ok (.getfield 144, 3) := by decide +kernel
theorem dM_trouble_14 : decode bM_trouble 14 = .ok (.aload_n 0, 1) := by decide +kernel
theorem dM_trouble_15 : decode bM_trouble 15 = .ok (.getfield 147, 3) := by decide +kernel
theorem dM_trouble_18 : decode bM_trouble 18 = .ok (.iadd, 1) := by decide +kernel
theorem dM_trouble_19 : decode bM_trouble 19 = .ok (.istore_n 2, 1) := by decide +kernel
theorem dM_trouble_20 : decode bM_trouble 20 = .ok (.iload_n 1, 1) := by decide +kernel
theorem dM_trouble_21 : decode bM_trouble 21 = .ok (.iconst 2, 1) := by decide +kernel
theorem dM_trouble_22 : decode bM_trouble 22 = .ok (.if_icmp .ne 9, 3) := by decide +kernel
theorem dM_trouble_25 : decode bM_trouble 25 = .ok (.aload_n 0, 1) := by decide +kernel
theorem dM_trouble_26 : decode bM_trouble 26 = .ok (.iload_n 2, 1) := by decide +kernel
theorem dM_trouble_27 : decode bM_trouble 27 = .ok (.invokevirtual 159, 3) := by decide +kernel
theorem dM_trouble_30 : decode bM_trouble 30 = .ok (.ireturn, 1) := by decide +kernel
theorem dM_trouble_31 : decode bM_trouble 31 = .ok (.iload_n 1, 1) := by decide +kernel
theorem dM_trouble_32 : decode bM_trouble 32 = .ok (.iconst 2, 1) := by decide +kernel
theorem dM_trouble_33 : decode bM_trouble 33 = .ok (.if_icmp .ge 5, 3) := by decide +kernel
theorem dM_trouble_36 : decode bM_trouble 36 = .ok (.iconst 0, 1) := by decide +kernel
theorem dM_trouble_37 : decode bM_trouble 37 = .ok (.ireturn, 1) := by decide +kernel
theorem dM_trouble_38 : decode bM_trouble 38 = .ok (.aload_n 0, 1) := by decide +kernel
theorem dM_trouble_39 : decode bM_trouble 39 = .ok (.getfield 132, 3) := by decide +kernel
theorem dM_trouble_42 : decode bM_trouble 42 = .ok (.iconst 3, 1) := by decide +kernel
theorem dM_trouble_43 : decode bM_trouble 43 = .ok (.if_icmp .eq 12, 3) := by decide +kernel
theorem dM_trouble_46 : decode bM_trouble 46 = .ok (.aload_n 0, 1) := by decide +kernel
theorem dM_trouble_47 : decode bM_trouble 47 = .ok (.getfield 132, 3) := by decide +kernel
theorem dM_trouble_50 : decode bM_trouble 50 = .ok (.bipush 7, 2) := by decide +kernel
theorem dM_trouble_52 : decode bM_trouble 52 = .ok (.if_icmp .ne 15, 3) := by decide +kernel
theorem dM_trouble_55 : decode bM_trouble 55 = .ok (.aload_n 0, 1) := by decide +kernel
theorem dM_trouble_56 : decode bM_trouble 56 = .ok (.getfield 162, 3) := by decide +kernel
theorem dM_trouble_59 : decode bM_trouble 59 = .ok (.iconst 2, 1) := by decide +kernel
theorem dM_trouble_60 : decode bM_trouble 60 = .ok (.irem, 1) := by decide +kernel
theorem dM_trouble_61 : decode bM_trouble 61 = .ok (.iconst 1, 1) := by decide +kernel
theorem dM_trouble_62 : decode bM_trouble 62 = .ok (.if_icmp .ne 5, 3) := by decide +kernel
theorem dM_trouble_65 : decode bM_trouble 65 = .ok (.iconst 2, 1) := by decide +kernel
theorem dM_trouble_66 : decode bM_trouble 66 = .ok (.ireturn, 1) := by decide +kernel
theorem dM_trouble_67 : decode bM_trouble 67 = .ok (.iload_n 2, 1) := by decide +kernel
theorem dM_trouble_68 : decode bM_trouble 68 = .ok (.aload_n 0, 1) := by decide +kernel
theorem dM_trouble_69 : decode bM_trouble 69 = .ok (.getfield 132, 3) := by decide +kernel
theorem dM_trouble_72 : decode bM_trouble 72 = .ok (.invokestatic 135, 3) := by decide +kernel
theorem dM_trouble_75 : decode bM_trouble 75 = .ok (.iconst 1, 1) := by decide +kernel
theorem dM_trouble_76 : decode bM_trouble 76 = .ok (.isub, 1) := by decide +kernel
theorem dM_trouble_77 : decode bM_trouble 77 = .ok (.iand, 1) := by decide +kernel
theorem dM_trouble_78 : decode bM_trouble 78 = .ok (.ifCond .eq 6, 3) := by decide +kernel
theorem dM_trouble_81 : decode bM_trouble 81 = .ok (.bipush 7, 2) := by decide +kernel
theorem dM_trouble_83 : decode bM_trouble 83 = .ok (.ireturn, 1) := by decide +kernel
theorem dM_trouble_84 : decode bM_trouble 84 = .ok (.iload_n 2, 1) := by decide +kernel
theorem dM_trouble_85 : decode bM_trouble 85 = .ok (.aload_n 0, 1) := by decide +kernel
theorem dM_trouble_86 : decode bM_trouble 86 = .ok (.getfield 132, 3) := by decide +kernel
theorem dM_trouble_89 : decode bM_trouble 89 = .ok (.invokestatic 135, 3) := by decide +kernel
theorem dM_trouble_92 : decode bM_trouble 92 = .ok (.invokestatic 61, 3) := by decide +kernel
theorem dM_trouble_95 : decode bM_trouble 95 = .ok (.ifCond .eq 7, 3) := by decide +kernel
theorem dM_trouble_98 : decode bM_trouble 98 = .ok (.iconst 0, 1) := by decide +kernel
theorem dM_trouble_99 : decode bM_trouble 99 = .ok (.goto 5, 3) := by decide +kernel
theorem dM_trouble_102 : decode bM_trouble 102 = .ok (.bipush 9, 2) := by decide +kernel
theorem dM_trouble_104 : decode bM_trouble 104 = .ok (.ireturn, 1) := by decide +kernel
theorem dM_flags_0 : decode bM_flags 0 = .ok (.aload_n 0, 1) := by decide +kernel
theorem dM_flags_1 : decode bM_flags 1 = .ok (.iload_n 1, 1) := by decide +kernel
theorem dM_flags_2 : decode bM_flags 2 = .ok (.ifCond .ge 7, 3) := by decide +kernel
theorem dM_flags_5 : decode bM_flags 5 = .ok (.iconst 1, 1) := by decide +kernel
theorem dM_flags_6 : decode bM_flags 6 = .ok (.goto 4, 3) := by decide +kernel
theorem dM_flags_9 : decode bM_flags 9 = .ok (.iconst 0, 1) := by decide +kernel
theorem dM_flags_10 : decode bM_flags 10 = .ok (.putfield 118, 3) := by decide +kernel
theorem dM_flags_13 : decode bM_flags 13 = .ok (.aload_n 0, 1) := by decide +kernel
theorem dM_flags_14 : decode bM_flags 14 = .ok (.iload_n 1, 1) := by decide +kernel
theorem dM_flags_15 : decode bM_flags 15 = .ok (.ifCond .ne 7, 3) := by decide +kernel
theorem dM_flags_18 : decode bM_flags 18 = .ok (.iconst 1, 1) := by decide +kernel
theorem dM_flags_19 : decode bM_flags 19 = .ok (.goto 4, 3) := by decide +kernel
theorem dM_flags_22 : decode bM_flags 22 = .ok (.iconst 0, 1) := by decide +kernel
theorem dM_flags_23 : decode bM_flags 23 = .ok (.putfield 115, 3) := by decide +kernel
theorem dM_flags_26 : decode bM_flags 26 = .ok (.aload_n 0, 1) := by decide +kernel
theorem dM_flags_27 : decode bM_flags 27 = .ok (.iload_n 2, 1) := by decide +kernel
theorem dM_flags_28 : decode bM_flags 28 = .ok (.putfield 112, 3) := by decide +kernel
theorem dM_flags_31 : decode bM_flags 31 = .ok (.aload_n 0, 1) := by decide +kernel
theorem dM_flags_32 : decode bM_flags 32 = .ok (.iload_n 3, 1) := by decide +kernel
theorem dM_flags_33 : decode bM_flags 33 = .ok (.putfield 109, 3) := by decide +kernel
theorem dM_flags_36 : decode bM_flags 36 = .ok (.return_, 1) := by decide +kernel
theorem dM_plain_0 : decode bM_plain 0 = .ok (.iload_n 0, 1) := by decide +kernel
theorem dM_plain_1 : decode bM_plain 1 = .ok (.i2l, 1) := by decide +kernel
theorem dM_plain_2 : decode bM_plain 2 = .ok (.ldc2_w 165, 3) := by decide +kernel
theorem dM_plain_5 : decode bM_plain 5 = .ok (.land, 1) := by decide +kernel
theorem dM_plain_6 : decode bM_plain 6 = .ok (.lreturn, 1) := by decide +kernel
theorem dM_work_0 : decode bM_work 0 = .ok (.aload_n 0, 1) := by decide +kernel
theorem dM_work_1 : decode bM_work 1 = .ok (.getfield 132, 3) := by decide +kernel
theorem dM_work_4 : decode bM_work 4 = .ok (.bipush 16, 2) := by decide +kernel
theorem dM_work_6 : decode bM_work 6 = .ok (.if_icmp .lt 22, 3) := by decide +kernel
theorem dM_work_9 : decode bM_work 9 = .ok (.aload_n 0, 1) := by decide +kernel
theorem dM_work_10 : decode bM_work 10 = .ok (.getfield 132, 3) := by decide +kernel
theorem dM_work_13 : decode bM_work 13 = .ok (.bipush 32, 2) := by decide +kernel
theorem dM_work_15 : decode bM_work 15 = .ok (.if_icmp .ge 13, 3) := by decide +kernel
theorem dM_work_18 : decode bM_work 18 = .ok (.aload_n 0, 1) := by decide +kernel
theorem dM_work_19 : decode bM_work 19 = .ok (.getfield 132, 3) := by decide +kernel
theorem dM_work_22 : decode bM_work 22 = .ok (.bipush 16, 2) := by decide +kernel
theorem dM_work_24 : decode bM_work 24 = .ok (.isub, 1) := by decide +kernel
theorem dM_work_25 : decode bM_work 25 = .ok (.goto 7, 3) := by decide +kernel
theorem dM_work_28 : decode bM_work 28 = .ok (.aload_n 0, 1) := by decide +kernel
theorem dM_work_29 : decode bM_work 29 = .ok (.getfield 132, 3) := by decide +kernel
theorem dM_work_32 : decode bM_work 32 = .ok (.istore_n 1, 1) := by decide +kernel
theorem dM_work_33 : decode bM_work 33 = .ok (.iload_n 1, 1) := by decide +kernel
theorem dM_work_34 : decode bM_work 34 = .ok (.bipush 7, 2) := by decide +kernel
theorem dM_work_36 : decode bM_work 36 = .ok (.if_icmp .le 14, 3) := by decide +kernel
theorem dM_work_39 : decode bM_work 39 = .ok (.aload_n 0, 1) := by decide +kernel
theorem dM_work_40 : decode bM_work 40 = .ok (.getfield 109, 3) := by decide +kernel
theorem dM_work_43 : decode bM_work 43 = .ok (.ifCond .eq 7, 3) := by decide +kernel
theorem dM_work_46 : decode bM_work 46 = .ok (.iconst 1, 1) := by decide +kernel
theorem dM_work_47 : decode bM_work 47 = .ok (.goto 4, 3) := by decide +kernel
theorem dM_work_50 : decode bM_work 50 = .ok (.iconst 0, 1) := by decide +kernel
theorem dM_work_51 : decode bM_work 51 = .ok (.istore_n 2, 1) := by decide +kernel
theorem dM_work_52 : decode bM_work 52 = .ok (.lconst 0, 1) := by decide +kernel
theorem dM_work_53 : decode bM_work 53 = .ok (.lstore_n 3, 1) := by decide +kernel
theorem dM_work_54 : decode bM_work 54 = .ok (.iconst 0, 1) := by decide +kernel
theorem dM_work_55 : decode bM_work 55 = .ok (.istore 5, 2) := by decide +kernel
theorem dM_work_57 : decode bM_work 57 = .ok (.iconst 0, 1) := by decide +kernel
theorem dM_work_58 : decode bM_work 58 = .ok (.istore 6, 2) := by decide +kernel
theorem dM_work_60 : decode bM_work 60 = .ok (.iload_n 1, 1) := by decide +kernel
theorem dM_work_61 : decode bM_work 61 = .ok (.ifCond .eq 9, 3) := by decide +kernel
theorem dM_work_64 : decode bM_work 64 = .ok (.iload_n 1, 1) := by decide +kernel
theorem dM_work_65 : decode bM_work 65 = .ok (.bipush 8, 2) := by decide +kernel
theorem dM_work_67 : decode bM_work 67 = .ok (.if_icmp .ne 66, 3) := by decide +kernel
theorem dM_work_70 : decode bM_work 70 = .ok (.aload_n 0, 1) := by decide +kernel
theorem dM_work_71 : decode bM_work 71 = .ok (.getfield 144, 3) := by decide +kernel
theorem dM_work_74 : decode bM_work 74 = .ok (.i2l, 1) := by decide +kernel
theorem dM_work_75 : decode bM_work 75 = .ok (.aload_n 0, 1) := by decide +kernel
theorem dM_work_76 : decode bM_work 76 = .ok (.getfield 147, 3) := by decide +kernel
theorem dM_work_79 : decode bM_work 79 = .ok (.i2l, 1) := by decide +kernel
theorem dM_work_80 : decode bM_work 80 = .ok (.ladd, 1) := by decide +kernel
theorem dM_work_81 : decode bM_work 81 = .ok (.iload_n 2, 1) := by decide +kernel
theorem dM_work_82 : decode bM_work 82 = .ok (.i2l, 1) := by decide +kernel
theorem dM_work_83 : decode bM_work 83 = .ok (.ladd, 1) := by decide +kernel
theorem dM_work_84 : decode bM_work 84 = .ok (.lstore_n 3, 1) := by decide +kernel
theorem dM_work_85 : decode bM_work 85 = .ok (.aload_n 0, 1) := by decide +kernel
theorem dM_work_86 : decode bM_work 86 = .ok (.getfield 144, 3) := by decide +kernel
theorem dM_work_89 : decode bM_work 89 = .ok (.invokestatic 167, 3) := by decide +kernel
theorem dM_work_92 : decode bM_work 92 = .ok (.aload_n 0, 1) := by decide +kernel
theorem dM_work_93 : decode bM_work 93 = .ok (.getfield 147, 3) := by decide +kernel
theorem dM_work_96 : decode bM_work 96 = .ok (.invokestatic 167, 3) := by decide +kernel
theorem dM_work_99 : decode bM_work 99 = .ok (.ladd, 1) := by decide +kernel
theorem dM_work_100 : decode bM_work 100 = .ok (.iload_n 2, 1) := by decide +kernel
theorem dM_work_101 : decode bM_work 101 = .ok (.i2l, 1) := by decide +kernel
theorem dM_work_102 : decode bM_work 102 = .ok (.ladd, 1) := by decide +kernel
theorem dM_work_103 : decode bM_work 103 = .ok (.ldc2_w 165, 3) := by decide +kernel
theorem dM_work_106 : decode bM_work 106 = .ok (.lcmp, 1) := by decide +kernel
theorem dM_work_107 : decode bM_work 107 = .ok (.ifCond .le 7, 3) := by decide +kernel
theorem dM_work_110 : decode bM_work 110 = .ok (.iconst 1, 1) := by decide +kernel
theorem dM_work_111 : decode bM_work 111 = .ok (.goto 4, 3) := by decide +kernel
theorem dM_work_114 : decode bM_work 114 = .ok (.iconst 0, 1) := by decide +kernel
theorem dM_work_115 : decode bM_work 115 = .ok (.istore 5, 2) := by decide +kernel
theorem dM_work_117 : decode bM_work 117 = .ok (.aload_n 0, 1) := by decide +kernel
theorem dM_work_118 : decode bM_work 118 = .ok (.getfield 144, 3) := by decide +kernel
theorem dM_work_121 : decode bM_work 121 = .ok (.aload_n 0, 1) := by decide +kernel
theorem dM_work_122 : decode bM_work 122 = .ok (.getfield 147, 3) := by decide +kernel
theorem dM_work_125 : decode bM_work 125 = .ok (.iadd, 1) := by decide +kernel
theorem dM_work_126 : decode bM_work 126 = .ok (.iload_n 2, 1) := by decide +kernel
theorem dM_work_127 : decode bM_work 127 = .ok (.iadd, 1) := by decide +kernel
theorem dM_work_128 : decode bM_work 128 = .ok (.istore 6, 2) := by decide +kernel
theorem dM_work_130 : decode bM_work 130 = .ok (.goto 140, 3) := by decide +kernel
theorem dM_work_133 : decode bM_work 133 = .ok (.iload_n 1, 1) := by decide +kernel
theorem dM_work_134 : decode bM_work 134 = .ok (.iconst 4, 1) := by decide +kernel
theorem dM_work_135 : decode bM_work 135 = .ok (.if_icmp .eq 9, 3) := by decide +kernel
theorem dM_work_138 : decode bM_work 138 = .ok (.iload_n 1, 1) := by decide +kernel
theorem dM_work_139 : decode bM_work 139 = .ok (.bipush 12, 2) := by decide +kernel
theorem dM_work_141 : decode bM_work 141 = .ok (.if_icmp .ne 62, 3) := by decide +kernel
theorem dM_work_144 : decode bM_work 144 = .ok (.aload_n 0, 1) := by decide +kernel
theorem dM_work_145 : decode bM_work 145 = .ok (.getfield 144, 3) := by decide +kernel
theorem dM_work_148 : decode bM_work 148 = .ok (.i2l, 1) := by decide +kernel
theorem dM_work_149 : decode bM_work 149 = .ok (.aload_n 0, 1) := by decide +kernel
theorem dM_work_150 : decode bM_work 150 = .ok (.getfield 147, 3) := by decide +kernel
theorem dM_work_153 : decode bM_work 153 = .ok (.i2l, 1) := by decide +kernel
theorem dM_work_154 : decode bM_work 154 = .ok (.lsub, 1) := by decide +kernel
theorem dM_work_155 : decode bM_work 155 = .ok (.iload_n 2, 1) := by decide +kernel
theorem dM_work_156 : decode bM_work 156 = .ok (.i2l, 1) := by decide +kernel
theorem dM_work_157 : decode bM_work 157 = .ok (.lsub, 1) := by decide +kernel
theorem dM_work_158 : decode bM_work 158 = .ok (.lstore_n 3, 1) := by decide +kernel
theorem dM_work_159 : decode bM_work 159 = .ok (.aload_n 0, 1) := by decide +kernel
theorem dM_work_160 : decode bM_work 160 = .ok (.getfield 144, 3) := by decide +kernel
theorem dM_work_163 : decode bM_work 163 = .ok (.invokestatic 167, 3) := by decide +kernel
theorem dM_work_166 : decode bM_work 166 = .ok (.aload_n 0, 1) := by decide +kernel
theorem dM_work_167 : decode bM_work 167 = .ok (.getfield 147, 3) := by decide +kernel
theorem dM_work_170 : decode bM_work 170 = .ok (.invokestatic 167, 3) := by decide +kernel
theorem dM_work_173 : decode bM_work 173 = .ok (.iload_n 2, 1) := by decide +kernel
theorem dM_work_174 : decode bM_work 174 = .ok (.i2l, 1) := by decide +kernel
theorem dM_work_175 : decode bM_work 175 = .ok (.ladd, 1) := by decide +kernel
theorem dM_work_176 : decode bM_work 176 = .ok (.lcmp, 1) := by decide +kernel
theorem dM_work_177 : decode bM_work 177 = .ok (.ifCond .ge 7, 3) := by decide +kernel
theorem dM_work_180 : decode bM_work 180 = .ok (.iconst 1, 1) := by decide +kernel
theorem dM_work_181 : decode bM_work 181 = .ok (.goto 4, 3) := by decide +kernel
theorem dM_work_184 : decode bM_work 184 = .ok (.iconst 0, 1) := by decide +kernel
theorem dM_work_185 : decode bM_work 185 = .ok (.istore 5, 2) := by decide +kernel
theorem dM_work_187 : decode bM_work 187 = .ok (.aload_n 0, 1) := by decide +kernel
theorem dM_work_188 : decode bM_work 188 = .ok (.getfield 144, 3) := by decide +kernel
theorem dM_work_191 : decode bM_work 191 = .ok (.aload_n 0, 1) := by decide +kernel
theorem dM_work_192 : decode bM_work 192 = .ok (.getfield 147, 3) := by decide +kernel
theorem dM_work_195 : decode bM_work 195 = .ok (.isub, 1) := by decide +kernel
theorem dM_work_196 : decode bM_work 196 = .ok (.iload_n 2, 1) := by decide +kernel
theorem dM_work_197 : decode bM_work 197 = .ok (.isub, 1) := by decide +kernel
theorem dM_work_198 : decode bM_work 198 = .ok (.istore 6, 2) := by decide +kernel
theorem dM_work_200 : decode bM_work 200 = .ok (.goto 70, 3) := by decide +kernel
theorem dM_work_203 : decode bM_work 203 = .ok (.iload_n 1, 1) := by decide +kernel
theorem dM_work_204 : decode bM_work 204 = .ok (.iconst 4, 1) := by decide +kernel
theorem dM_work_205 : decode bM_work 205 = .ok (.if_icmp .le 12, 3) := by decide +kernel
theorem dM_work_208 : decode bM_work 208 = .ok (.aload_n 0, 1) := by decide +kernel
theorem dM_work_209 : decode bM_work 209 = .ok (.getfield 147, 3) := by decide +kernel
theorem dM_work_212 : decode bM_work 212 = .ok (.iconst (-1), 1) := by decide +kernel
theorem dM_work_213 : decode bM_work 213 = .ok (.ixor, 1) := by decide +kernel
theorem dM_work_214 : decode bM_work 214 = .ok (.goto 7, 3) := by decide +kernel
theorem dM_work_217 : decode bM_work 217 = .ok (.aload_n 0, 1) := by decide +kernel
theorem dM_work_218 : decode bM_work 218 = .ok (.getfield 147, 3) := by decide +kernel
theorem dM_work_221 : decode bM_work 221 = .ok (.istore 7, 2) := by decide +kernel
theorem dM_work_223 : decode bM_work 223 = .ok (.iload_n 1, 1) := by decide +kernel
theorem dM_work_224 : decode bM_work 224 = .ok (.iconst 4, 1) := by decide +kernel
theorem dM_work_225 : decode bM_work 225 = .ok (.irem, 1) := by decide +kernel
theorem dM_work_226 : decode bM_work 226 = .ok (.iconst 1, 1) := by decide +kernel
theorem dM_work_227 : decode bM_work 227 = .ok (.if_icmp .ne 13, 3) := by decide +kernel
theorem dM_work_230 : decode bM_work 230 = .ok (.aload_n 0, 1) := by decide +kernel
theorem dM_work_231 : decode bM_work 231 = .ok (.getfield 144, 3) := by decide +kernel
theorem dM_work_234 : decode bM_work 234 = .ok (.iload 7, 2) := by decide +kernel
theorem dM_work_236 : decode bM_work 236 = .ok (.iand, 1) := by decide +kernel
theorem dM_work_237 : decode bM_work 237 = .ok (.goto 27, 3) := by decide +kernel
theorem dM_work_240 : decode bM_work 240 = .ok (.iload_n 1, 1) := by decide +kernel
theorem dM_work_241 : decode bM_work 241 = .ok (.iconst 4, 1) := by decide +kernel
theorem dM_work_242 : decode bM_work 242 = .ok (.irem, 1) := by decide +kernel
theorem dM_work_243 : decode bM_work 243 = .ok (.iconst 2, 1) := by decide +kernel
theorem dM_work_244 : decode bM_work 244 = .ok (.if_icmp .ne 13, 3) := by decide +kernel
theorem dM_work_247 : decode bM_work 247 = .ok (.aload_n 0, 1) := by decide +kernel
theorem dM_work_248 : decode bM_work 248 = .ok (.getfield 144, 3) := by decide +kernel
theorem dM_work_251 : decode bM_work 251 = .ok (.iload 7, 2) := by decide +kernel
theorem dM_work_253 : decode bM_work 253 = .ok (.ior, 1) := by decide +kernel
theorem dM_work_254 : decode bM_work 254 = .ok (.goto 10, 3) := by decide +kernel
theorem dM_work_257 : decode bM_work 257 = .ok (.aload_n 0, 1) := by decide +kernel
theorem dM_work_258 : decode bM_work 258 = .ok (.getfield 144, 3) := by decide +kernel
theorem dM_work_261 : decode bM_work 261 = .ok (.iload 7, 2) := by decide +kernel
theorem dM_work_263 : decode bM_work 263 = .ok (.ixor, 1) := by decide +kernel
theorem dM_work_264 : decode bM_work 264 = .ok (.istore 6, 2) := by decide +kernel
theorem dM_work_266 : decode bM_work 266 = .ok (.iload 6, 2) := by decide +kernel
theorem dM_work_268 : decode bM_work 268 = .ok (.i2l, 1) := by decide +kernel
theorem dM_work_269 : decode bM_work 269 = .ok (.lstore_n 3, 1) := by decide +kernel
theorem dM_work_270 : decode bM_work 270 = .ok (.aload_n 0, 1) := by decide +kernel
theorem dM_work_271 : decode bM_work 271 = .ok (.aload_n 0, 1) := by decide +kernel
theorem dM_work_272 : decode bM_work 272 = .ok (.getfield 93, 3) := by decide +kernel
theorem dM_work_275 : decode bM_work 275 = .ok (.aload_n 0, 1) := by decide +kernel
theorem dM_work_276 : decode bM_work 276 = .ok (.getfield 162, 3) := by decide +kernel
theorem dM_work_279 : decode bM_work 279 = .ok (.iload 6, 2) := by decide +kernel
theorem dM_work_281 : decode bM_work 281 = .ok (.invokevirtual 90, 3) := by decide +kernel
theorem dM_work_284 : decode bM_work 284 = .ok (.aload_n 0, 1) := by decide +kernel
theorem dM_work_285 : decode bM_work 285 = .ok (.getfield 132, 3) := by decide +kernel
theorem dM_work_288 : decode bM_work 288 = .ok (.iload_n 1, 1) := by decide +kernel
theorem dM_work_289 : decode bM_work 289 = .ok (.if_icmp .eq 24, 3) := by decide +kernel
theorem dM_work_292 : decode bM_work 292 = .ok (.aload_n 0, 1) := by decide +kernel
theorem dM_work_293 : decode bM_work 293 = .ok (.iload 6, 2) := by decide +kernel
theorem dM_work_295 : decode bM_work 295 = .ok (.lload_n 3, 1) := by decide +kernel
theorem dM_work_296 : decode bM_work 296 = .ok (.iload 6, 2) := by decide +kernel
theorem dM_work_298 : decode bM_work 298 = .ok (.i2l, 1) := by decide +kernel
theorem dM_work_299 : decode bM_work 299 = .ok (.lcmp, 1) := by decide +kernel
theorem dM_work_300 : decode bM_work 300 = .ok (.ifCond .eq 7, 3) := by decide +kernel
theorem dM_work_303 : decode bM_work 303 = .ok (.iconst 1, 1) := by decide +kernel
theorem dM_work_304 : decode bM_work 304 = .ok (.goto 4, 3) := by decide +kernel
theorem dM_work_307 : decode bM_work 307 = .ok (.iconst 0, 1) := by decide +kernel
theorem dM_work_308 : decode bM_work 308 = .ok (.iload 5, 2) := by decide +kernel
theorem dM_work_310 : decode bM_work 310 = .ok (.invokevirtual 171, 3) := by decide +kernel
theorem dM_work_313 : decode bM_work 313 = .ok (.return_, 1) := by decide +kernel
theorem dM_shift_0 : decode bM_shift 0 = .ok (.aload_n 0, 1) := by decide +kernel
theorem dM_shift_1 : decode bM_shift 1 = .ok (.getfield 147, 3) := by decide +kernel
theorem dM_shift_4 : decode bM_shift 4 = .ok (.bipush 31, 2) := by decide +kernel
theorem dM_shift_6 : decode bM_shift 6 = .ok (.iand, 1) := by decide +kernel
theorem dM_shift_7 : decode bM_shift 7 = .ok (.istore_n 1, 1) := by decide +kernel
theorem dM_shift_8 : decode bM_shift 8 = .ok (.aload_n 0, 1) := by decide +kernel
theorem dM_shift_9 : decode bM_shift 9 = .ok (.aload_n 0, 1) := by decide +kernel
theorem dM_shift_10 : decode bM_shift 10 = .ok (.getfield 93, 3) := by decide +kernel
theorem dM_shift_13 : decode bM_shift 13 = .ok (.aload_n 0, 1) := by decide +kernel
theorem dM_shift_14 : decode bM_shift 14 = .ok (.getfield 162, 3) := by decide +kernel
theorem dM_shift_17 : decode bM_shift 17 = .ok (.aload_n 0, 1) := by decide +kernel
theorem dM_shift_18 : decode bM_shift 18 = .ok (.getfield 132, 3) := by decide +kernel
theorem dM_shift_21 : decode bM_shift 21 = .ok (.bipush 37, 2) := by decide +kernel
theorem dM_shift_23 : decode bM_shift 23 = .ok (.if_icmp .ne 12, 3) := by decide +kernel
theorem dM_shift_26 : decode bM_shift 26 = .ok (.aload_n 0, 1) := by decide +kernel
theorem dM_shift_27 : decode bM_shift 27 = .ok (.getfield 144, 3) := by decide +kernel
theorem dM_shift_30 : decode bM_shift 30 = .ok (.iload_n 1, 1) := by decide +kernel
theorem dM_shift_31 : decode bM_shift 31 = .ok (.ishl, 1) := by decide +kernel
theorem dM_shift_32 : decode bM_shift 32 = .ok (.goto 27, 3) := by decide +kernel
theorem dM_shift_35 : decode bM_shift 35 = .ok (.aload_n 0, 1) := by decide +kernel
theorem dM_shift_36 : decode bM_shift 36 = .ok (.getfield 132, 3) := by decide +kernel
theorem dM_shift_39 : decode bM_shift 39 = .ok (.bipush 38, 2) := by decide +kernel
theorem dM_shift_41 : decode bM_shift 41 = .ok (.if_icmp .ne 12, 3) := by decide +kernel
theorem dM_shift_44 : decode bM_shift 44 = .ok (.aload_n 0, 1) := by decide +kernel
theorem dM_shift_45 : decode bM_shift 45 = .ok (.getfield 144, 3) := by decide +kernel
theorem dM_shift_48 : decode bM_shift 48 = .ok (.iload_n 1, 1) := by decide +kernel
theorem dM_shift_49 : decode bM_shift 49 = .ok (.iushr, 1) := by decide +kernel
theorem dM_shift_50 : decode bM_shift 50 = .ok (.goto 9, 3) := by decide +kernel
theorem dM_shift_53 : decode bM_shift 53 = .ok (.aload_n 0, 1) := by decide +kernel
theorem dM_shift_54 : decode bM_shift 54 = .ok (.getfield 144, 3) := by decide +kernel
theorem dM_shift_57 : decode bM_shift 57 = .ok (.iload_n 1, 1) := by decide +kernel
theorem dM_shift_58 : decode bM_shift 58 = .ok (.ishr, 1) := by decide +kernel
theorem dM_shift_59 : decode bM_shift 59 = .ok (.invokevirtual 90, 3) := by decide +kernel
theorem dM_shift_62 : decode bM_shift 62 = .ok (.return_, 1) := by decide +kernel
theorem dM_controls_0 : decode bM_controls 0 = .ok (.aload_n 0, 1) := by decide +kernel
theorem dM_controls_1 : decode bM_controls 1 = .ok (.getfield 144, 3) := by decide +kernel
theorem dM_controls_4 : decode bM_controls 4 = .ok (.aload_n 0, 1) := by decide +kernel
theorem dM_controls_5 : decode bM_controls 5 = .ok (.getfield 147, 3) := by decide +kernel
theorem dM_controls_8 : decode bM_controls 8 = .ok (.ixor, 1) := by decide +kernel
theorem dM_controls_9 : decode bM_controls 9 = .ok (.istore_n 1, 1) := by decide +kernel
theorem dM_controls_10 : decode bM_controls 10 = .ok (.aload_n 0, 1) := by decide +kernel
theorem dM_controls_11 : decode bM_controls 11 = .ok (.getfield 132, 3) := by decide +kernel
theorem dM_controls_14 : decode bM_controls 14 = .ok (.bipush 49, 2) := by decide +kernel
theorem dM_controls_16 : decode bM_controls 16 = .ok (.if_icmp .ge 54, 3) := by decide +kernel
theorem dM_controls_19 : decode bM_controls 19 = .ok (.aload_n 0, 1) := by decide +kernel
theorem dM_controls_20 : decode bM_controls 20 = .ok (.aload_n 0, 1) := by decide +kernel
theorem dM_controls_21 : decode bM_controls 21 = .ok (.getfield 93, 3) := by decide +kernel
theorem dM_controls_24 : decode bM_controls 24 = .ok (.aload_n 0, 1) := by decide +kernel
theorem dM_controls_25 : decode bM_controls 25 = .ok (.getfield 162, 3) := by decide +kernel
theorem dM_controls_28 : decode bM_controls 28 = .ok (.aload_n 0, 1) := by decide +kernel
theorem dM_controls_29 : decode bM_controls 29 = .ok (.getfield 132, 3) := by decide +kernel
theorem dM_controls_32 : decode bM_controls 32 = .ok (.bipush 41, 2) := by decide +kernel
theorem dM_controls_34 : decode bM_controls 34 = .ok (.if_icmp .ne 10, 3) := by decide +kernel
theorem dM_controls_37 : decode bM_controls 37 = .ok (.aload_n 0, 1) := by decide +kernel
theorem dM_controls_38 : decode bM_controls 38 = .ok (.invokevirtual 125, 3) := by decide +kernel
theorem dM_controls_41 : decode bM_controls 41 = .ok (.goto 23, 3) := by decide +kernel
theorem dM_controls_44 : decode bM_controls 44 = .ok (.aload_n 0, 1) := by decide +kernel
theorem dM_controls_45 : decode bM_controls 45 = .ok (.getfield 132, 3) := by decide +kernel
theorem dM_controls_48 : decode bM_controls 48 = .ok (.bipush 42, 2) := by decide +kernel
theorem dM_controls_50 : decode bM_controls 50 = .ok (.if_icmp .ne 10, 3) := by decide +kernel
theorem dM_controls_53 : decode bM_controls 53 = .ok (.aload_n 0, 1) := by decide +kernel
theorem dM_controls_54 : decode bM_controls 54 = .ok (.getfield 34, 3) := by decide +kernel
theorem dM_controls_57 : decode bM_controls 57 = .ok (.goto 7, 3) := by decide +kernel
theorem dM_controls_60 : decode bM_controls 60 = .ok (.aload_n 0, 1) := by decide +kernel
theorem dM_controls_61 : decode bM_controls 61 = .ok (.invokevirtual 129, 3) := by decide +kernel
theorem dM_controls_64 : decode bM_controls 64 = .ok (.invokevirtual 90, 3) := by decide +kernel
theorem dM_controls_67 : decode bM_controls 67 = .ok (.goto 50, 3) := by decide +kernel
theorem dM_controls_70 : decode bM_controls 70 = .ok (.aload_n 0, 1) := by decide +kernel
theorem dM_controls_71 : decode bM_controls 71 = .ok (.getfield 132, 3) := by decide +kernel
theorem dM_controls_74 : decode bM_controls 74 = .ok (.bipush 49, 2) := by decide +kernel
theorem dM_controls_76 : decode bM_controls 76 = .ok (.if_icmp .ne 11, 3) := by decide +kernel
theorem dM_controls_79 : decode bM_controls 79 = .ok (.aload_n 0, 1) := by decide +kernel
theorem dM_controls_80 : decode bM_controls 80 = .ok (.iload_n 1, 1) := by decide +kernel
theorem dM_controls_81 : decode bM_controls 81 = .ok (.invokevirtual 30, 3) := by decide +kernel
theorem dM_controls_84 : decode bM_controls 84 = .ok (.goto 33, 3) := by decide +kernel
theorem dM_controls_87 : decode bM_controls 87 = .ok (.aload_n 0, 1) := by decide +kernel
theorem dM_controls_88 : decode bM_controls 88 = .ok (.getfield 132, 3) := by decide +kernel
theorem dM_controls_91 : decode bM_controls 91 = .ok (.bipush 50, 2) := by decide +kernel
theorem dM_controls_93 : decode bM_controls 93 = .ok (.if_icmp .ne 15, 3) := by decide +kernel
theorem dM_controls_96 : decode bM_controls 96 = .ok (.aload_n 0, 1) := by decide +kernel
theorem dM_controls_97 : decode bM_controls 97 = .ok (.iload_n 1, 1) := by decide +kernel
theorem dM_controls_98 : decode bM_controls 98 = .ok (.sipush 255, 3) := by decide +kernel
theorem dM_controls_101 : decode bM_controls 101 = .ok (.iand, 1) := by decide +kernel
theorem dM_controls_102 : decode bM_controls 102 = .ok (.putfield 34, 3) := by decide +kernel
theorem dM_controls_105 : decode bM_controls 105 = .ok (.goto 12, 3) := by decide +kernel
theorem dM_controls_108 : decode bM_controls 108 = .ok (.aload_n 0, 1) := by decide +kernel
theorem dM_controls_109 : decode bM_controls 109 = .ok (.iload_n 1, 1) := by decide +kernel
theorem dM_controls_110 : decode bM_controls 110 = .ok (.sipush (-4096), 3) := by decide +kernel
theorem dM_controls_113 : decode bM_controls 113 = .ok (.iand, 1) := by decide +kernel
theorem dM_controls_114 : decode bM_controls 114 = .ok (.putfield 37, 3) := by decide +kernel
theorem dM_controls_117 : decode bM_controls 117 = .ok (.return_, 1) := by decide +kernel
theorem dM_memory_0 : decode bM_memory 0 = .ok (.aload_n 0, 1) := by decide +kernel
theorem dM_memory_1 : decode bM_memory 1 = .ok (.getfield 132, 3) := by decide +kernel
theorem dM_memory_4 : decode bM_memory 4 = .ok (.invokestatic 135, 3) := by decide +kernel
theorem dM_memory_7 : decode bM_memory 7 = .ok (.istore_n 2, 1) := by decide +kernel
theorem dM_memory_8 : decode bM_memory 8 = .ok (.aload_n 0, 1) := by decide +kernel
theorem dM_memory_9 : decode bM_memory 9 = .ok (.getfield 132, 3) := by decide +kernel
theorem dM_memory_12 : decode bM_memory 12 = .ok (.iconst 4, 1) := by decide +kernel
theorem dM_memory_13 : decode bM_memory 13 = .ok (.if_icmp .eq 20, 3) := by decide +kernel
theorem dM_memory_16 : decode bM_memory 16 = .ok (.aload_n 0, 1) := by decide +kernel
theorem dM_memory_17 : decode bM_memory 17 = .ok (.getfield 132, 3) := by decide +kernel
theorem dM_memory_20 : decode bM_memory 20 = .ok (.iconst 5, 1) := by decide +kernel
theorem dM_memory_21 : decode bM_memory 21 = .ok (.if_icmp .eq 12, 3) := by decide +kernel
theorem dM_memory_24 : decode bM_memory 24 = .ok (.aload_n 0, 1) := by decide +kernel
theorem dM_memory_25 : decode bM_memory 25 = .ok (.getfield 132, 3) := by decide +kernel
theorem dM_memory_28 : decode bM_memory 28 = .ok (.bipush 6, 2) := by decide +kernel
theorem dM_memory_30 : decode bM_memory 30 = .ok (.if_icmp .ne 24, 3) := by decide +kernel
theorem dM_memory_33 : decode bM_memory 33 = .ok (.aload_n 0, 1) := by decide +kernel
theorem dM_memory_34 : decode bM_memory 34 = .ok (.iload_n 1, 1) := by decide +kernel
theorem dM_memory_35 : decode bM_memory 35 = .ok (.iload_n 2, 1) := by decide +kernel
theorem dM_memory_36 : decode bM_memory 36 = .ok (.aload_n 0, 1) := by decide +kernel
theorem dM_memory_37 : decode bM_memory 37 = .ok (.aload_n 0, 1) := by decide +kernel
theorem dM_memory_38 : decode bM_memory 38 = .ok (.getfield 93, 3) := by decide +kernel
theorem dM_memory_41 : decode bM_memory 41 = .ok (.aload_n 0, 1) := by decide +kernel
theorem dM_memory_42 : decode bM_memory 42 = .ok (.getfield 162, 3) := by decide +kernel
theorem dM_memory_45 : decode bM_memory 45 = .ok (.invokevirtual 87, 3) := by decide +kernel
theorem dM_memory_48 : decode bM_memory 48 = .ok (.invokevirtual 77, 3) := by decide +kernel
theorem dM_memory_51 : decode bM_memory 51 = .ok (.goto 253, 3) := by decide +kernel
theorem dM_memory_54 : decode bM_memory 54 = .ok (.aload_n 0, 1) := by decide +kernel
theorem dM_memory_55 : decode bM_memory 55 = .ok (.getfield 132, 3) := by decide +kernel
theorem dM_memory_58 : decode bM_memory 58 = .ok (.bipush 7, 2) := by decide +kernel
theorem dM_memory_60 : decode bM_memory 60 = .ok (.if_icmp .ne 46, 3) := by decide +kernel
theorem dM_memory_63 : decode bM_memory 63 = .ok (.aload_n 0, 1) := by decide +kernel
theorem dM_memory_64 : decode bM_memory 64 = .ok (.iload_n 1, 1) := by decide +kernel
theorem dM_memory_65 : decode bM_memory 65 = .ok (.iconst 4, 1) := by decide +kernel
theorem dM_memory_66 : decode bM_memory 66 = .ok (.aload_n 0, 1) := by decide +kernel
theorem dM_memory_67 : decode bM_memory 67 = .ok (.aload_n 0, 1) := by decide +kernel
theorem dM_memory_68 : decode bM_memory 68 = .ok (.getfield 93, 3) := by decide +kernel
theorem dM_memory_71 : decode bM_memory 71 = .ok (.aload_n 0, 1) := by decide +kernel
theorem dM_memory_72 : decode bM_memory 72 = .ok (.getfield 162, 3) := by decide +kernel
theorem dM_memory_75 : decode bM_memory 75 = .ok (.invokevirtual 87, 3) := by decide +kernel
theorem dM_memory_78 : decode bM_memory 78 = .ok (.invokevirtual 77, 3) := by decide +kernel
theorem dM_memory_81 : decode bM_memory 81 = .ok (.aload_n 0, 1) := by decide +kernel
theorem dM_memory_82 : decode bM_memory 82 = .ok (.iload_n 1, 1) := by decide +kernel
theorem dM_memory_83 : decode bM_memory 83 = .ok (.iconst 4, 1) := by decide +kernel
theorem dM_memory_84 : decode bM_memory 84 = .ok (.iadd, 1) := by decide +kernel
theorem dM_memory_85 : decode bM_memory 85 = .ok (.iconst 4, 1) := by decide +kernel
theorem dM_memory_86 : decode bM_memory 86 = .ok (.aload_n 0, 1) := by decide +kernel
theorem dM_memory_87 : decode bM_memory 87 = .ok (.aload_n 0, 1) := by decide +kernel
theorem dM_memory_88 : decode bM_memory 88 = .ok (.getfield 93, 3) := by decide +kernel
theorem dM_memory_91 : decode bM_memory 91 = .ok (.aload_n 0, 1) := by decide +kernel
theorem dM_memory_92 : decode bM_memory 92 = .ok (.getfield 162, 3) := by decide +kernel
theorem dM_memory_95 : decode bM_memory 95 = .ok (.iconst 1, 1) := by decide +kernel
theorem dM_memory_96 : decode bM_memory 96 = .ok (.iadd, 1) := by decide +kernel
theorem dM_memory_97 : decode bM_memory 97 = .ok (.invokevirtual 87, 3) := by decide +kernel
theorem dM_memory_100 : decode bM_memory 100 = .ok (.invokevirtual 77, 3) := by decide +kernel
theorem dM_memory_103 : decode bM_memory 103 = .ok (.goto 201, 3) := by decide +kernel
theorem dM_memory_106 : decode bM_memory 106 = .ok (.aload_n 0, 1) := by decide +kernel
theorem dM_memory_107 : decode bM_memory 107 = .ok (.getfield 132, 3) := by decide +kernel
theorem dM_memory_110 : decode bM_memory 110 = .ok (.iconst 3, 1) := by decide +kernel
theorem dM_memory_111 : decode bM_memory 111 = .ok (.if_icmp .ne 52, 3) := by decide +kernel
theorem dM_memory_114 : decode bM_memory 114 = .ok (.aload_n 0, 1) := by decide +kernel
theorem dM_memory_115 : decode bM_memory 115 = .ok (.iload_n 1, 1) := by decide +kernel
theorem dM_memory_116 : decode bM_memory 116 = .ok (.iconst 4, 1) := by decide +kernel
theorem dM_memory_117 : decode bM_memory 117 = .ok (.invokevirtual 73, 3) := by decide +kernel
theorem dM_memory_120 : decode bM_memory 120 = .ok (.istore_n 3, 1) := by decide +kernel
theorem dM_memory_121 : decode bM_memory 121 = .ok (.aload_n 0, 1) := by decide +kernel
theorem dM_memory_122 : decode bM_memory 122 = .ok (.iload_n 1, 1) := by decide +kernel
theorem dM_memory_123 : decode bM_memory 123 = .ok (.iconst 4, 1) := by decide +kernel
theorem dM_memory_124 : decode bM_memory 124 = .ok (.iadd, 1) := by decide +kernel
theorem dM_memory_125 : decode bM_memory 125 = .ok (.iconst 4, 1) := by decide +kernel
theorem dM_memory_126 : decode bM_memory 126 = .ok (.invokevirtual 73, 3) := by decide +kernel
theorem dM_memory_129 : decode bM_memory 129 = .ok (.istore 4, 2) := by decide +kernel
theorem dM_memory_131 : decode bM_memory 131 = .ok (.aload_n 0, 1) := by decide +kernel
theorem dM_memory_132 : decode bM_memory 132 = .ok (.aload_n 0, 1) := by decide +kernel
theorem dM_memory_133 : decode bM_memory 133 = .ok (.getfield 93, 3) := by decide +kernel
theorem dM_memory_136 : decode bM_memory 136 = .ok (.aload_n 0, 1) := by decide +kernel
theorem dM_memory_137 : decode bM_memory 137 = .ok (.getfield 162, 3) := by decide +kernel
theorem dM_memory_140 : decode bM_memory 140 = .ok (.iload_n 3, 1) := by decide +kernel
theorem dM_memory_141 : decode bM_memory 141 = .ok (.invokevirtual 90, 3) := by decide +kernel
theorem dM_memory_144 : decode bM_memory 144 = .ok (.aload_n 0, 1) := by decide +kernel
theorem dM_memory_145 : decode bM_memory 145 = .ok (.aload_n 0, 1) := by decide +kernel
theorem dM_memory_146 : decode bM_memory 146 = .ok (.getfield 93, 3) := by decide +kernel
theorem dM_memory_149 : decode bM_memory 149 = .ok (.aload_n 0, 1) := by decide +kernel
theorem dM_memory_150 : decode bM_memory 150 = .ok (.getfield 162, 3) := by decide +kernel
theorem dM_memory_153 : decode bM_memory 153 = .ok (.iconst 1, 1) := by decide +kernel
theorem dM_memory_154 : decode bM_memory 154 = .ok (.iadd, 1) := by decide +kernel
theorem dM_memory_155 : decode bM_memory 155 = .ok (.iload 4, 2) := by decide +kernel
theorem dM_memory_157 : decode bM_memory 157 = .ok (.invokevirtual 90, 3) := by decide +kernel
theorem dM_memory_160 : decode bM_memory 160 = .ok (.goto 144, 3) := by decide +kernel
theorem dM_memory_163 : decode bM_memory 163 = .ok (.aload_n 0, 1) := by decide +kernel
theorem dM_memory_164 : decode bM_memory 164 = .ok (.getfield 132, 3) := by decide +kernel
theorem dM_memory_167 : decode bM_memory 167 = .ok (.bipush 13, 2) := by decide +kernel
theorem dM_memory_169 : decode bM_memory 169 = .ok (.if_icmp .ne 33, 3) := by decide +kernel
theorem dM_memory_172 : decode bM_memory 172 = .ok (.aload_n 0, 1) := by decide +kernel
theorem dM_memory_173 : decode bM_memory 173 = .ok (.aload_n 0, 1) := by decide +kernel
theorem dM_memory_174 : decode bM_memory 174 = .ok (.getfield 93, 3) := by decide +kernel
theorem dM_memory_177 : decode bM_memory 177 = .ok (.aload_n 0, 1) := by decide +kernel
theorem dM_memory_178 : decode bM_memory 178 = .ok (.getfield 162, 3) := by decide +kernel
theorem dM_memory_181 : decode bM_memory 181 = .ok (.aload_n 0, 1) := by decide +kernel
theorem dM_memory_182 : decode bM_memory 182 = .ok (.iload_n 1, 1) := by decide +kernel
theorem dM_memory_183 : decode bM_memory 183 = .ok (.iconst 1, 1) := by decide +kernel
theorem dM_memory_184 : decode bM_memory 184 = .ok (.invokevirtual 73, 3) := by decide +kernel
theorem dM_memory_187 : decode bM_memory 187 = .ok (.invokevirtual 90, 3) := by decide +kernel
theorem dM_memory_190 : decode bM_memory 190 = .ok (.aload_n 0, 1) := by decide +kernel
theorem dM_memory_191 : decode bM_memory 191 = .ok (.iload_n 1, 1) := by decide +kernel
theorem dM_memory_192 : decode bM_memory 192 = .ok (.iconst 1, 1) := by decide +kernel
theorem dM_memory_193 : decode bM_memory 193 = .ok (.sipush 255, 3) := by decide +kernel
theorem dM_memory_196 : decode bM_memory 196 = .ok (.invokevirtual 77, 3) := by decide +kernel
theorem dM_memory_199 : decode bM_memory 199 = .ok (.goto 105, 3) := by decide +kernel
theorem dM_memory_202 : decode bM_memory 202 = .ok (.aload_n 0, 1) := by decide +kernel
theorem dM_memory_203 : decode bM_memory 203 = .ok (.getfield 132, 3) := by decide +kernel
theorem dM_memory_206 : decode bM_memory 206 = .ok (.bipush 15, 2) := by decide +kernel
theorem dM_memory_208 : decode bM_memory 208 = .ok (.if_icmp .ne 44, 3) := by decide +kernel
theorem dM_memory_211 : decode bM_memory 211 = .ok (.aload_n 0, 1) := by decide +kernel
theorem dM_memory_212 : decode bM_memory 212 = .ok (.iload_n 1, 1) := by decide +kernel
theorem dM_memory_213 : decode bM_memory 213 = .ok (.iconst 4, 1) := by decide +kernel
theorem dM_memory_214 : decode bM_memory 214 = .ok (.invokevirtual 73, 3) := by decide +kernel
theorem dM_memory_217 : decode bM_memory 217 = .ok (.istore_n 3, 1) := by decide +kernel
theorem dM_memory_218 : decode bM_memory 218 = .ok (.aload_n 0, 1) := by decide +kernel
theorem dM_memory_219 : decode bM_memory 219 = .ok (.iload_n 1, 1) := by decide +kernel
theorem dM_memory_220 : decode bM_memory 220 = .ok (.iconst 4, 1) := by decide +kernel
theorem dM_memory_221 : decode bM_memory 221 = .ok (.aload_n 0, 1) := by decide +kernel
theorem dM_memory_222 : decode bM_memory 222 = .ok (.aload_n 0, 1) := by decide +kernel
theorem dM_memory_223 : decode bM_memory 223 = .ok (.getfield 93, 3) := by decide +kernel
theorem dM_memory_226 : decode bM_memory 226 = .ok (.aload_n 0, 1) := by decide +kernel
theorem dM_memory_227 : decode bM_memory 227 = .ok (.getfield 162, 3) := by decide +kernel
theorem dM_memory_230 : decode bM_memory 230 = .ok (.invokevirtual 87, 3) := by decide +kernel
theorem dM_memory_233 : decode bM_memory 233 = .ok (.invokevirtual 77, 3) := by decide +kernel
theorem dM_memory_236 : decode bM_memory 236 = .ok (.aload_n 0, 1) := by decide +kernel
theorem dM_memory_237 : decode bM_memory 237 = .ok (.aload_n 0, 1) := by decide +kernel
theorem dM_memory_238 : decode bM_memory 238 = .ok (.getfield 93, 3) := by decide +kernel
theorem dM_memory_241 : decode bM_memory 241 = .ok (.aload_n 0, 1) := by decide +kernel
theorem dM_memory_242 : decode bM_memory 242 = .ok (.getfield 162, 3) := by decide +kernel
theorem dM_memory_245 : decode bM_memory 245 = .ok (.iload_n 3, 1) := by decide +kernel
theorem dM_memory_246 : decode bM_memory 246 = .ok (.invokevirtual 90, 3) := by decide +kernel
theorem dM_memory_249 : decode bM_memory 249 = .ok (.goto 55, 3) := by decide +kernel
theorem dM_memory_252 : decode bM_memory 252 = .ok (.aload_n 0, 1) := by decide +kernel
theorem dM_memory_253 : decode bM_memory 253 = .ok (.aload_n 0, 1) := by decide +kernel
theorem dM_memory_254 : decode bM_memory 254 = .ok (.getfield 93, 3) := by decide +kernel
theorem dM_memory_257 : decode bM_memory 257 = .ok (.aload_n 0, 1) := by decide +kernel
theorem dM_memory_258 : decode bM_memory 258 = .ok (.getfield 162, 3) := by decide +kernel
theorem dM_memory_261 : decode bM_memory 261 = .ok (.aload_n 0, 1) := by decide +kernel
theorem dM_memory_262 : decode bM_memory 262 = .ok (.getfield 132, 3) := by decide +kernel
theorem dM_memory_265 : decode bM_memory 265 = .ok (.bipush 9, 2) := by decide +kernel
theorem dM_memory_267 : decode bM_memory 267 = .ok (.if_icmp .eq 12, 3) := by decide +kernel
theorem dM_memory_270 : decode bM_memory 270 = .ok (.aload_n 0, 1) := by decide +kernel
theorem dM_memory_271 : decode bM_memory 271 = .ok (.getfield 132, 3) := by decide +kernel
theorem dM_memory_274 : decode bM_memory 274 = .ok (.bipush 10, 2) := by decide +kernel
theorem dM_memory_276 : decode bM_memory 276 = .ok (.if_icmp .ne 19, 3) := by decide +kernel
theorem dM_memory_279 : decode bM_memory 279 = .ok (.aload_n 0, 1) := by decide +kernel
theorem dM_memory_280 : decode bM_memory 280 = .ok (.iload_n 1, 1) := by decide +kernel
theorem dM_memory_281 : decode bM_memory 281 = .ok (.iload_n 2, 1) := by decide +kernel
theorem dM_memory_282 : decode bM_memory 282 = .ok (.invokevirtual 73, 3) := by decide +kernel
theorem dM_memory_285 : decode bM_memory 285 = .ok (.bipush 8, 2) := by decide +kernel
theorem dM_memory_287 : decode bM_memory 287 = .ok (.iload_n 2, 1) := by decide +kernel
theorem dM_memory_288 : decode bM_memory 288 = .ok (.imul, 1) := by decide +kernel
theorem dM_memory_289 : decode bM_memory 289 = .ok (.invokestatic 175, 3) := by decide +kernel
theorem dM_memory_292 : decode bM_memory 292 = .ok (.goto 9, 3) := by decide +kernel
theorem dM_memory_295 : decode bM_memory 295 = .ok (.aload_n 0, 1) := by decide +kernel
theorem dM_memory_296 : decode bM_memory 296 = .ok (.iload_n 1, 1) := by decide +kernel
theorem dM_memory_297 : decode bM_memory 297 = .ok (.iload_n 2, 1) := by decide +kernel
theorem dM_memory_298 : decode bM_memory 298 = .ok (.invokevirtual 73, 3) := by decide +kernel
theorem dM_memory_301 : decode bM_memory 301 = .ok (.invokevirtual 90, 3) := by decide +kernel
theorem dM_memory_304 : decode bM_memory 304 = .ok (.return_, 1) := by decide +kernel
theorem dM_simple_0 : decode bM_simple 0 = .ok (.iload_n 1, 1) := by decide +kernel
theorem dM_simple_1 : decode bM_simple 1 = .ok (.iconst 1, 1) := by decide +kernel
theorem dM_simple_2 : decode bM_simple 2 = .ok (.if_icmp .ne 35, 3) := by decide +kernel
theorem dM_simple_5 : decode bM_simple 5 = .ok (.aload_n 0, 1) := by decide +kernel
theorem dM_simple_6 : decode bM_simple 6 = .ok (.aload_n 0, 1) := by decide +kernel
theorem dM_simple_7 : decode bM_simple 7 = .ok (.getfield 93, 3) := by decide +kernel
theorem dM_simple_10 : decode bM_simple 10 = .ok (.bipush 15, 2) := by decide +kernel
theorem dM_simple_12 : decode bM_simple 12 = .ok (.aload_n 0, 1) := by decide +kernel
theorem dM_simple_13 : decode bM_simple 13 = .ok (.getfield 43, 3) := by decide +kernel
theorem dM_simple_16 : decode bM_simple 16 = .ok (.invokevirtual 90, 3) := by decide +kernel
theorem dM_simple_19 : decode bM_simple 19 = .ok (.aload_n 0, 1) := by decide +kernel
theorem dM_simple_20 : decode bM_simple 20 = .ok (.aload_n 0, 1) := by decide +kernel
theorem dM_simple_21 : decode bM_simple 21 = .ok (.getfield 43, 3) := by decide +kernel
theorem dM_simple_24 : decode bM_simple 24 = .ok (.aload_n 0, 1) := by decide +kernel
theorem dM_simple_25 : decode bM_simple 25 = .ok (.getfield 150, 3) := by decide +kernel
theorem dM_simple_28 : decode bM_simple 28 = .ok (.iconst 2, 1) := by decide +kernel
theorem dM_simple_29 : decode bM_simple 29 = .ok (.ishl, 1) := by decide +kernel
theorem dM_simple_30 : decode bM_simple 30 = .ok (.iadd, 1) := by decide +kernel
theorem dM_simple_31 : decode bM_simple 31 = .ok (.putfield 178, 3) := by decide +kernel
theorem dM_simple_34 : decode bM_simple 34 = .ok (.goto 113, 3) := by decide +kernel
theorem dM_simple_37 : decode bM_simple 37 = .ok (.aload_n 0, 1) := by decide +kernel
theorem dM_simple_38 : decode bM_simple 38 = .ok (.getfield 132, 3) := by decide +kernel
theorem dM_simple_41 : decode bM_simple 41 = .ok (.iconst 4, 1) := by decide +kernel
theorem dM_simple_42 : decode bM_simple 42 = .ok (.if_icmp .ne 25, 3) := by decide +kernel
theorem dM_simple_45 : decode bM_simple 45 = .ok (.aload_n 0, 1) := by decide +kernel
theorem dM_simple_46 : decode bM_simple 46 = .ok (.aload_n 0, 1) := by decide +kernel
theorem dM_simple_47 : decode bM_simple 47 = .ok (.getfield 93, 3) := by decide +kernel
theorem dM_simple_50 : decode bM_simple 50 = .ok (.aload_n 0, 1) := by decide +kernel
theorem dM_simple_51 : decode bM_simple 51 = .ok (.getfield 162, 3) := by decide +kernel
theorem dM_simple_54 : decode bM_simple 54 = .ok (.aload_n 0, 1) := by decide +kernel
theorem dM_simple_55 : decode bM_simple 55 = .ok (.getfield 150, 3) := by decide +kernel
theorem dM_simple_58 : decode bM_simple 58 = .ok (.bipush 10, 2) := by decide +kernel
theorem dM_simple_60 : decode bM_simple 60 = .ok (.ishl, 1) := by decide +kernel
theorem dM_simple_61 : decode bM_simple 61 = .ok (.invokevirtual 90, 3) := by decide +kernel
theorem dM_simple_64 : decode bM_simple 64 = .ok (.goto 83, 3) := by decide +kernel
theorem dM_simple_67 : decode bM_simple 67 = .ok (.aload_n 0, 1) := by decide +kernel
theorem dM_simple_68 : decode bM_simple 68 = .ok (.getfield 150, 3) := by decide +kernel
theorem dM_simple_71 : decode bM_simple 71 = .ok (.bipush 25, 2) := by decide +kernel
theorem dM_simple_73 : decode bM_simple 73 = .ok (.ishr, 1) := by decide +kernel
theorem dM_simple_74 : decode bM_simple 74 = .ok (.bipush 15, 2) := by decide +kernel
theorem dM_simple_76 : decode bM_simple 76 = .ok (.iand, 1) := by decide +kernel
theorem dM_simple_77 : decode bM_simple 77 = .ok (.istore_n 2, 1) := by decide +kernel
theorem dM_simple_78 : decode bM_simple 78 = .ok (.aload_n 0, 1) := by decide +kernel
theorem dM_simple_79 : decode bM_simple 79 = .ok (.iload_n 2, 1) := by decide +kernel
theorem dM_simple_80 : decode bM_simple 80 = .ok (.invokevirtual 153, 3) := by decide +kernel
theorem dM_simple_83 : decode bM_simple 83 = .ok (.istore_n 3, 1) := by decide +kernel
theorem dM_simple_84 : decode bM_simple 84 = .ok (.aload_n 0, 1) := by decide +kernel
theorem dM_simple_85 : decode bM_simple 85 = .ok (.iload_n 3, 1) := by decide +kernel
theorem dM_simple_86 : decode bM_simple 86 = .ok (.ifCond .eq 22, 3) := by decide +kernel
theorem dM_simple_89 : decode bM_simple 89 = .ok (.aload_n 0, 1) := by decide +kernel
theorem dM_simple_90 : decode bM_simple 90 = .ok (.getfield 43, 3) := by decide +kernel
theorem dM_simple_93 : decode bM_simple 93 = .ok (.iconst 4, 1) := by decide +kernel
theorem dM_simple_94 : decode bM_simple 94 = .ok (.aload_n 0, 1) := by decide +kernel
theorem dM_simple_95 : decode bM_simple 95 = .ok (.getfield 150, 3) := by decide +kernel
theorem dM_simple_98 : decode bM_simple 98 = .ok (.bipush 22, 2) := by decide +kernel
theorem dM_simple_100 : decode bM_simple 100 = .ok (.invokestatic 175, 3) := by decide +kernel
theorem dM_simple_103 : decode bM_simple 103 = .ok (.imul, 1) := by decide +kernel
theorem dM_simple_104 : decode bM_simple 104 = .ok (.iadd, 1) := by decide +kernel
theorem dM_simple_105 : decode bM_simple 105 = .ok (.goto 7, 3) := by decide +kernel
theorem dM_simple_108 : decode bM_simple 108 = .ok (.aload_n 0, 1) := by decide +kernel
theorem dM_simple_109 : decode bM_simple 109 = .ok (.getfield 178, 3) := by decide +kernel
theorem dM_simple_112 : decode bM_simple 112 = .ok (.putfield 178, 3) := by decide +kernel
theorem dM_simple_115 : decode bM_simple 115 = .ok (.aload_n 0, 1) := by decide +kernel
theorem dM_simple_116 : decode bM_simple 116 = .ok (.iload_n 3, 1) := by decide +kernel
theorem dM_simple_117 : decode bM_simple 117 = .ok (.ifCond .eq 9, 3) := by decide +kernel
theorem dM_simple_120 : decode bM_simple 120 = .ok (.iload_n 2, 1) := by decide +kernel
theorem dM_simple_121 : decode bM_simple 121 = .ok (.bipush 8, 2) := by decide +kernel
theorem dM_simple_123 : decode bM_simple 123 = .ok (.if_icmp .ne 20, 3) := by decide +kernel
theorem dM_simple_126 : decode bM_simple 126 = .ok (.aload_n 0, 1) := by decide +kernel
theorem dM_simple_127 : decode bM_simple 127 = .ok (.getfield 150, 3) := by decide +kernel
theorem dM_simple_130 : decode bM_simple 130 = .ok (.bipush 29, 2) := by decide +kernel
theorem dM_simple_132 : decode bM_simple 132 = .ok (.ishr, 1) := by decide +kernel
theorem dM_simple_133 : decode bM_simple 133 = .ok (.iconst 1, 1) := by decide +kernel
theorem dM_simple_134 : decode bM_simple 134 = .ok (.iand, 1) := by decide +kernel
theorem dM_simple_135 : decode bM_simple 135 = .ok (.iconst 1, 1) := by decide +kernel
theorem dM_simple_136 : decode bM_simple 136 = .ok (.if_icmp .ne 7, 3) := by decide +kernel
theorem dM_simple_139 : decode bM_simple 139 = .ok (.iconst 1, 1) := by decide +kernel
theorem dM_simple_140 : decode bM_simple 140 = .ok (.goto 4, 3) := by decide +kernel
theorem dM_simple_143 : decode bM_simple 143 = .ok (.iconst 0, 1) := by decide +kernel
theorem dM_simple_144 : decode bM_simple 144 = .ok (.putfield 46, 3) := by decide +kernel
theorem dM_simple_147 : decode bM_simple 147 = .ok (.return_, 1) := by decide +kernel
theorem dM_go_0 : decode bM_go 0 = .ok (.aload_n 0, 1) := by decide +kernel
theorem dM_go_1 : decode bM_go 1 = .ok (.getfield 132, 3) := by decide +kernel
theorem dM_go_4 : decode bM_go 4 = .ok (.bipush 56, 2) := by decide +kernel
theorem dM_go_6 : decode bM_go 6 = .ok (.if_icmp .ne 27, 3) := by decide +kernel
theorem dM_go_9 : decode bM_go 9 = .ok (.aload_n 0, 1) := by decide +kernel
theorem dM_go_10 : decode bM_go 10 = .ok (.aload_n 0, 1) := by decide +kernel
theorem dM_go_11 : decode bM_go 11 = .ok (.getfield 93, 3) := by decide +kernel
theorem dM_go_14 : decode bM_go 14 = .ok (.aload_n 0, 1) := by decide +kernel
theorem dM_go_15 : decode bM_go 15 = .ok (.getfield 162, 3) := by decide +kernel
theorem dM_go_18 : decode bM_go 18 = .ok (.aload_n 0, 1) := by decide +kernel
theorem dM_go_19 : decode bM_go 19 = .ok (.getfield 43, 3) := by decide +kernel
theorem dM_go_22 : decode bM_go 22 = .ok (.invokevirtual 90, 3) := by decide +kernel
theorem dM_go_25 : decode bM_go 25 = .ok (.aload_n 0, 1) := by decide +kernel
theorem dM_go_26 : decode bM_go 26 = .ok (.iload_n 1, 1) := by decide +kernel
theorem dM_go_27 : decode bM_go 27 = .ok (.putfield 178, 3) := by decide +kernel
theorem dM_go_30 : decode bM_go 30 = .ok (.goto 112, 3) := by decide +kernel
theorem dM_go_33 : decode bM_go 33 = .ok (.aload_n 0, 1) := by decide +kernel
theorem dM_go_34 : decode bM_go 34 = .ok (.getfield 132, 3) := by decide +kernel
theorem dM_go_37 : decode bM_go 37 = .ok (.bipush 60, 2) := by decide +kernel
theorem dM_go_39 : decode bM_go 39 = .ok (.if_icmp .eq 12, 3) := by decide +kernel
theorem dM_go_42 : decode bM_go 42 = .ok (.aload_n 0, 1) := by decide +kernel
theorem dM_go_43 : decode bM_go 43 = .ok (.getfield 132, 3) := by decide +kernel
theorem dM_go_46 : decode bM_go 46 = .ok (.bipush 61, 2) := by decide +kernel
theorem dM_go_48 : decode bM_go 48 = .ok (.if_icmp .ne 54, 3) := by decide +kernel
theorem dM_go_51 : decode bM_go 51 = .ok (.aload_n 0, 1) := by decide +kernel
theorem dM_go_52 : decode bM_go 52 = .ok (.aload_n 0, 1) := by decide +kernel
theorem dM_go_53 : decode bM_go 53 = .ok (.getfield 132, 3) := by decide +kernel
theorem dM_go_56 : decode bM_go 56 = .ok (.bipush 60, 2) := by decide +kernel
theorem dM_go_58 : decode bM_go 58 = .ok (.if_icmp .ne 16, 3) := by decide +kernel
theorem dM_go_61 : decode bM_go 61 = .ok (.aload_n 0, 1) := by decide +kernel
theorem dM_go_62 : decode bM_go 62 = .ok (.getfield 93, 3) := by decide +kernel
theorem dM_go_65 : decode bM_go 65 = .ok (.bipush 7, 2) := by decide +kernel
theorem dM_go_67 : decode bM_go 67 = .ok (.iadd, 1) := by decide +kernel
theorem dM_go_68 : decode bM_go 68 = .ok (.bipush 8, 2) := by decide +kernel
theorem dM_go_70 : decode bM_go 70 = .ok (.irem, 1) := by decide +kernel
theorem dM_go_71 : decode bM_go 71 = .ok (.goto 12, 3) := by decide +kernel
theorem dM_go_74 : decode bM_go 74 = .ok (.aload_n 0, 1) := by decide +kernel
theorem dM_go_75 : decode bM_go 75 = .ok (.getfield 93, 3) := by decide +kernel
theorem dM_go_78 : decode bM_go 78 = .ok (.iconst 1, 1) := by decide +kernel
theorem dM_go_79 : decode bM_go 79 = .ok (.iadd, 1) := by decide +kernel
theorem dM_go_80 : decode bM_go 80 = .ok (.bipush 8, 2) := by decide +kernel
theorem dM_go_82 : decode bM_go 82 = .ok (.irem, 1) := by decide +kernel
theorem dM_go_83 : decode bM_go 83 = .ok (.putfield 93, 3) := by decide +kernel
theorem dM_go_86 : decode bM_go 86 = .ok (.aload_n 0, 1) := by decide +kernel
theorem dM_go_87 : decode bM_go 87 = .ok (.aload_n 0, 1) := by decide +kernel
theorem dM_go_88 : decode bM_go 88 = .ok (.getfield 93, 3) := by decide +kernel
theorem dM_go_91 : decode bM_go 91 = .ok (.aload_n 0, 1) := by decide +kernel
theorem dM_go_92 : decode bM_go 92 = .ok (.getfield 162, 3) := by decide +kernel
theorem dM_go_95 : decode bM_go 95 = .ok (.iload_n 1, 1) := by decide +kernel
theorem dM_go_96 : decode bM_go 96 = .ok (.invokevirtual 90, 3) := by decide +kernel
theorem dM_go_99 : decode bM_go 99 = .ok (.goto 43, 3) := by decide +kernel
theorem dM_go_102 : decode bM_go 102 = .ok (.aload_n 0, 1) := by decide +kernel
theorem dM_go_103 : decode bM_go 103 = .ok (.getfield 132, 3) := by decide +kernel
theorem dM_go_106 : decode bM_go 106 = .ok (.bipush 57, 2) := by decide +kernel
theorem dM_go_108 : decode bM_go 108 = .ok (.if_icmp .ne 34, 3) := by decide +kernel
theorem dM_go_111 : decode bM_go 111 = .ok (.aload_n 0, 1) := by decide +kernel
theorem dM_go_112 : decode bM_go 112 = .ok (.iload_n 1, 1) := by decide +kernel
theorem dM_go_113 : decode bM_go 113 = .ok (.putfield 178, 3) := by decide +kernel
theorem dM_go_116 : decode bM_go 116 = .ok (.aload_n 0, 1) := by decide +kernel
theorem dM_go_117 : decode bM_go 117 = .ok (.aload_n 0, 1) := by decide +kernel
theorem dM_go_118 : decode bM_go 118 = .ok (.getfield 93, 3) := by decide +kernel
theorem dM_go_121 : decode bM_go 121 = .ok (.iconst 1, 1) := by decide +kernel
theorem dM_go_122 : decode bM_go 122 = .ok (.iadd, 1) := by decide +kernel
theorem dM_go_123 : decode bM_go 123 = .ok (.bipush 8, 2) := by decide +kernel
theorem dM_go_125 : decode bM_go 125 = .ok (.irem, 1) := by decide +kernel
theorem dM_go_126 : decode bM_go 126 = .ok (.putfield 93, 3) := by decide +kernel
theorem dM_go_129 : decode bM_go 129 = .ok (.aload_n 0, 1) := by decide +kernel
theorem dM_go_130 : decode bM_go 130 = .ok (.iconst 1, 1) := by decide +kernel
theorem dM_go_131 : decode bM_go 131 = .ok (.putfield 96, 3) := by decide +kernel
theorem dM_go_134 : decode bM_go 134 = .ok (.aload_n 0, 1) := by decide +kernel
theorem dM_go_135 : decode bM_go 135 = .ok (.aload_n 0, 1) := by decide +kernel
theorem dM_go_136 : decode bM_go 136 = .ok (.getfield 103, 3) := by decide +kernel
theorem dM_go_139 : decode bM_go 139 = .ok (.putfield 19, 3) := by decide +kernel
theorem dM_go_142 : decode bM_go 142 = .ok (.return_, 1) := by decide +kernel
theorem dM_act_0 : decode bM_act 0 = .ok (.iload_n 1, 1) := by decide +kernel
theorem dM_act_1 : decode bM_act 1 = .ok (.iconst 2, 1) := by decide +kernel
theorem dM_act_2 : decode bM_act 2 = .ok (.if_icmp .ge 11, 3) := by decide +kernel
theorem dM_act_5 : decode bM_act 5 = .ok (.aload_n 0, 1) := by decide +kernel
theorem dM_act_6 : decode bM_act 6 = .ok (.iload_n 1, 1) := by decide +kernel
theorem dM_act_7 : decode bM_act 7 = .ok (.invokevirtual 181, 3) := by decide +kernel
theorem dM_act_10 : decode bM_act 10 = .ok (.goto 87, 3) := by decide +kernel
theorem dM_act_13 : decode bM_act 13 = .ok (.iload_n 1, 1) := by decide +kernel
theorem dM_act_14 : decode bM_act 14 = .ok (.iconst 3, 1) := by decide +kernel
theorem dM_act_15 : decode bM_act 15 = .ok (.if_icmp .ne 19, 3) := by decide +kernel
theorem dM_act_18 : decode bM_act 18 = .ok (.aload_n 0, 1) := by decide +kernel
theorem dM_act_19 : decode bM_act 19 = .ok (.aload_n 0, 1) := by decide +kernel
theorem dM_act_20 : decode bM_act 20 = .ok (.getfield 144, 3) := by decide +kernel
theorem dM_act_23 : decode bM_act 23 = .ok (.aload_n 0, 1) := by decide +kernel
theorem dM_act_24 : decode bM_act 24 = .ok (.getfield 147, 3) := by decide +kernel
theorem dM_act_27 : decode bM_act 27 = .ok (.iadd, 1) := by decide +kernel
theorem dM_act_28 : decode bM_act 28 = .ok (.invokevirtual 184, 3) := by decide +kernel
theorem dM_act_31 : decode bM_act 31 = .ok (.goto 66, 3) := by decide +kernel
theorem dM_act_34 : decode bM_act 34 = .ok (.aload_n 0, 1) := by decide +kernel
theorem dM_act_35 : decode bM_act 35 = .ok (.getfield 132, 3) := by decide +kernel
theorem dM_act_38 : decode bM_act 38 = .ok (.invokestatic 138, 3) := by decide +kernel
theorem dM_act_41 : decode bM_act 41 = .ok (.ifCond .eq 26, 3) := by decide +kernel
theorem dM_act_44 : decode bM_act 44 = .ok (.aload_n 0, 1) := by decide +kernel
theorem dM_act_45 : decode bM_act 45 = .ok (.getfield 132, 3) := by decide +kernel
theorem dM_act_48 : decode bM_act 48 = .ok (.bipush 36, 2) := by decide +kernel
theorem dM_act_50 : decode bM_act 50 = .ok (.if_icmp .le 10, 3) := by decide +kernel
theorem dM_act_53 : decode bM_act 53 = .ok (.aload_n 0, 1) := by decide +kernel
theorem dM_act_54 : decode bM_act 54 = .ok (.invokevirtual 187, 3) := by decide +kernel
theorem dM_act_57 : decode bM_act 57 = .ok (.goto 40, 3) := by decide +kernel
theorem dM_act_60 : decode bM_act 60 = .ok (.aload_n 0, 1) := by decide +kernel
theorem dM_act_61 : decode bM_act 61 = .ok (.invokevirtual 190, 3) := by decide +kernel
theorem dM_act_64 : decode bM_act 64 = .ok (.goto 33, 3) := by decide +kernel
theorem dM_act_67 : decode bM_act 67 = .ok (.aload_n 0, 1) := by decide +kernel
theorem dM_act_68 : decode bM_act 68 = .ok (.getfield 132, 3) := by decide +kernel
theorem dM_act_71 : decode bM_act 71 = .ok (.invokestatic 141, 3) := by decide +kernel
theorem dM_act_74 : decode bM_act 74 = .ok (.ifCond .eq 10, 3) := by decide +kernel
theorem dM_act_77 : decode bM_act 77 = .ok (.aload_n 0, 1) := by decide +kernel
theorem dM_act_78 : decode bM_act 78 = .ok (.invokevirtual 193, 3) := by decide +kernel
theorem dM_act_81 : decode bM_act 81 = .ok (.goto 16, 3) := by decide +kernel
theorem dM_act_84 : decode bM_act 84 = .ok (.aload_n 0, 1) := by decide +kernel
theorem dM_act_85 : decode bM_act 85 = .ok (.aload_n 0, 1) := by decide +kernel
theorem dM_act_86 : decode bM_act 86 = .ok (.getfield 144, 3) := by decide +kernel
theorem dM_act_89 : decode bM_act 89 = .ok (.aload_n 0, 1) := by decide +kernel
theorem dM_act_90 : decode bM_act 90 = .ok (.getfield 147, 3) := by decide +kernel
theorem dM_act_93 : decode bM_act 93 = .ok (.iadd, 1) := by decide +kernel
theorem dM_act_94 : decode bM_act 94 = .ok (.invokevirtual 196, 3) := by decide +kernel
theorem dM_act_97 : decode bM_act 97 = .ok (.return_, 1) := by decide +kernel
theorem dM_trap_0 : decode bM_trap 0 = .ok (.aload_n 0, 1) := by decide +kernel
theorem dM_trap_1 : decode bM_trap 1 = .ok (.dup, 1) := by decide +kernel
theorem dM_trap_2 : decode bM_trap 2 = .ok (.getfield 58, 3) := by decide +kernel
theorem dM_trap_5 : decode bM_trap 5 = .ok (.iconst 1, 1) := by decide +kernel
theorem dM_trap_6 : decode bM_trap 6 = .ok (.iadd, 1) := by decide +kernel
theorem dM_trap_7 : decode bM_trap 7 = .ok (.putfield 58, 3) := by decide +kernel
theorem dM_trap_10 : decode bM_trap 10 = .ok (.aload_n 0, 1) := by decide +kernel
theorem dM_trap_11 : decode bM_trap 11 = .ok (.getfield 96, 3) := by decide +kernel
theorem dM_trap_14 : decode bM_trap 14 = .ok (.ifCond .ne 10, 3) := by decide +kernel
theorem dM_trap_17 : decode bM_trap 17 = .ok (.aload_n 0, 1) := by decide +kernel
theorem dM_trap_18 : decode bM_trap 18 = .ok (.iconst 1, 1) := by decide +kernel
theorem dM_trap_19 : decode bM_trap 19 = .ok (.putfield 49, 3) := by decide +kernel
theorem dM_trap_22 : decode bM_trap 22 = .ok (.iconst 2, 1) := by decide +kernel
theorem dM_trap_23 : decode bM_trap 23 = .ok (.ireturn, 1) := by decide +kernel
theorem dM_trap_24 : decode bM_trap 24 = .ok (.aload_n 0, 1) := by decide +kernel
theorem dM_trap_25 : decode bM_trap 25 = .ok (.iconst 0, 1) := by decide +kernel
theorem dM_trap_26 : decode bM_trap 26 = .ok (.putfield 96, 3) := by decide +kernel
theorem dM_trap_29 : decode bM_trap 29 = .ok (.aload_n 0, 1) := by decide +kernel
theorem dM_trap_30 : decode bM_trap 30 = .ok (.aload_n 0, 1) := by decide +kernel
theorem dM_trap_31 : decode bM_trap 31 = .ok (.getfield 19, 3) := by decide +kernel
theorem dM_trap_34 : decode bM_trap 34 = .ok (.putfield 103, 3) := by decide +kernel
theorem dM_trap_37 : decode bM_trap 37 = .ok (.aload_n 0, 1) := by decide +kernel
theorem dM_trap_38 : decode bM_trap 38 = .ok (.iconst 1, 1) := by decide +kernel
theorem dM_trap_39 : decode bM_trap 39 = .ok (.putfield 19, 3) := by decide +kernel
theorem dM_trap_42 : decode bM_trap 42 = .ok (.aload_n 0, 1) := by decide +kernel
theorem dM_trap_43 : decode bM_trap 43 = .ok (.aload_n 0, 1) := by decide +kernel
theorem dM_trap_44 : decode bM_trap 44 = .ok (.getfield 93, 3) := by decide +kernel
theorem dM_trap_47 : decode bM_trap 47 = .ok (.bipush 7, 2) := by decide +kernel
theorem dM_trap_49 : decode bM_trap 49 = .ok (.iadd, 1) := by decide +kernel
theorem dM_trap_50 : decode bM_trap 50 = .ok (.bipush 8, 2) := by decide +kernel
theorem dM_trap_52 : decode bM_trap 52 = .ok (.irem, 1) := by decide +kernel
theorem dM_trap_53 : decode bM_trap 53 = .ok (.putfield 93, 3) := by decide +kernel
theorem dM_trap_56 : decode bM_trap 56 = .ok (.aload_n 0, 1) := by decide +kernel
theorem dM_trap_57 : decode bM_trap 57 = .ok (.aload_n 0, 1) := by decide +kernel
theorem dM_trap_58 : decode bM_trap 58 = .ok (.getfield 93, 3) := by decide +kernel
theorem dM_trap_61 : decode bM_trap 61 = .ok (.bipush 17, 2) := by decide +kernel
theorem dM_trap_63 : decode bM_trap 63 = .ok (.aload_n 0, 1) := by decide +kernel
theorem dM_trap_64 : decode bM_trap 64 = .ok (.getfield 43, 3) := by decide +kernel
theorem dM_trap_67 : decode bM_trap 67 = .ok (.invokevirtual 90, 3) := by decide +kernel
theorem dM_trap_70 : decode bM_trap 70 = .ok (.aload_n 0, 1) := by decide +kernel
theorem dM_trap_71 : decode bM_trap 71 = .ok (.aload_n 0, 1) := by decide +kernel
theorem dM_trap_72 : decode bM_trap 72 = .ok (.getfield 93, 3) := by decide +kernel
theorem dM_trap_75 : decode bM_trap 75 = .ok (.bipush 18, 2) := by decide +kernel
theorem dM_trap_77 : decode bM_trap 77 = .ok (.aload_n 0, 1) := by decide +kernel
theorem dM_trap_78 : decode bM_trap 78 = .ok (.getfield 23, 3) := by decide +kernel
theorem dM_trap_81 : decode bM_trap 81 = .ok (.invokevirtual 90, 3) := by decide +kernel
theorem dM_trap_84 : decode bM_trap 84 = .ok (.aload_n 0, 1) := by decide +kernel
theorem dM_trap_85 : decode bM_trap 85 = .ok (.iload_n 1, 1) := by decide +kernel
theorem dM_trap_86 : decode bM_trap 86 = .ok (.putfield 40, 3) := by decide +kernel
theorem dM_trap_89 : decode bM_trap 89 = .ok (.aload_n 0, 1) := by decide +kernel
theorem dM_trap_90 : decode bM_trap 90 = .ok (.aload_n 0, 1) := by decide +kernel
theorem dM_trap_91 : decode bM_trap 91 = .ok (.invokevirtual 129, 3) := by decide +kernel
theorem dM_trap_94 : decode bM_trap 94 = .ok (.putfield 43, 3) := by decide +kernel
theorem dM_trap_97 : decode bM_trap 97 = .ok (.aload_n 0, 1) := by decide +kernel
theorem dM_trap_98 : decode bM_trap 98 = .ok (.aload_n 0, 1) := by decide +kernel
theorem dM_trap_99 : decode bM_trap 99 = .ok (.getfield 43, 3) := by decide +kernel
theorem dM_trap_102 : decode bM_trap 102 = .ok (.iconst 4, 1) := by decide +kernel
theorem dM_trap_103 : decode bM_trap 103 = .ok (.iadd, 1) := by decide +kernel
theorem dM_trap_104 : decode bM_trap 104 = .ok (.putfield 23, 3) := by decide +kernel
theorem dM_trap_107 : decode bM_trap 107 = .ok (.bipush 100, 2) := by decide +kernel
theorem dM_trap_109 : decode bM_trap 109 = .ok (.iload_n 1, 1) := by decide +kernel
theorem dM_trap_110 : decode bM_trap 110 = .ok (.iadd, 1) := by decide +kernel
theorem dM_trap_111 : decode bM_trap 111 = .ok (.ireturn, 1) := by decide +kernel
theorem dM_fails_0 : decode bM_fails 0 = .ok (.aload_n 0, 1) := by decide +kernel
theorem dM_fails_1 : decode bM_fails 1 = .ok (.getfield 19, 3) := by decide +kernel
theorem dM_fails_4 : decode bM_fails 4 = .ok (.ifCond .eq 37, 3) := by decide +kernel
theorem dM_fails_7 : decode bM_fails 7 = .ok (.aload_n 0, 1) := by decide +kernel
theorem dM_fails_8 : decode bM_fails 8 = .ok (.getfield 34, 3) := by decide +kernel
theorem dM_fails_11 : decode bM_fails 11 = .ok (.aload_n 0, 1) := by decide +kernel
theorem dM_fails_12 : decode bM_fails 12 = .ok (.getfield 93, 3) := by decide +kernel
theorem dM_fails_15 : decode bM_fails 15 = .ok (.iconst 1, 1) := by decide +kernel
theorem dM_fails_16 : decode bM_fails 16 = .ok (.iadd, 1) := by decide +kernel
theorem dM_fails_17 : decode bM_fails 17 = .ok (.bipush 8, 2) := by decide +kernel
theorem dM_fails_19 : decode bM_fails 19 = .ok (.irem, 1) := by decide +kernel
theorem dM_fails_20 : decode bM_fails 20 = .ok (.ishr, 1) := by decide +kernel
theorem dM_fails_21 : decode bM_fails 21 = .ok (.iconst 1, 1) := by decide +kernel
theorem dM_fails_22 : decode bM_fails 22 = .ok (.iand, 1) := by decide +kernel
theorem dM_fails_23 : decode bM_fails 23 = .ok (.iconst 1, 1) := by decide +kernel
theorem dM_fails_24 : decode bM_fails 24 = .ok (.if_icmp .eq 17, 3) := by decide +kernel
theorem dM_fails_27 : decode bM_fails 27 = .ok (.aload_n 0, 1) := by decide +kernel
theorem dM_fails_28 : decode bM_fails 28 = .ok (.getfield 144, 3) := by decide +kernel
theorem dM_fails_31 : decode bM_fails 31 = .ok (.aload_n 0, 1) := by decide +kernel
theorem dM_fails_32 : decode bM_fails 32 = .ok (.getfield 147, 3) := by decide +kernel
theorem dM_fails_35 : decode bM_fails 35 = .ok (.iadd, 1) := by decide +kernel
theorem dM_fails_36 : decode bM_fails 36 = .ok (.iconst 3, 1) := by decide +kernel
theorem dM_fails_37 : decode bM_fails 37 = .ok (.iand, 1) := by decide +kernel
theorem dM_fails_38 : decode bM_fails 38 = .ok (.ifCond .eq 7, 3) := by decide +kernel
theorem dM_fails_41 : decode bM_fails 41 = .ok (.iconst 1, 1) := by decide +kernel
theorem dM_fails_42 : decode bM_fails 42 = .ok (.goto 4, 3) := by decide +kernel
theorem dM_fails_45 : decode bM_fails 45 = .ok (.iconst 0, 1) := by decide +kernel
theorem dM_fails_46 : decode bM_fails 46 = .ok (.ireturn, 1) := by decide +kernel
