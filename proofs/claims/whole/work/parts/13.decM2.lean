/-! decode rows: laid by my program out of the listing -/
theorem dM_oneStep_0 : decode bM_oneStep 0 = .ok (.aload_n 0, 1) := by decide +kernel
theorem dM_oneStep_1 : decode bM_oneStep 1 = .ok (.getfield 49, 3) := by decide +kernel
theorem dM_oneStep_4 : decode bM_oneStep 4 = .ok (.ifCond .eq 5, 3) := by decide +kernel
theorem dM_oneStep_7 : decode bM_oneStep 7 = .ok (.iconst 2, 1) := by decide +kernel
theorem dM_oneStep_8 : decode bM_oneStep 8 = .ok (.ireturn, 1) := by decide +kernel
theorem dM_oneStep_9 : decode bM_oneStep 9 = .ok (.aload_n 0, 1) := by decide +kernel
theorem dM_oneStep_10 : decode bM_oneStep 10 = .ok (.dup, 1) := by decide +kernel
theorem dM_oneStep_11 : decode bM_oneStep 11 = .ok (.getfield 55, 3) := by decide +kernel
theorem dM_oneStep_14 : decode bM_oneStep 14 = .ok (.iconst 1, 1) := by decide +kernel
theorem dM_oneStep_15 : decode bM_oneStep 15 = .ok (.iadd, 1) := by decide +kernel
theorem dM_oneStep_16 : decode bM_oneStep 16 = .ok (.putfield 55, 3) := by decide +kernel
theorem dM_oneStep_19 : decode bM_oneStep 19 = .ok (.aload_n 0, 1) := by decide +kernel
theorem dM_oneStep_20 : decode bM_oneStep 20 = .ok (.getfield 46, 3) := by decide +kernel
theorem dM_oneStep_23 : decode bM_oneStep 23 = .ok (.ifCond .eq 28, 3) := by decide +kernel
theorem dM_oneStep_26 : decode bM_oneStep 26 = .ok (.aload_n 0, 1) := by decide +kernel
theorem dM_oneStep_27 : decode bM_oneStep 27 = .ok (.iconst 0, 1) := by decide +kernel
theorem dM_oneStep_28 : decode bM_oneStep 28 = .ok (.putfield 46, 3) := by decide +kernel
theorem dM_oneStep_31 : decode bM_oneStep 31 = .ok (.aload_n 0, 1) := by decide +kernel
theorem dM_oneStep_32 : decode bM_oneStep 32 = .ok (.aload_n 0, 1) := by decide +kernel
theorem dM_oneStep_33 : decode bM_oneStep 33 = .ok (.getfield 23, 3) := by decide +kernel
theorem dM_oneStep_36 : decode bM_oneStep 36 = .ok (.putfield 43, 3) := by decide +kernel
theorem dM_oneStep_39 : decode bM_oneStep 39 = .ok (.aload_n 0, 1) := by decide +kernel
theorem dM_oneStep_40 : decode bM_oneStep 40 = .ok (.aload_n 0, 1) := by decide +kernel
theorem dM_oneStep_41 : decode bM_oneStep 41 = .ok (.getfield 23, 3) := by decide +kernel
theorem dM_oneStep_44 : decode bM_oneStep 44 = .ok (.iconst 4, 1) := by decide +kernel
theorem dM_oneStep_45 : decode bM_oneStep 45 = .ok (.iadd, 1) := by decide +kernel
theorem dM_oneStep_46 : decode bM_oneStep 46 = .ok (.putfield 23, 3) := by decide +kernel
theorem dM_oneStep_49 : decode bM_oneStep 49 = .ok (.iconst 1, 1) := by decide +kernel
theorem dM_oneStep_50 : decode bM_oneStep 50 = .ok (.ireturn, 1) := by decide +kernel
theorem dM_oneStep_51 : decode bM_oneStep 51 = .ok (.aload_n 0, 1) := by decide +kernel
theorem dM_oneStep_52 : decode bM_oneStep 52 = .ok (.getfield 96, 3) := by decide +kernel
theorem dM_oneStep_55 : decode bM_oneStep 55 = .ok (.ifCond .eq 35, 3) := by decide +kernel
theorem dM_oneStep_58 : decode bM_oneStep 58 = .ok (.aload_n 0, 1) := by decide +kernel
theorem dM_oneStep_59 : decode bM_oneStep 59 = .ok (.getfield 52, 3) := by decide +kernel
theorem dM_oneStep_62 : decode bM_oneStep 62 = .ok (.bipush 15, 2) := by decide +kernel
theorem dM_oneStep_64 : decode bM_oneStep 64 = .ok (.if_icmp .eq 14, 3) := by decide +kernel
theorem dM_oneStep_67 : decode bM_oneStep 67 = .ok (.aload_n 0, 1) := by decide +kernel
theorem dM_oneStep_68 : decode bM_oneStep 68 = .ok (.getfield 52, 3) := by decide +kernel
theorem dM_oneStep_71 : decode bM_oneStep 71 = .ok (.aload_n 0, 1) := by decide +kernel
theorem dM_oneStep_72 : decode bM_oneStep 72 = .ok (.getfield 106, 3) := by decide +kernel
theorem dM_oneStep_75 : decode bM_oneStep 75 = .ok (.if_icmp .le 15, 3) := by decide +kernel
theorem dM_oneStep_78 : decode bM_oneStep 78 = .ok (.aload_n 0, 1) := by decide +kernel
theorem dM_oneStep_79 : decode bM_oneStep 79 = .ok (.bipush 16, 2) := by decide +kernel
theorem dM_oneStep_81 : decode bM_oneStep 81 = .ok (.aload_n 0, 1) := by decide +kernel
theorem dM_oneStep_82 : decode bM_oneStep 82 = .ok (.getfield 52, 3) := by decide +kernel
theorem dM_oneStep_85 : decode bM_oneStep 85 = .ok (.iadd, 1) := by decide +kernel
theorem dM_oneStep_86 : decode bM_oneStep 86 = .ok (.invokevirtual 199, 3) := by decide +kernel
theorem dM_oneStep_89 : decode bM_oneStep 89 = .ok (.ireturn, 1) := by decide +kernel
theorem dM_oneStep_90 : decode bM_oneStep 90 = .ok (.aload_n 0, 1) := by decide +kernel
theorem dM_oneStep_91 : decode bM_oneStep 91 = .ok (.getfield 43, 3) := by decide +kernel
theorem dM_oneStep_94 : decode bM_oneStep 94 = .ok (.iconst 4, 1) := by decide +kernel
theorem dM_oneStep_95 : decode bM_oneStep 95 = .ok (.invokestatic 61, 3) := by decide +kernel
theorem dM_oneStep_98 : decode bM_oneStep 98 = .ok (.ifCond .ne 9, 3) := by decide +kernel
theorem dM_oneStep_101 : decode bM_oneStep 101 = .ok (.aload_n 0, 1) := by decide +kernel
theorem dM_oneStep_102 : decode bM_oneStep 102 = .ok (.iconst 1, 1) := by decide +kernel
theorem dM_oneStep_103 : decode bM_oneStep 103 = .ok (.invokevirtual 199, 3) := by decide +kernel
theorem dM_oneStep_106 : decode bM_oneStep 106 = .ok (.ireturn, 1) := by decide +kernel
theorem dM_oneStep_107 : decode bM_oneStep 107 = .ok (.aload_n 0, 1) := by decide +kernel
theorem dM_oneStep_108 : decode bM_oneStep 108 = .ok (.aload_n 0, 1) := by decide +kernel
theorem dM_oneStep_109 : decode bM_oneStep 109 = .ok (.aload_n 0, 1) := by decide +kernel
theorem dM_oneStep_110 : decode bM_oneStep 110 = .ok (.getfield 43, 3) := by decide +kernel
theorem dM_oneStep_113 : decode bM_oneStep 113 = .ok (.iconst 4, 1) := by decide +kernel
theorem dM_oneStep_114 : decode bM_oneStep 114 = .ok (.invokevirtual 73, 3) := by decide +kernel
theorem dM_oneStep_117 : decode bM_oneStep 117 = .ok (.putfield 150, 3) := by decide +kernel
theorem dM_oneStep_120 : decode bM_oneStep 120 = .ok (.aload_n 0, 1) := by decide +kernel
theorem dM_oneStep_121 : decode bM_oneStep 121 = .ok (.getfield 150, 3) := by decide +kernel
theorem dM_oneStep_124 : decode bM_oneStep 124 = .ok (.bipush 30, 2) := by decide +kernel
theorem dM_oneStep_126 : decode bM_oneStep 126 = .ok (.iushr, 1) := by decide +kernel
theorem dM_oneStep_127 : decode bM_oneStep 127 = .ok (.istore_n 1, 1) := by decide +kernel
theorem dM_oneStep_128 : decode bM_oneStep 128 = .ok (.aload_n 0, 1) := by decide +kernel
theorem dM_oneStep_129 : decode bM_oneStep 129 = .ok (.aload_n 0, 1) := by decide +kernel
theorem dM_oneStep_130 : decode bM_oneStep 130 = .ok (.getfield 150, 3) := by decide +kernel
theorem dM_oneStep_133 : decode bM_oneStep 133 = .ok (.bipush 25, 2) := by decide +kernel
theorem dM_oneStep_135 : decode bM_oneStep 135 = .ok (.ishr, 1) := by decide +kernel
theorem dM_oneStep_136 : decode bM_oneStep 136 = .ok (.bipush 31, 2) := by decide +kernel
theorem dM_oneStep_138 : decode bM_oneStep 138 = .ok (.iand, 1) := by decide +kernel
theorem dM_oneStep_139 : decode bM_oneStep 139 = .ok (.putfield 162, 3) := by decide +kernel
theorem dM_oneStep_142 : decode bM_oneStep 142 = .ok (.aload_n 0, 1) := by decide +kernel
theorem dM_oneStep_143 : decode bM_oneStep 143 = .ok (.iload_n 1, 1) := by decide +kernel
theorem dM_oneStep_144 : decode bM_oneStep 144 = .ok (.ifCond .ne 16, 3) := by decide +kernel
theorem dM_oneStep_147 : decode bM_oneStep 147 = .ok (.aload_n 0, 1) := by decide +kernel
theorem dM_oneStep_148 : decode bM_oneStep 148 = .ok (.getfield 150, 3) := by decide +kernel
theorem dM_oneStep_151 : decode bM_oneStep 151 = .ok (.bipush 22, 2) := by decide +kernel
theorem dM_oneStep_153 : decode bM_oneStep 153 = .ok (.ishr, 1) := by decide +kernel
theorem dM_oneStep_154 : decode bM_oneStep 154 = .ok (.bipush 7, 2) := by decide +kernel
theorem dM_oneStep_156 : decode bM_oneStep 156 = .ok (.iand, 1) := by decide +kernel
theorem dM_oneStep_157 : decode bM_oneStep 157 = .ok (.goto 13, 3) := by decide +kernel
theorem dM_oneStep_160 : decode bM_oneStep 160 = .ok (.aload_n 0, 1) := by decide +kernel
theorem dM_oneStep_161 : decode bM_oneStep 161 = .ok (.getfield 150, 3) := by decide +kernel
theorem dM_oneStep_164 : decode bM_oneStep 164 = .ok (.bipush 19, 2) := by decide +kernel
theorem dM_oneStep_166 : decode bM_oneStep 166 = .ok (.ishr, 1) := by decide +kernel
theorem dM_oneStep_167 : decode bM_oneStep 167 = .ok (.bipush 63, 2) := by decide +kernel
theorem dM_oneStep_169 : decode bM_oneStep 169 = .ok (.iand, 1) := by decide +kernel
theorem dM_oneStep_170 : decode bM_oneStep 170 = .ok (.putfield 132, 3) := by decide +kernel
theorem dM_oneStep_173 : decode bM_oneStep 173 = .ok (.aload_n 0, 1) := by decide +kernel
theorem dM_oneStep_174 : decode bM_oneStep 174 = .ok (.aload_n 0, 1) := by decide +kernel
theorem dM_oneStep_175 : decode bM_oneStep 175 = .ok (.aload_n 0, 1) := by decide +kernel
theorem dM_oneStep_176 : decode bM_oneStep 176 = .ok (.getfield 93, 3) := by decide +kernel
theorem dM_oneStep_179 : decode bM_oneStep 179 = .ok (.aload_n 0, 1) := by decide +kernel
theorem dM_oneStep_180 : decode bM_oneStep 180 = .ok (.getfield 150, 3) := by decide +kernel
theorem dM_oneStep_183 : decode bM_oneStep 183 = .ok (.bipush 14, 2) := by decide +kernel
theorem dM_oneStep_185 : decode bM_oneStep 185 = .ok (.ishr, 1) := by decide +kernel
theorem dM_oneStep_186 : decode bM_oneStep 186 = .ok (.bipush 31, 2) := by decide +kernel
theorem dM_oneStep_188 : decode bM_oneStep 188 = .ok (.iand, 1) := by decide +kernel
theorem dM_oneStep_189 : decode bM_oneStep 189 = .ok (.invokevirtual 87, 3) := by decide +kernel
theorem dM_oneStep_192 : decode bM_oneStep 192 = .ok (.putfield 144, 3) := by decide +kernel
theorem dM_oneStep_195 : decode bM_oneStep 195 = .ok (.aload_n 0, 1) := by decide +kernel
theorem dM_oneStep_196 : decode bM_oneStep 196 = .ok (.aload_n 0, 1) := by decide +kernel
theorem dM_oneStep_197 : decode bM_oneStep 197 = .ok (.getfield 150, 3) := by decide +kernel
theorem dM_oneStep_200 : decode bM_oneStep 200 = .ok (.bipush 13, 2) := by decide +kernel
theorem dM_oneStep_202 : decode bM_oneStep 202 = .ok (.ishr, 1) := by decide +kernel
theorem dM_oneStep_203 : decode bM_oneStep 203 = .ok (.iconst 1, 1) := by decide +kernel
theorem dM_oneStep_204 : decode bM_oneStep 204 = .ok (.iand, 1) := by decide +kernel
theorem dM_oneStep_205 : decode bM_oneStep 205 = .ok (.iconst 1, 1) := by decide +kernel
theorem dM_oneStep_206 : decode bM_oneStep 206 = .ok (.if_icmp .ne 15, 3) := by decide +kernel
theorem dM_oneStep_209 : decode bM_oneStep 209 = .ok (.aload_n 0, 1) := by decide +kernel
theorem dM_oneStep_210 : decode bM_oneStep 210 = .ok (.getfield 150, 3) := by decide +kernel
theorem dM_oneStep_213 : decode bM_oneStep 213 = .ok (.bipush 13, 2) := by decide +kernel
theorem dM_oneStep_215 : decode bM_oneStep 215 = .ok (.invokestatic 175, 3) := by decide +kernel
theorem dM_oneStep_218 : decode bM_oneStep 218 = .ok (.goto 18, 3) := by decide +kernel
theorem dM_oneStep_221 : decode bM_oneStep 221 = .ok (.aload_n 0, 1) := by decide +kernel
theorem dM_oneStep_222 : decode bM_oneStep 222 = .ok (.aload_n 0, 1) := by decide +kernel
theorem dM_oneStep_223 : decode bM_oneStep 223 = .ok (.getfield 93, 3) := by decide +kernel
theorem dM_oneStep_226 : decode bM_oneStep 226 = .ok (.aload_n 0, 1) := by decide +kernel
theorem dM_oneStep_227 : decode bM_oneStep 227 = .ok (.getfield 150, 3) := by decide +kernel
theorem dM_oneStep_230 : decode bM_oneStep 230 = .ok (.bipush 31, 2) := by decide +kernel
theorem dM_oneStep_232 : decode bM_oneStep 232 = .ok (.iand, 1) := by decide +kernel
theorem dM_oneStep_233 : decode bM_oneStep 233 = .ok (.invokevirtual 87, 3) := by decide +kernel
theorem dM_oneStep_236 : decode bM_oneStep 236 = .ok (.putfield 147, 3) := by decide +kernel
theorem dM_oneStep_239 : decode bM_oneStep 239 = .ok (.aload_n 0, 1) := by decide +kernel
theorem dM_oneStep_240 : decode bM_oneStep 240 = .ok (.iload_n 1, 1) := by decide +kernel
theorem dM_oneStep_241 : decode bM_oneStep 241 = .ok (.invokevirtual 202, 3) := by decide +kernel
theorem dM_oneStep_244 : decode bM_oneStep 244 = .ok (.istore_n 2, 1) := by decide +kernel
theorem dM_oneStep_245 : decode bM_oneStep 245 = .ok (.iload_n 2, 1) := by decide +kernel
theorem dM_oneStep_246 : decode bM_oneStep 246 = .ok (.ifCond .le 9, 3) := by decide +kernel
theorem dM_oneStep_249 : decode bM_oneStep 249 = .ok (.aload_n 0, 1) := by decide +kernel
theorem dM_oneStep_250 : decode bM_oneStep 250 = .ok (.iload_n 2, 1) := by decide +kernel
theorem dM_oneStep_251 : decode bM_oneStep 251 = .ok (.invokevirtual 199, 3) := by decide +kernel
theorem dM_oneStep_254 : decode bM_oneStep 254 = .ok (.ireturn, 1) := by decide +kernel
theorem dM_oneStep_255 : decode bM_oneStep 255 = .ok (.iload_n 1, 1) := by decide +kernel
theorem dM_oneStep_256 : decode bM_oneStep 256 = .ok (.iconst 2, 1) := by decide +kernel
theorem dM_oneStep_257 : decode bM_oneStep 257 = .ok (.if_icmp .ne 26, 3) := by decide +kernel
theorem dM_oneStep_260 : decode bM_oneStep 260 = .ok (.aload_n 0, 1) := by decide +kernel
theorem dM_oneStep_261 : decode bM_oneStep 261 = .ok (.getfield 132, 3) := by decide +kernel
theorem dM_oneStep_264 : decode bM_oneStep 264 = .ok (.bipush 57, 2) := by decide +kernel
theorem dM_oneStep_266 : decode bM_oneStep 266 = .ok (.if_icmp .ne 17, 3) := by decide +kernel
theorem dM_oneStep_269 : decode bM_oneStep 269 = .ok (.aload_n 0, 1) := by decide +kernel
theorem dM_oneStep_270 : decode bM_oneStep 270 = .ok (.invokevirtual 205, 3) := by decide +kernel
theorem dM_oneStep_273 : decode bM_oneStep 273 = .ok (.ifCond .eq 10, 3) := by decide +kernel
theorem dM_oneStep_276 : decode bM_oneStep 276 = .ok (.aload_n 0, 1) := by decide +kernel
theorem dM_oneStep_277 : decode bM_oneStep 277 = .ok (.iconst 1, 1) := by decide +kernel
theorem dM_oneStep_278 : decode bM_oneStep 278 = .ok (.putfield 49, 3) := by decide +kernel
theorem dM_oneStep_281 : decode bM_oneStep 281 = .ok (.iconst 2, 1) := by decide +kernel
theorem dM_oneStep_282 : decode bM_oneStep 282 = .ok (.ireturn, 1) := by decide +kernel
theorem dM_oneStep_283 : decode bM_oneStep 283 = .ok (.aload_n 0, 1) := by decide +kernel
theorem dM_oneStep_284 : decode bM_oneStep 284 = .ok (.aload_n 0, 1) := by decide +kernel
theorem dM_oneStep_285 : decode bM_oneStep 285 = .ok (.getfield 23, 3) := by decide +kernel
theorem dM_oneStep_288 : decode bM_oneStep 288 = .ok (.iconst 4, 1) := by decide +kernel
theorem dM_oneStep_289 : decode bM_oneStep 289 = .ok (.iadd, 1) := by decide +kernel
theorem dM_oneStep_290 : decode bM_oneStep 290 = .ok (.putfield 178, 3) := by decide +kernel
theorem dM_oneStep_293 : decode bM_oneStep 293 = .ok (.aload_n 0, 1) := by decide +kernel
theorem dM_oneStep_294 : decode bM_oneStep 294 = .ok (.iload_n 1, 1) := by decide +kernel
theorem dM_oneStep_295 : decode bM_oneStep 295 = .ok (.invokevirtual 209, 3) := by decide +kernel
theorem dM_oneStep_298 : decode bM_oneStep 298 = .ok (.aload_n 0, 1) := by decide +kernel
theorem dM_oneStep_299 : decode bM_oneStep 299 = .ok (.aload_n 0, 1) := by decide +kernel
theorem dM_oneStep_300 : decode bM_oneStep 300 = .ok (.getfield 23, 3) := by decide +kernel
theorem dM_oneStep_303 : decode bM_oneStep 303 = .ok (.putfield 43, 3) := by decide +kernel
theorem dM_oneStep_306 : decode bM_oneStep 306 = .ok (.aload_n 0, 1) := by decide +kernel
theorem dM_oneStep_307 : decode bM_oneStep 307 = .ok (.aload_n 0, 1) := by decide +kernel
theorem dM_oneStep_308 : decode bM_oneStep 308 = .ok (.getfield 178, 3) := by decide +kernel
theorem dM_oneStep_311 : decode bM_oneStep 311 = .ok (.putfield 23, 3) := by decide +kernel
theorem dM_oneStep_314 : decode bM_oneStep 314 = .ok (.iconst 0, 1) := by decide +kernel
theorem dM_oneStep_315 : decode bM_oneStep 315 = .ok (.ireturn, 1) := by decide +kernel
theorem dM_step_0 : decode bM_step 0 = .ok (.aload_n 0, 1) := by decide +kernel
theorem dM_step_1 : decode bM_step 1 = .ok (.iconst 0, 1) := by decide +kernel
theorem dM_step_2 : decode bM_step 2 = .ok (.putfield 27, 3) := by decide +kernel
theorem dM_step_5 : decode bM_step 5 = .ok (.aload_n 0, 1) := by decide +kernel
theorem dM_step_6 : decode bM_step 6 = .ok (.invokevirtual 212, 3) := by decide +kernel
theorem dM_step_9 : decode bM_step 9 = .ok (.ireturn, 1) := by decide +kernel
theorem dM_run_0 : decode bM_run 0 = .ok (.aload_n 0, 1) := by decide +kernel
theorem dM_run_1 : decode bM_run 1 = .ok (.iload_n 1, 1) := by decide +kernel
theorem dM_run_2 : decode bM_run 2 = .ok (.ifCond .lt 14, 3) := by decide +kernel
theorem dM_run_5 : decode bM_run 5 = .ok (.iload_n 1, 1) := by decide +kernel
theorem dM_run_6 : decode bM_run 6 = .ok (.sipush 5000, 3) := by decide +kernel
theorem dM_run_9 : decode bM_run 9 = .ok (.if_icmp .gt 7, 3) := by decide +kernel
theorem dM_run_12 : decode bM_run 12 = .ok (.iconst 1, 1) := by decide +kernel
theorem dM_run_13 : decode bM_run 13 = .ok (.goto 4, 3) := by decide +kernel
theorem dM_run_16 : decode bM_run 16 = .ok (.iconst 0, 1) := by decide +kernel
theorem dM_run_17 : decode bM_run 17 = .ok (.invokevirtual 69, 3) := by decide +kernel
theorem dM_run_20 : decode bM_run 20 = .ok (.ifCond .ne 5, 3) := by decide +kernel
theorem dM_run_23 : decode bM_run 23 = .ok (.iconst 0, 1) := by decide +kernel
theorem dM_run_24 : decode bM_run 24 = .ok (.ireturn, 1) := by decide +kernel
theorem dM_run_25 : decode bM_run 25 = .ok (.iconst 0, 1) := by decide +kernel
theorem dM_run_26 : decode bM_run 26 = .ok (.istore_n 2, 1) := by decide +kernel
theorem dM_run_27 : decode bM_run 27 = .ok (.iconst 0, 1) := by decide +kernel
theorem dM_run_28 : decode bM_run 28 = .ok (.istore_n 3, 1) := by decide +kernel
theorem dM_run_29 : decode bM_run 29 = .ok (.iload_n 3, 1) := by decide +kernel
theorem dM_run_30 : decode bM_run 30 = .ok (.iload_n 1, 1) := by decide +kernel
theorem dM_run_31 : decode bM_run 31 = .ok (.if_icmp .ge 33, 3) := by decide +kernel
theorem dM_run_34 : decode bM_run 34 = .ok (.aload_n 0, 1) := by decide +kernel
theorem dM_run_35 : decode bM_run 35 = .ok (.getfield 49, 3) := by decide +kernel
theorem dM_run_38 : decode bM_run 38 = .ok (.ifCond .ne 26, 3) := by decide +kernel
theorem dM_run_41 : decode bM_run 41 = .ok (.aload_n 0, 1) := by decide +kernel
theorem dM_run_42 : decode bM_run 42 = .ok (.invokevirtual 212, 3) := by decide +kernel
theorem dM_run_45 : decode bM_run 45 = .ok (.bipush 100, 2) := by decide +kernel
theorem dM_run_47 : decode bM_run 47 = .ok (.if_icmp .lt 9, 3) := by decide +kernel
theorem dM_run_50 : decode bM_run 50 = .ok (.iload_n 2, 1) := by decide +kernel
theorem dM_run_51 : decode bM_run 51 = .ok (.iconst 1, 1) := by decide +kernel
theorem dM_run_52 : decode bM_run 52 = .ok (.iadd, 1) := by decide +kernel
theorem dM_run_53 : decode bM_run 53 = .ok (.goto 4, 3) := by decide +kernel
theorem dM_run_56 : decode bM_run 56 = .ok (.iload_n 2, 1) := by decide +kernel
theorem dM_run_57 : decode bM_run 57 = .ok (.istore_n 2, 1) := by decide +kernel
theorem dM_run_58 : decode bM_run 58 = .ok (.iinc 3 1, 3) := by decide +kernel
theorem dM_run_61 : decode bM_run 61 = .ok (.goto (-32), 3) := by decide +kernel
theorem dM_run_64 : decode bM_run 64 = .ok (.iload_n 2, 1) := by decide +kernel
theorem dM_run_65 : decode bM_run 65 = .ok (.ireturn, 1) := by decide +kernel
