/-! decode rows: laid by my program out of the listing -/
theorem dX_holdsPlainly_0 : decode bX_holdsPlainly 0 = .ok (.aload_n 0, 1) := by decide +kernel
theorem dX_holdsPlainly_1 : decode bX_holdsPlainly 1 = .ok (.ldc 166, 2) := by decide +kernel
theorem dX_holdsPlainly_3 : decode bX_holdsPlainly 3 = .ok (.invokevirtual 117, 3) := by decide +kernel
theorem dX_holdsPlainly_6 : decode bX_holdsPlainly 6 = .ok (.aload_n 0, 1) := by decide +kernel
theorem dX_holdsPlainly_7 : decode bX_holdsPlainly 7 = .ok (.ldc 167, 2) := by decide +kernel
theorem dX_holdsPlainly_9 : decode bX_holdsPlainly 9 = .ok (.invokevirtual 117, 3) := by decide +kernel
theorem dX_holdsPlainly_12 : decode bX_holdsPlainly 12 = .ok (.if_icmp .eq 7, 3) := by decide +kernel
theorem dX_holdsPlainly_15 : decode bX_holdsPlainly 15 = .ok (.iconst 1, 1) := by decide +kernel
theorem dX_holdsPlainly_16 : decode bX_holdsPlainly 16 = .ok (.goto 4, 3) := by decide +kernel
theorem dX_holdsPlainly_19 : decode bX_holdsPlainly 19 = .ok (.iconst 0, 1) := by decide +kernel
theorem dX_holdsPlainly_20 : decode bX_holdsPlainly 20 = .ok (.istore_n 2, 1) := by decide +kernel
theorem dX_holdsPlainly_21 : decode bX_holdsPlainly 21 = .ok (.iload_n 1, 1) := by decide +kernel
theorem dX_holdsPlainly_22 : decode bX_holdsPlainly 22 = .ok (.tableswitch 115 1 7 #[42, 49, 68, 70, 94, 101, 108], 42) := by decide +kernel
theorem dX_holdsPlainly_64 : decode bX_holdsPlainly 64 = .ok (.aload_n 0, 1) := by decide +kernel
theorem dX_holdsPlainly_65 : decode bX_holdsPlainly 65 = .ok (.ldc 168, 2) := by decide +kernel
theorem dX_holdsPlainly_67 : decode bX_holdsPlainly 67 = .ok (.invokevirtual 117, 3) := by decide +kernel
theorem dX_holdsPlainly_70 : decode bX_holdsPlainly 70 = .ok (.ireturn, 1) := by decide +kernel
theorem dX_holdsPlainly_71 : decode bX_holdsPlainly 71 = .ok (.aload_n 0, 1) := by decide +kernel
theorem dX_holdsPlainly_72 : decode bX_holdsPlainly 72 = .ok (.ldc 168, 2) := by decide +kernel
theorem dX_holdsPlainly_74 : decode bX_holdsPlainly 74 = .ok (.invokevirtual 117, 3) := by decide +kernel
theorem dX_holdsPlainly_77 : decode bX_holdsPlainly 77 = .ok (.ifCond .ne 7, 3) := by decide +kernel
theorem dX_holdsPlainly_80 : decode bX_holdsPlainly 80 = .ok (.iload_n 2, 1) := by decide +kernel
theorem dX_holdsPlainly_81 : decode bX_holdsPlainly 81 = .ok (.ifCond .eq 7, 3) := by decide +kernel
theorem dX_holdsPlainly_84 : decode bX_holdsPlainly 84 = .ok (.iconst 1, 1) := by decide +kernel
theorem dX_holdsPlainly_85 : decode bX_holdsPlainly 85 = .ok (.goto 4, 3) := by decide +kernel
theorem dX_holdsPlainly_88 : decode bX_holdsPlainly 88 = .ok (.iconst 0, 1) := by decide +kernel
theorem dX_holdsPlainly_89 : decode bX_holdsPlainly 89 = .ok (.ireturn, 1) := by decide +kernel
theorem dX_holdsPlainly_90 : decode bX_holdsPlainly 90 = .ok (.iload_n 2, 1) := by decide +kernel
theorem dX_holdsPlainly_91 : decode bX_holdsPlainly 91 = .ok (.ireturn, 1) := by decide +kernel
theorem dX_holdsPlainly_92 : decode bX_holdsPlainly 92 = .ok (.aload_n 0, 1) := by decide +kernel
theorem dX_holdsPlainly_93 : decode bX_holdsPlainly 93 = .ok (.ldc 169, 2) := by decide +kernel
theorem dX_holdsPlainly_95 : decode bX_holdsPlainly 95 = .ok (.invokevirtual 117, 3) := by decide +kernel
theorem dX_holdsPlainly_98 : decode bX_holdsPlainly 98 = .ok (.ifCond .ne 12, 3) := by decide +kernel
theorem dX_holdsPlainly_101 : decode bX_holdsPlainly 101 = .ok (.aload_n 0, 1) := by decide +kernel
theorem dX_holdsPlainly_102 : decode bX_holdsPlainly 102 = .ok (.ldc 168, 2) := by decide +kernel
theorem dX_holdsPlainly_104 : decode bX_holdsPlainly 104 = .ok (.invokevirtual 117, 3) := by decide +kernel
theorem dX_holdsPlainly_107 : decode bX_holdsPlainly 107 = .ok (.ifCond .eq 7, 3) := by decide +kernel
theorem dX_holdsPlainly_110 : decode bX_holdsPlainly 110 = .ok (.iconst 1, 1) := by decide +kernel
theorem dX_holdsPlainly_111 : decode bX_holdsPlainly 111 = .ok (.goto 4, 3) := by decide +kernel
theorem dX_holdsPlainly_114 : decode bX_holdsPlainly 114 = .ok (.iconst 0, 1) := by decide +kernel
theorem dX_holdsPlainly_115 : decode bX_holdsPlainly 115 = .ok (.ireturn, 1) := by decide +kernel
theorem dX_holdsPlainly_116 : decode bX_holdsPlainly 116 = .ok (.aload_n 0, 1) := by decide +kernel
theorem dX_holdsPlainly_117 : decode bX_holdsPlainly 117 = .ok (.ldc 169, 2) := by decide +kernel
theorem dX_holdsPlainly_119 : decode bX_holdsPlainly 119 = .ok (.invokevirtual 117, 3) := by decide +kernel
theorem dX_holdsPlainly_122 : decode bX_holdsPlainly 122 = .ok (.ireturn, 1) := by decide +kernel
theorem dX_holdsPlainly_123 : decode bX_holdsPlainly 123 = .ok (.aload_n 0, 1) := by decide +kernel
theorem dX_holdsPlainly_124 : decode bX_holdsPlainly 124 = .ok (.ldc 166, 2) := by decide +kernel
theorem dX_holdsPlainly_126 : decode bX_holdsPlainly 126 = .ok (.invokevirtual 117, 3) := by decide +kernel
theorem dX_holdsPlainly_129 : decode bX_holdsPlainly 129 = .ok (.ireturn, 1) := by decide +kernel
theorem dX_holdsPlainly_130 : decode bX_holdsPlainly 130 = .ok (.aload_n 0, 1) := by decide +kernel
theorem dX_holdsPlainly_131 : decode bX_holdsPlainly 131 = .ok (.ldc 167, 2) := by decide +kernel
theorem dX_holdsPlainly_133 : decode bX_holdsPlainly 133 = .ok (.invokevirtual 117, 3) := by decide +kernel
theorem dX_holdsPlainly_136 : decode bX_holdsPlainly 136 = .ok (.ireturn, 1) := by decide +kernel
theorem dX_holdsPlainly_137 : decode bX_holdsPlainly 137 = .ok (.iconst 0, 1) := by decide +kernel
theorem dX_holdsPlainly_138 : decode bX_holdsPlainly 138 = .ok (.ireturn, 1) := by decide +kernel
theorem dX_performOperation_0 : decode bX_performOperation 0 = .ok (.iload_n 2, 1) := by decide +kernel
theorem dX_performOperation_1 : decode bX_performOperation 1 = .ok (.bipush 32, 2) := by decide +kernel
theorem dX_performOperation_3 : decode bX_performOperation 3 = .ok (.if_icmp .ge 10, 3) := by decide +kernel
theorem dX_performOperation_6 : decode bX_performOperation 6 = .ok (.aload_n 0, 1) := by decide +kernel
theorem dX_performOperation_7 : decode bX_performOperation 7 = .ok (.iload_n 1, 1) := by decide +kernel
theorem dX_performOperation_8 : decode bX_performOperation 8 = .ok (.iload_n 2, 1) := by decide +kernel
theorem dX_performOperation_9 : decode bX_performOperation 9 = .ok (.invokevirtual 170, 3) := by decide +kernel
theorem dX_performOperation_12 : decode bX_performOperation 12 = .ok (.ireturn, 1) := by decide +kernel
theorem dX_performOperation_13 : decode bX_performOperation 13 = .ok (.iload_n 2, 1) := by decide +kernel
theorem dX_performOperation_14 : decode bX_performOperation 14 = .ok (.tableswitch 178 37 61 #[114, 114, 114, 178, 121, 121, 121, 178, 178, 178, 178, 178, 128, 128, 128, 178, 178, 178, 178, 135, 141, 147, 178, 153, 165], 114) := by decide +kernel
theorem dX_performOperation_128 : decode bX_performOperation 128 = .ok (.aload_n 0, 1) := by decide +kernel
theorem dX_performOperation_129 : decode bX_performOperation 129 = .ok (.iload_n 1, 1) := by decide +kernel
theorem dX_performOperation_130 : decode bX_performOperation 130 = .ok (.iload_n 2, 1) := by decide +kernel
theorem dX_performOperation_131 : decode bX_performOperation 131 = .ok (.invokevirtual 173, 3) := by decide +kernel
theorem dX_performOperation_134 : decode bX_performOperation 134 = .ok (.ireturn, 1) := by decide +kernel
theorem dX_performOperation_135 : decode bX_performOperation 135 = .ok (.aload_n 0, 1) := by decide +kernel
theorem dX_performOperation_136 : decode bX_performOperation 136 = .ok (.iload_n 1, 1) := by decide +kernel
theorem dX_performOperation_137 : decode bX_performOperation 137 = .ok (.iload_n 2, 1) := by decide +kernel
theorem dX_performOperation_138 : decode bX_performOperation 138 = .ok (.invokevirtual 176, 3) := by decide +kernel
theorem dX_performOperation_141 : decode bX_performOperation 141 = .ok (.ireturn, 1) := by decide +kernel
theorem dX_performOperation_142 : decode bX_performOperation 142 = .ok (.aload_n 0, 1) := by decide +kernel
theorem dX_performOperation_143 : decode bX_performOperation 143 = .ok (.iload_n 1, 1) := by decide +kernel
theorem dX_performOperation_144 : decode bX_performOperation 144 = .ok (.iload_n 2, 1) := by decide +kernel
theorem dX_performOperation_145 : decode bX_performOperation 145 = .ok (.invokevirtual 179, 3) := by decide +kernel
theorem dX_performOperation_148 : decode bX_performOperation 148 = .ok (.ireturn, 1) := by decide +kernel
theorem dX_performOperation_149 : decode bX_performOperation 149 = .ok (.aload_n 0, 1) := by decide +kernel
theorem dX_performOperation_150 : decode bX_performOperation 150 = .ok (.iload_n 1, 1) := by decide +kernel
theorem dX_performOperation_151 : decode bX_performOperation 151 = .ok (.invokevirtual 182, 3) := by decide +kernel
theorem dX_performOperation_154 : decode bX_performOperation 154 = .ok (.ireturn, 1) := by decide +kernel
theorem dX_performOperation_155 : decode bX_performOperation 155 = .ok (.aload_n 0, 1) := by decide +kernel
theorem dX_performOperation_156 : decode bX_performOperation 156 = .ok (.iload_n 1, 1) := by decide +kernel
theorem dX_performOperation_157 : decode bX_performOperation 157 = .ok (.invokevirtual 185, 3) := by decide +kernel
theorem dX_performOperation_160 : decode bX_performOperation 160 = .ok (.ireturn, 1) := by decide +kernel
theorem dX_performOperation_161 : decode bX_performOperation 161 = .ok (.aload_n 0, 1) := by decide +kernel
theorem dX_performOperation_162 : decode bX_performOperation 162 = .ok (.iload_n 1, 1) := by decide +kernel
theorem dX_performOperation_163 : decode bX_performOperation 163 = .ok (.invokevirtual 188, 3) := by decide +kernel
theorem dX_performOperation_166 : decode bX_performOperation 166 = .ok (.ireturn, 1) := by decide +kernel
theorem dX_performOperation_167 : decode bX_performOperation 167 = .ok (.aload_n 0, 1) := by decide +kernel
theorem dX_performOperation_168 : decode bX_performOperation 168 = .ok (.iload_n 1, 1) := by decide +kernel
theorem dX_performOperation_169 : decode bX_performOperation 169 = .ok (.aload_n 0, 1) := by decide +kernel
theorem dX_performOperation_170 : decode bX_performOperation 170 = .ok (.iconst (-1), 1) := by decide +kernel
theorem dX_performOperation_171 : decode bX_performOperation 171 = .ok (.invokevirtual 126, 3) := by decide +kernel
theorem dX_performOperation_174 : decode bX_performOperation 174 = .ok (.iconst 5, 1) := by decide +kernel
theorem dX_performOperation_175 : decode bX_performOperation 175 = .ok (.invokevirtual 191, 3) := by decide +kernel
theorem dX_performOperation_178 : decode bX_performOperation 178 = .ok (.ireturn, 1) := by decide +kernel
theorem dX_performOperation_179 : decode bX_performOperation 179 = .ok (.aload_n 0, 1) := by decide +kernel
theorem dX_performOperation_180 : decode bX_performOperation 180 = .ok (.iload_n 1, 1) := by decide +kernel
theorem dX_performOperation_181 : decode bX_performOperation 181 = .ok (.aload_n 0, 1) := by decide +kernel
theorem dX_performOperation_182 : decode bX_performOperation 182 = .ok (.iconst 1, 1) := by decide +kernel
theorem dX_performOperation_183 : decode bX_performOperation 183 = .ok (.invokevirtual 126, 3) := by decide +kernel
theorem dX_performOperation_186 : decode bX_performOperation 186 = .ok (.bipush 6, 2) := by decide +kernel
theorem dX_performOperation_188 : decode bX_performOperation 188 = .ok (.invokevirtual 191, 3) := by decide +kernel
theorem dX_performOperation_191 : decode bX_performOperation 191 = .ok (.ireturn, 1) := by decide +kernel
theorem dX_performOperation_192 : decode bX_performOperation 192 = .ok (.aload_n 0, 1) := by decide +kernel
theorem dX_performOperation_193 : decode bX_performOperation 193 = .ok (.iconst 2, 1) := by decide +kernel
theorem dX_performOperation_194 : decode bX_performOperation 194 = .ok (.invokevirtual 111, 3) := by decide +kernel
theorem dX_performOperation_197 : decode bX_performOperation 197 = .ok (.ireturn, 1) := by decide +kernel
theorem dX_performArithmetic_0 : decode bX_performArithmetic 0 = .ok (.iload_n 2, 1) := by decide +kernel
theorem dX_performArithmetic_1 : decode bX_performArithmetic 1 = .ok (.bipush 15, 2) := by decide +kernel
theorem dX_performArithmetic_3 : decode bX_performArithmetic 3 = .ok (.iand, 1) := by decide +kernel
theorem dX_performArithmetic_4 : decode bX_performArithmetic 4 = .ok (.istore_n 3, 1) := by decide +kernel
theorem dX_performArithmetic_5 : decode bX_performArithmetic 5 = .ok (.iload_n 3, 1) := by decide +kernel
theorem dX_performArithmetic_6 : decode bX_performArithmetic 6 = .ok (.bipush 8, 2) := by decide +kernel
theorem dX_performArithmetic_8 : decode bX_performArithmetic 8 = .ok (.if_icmp .le 15, 3) := by decide +kernel
theorem dX_performArithmetic_11 : decode bX_performArithmetic 11 = .ok (.iload_n 3, 1) := by decide +kernel
theorem dX_performArithmetic_12 : decode bX_performArithmetic 12 = .ok (.bipush 12, 2) := by decide +kernel
theorem dX_performArithmetic_14 : decode bX_performArithmetic 14 = .ok (.if_icmp .eq 9, 3) := by decide +kernel
theorem dX_performArithmetic_17 : decode bX_performArithmetic 17 = .ok (.aload_n 0, 1) := by decide +kernel
theorem dX_performArithmetic_18 : decode bX_performArithmetic 18 = .ok (.iconst 2, 1) := by decide +kernel
theorem dX_performArithmetic_19 : decode bX_performArithmetic 19 = .ok (.invokevirtual 111, 3) := by decide +kernel
theorem dX_performArithmetic_22 : decode bX_performArithmetic 22 = .ok (.ireturn, 1) := by decide +kernel
theorem dX_performArithmetic_23 : decode bX_performArithmetic 23 = .ok (.aload_n 0, 1) := by decide +kernel
theorem dX_performArithmetic_24 : decode bX_performArithmetic 24 = .ok (.iload_n 1, 1) := by decide +kernel
theorem dX_performArithmetic_25 : decode bX_performArithmetic 25 = .ok (.invokevirtual 195, 3) := by decide +kernel
theorem dX_performArithmetic_28 : decode bX_performArithmetic 28 = .ok (.istore 4, 2) := by decide +kernel
theorem dX_performArithmetic_30 : decode bX_performArithmetic 30 = .ok (.aload_n 0, 1) := by decide +kernel
theorem dX_performArithmetic_31 : decode bX_performArithmetic 31 = .ok (.iload_n 1, 1) := by decide +kernel
theorem dX_performArithmetic_32 : decode bX_performArithmetic 32 = .ok (.invokevirtual 198, 3) := by decide +kernel
theorem dX_performArithmetic_35 : decode bX_performArithmetic 35 = .ok (.istore 5, 2) := by decide +kernel
theorem dX_performArithmetic_37 : decode bX_performArithmetic 37 = .ok (.iload_n 3, 1) := by decide +kernel
theorem dX_performArithmetic_38 : decode bX_performArithmetic 38 = .ok (.bipush 8, 2) := by decide +kernel
theorem dX_performArithmetic_40 : decode bX_performArithmetic 40 = .ok (.if_icmp .lt 16, 3) := by decide +kernel
theorem dX_performArithmetic_43 : decode bX_performArithmetic 43 = .ok (.aload_n 0, 1) := by decide +kernel
theorem dX_performArithmetic_44 : decode bX_performArithmetic 44 = .ok (.ldc 169, 2) := by decide +kernel
theorem dX_performArithmetic_46 : decode bX_performArithmetic 46 = .ok (.invokevirtual 117, 3) := by decide +kernel
theorem dX_performArithmetic_49 : decode bX_performArithmetic 49 = .ok (.ifCond .eq 7, 3) := by decide +kernel
theorem dX_performArithmetic_52 : decode bX_performArithmetic 52 = .ok (.iconst 1, 1) := by decide +kernel
theorem dX_performArithmetic_53 : decode bX_performArithmetic 53 = .ok (.goto 4, 3) := by decide +kernel
theorem dX_performArithmetic_56 : decode bX_performArithmetic 56 = .ok (.iconst 0, 1) := by decide +kernel
theorem dX_performArithmetic_57 : decode bX_performArithmetic 57 = .ok (.istore 6, 2) := by decide +kernel
theorem dX_performArithmetic_59 : decode bX_performArithmetic 59 = .ok (.iload_n 3, 1) := by decide +kernel
theorem dX_performArithmetic_60 : decode bX_performArithmetic 60 = .ok (.iload 4, 2) := by decide +kernel
theorem dX_performArithmetic_62 : decode bX_performArithmetic 62 = .ok (.iload 5, 2) := by decide +kernel
theorem dX_performArithmetic_64 : decode bX_performArithmetic 64 = .ok (.iload 6, 2) := by decide +kernel
theorem dX_performArithmetic_66 : decode bX_performArithmetic 66 = .ok (.invokestatic 201, 3) := by decide +kernel
theorem dX_performArithmetic_69 : decode bX_performArithmetic 69 = .ok (.istore 7, 2) := by decide +kernel
theorem dX_performArithmetic_71 : decode bX_performArithmetic 71 = .ok (.iload_n 2, 1) := by decide +kernel
theorem dX_performArithmetic_72 : decode bX_performArithmetic 72 = .ok (.bipush 16, 2) := by decide +kernel
theorem dX_performArithmetic_74 : decode bX_performArithmetic 74 = .ok (.if_icmp .lt 35, 3) := by decide +kernel
theorem dX_performArithmetic_77 : decode bX_performArithmetic 77 = .ok (.iload 7, 2) := by decide +kernel
theorem dX_performArithmetic_79 : decode bX_performArithmetic 79 = .ok (.invokestatic 205, 3) := by decide +kernel
theorem dX_performArithmetic_82 : decode bX_performArithmetic 82 = .ok (.iload_n 3, 1) := by decide +kernel
theorem dX_performArithmetic_83 : decode bX_performArithmetic 83 = .ok (.iload 4, 2) := by decide +kernel
theorem dX_performArithmetic_85 : decode bX_performArithmetic 85 = .ok (.iload 5, 2) := by decide +kernel
theorem dX_performArithmetic_87 : decode bX_performArithmetic 87 = .ok (.iload 6, 2) := by decide +kernel
theorem dX_performArithmetic_89 : decode bX_performArithmetic 89 = .ok (.invokestatic 208, 3) := by decide +kernel
theorem dX_performArithmetic_92 : decode bX_performArithmetic 92 = .ok (.ior, 1) := by decide +kernel
theorem dX_performArithmetic_93 : decode bX_performArithmetic 93 = .ok (.istore 8, 2) := by decide +kernel
theorem dX_performArithmetic_95 : decode bX_performArithmetic 95 = .ok (.aload_n 0, 1) := by decide +kernel
theorem dX_performArithmetic_96 : decode bX_performArithmetic 96 = .ok (.aload_n 0, 1) := by decide +kernel
theorem dX_performArithmetic_97 : decode bX_performArithmetic 97 = .ok (.getfield 66, 3) := by decide +kernel
theorem dX_performArithmetic_100 : decode bX_performArithmetic 100 = .ok (.ldc 211, 2) := by decide +kernel
theorem dX_performArithmetic_102 : decode bX_performArithmetic 102 = .ok (.iand, 1) := by decide +kernel
theorem dX_performArithmetic_103 : decode bX_performArithmetic 103 = .ok (.iload 8, 2) := by decide +kernel
theorem dX_performArithmetic_105 : decode bX_performArithmetic 105 = .ok (.ior, 1) := by decide +kernel
theorem dX_performArithmetic_106 : decode bX_performArithmetic 106 = .ok (.putfield 66, 3) := by decide +kernel
theorem dX_performArithmetic_109 : decode bX_performArithmetic 109 = .ok (.aload_n 0, 1) := by decide +kernel
theorem dX_performArithmetic_110 : decode bX_performArithmetic 110 = .ok (.iload_n 1, 1) := by decide +kernel
theorem dX_performArithmetic_111 : decode bX_performArithmetic 111 = .ok (.invokestatic 153, 3) := by decide +kernel
theorem dX_performArithmetic_114 : decode bX_performArithmetic 114 = .ok (.iload 7, 2) := by decide +kernel
theorem dX_performArithmetic_116 : decode bX_performArithmetic 116 = .ok (.invokevirtual 129, 3) := by decide +kernel
theorem dX_performArithmetic_119 : decode bX_performArithmetic 119 = .ok (.aload_n 0, 1) := by decide +kernel
theorem dX_performArithmetic_120 : decode bX_performArithmetic 120 = .ok (.invokevirtual 104, 3) := by decide +kernel
theorem dX_performArithmetic_123 : decode bX_performArithmetic 123 = .ok (.ireturn, 1) := by decide +kernel
theorem dX_resultOf_0 : decode bX_resultOf 0 = .ok (.iload_n 0, 1) := by decide +kernel
theorem dX_resultOf_1 : decode bX_resultOf 1 = .ok (.tableswitch 99 1 12 #[63, 67, 71, 93, 75, 81, 87, 99, 99, 99, 99, 93], 63) := by decide +kernel
theorem dX_resultOf_64 : decode bX_resultOf 64 = .ok (.iload_n 1, 1) := by decide +kernel
theorem dX_resultOf_65 : decode bX_resultOf 65 = .ok (.iload_n 2, 1) := by decide +kernel
theorem dX_resultOf_66 : decode bX_resultOf 66 = .ok (.iand, 1) := by decide +kernel
theorem dX_resultOf_67 : decode bX_resultOf 67 = .ok (.ireturn, 1) := by decide +kernel
theorem dX_resultOf_68 : decode bX_resultOf 68 = .ok (.iload_n 1, 1) := by decide +kernel
theorem dX_resultOf_69 : decode bX_resultOf 69 = .ok (.iload_n 2, 1) := by decide +kernel
theorem dX_resultOf_70 : decode bX_resultOf 70 = .ok (.ior, 1) := by decide +kernel
theorem dX_resultOf_71 : decode bX_resultOf 71 = .ok (.ireturn, 1) := by decide +kernel
theorem dX_resultOf_72 : decode bX_resultOf 72 = .ok (.iload_n 1, 1) := by decide +kernel
theorem dX_resultOf_73 : decode bX_resultOf 73 = .ok (.iload_n 2, 1) := by decide +kernel
theorem dX_resultOf_74 : decode bX_resultOf 74 = .ok (.ixor, 1) := by decide +kernel
theorem dX_resultOf_75 : decode bX_resultOf 75 = .ok (.ireturn, 1) := by decide +kernel
theorem dX_resultOf_76 : decode bX_resultOf 76 = .ok (.iload_n 1, 1) := by decide +kernel
theorem dX_resultOf_77 : decode bX_resultOf 77 = .ok (.iload_n 2, 1) := by decide +kernel
theorem dX_resultOf_78 : decode bX_resultOf 78 = .ok (.iconst (-1), 1) := by decide +kernel
theorem dX_resultOf_79 : decode bX_resultOf 79 = .ok (.ixor, 1) := by decide +kernel
theorem dX_resultOf_80 : decode bX_resultOf 80 = .ok (.iand, 1) := by decide +kernel
theorem dX_resultOf_81 : decode bX_resultOf 81 = .ok (.ireturn, 1) := by decide +kernel
theorem dX_resultOf_82 : decode bX_resultOf 82 = .ok (.iload_n 1, 1) := by decide +kernel
theorem dX_resultOf_83 : decode bX_resultOf 83 = .ok (.iload_n 2, 1) := by decide +kernel
theorem dX_resultOf_84 : decode bX_resultOf 84 = .ok (.iconst (-1), 1) := by decide +kernel
theorem dX_resultOf_85 : decode bX_resultOf 85 = .ok (.ixor, 1) := by decide +kernel
theorem dX_resultOf_86 : decode bX_resultOf 86 = .ok (.ior, 1) := by decide +kernel
theorem dX_resultOf_87 : decode bX_resultOf 87 = .ok (.ireturn, 1) := by decide +kernel
theorem dX_resultOf_88 : decode bX_resultOf 88 = .ok (.iload_n 1, 1) := by decide +kernel
theorem dX_resultOf_89 : decode bX_resultOf 89 = .ok (.iload_n 2, 1) := by decide +kernel
theorem dX_resultOf_90 : decode bX_resultOf 90 = .ok (.iconst (-1), 1) := by decide +kernel
theorem dX_resultOf_91 : decode bX_resultOf 91 = .ok (.ixor, 1) := by decide +kernel
theorem dX_resultOf_92 : decode bX_resultOf 92 = .ok (.ixor, 1) := by decide +kernel
theorem dX_resultOf_93 : decode bX_resultOf 93 = .ok (.ireturn, 1) := by decide +kernel
theorem dX_resultOf_94 : decode bX_resultOf 94 = .ok (.iload_n 1, 1) := by decide +kernel
theorem dX_resultOf_95 : decode bX_resultOf 95 = .ok (.iload_n 2, 1) := by decide +kernel
theorem dX_resultOf_96 : decode bX_resultOf 96 = .ok (.isub, 1) := by decide +kernel
theorem dX_resultOf_97 : decode bX_resultOf 97 = .ok (.iload_n 3, 1) := by decide +kernel
theorem dX_resultOf_98 : decode bX_resultOf 98 = .ok (.isub, 1) := by decide +kernel
theorem dX_resultOf_99 : decode bX_resultOf 99 = .ok (.ireturn, 1) := by decide +kernel
theorem dX_resultOf_100 : decode bX_resultOf 100 = .ok (.iload_n 1, 1) := by decide +kernel
theorem dX_resultOf_101 : decode bX_resultOf 101 = .ok (.iload_n 2, 1) := by decide +kernel
theorem dX_resultOf_102 : decode bX_resultOf 102 = .ok (.iadd, 1) := by decide +kernel
theorem dX_resultOf_103 : decode bX_resultOf 103 = .ok (.iload_n 3, 1) := by decide +kernel
theorem dX_resultOf_104 : decode bX_resultOf 104 = .ok (.iadd, 1) := by decide +kernel
theorem dX_resultOf_105 : decode bX_resultOf 105 = .ok (.ireturn, 1) := by decide +kernel
theorem dX_flagsOfResult_0 : decode bX_flagsOfResult 0 = .ok (.iload_n 0, 1) := by decide +kernel
theorem dX_flagsOfResult_1 : decode bX_flagsOfResult 1 = .ok (.ifCond .ne 6, 3) := by decide +kernel
theorem dX_flagsOfResult_4 : decode bX_flagsOfResult 4 = .ok (.ldc 168, 2) := by decide +kernel
theorem dX_flagsOfResult_6 : decode bX_flagsOfResult 6 = .ok (.ireturn, 1) := by decide +kernel
theorem dX_flagsOfResult_7 : decode bX_flagsOfResult 7 = .ok (.iload_n 0, 1) := by decide +kernel
theorem dX_flagsOfResult_8 : decode bX_flagsOfResult 8 = .ok (.ifCond .ge 8, 3) := by decide +kernel
theorem dX_flagsOfResult_11 : decode bX_flagsOfResult 11 = .ok (.ldc 166, 2) := by decide +kernel
theorem dX_flagsOfResult_13 : decode bX_flagsOfResult 13 = .ok (.goto 4, 3) := by decide +kernel
theorem dX_flagsOfResult_16 : decode bX_flagsOfResult 16 = .ok (.iconst 0, 1) := by decide +kernel
theorem dX_flagsOfResult_17 : decode bX_flagsOfResult 17 = .ok (.ireturn, 1) := by decide +kernel
theorem dX_flagsOfCarrying_0 : decode bX_flagsOfCarrying 0 = .ok (.iload_n 0, 1) := by decide +kernel
theorem dX_flagsOfCarrying_1 : decode bX_flagsOfCarrying 1 = .ok (.ifCond .eq 9, 3) := by decide +kernel
theorem dX_flagsOfCarrying_4 : decode bX_flagsOfCarrying 4 = .ok (.iload_n 0, 1) := by decide +kernel
theorem dX_flagsOfCarrying_5 : decode bX_flagsOfCarrying 5 = .ok (.bipush 8, 2) := by decide +kernel
theorem dX_flagsOfCarrying_7 : decode bX_flagsOfCarrying 7 = .ok (.if_icmp .ne 7, 3) := by decide +kernel
theorem dX_flagsOfCarrying_10 : decode bX_flagsOfCarrying 10 = .ok (.iconst 1, 1) := by decide +kernel
theorem dX_flagsOfCarrying_11 : decode bX_flagsOfCarrying 11 = .ok (.goto 4, 3) := by decide +kernel
theorem dX_flagsOfCarrying_14 : decode bX_flagsOfCarrying 14 = .ok (.iconst 0, 1) := by decide +kernel
theorem dX_flagsOfCarrying_15 : decode bX_flagsOfCarrying 15 = .ok (.istore 4, 2) := by decide +kernel
theorem dX_flagsOfCarrying_17 : decode bX_flagsOfCarrying 17 = .ok (.iload_n 0, 1) := by decide +kernel
theorem dX_flagsOfCarrying_18 : decode bX_flagsOfCarrying 18 = .ok (.iconst 4, 1) := by decide +kernel
theorem dX_flagsOfCarrying_19 : decode bX_flagsOfCarrying 19 = .ok (.if_icmp .eq 9, 3) := by decide +kernel
theorem dX_flagsOfCarrying_22 : decode bX_flagsOfCarrying 22 = .ok (.iload_n 0, 1) := by decide +kernel
theorem dX_flagsOfCarrying_23 : decode bX_flagsOfCarrying 23 = .ok (.bipush 12, 2) := by decide +kernel
theorem dX_flagsOfCarrying_25 : decode bX_flagsOfCarrying 25 = .ok (.if_icmp .ne 7, 3) := by decide +kernel
theorem dX_flagsOfCarrying_28 : decode bX_flagsOfCarrying 28 = .ok (.iconst 1, 1) := by decide +kernel
theorem dX_flagsOfCarrying_29 : decode bX_flagsOfCarrying 29 = .ok (.goto 4, 3) := by decide +kernel
theorem dX_flagsOfCarrying_32 : decode bX_flagsOfCarrying 32 = .ok (.iconst 0, 1) := by decide +kernel
theorem dX_flagsOfCarrying_33 : decode bX_flagsOfCarrying 33 = .ok (.istore 5, 2) := by decide +kernel
theorem dX_flagsOfCarrying_35 : decode bX_flagsOfCarrying 35 = .ok (.iload 4, 2) := by decide +kernel
theorem dX_flagsOfCarrying_37 : decode bX_flagsOfCarrying 37 = .ok (.ifCond .ne 10, 3) := by decide +kernel
theorem dX_flagsOfCarrying_40 : decode bX_flagsOfCarrying 40 = .ok (.iload 5, 2) := by decide +kernel
theorem dX_flagsOfCarrying_42 : decode bX_flagsOfCarrying 42 = .ok (.ifCond .ne 5, 3) := by decide +kernel
theorem dX_flagsOfCarrying_45 : decode bX_flagsOfCarrying 45 = .ok (.iconst 0, 1) := by decide +kernel
theorem dX_flagsOfCarrying_46 : decode bX_flagsOfCarrying 46 = .ok (.ireturn, 1) := by decide +kernel
theorem dX_flagsOfCarrying_47 : decode bX_flagsOfCarrying 47 = .ok (.iload 4, 2) := by decide +kernel
theorem dX_flagsOfCarrying_49 : decode bX_flagsOfCarrying 49 = .ok (.iload_n 1, 1) := by decide +kernel
theorem dX_flagsOfCarrying_50 : decode bX_flagsOfCarrying 50 = .ok (.i2l, 1) := by decide +kernel
theorem dX_flagsOfCarrying_51 : decode bX_flagsOfCarrying 51 = .ok (.iload_n 2, 1) := by decide +kernel
theorem dX_flagsOfCarrying_52 : decode bX_flagsOfCarrying 52 = .ok (.i2l, 1) := by decide +kernel
theorem dX_flagsOfCarrying_53 : decode bX_flagsOfCarrying 53 = .ok (.iload_n 3, 1) := by decide +kernel
theorem dX_flagsOfCarrying_54 : decode bX_flagsOfCarrying 54 = .ok (.i2l, 1) := by decide +kernel
theorem dX_flagsOfCarrying_55 : decode bX_flagsOfCarrying 55 = .ok (.ladd, 1) := by decide +kernel
theorem dX_flagsOfCarrying_56 : decode bX_flagsOfCarrying 56 = .ok (.invokestatic 212, 3) := by decide +kernel
theorem dX_flagsOfCarrying_59 : decode bX_flagsOfCarrying 59 = .ok (.lstore 6, 2) := by decide +kernel
theorem dX_flagsOfCarrying_61 : decode bX_flagsOfCarrying 61 = .ok (.iload 4, 2) := by decide +kernel
theorem dX_flagsOfCarrying_63 : decode bX_flagsOfCarrying 63 = .ok (.iload_n 1, 1) := by decide +kernel
theorem dX_flagsOfCarrying_64 : decode bX_flagsOfCarrying 64 = .ok (.invokestatic 216, 3) := by decide +kernel
theorem dX_flagsOfCarrying_67 : decode bX_flagsOfCarrying 67 = .ok (.iload_n 2, 1) := by decide +kernel
theorem dX_flagsOfCarrying_68 : decode bX_flagsOfCarrying 68 = .ok (.invokestatic 216, 3) := by decide +kernel
theorem dX_flagsOfCarrying_71 : decode bX_flagsOfCarrying 71 = .ok (.iload_n 3, 1) := by decide +kernel
theorem dX_flagsOfCarrying_72 : decode bX_flagsOfCarrying 72 = .ok (.i2l, 1) := by decide +kernel
theorem dX_flagsOfCarrying_73 : decode bX_flagsOfCarrying 73 = .ok (.ladd, 1) := by decide +kernel
theorem dX_flagsOfCarrying_74 : decode bX_flagsOfCarrying 74 = .ok (.invokestatic 212, 3) := by decide +kernel
theorem dX_flagsOfCarrying_77 : decode bX_flagsOfCarrying 77 = .ok (.lstore 8, 2) := by decide +kernel
theorem dX_flagsOfCarrying_79 : decode bX_flagsOfCarrying 79 = .ok (.lload 6, 2) := by decide +kernel
theorem dX_flagsOfCarrying_81 : decode bX_flagsOfCarrying 81 = .ok (.lload 6, 2) := by decide +kernel
theorem dX_flagsOfCarrying_83 : decode bX_flagsOfCarrying 83 = .ok (.l2i, 1) := by decide +kernel
theorem dX_flagsOfCarrying_84 : decode bX_flagsOfCarrying 84 = .ok (.i2l, 1) := by decide +kernel
theorem dX_flagsOfCarrying_85 : decode bX_flagsOfCarrying 85 = .ok (.lcmp, 1) := by decide +kernel
theorem dX_flagsOfCarrying_86 : decode bX_flagsOfCarrying 86 = .ok (.ifCond .eq 8, 3) := by decide +kernel
theorem dX_flagsOfCarrying_89 : decode bX_flagsOfCarrying 89 = .ok (.ldc 167, 2) := by decide +kernel
theorem dX_flagsOfCarrying_91 : decode bX_flagsOfCarrying 91 = .ok (.goto 4, 3) := by decide +kernel
theorem dX_flagsOfCarrying_94 : decode bX_flagsOfCarrying 94 = .ok (.iconst 0, 1) := by decide +kernel
theorem dX_flagsOfCarrying_95 : decode bX_flagsOfCarrying 95 = .ok (.istore 10, 2) := by decide +kernel
theorem dX_flagsOfCarrying_97 : decode bX_flagsOfCarrying 97 = .ok (.lload 8, 2) := by decide +kernel
theorem dX_flagsOfCarrying_99 : decode bX_flagsOfCarrying 99 = .ok (.lload 8, 2) := by decide +kernel
theorem dX_flagsOfCarrying_101 : decode bX_flagsOfCarrying 101 = .ok (.l2i, 1) := by decide +kernel
theorem dX_flagsOfCarrying_102 : decode bX_flagsOfCarrying 102 = .ok (.invokestatic 216, 3) := by decide +kernel
theorem dX_flagsOfCarrying_105 : decode bX_flagsOfCarrying 105 = .ok (.lcmp, 1) := by decide +kernel
theorem dX_flagsOfCarrying_106 : decode bX_flagsOfCarrying 106 = .ok (.ifCond .eq 8, 3) := by decide +kernel
theorem dX_flagsOfCarrying_109 : decode bX_flagsOfCarrying 109 = .ok (.ldc 169, 2) := by decide +kernel
theorem dX_flagsOfCarrying_111 : decode bX_flagsOfCarrying 111 = .ok (.goto 4, 3) := by decide +kernel
theorem dX_flagsOfCarrying_114 : decode bX_flagsOfCarrying 114 = .ok (.iconst 0, 1) := by decide +kernel
theorem dX_flagsOfCarrying_115 : decode bX_flagsOfCarrying 115 = .ok (.istore 11, 2) := by decide +kernel
theorem dX_flagsOfCarrying_117 : decode bX_flagsOfCarrying 117 = .ok (.iload 10, 2) := by decide +kernel
theorem dX_flagsOfCarrying_119 : decode bX_flagsOfCarrying 119 = .ok (.iload 11, 2) := by decide +kernel
theorem dX_flagsOfCarrying_121 : decode bX_flagsOfCarrying 121 = .ok (.ior, 1) := by decide +kernel
theorem dX_flagsOfCarrying_122 : decode bX_flagsOfCarrying 122 = .ok (.ireturn, 1) := by decide +kernel
theorem dX_total_0 : decode bX_total 0 = .ok (.iload_n 0, 1) := by decide +kernel
theorem dX_total_1 : decode bX_total 1 = .ok (.ifCond .eq 9, 3) := by decide +kernel
theorem dX_total_4 : decode bX_total 4 = .ok (.lload_n 1, 1) := by decide +kernel
theorem dX_total_5 : decode bX_total 5 = .ok (.lload_n 3, 1) := by decide +kernel
theorem dX_total_6 : decode bX_total 6 = .ok (.ladd, 1) := by decide +kernel
theorem dX_total_7 : decode bX_total 7 = .ok (.goto 6, 3) := by decide +kernel
theorem dX_total_10 : decode bX_total 10 = .ok (.lload_n 1, 1) := by decide +kernel
theorem dX_total_11 : decode bX_total 11 = .ok (.lload_n 3, 1) := by decide +kernel
theorem dX_total_12 : decode bX_total 12 = .ok (.lsub, 1) := by decide +kernel
theorem dX_total_13 : decode bX_total 13 = .ok (.lreturn, 1) := by decide +kernel
theorem dX_unsigned_0 : decode bX_unsigned 0 = .ok (.iload_n 0, 1) := by decide +kernel
theorem dX_unsigned_1 : decode bX_unsigned 1 = .ok (.i2l, 1) := by decide +kernel
theorem dX_unsigned_2 : decode bX_unsigned 2 = .ok (.ldc2_w 220, 3) := by decide +kernel
theorem dX_unsigned_5 : decode bX_unsigned 5 = .ok (.land, 1) := by decide +kernel
theorem dX_unsigned_6 : decode bX_unsigned 6 = .ok (.lreturn, 1) := by decide +kernel
theorem dX_performShift_0 : decode bX_performShift 0 = .ok (.aload_n 0, 1) := by decide +kernel
theorem dX_performShift_1 : decode bX_performShift 1 = .ok (.iload_n 1, 1) := by decide +kernel
theorem dX_performShift_2 : decode bX_performShift 2 = .ok (.invokevirtual 195, 3) := by decide +kernel
theorem dX_performShift_5 : decode bX_performShift 5 = .ok (.istore_n 3, 1) := by decide +kernel
theorem dX_performShift_6 : decode bX_performShift 6 = .ok (.aload_n 0, 1) := by decide +kernel
theorem dX_performShift_7 : decode bX_performShift 7 = .ok (.iload_n 1, 1) := by decide +kernel
theorem dX_performShift_8 : decode bX_performShift 8 = .ok (.invokevirtual 198, 3) := by decide +kernel
theorem dX_performShift_11 : decode bX_performShift 11 = .ok (.bipush 31, 2) := by decide +kernel
theorem dX_performShift_13 : decode bX_performShift 13 = .ok (.iand, 1) := by decide +kernel
theorem dX_performShift_14 : decode bX_performShift 14 = .ok (.istore 4, 2) := by decide +kernel
theorem dX_performShift_16 : decode bX_performShift 16 = .ok (.iload_n 2, 1) := by decide +kernel
theorem dX_performShift_17 : decode bX_performShift 17 = .ok (.bipush 37, 2) := by decide +kernel
theorem dX_performShift_19 : decode bX_performShift 19 = .ok (.if_icmp .ne 12, 3) := by decide +kernel
theorem dX_performShift_22 : decode bX_performShift 22 = .ok (.iload_n 3, 1) := by decide +kernel
theorem dX_performShift_23 : decode bX_performShift 23 = .ok (.iload 4, 2) := by decide +kernel
theorem dX_performShift_25 : decode bX_performShift 25 = .ok (.ishl, 1) := by decide +kernel
theorem dX_performShift_26 : decode bX_performShift 26 = .ok (.istore 5, 2) := by decide +kernel
theorem dX_performShift_28 : decode bX_performShift 28 = .ok (.goto 24, 3) := by decide +kernel
theorem dX_performShift_31 : decode bX_performShift 31 = .ok (.iload_n 2, 1) := by decide +kernel
theorem dX_performShift_32 : decode bX_performShift 32 = .ok (.bipush 38, 2) := by decide +kernel
theorem dX_performShift_34 : decode bX_performShift 34 = .ok (.if_icmp .ne 12, 3) := by decide +kernel
theorem dX_performShift_37 : decode bX_performShift 37 = .ok (.iload_n 3, 1) := by decide +kernel
theorem dX_performShift_38 : decode bX_performShift 38 = .ok (.iload 4, 2) := by decide +kernel
theorem dX_performShift_40 : decode bX_performShift 40 = .ok (.iushr, 1) := by decide +kernel
theorem dX_performShift_41 : decode bX_performShift 41 = .ok (.istore 5, 2) := by decide +kernel
theorem dX_performShift_43 : decode bX_performShift 43 = .ok (.goto 9, 3) := by decide +kernel
theorem dX_performShift_46 : decode bX_performShift 46 = .ok (.iload_n 3, 1) := by decide +kernel
theorem dX_performShift_47 : decode bX_performShift 47 = .ok (.iload 4, 2) := by decide +kernel
theorem dX_performShift_49 : decode bX_performShift 49 = .ok (.ishr, 1) := by decide +kernel
theorem dX_performShift_50 : decode bX_performShift 50 = .ok (.istore 5, 2) := by decide +kernel
theorem dX_performShift_52 : decode bX_performShift 52 = .ok (.aload_n 0, 1) := by decide +kernel
theorem dX_performShift_53 : decode bX_performShift 53 = .ok (.iload_n 1, 1) := by decide +kernel
theorem dX_performShift_54 : decode bX_performShift 54 = .ok (.invokestatic 153, 3) := by decide +kernel
theorem dX_performShift_57 : decode bX_performShift 57 = .ok (.iload 5, 2) := by decide +kernel
theorem dX_performShift_59 : decode bX_performShift 59 = .ok (.invokevirtual 129, 3) := by decide +kernel
theorem dX_performShift_62 : decode bX_performShift 62 = .ok (.aload_n 0, 1) := by decide +kernel
theorem dX_performShift_63 : decode bX_performShift 63 = .ok (.invokevirtual 104, 3) := by decide +kernel
theorem dX_performShift_66 : decode bX_performShift 66 = .ok (.ireturn, 1) := by decide +kernel
theorem dX_performReading_0 : decode bX_performReading 0 = .ok (.aload_n 0, 1) := by decide +kernel
theorem dX_performReading_1 : decode bX_performReading 1 = .ok (.sipush 128, 3) := by decide +kernel
theorem dX_performReading_4 : decode bX_performReading 4 = .ok (.invokevirtual 117, 3) := by decide +kernel
theorem dX_performReading_7 : decode bX_performReading 7 = .ok (.ifCond .ne 9, 3) := by decide +kernel
theorem dX_performReading_10 : decode bX_performReading 10 = .ok (.aload_n 0, 1) := by decide +kernel
theorem dX_performReading_11 : decode bX_performReading 11 = .ok (.iconst 3, 1) := by decide +kernel
theorem dX_performReading_12 : decode bX_performReading 12 = .ok (.invokevirtual 111, 3) := by decide +kernel
theorem dX_performReading_15 : decode bX_performReading 15 = .ok (.ireturn, 1) := by decide +kernel
theorem dX_performReading_16 : decode bX_performReading 16 = .ok (.aload_n 0, 1) := by decide +kernel
theorem dX_performReading_17 : decode bX_performReading 17 = .ok (.iload_n 1, 1) := by decide +kernel
theorem dX_performReading_18 : decode bX_performReading 18 = .ok (.invokestatic 153, 3) := by decide +kernel
theorem dX_performReading_21 : decode bX_performReading 21 = .ok (.aload_n 0, 1) := by decide +kernel
theorem dX_performReading_22 : decode bX_performReading 22 = .ok (.iload_n 2, 1) := by decide +kernel
theorem dX_performReading_23 : decode bX_performReading 23 = .ok (.bipush 41, 2) := by decide +kernel
theorem dX_performReading_25 : decode bX_performReading 25 = .ok (.isub, 1) := by decide +kernel
theorem dX_performReading_26 : decode bX_performReading 26 = .ok (.invokevirtual 34, 3) := by decide +kernel
theorem dX_performReading_29 : decode bX_performReading 29 = .ok (.invokevirtual 129, 3) := by decide +kernel
theorem dX_performReading_32 : decode bX_performReading 32 = .ok (.aload_n 0, 1) := by decide +kernel
theorem dX_performReading_33 : decode bX_performReading 33 = .ok (.invokevirtual 104, 3) := by decide +kernel
theorem dX_performReading_36 : decode bX_performReading 36 = .ok (.ireturn, 1) := by decide +kernel
theorem dX_performWriting_0 : decode bX_performWriting 0 = .ok (.aload_n 0, 1) := by decide +kernel
theorem dX_performWriting_1 : decode bX_performWriting 1 = .ok (.iload_n 1, 1) := by decide +kernel
theorem dX_performWriting_2 : decode bX_performWriting 2 = .ok (.invokevirtual 195, 3) := by decide +kernel
theorem dX_performWriting_5 : decode bX_performWriting 5 = .ok (.aload_n 0, 1) := by decide +kernel
theorem dX_performWriting_6 : decode bX_performWriting 6 = .ok (.iload_n 1, 1) := by decide +kernel
theorem dX_performWriting_7 : decode bX_performWriting 7 = .ok (.invokevirtual 198, 3) := by decide +kernel
theorem dX_performWriting_10 : decode bX_performWriting 10 = .ok (.ixor, 1) := by decide +kernel
theorem dX_performWriting_11 : decode bX_performWriting 11 = .ok (.istore_n 3, 1) := by decide +kernel
theorem dX_performWriting_12 : decode bX_performWriting 12 = .ok (.iload_n 2, 1) := by decide +kernel
theorem dX_performWriting_13 : decode bX_performWriting 13 = .ok (.bipush 49, 2) := by decide +kernel
theorem dX_performWriting_15 : decode bX_performWriting 15 = .ok (.if_icmp .ne 18, 3) := by decide +kernel
theorem dX_performWriting_18 : decode bX_performWriting 18 = .ok (.iload_n 3, 1) := by decide +kernel
theorem dX_performWriting_19 : decode bX_performWriting 19 = .ok (.bipush 31, 2) := by decide +kernel
theorem dX_performWriting_21 : decode bX_performWriting 21 = .ok (.iand, 1) := by decide +kernel
theorem dX_performWriting_22 : decode bX_performWriting 22 = .ok (.bipush 8, 2) := by decide +kernel
theorem dX_performWriting_24 : decode bX_performWriting 24 = .ok (.if_icmp .lt 9, 3) := by decide +kernel
theorem dX_performWriting_27 : decode bX_performWriting 27 = .ok (.aload_n 0, 1) := by decide +kernel
theorem dX_performWriting_28 : decode bX_performWriting 28 = .ok (.iconst 2, 1) := by decide +kernel
theorem dX_performWriting_29 : decode bX_performWriting 29 = .ok (.invokevirtual 111, 3) := by decide +kernel
theorem dX_performWriting_32 : decode bX_performWriting 32 = .ok (.ireturn, 1) := by decide +kernel
theorem dX_performWriting_33 : decode bX_performWriting 33 = .ok (.aload_n 0, 1) := by decide +kernel
theorem dX_performWriting_34 : decode bX_performWriting 34 = .ok (.sipush 128, 3) := by decide +kernel
theorem dX_performWriting_37 : decode bX_performWriting 37 = .ok (.invokevirtual 117, 3) := by decide +kernel
theorem dX_performWriting_40 : decode bX_performWriting 40 = .ok (.ifCond .ne 9, 3) := by decide +kernel
theorem dX_performWriting_43 : decode bX_performWriting 43 = .ok (.aload_n 0, 1) := by decide +kernel
theorem dX_performWriting_44 : decode bX_performWriting 44 = .ok (.iconst 3, 1) := by decide +kernel
theorem dX_performWriting_45 : decode bX_performWriting 45 = .ok (.invokevirtual 111, 3) := by decide +kernel
theorem dX_performWriting_48 : decode bX_performWriting 48 = .ok (.ireturn, 1) := by decide +kernel
theorem dX_performWriting_49 : decode bX_performWriting 49 = .ok (.iload_n 2, 1) := by decide +kernel
theorem dX_performWriting_50 : decode bX_performWriting 50 = .ok (.bipush 49, 2) := by decide +kernel
theorem dX_performWriting_52 : decode bX_performWriting 52 = .ok (.if_icmp .ne 14, 3) := by decide +kernel
theorem dX_performWriting_55 : decode bX_performWriting 55 = .ok (.aload_n 0, 1) := by decide +kernel
theorem dX_performWriting_56 : decode bX_performWriting 56 = .ok (.iload_n 3, 1) := by decide +kernel
theorem dX_performWriting_57 : decode bX_performWriting 57 = .ok (.ldc 87, 2) := by decide +kernel
theorem dX_performWriting_59 : decode bX_performWriting 59 = .ok (.iand, 1) := by decide +kernel
theorem dX_performWriting_60 : decode bX_performWriting 60 = .ok (.putfield 66, 3) := by decide +kernel
theorem dX_performWriting_63 : decode bX_performWriting 63 = .ok (.goto 39, 3) := by decide +kernel
theorem dX_performWriting_66 : decode bX_performWriting 66 = .ok (.iload_n 2, 1) := by decide +kernel
theorem dX_performWriting_67 : decode bX_performWriting 67 = .ok (.bipush 50, 2) := by decide +kernel
theorem dX_performWriting_69 : decode bX_performWriting 69 = .ok (.if_icmp .ne 15, 3) := by decide +kernel
theorem dX_performWriting_72 : decode bX_performWriting 72 = .ok (.aload_n 0, 1) := by decide +kernel
theorem dX_performWriting_73 : decode bX_performWriting 73 = .ok (.iload_n 3, 1) := by decide +kernel
theorem dX_performWriting_74 : decode bX_performWriting 74 = .ok (.sipush 255, 3) := by decide +kernel
theorem dX_performWriting_77 : decode bX_performWriting 77 = .ok (.iand, 1) := by decide +kernel
theorem dX_performWriting_78 : decode bX_performWriting 78 = .ok (.putfield 69, 3) := by decide +kernel
theorem dX_performWriting_81 : decode bX_performWriting 81 = .ok (.goto 21, 3) := by decide +kernel
theorem dX_performWriting_84 : decode bX_performWriting 84 = .ok (.aload_n 0, 1) := by decide +kernel
theorem dX_performWriting_85 : decode bX_performWriting 85 = .ok (.iload_n 3, 1) := by decide +kernel
theorem dX_performWriting_86 : decode bX_performWriting 86 = .ok (.sipush (-4096), 3) := by decide +kernel
theorem dX_performWriting_89 : decode bX_performWriting 89 = .ok (.iand, 1) := by decide +kernel
theorem dX_performWriting_90 : decode bX_performWriting 90 = .ok (.aload_n 0, 1) := by decide +kernel
theorem dX_performWriting_91 : decode bX_performWriting 91 = .ok (.getfield 72, 3) := by decide +kernel
theorem dX_performWriting_94 : decode bX_performWriting 94 = .ok (.sipush 4095, 3) := by decide +kernel
theorem dX_performWriting_97 : decode bX_performWriting 97 = .ok (.iand, 1) := by decide +kernel
theorem dX_performWriting_98 : decode bX_performWriting 98 = .ok (.ior, 1) := by decide +kernel
theorem dX_performWriting_99 : decode bX_performWriting 99 = .ok (.putfield 72, 3) := by decide +kernel
theorem dX_performWriting_102 : decode bX_performWriting 102 = .ok (.aload_n 0, 1) := by decide +kernel
theorem dX_performWriting_103 : decode bX_performWriting 103 = .ok (.invokevirtual 104, 3) := by decide +kernel
theorem dX_performWriting_106 : decode bX_performWriting 106 = .ok (.ireturn, 1) := by decide +kernel
theorem dX_performJump_0 : decode bX_performJump 0 = .ok (.aload_n 0, 1) := by decide +kernel
theorem dX_performJump_1 : decode bX_performJump 1 = .ok (.iload_n 1, 1) := by decide +kernel
theorem dX_performJump_2 : decode bX_performJump 2 = .ok (.invokevirtual 195, 3) := by decide +kernel
theorem dX_performJump_5 : decode bX_performJump 5 = .ok (.aload_n 0, 1) := by decide +kernel
theorem dX_performJump_6 : decode bX_performJump 6 = .ok (.iload_n 1, 1) := by decide +kernel
theorem dX_performJump_7 : decode bX_performJump 7 = .ok (.invokevirtual 198, 3) := by decide +kernel
theorem dX_performJump_10 : decode bX_performJump 10 = .ok (.iadd, 1) := by decide +kernel
theorem dX_performJump_11 : decode bX_performJump 11 = .ok (.istore_n 2, 1) := by decide +kernel
theorem dX_performJump_12 : decode bX_performJump 12 = .ok (.iload_n 2, 1) := by decide +kernel
theorem dX_performJump_13 : decode bX_performJump 13 = .ok (.iconst 3, 1) := by decide +kernel
theorem dX_performJump_14 : decode bX_performJump 14 = .ok (.iand, 1) := by decide +kernel
theorem dX_performJump_15 : decode bX_performJump 15 = .ok (.ifCond .eq 10, 3) := by decide +kernel
theorem dX_performJump_18 : decode bX_performJump 18 = .ok (.aload_n 0, 1) := by decide +kernel
theorem dX_performJump_19 : decode bX_performJump 19 = .ok (.bipush 7, 2) := by decide +kernel
theorem dX_performJump_21 : decode bX_performJump 21 = .ok (.invokevirtual 111, 3) := by decide +kernel
theorem dX_performJump_24 : decode bX_performJump 24 = .ok (.ireturn, 1) := by decide +kernel
theorem dX_performJump_25 : decode bX_performJump 25 = .ok (.aload_n 0, 1) := by decide +kernel
theorem dX_performJump_26 : decode bX_performJump 26 = .ok (.iload_n 1, 1) := by decide +kernel
theorem dX_performJump_27 : decode bX_performJump 27 = .ok (.invokestatic 153, 3) := by decide +kernel
theorem dX_performJump_30 : decode bX_performJump 30 = .ok (.aload_n 0, 1) := by decide +kernel
theorem dX_performJump_31 : decode bX_performJump 31 = .ok (.getfield 75, 3) := by decide +kernel
theorem dX_performJump_34 : decode bX_performJump 34 = .ok (.invokevirtual 129, 3) := by decide +kernel
theorem dX_performJump_37 : decode bX_performJump 37 = .ok (.aload_n 0, 1) := by decide +kernel
theorem dX_performJump_38 : decode bX_performJump 38 = .ok (.iload_n 2, 1) := by decide +kernel
theorem dX_performJump_39 : decode bX_performJump 39 = .ok (.invokevirtual 120, 3) := by decide +kernel
theorem dX_performJump_42 : decode bX_performJump 42 = .ok (.ireturn, 1) := by decide +kernel
theorem dX_performReturn_0 : decode bX_performReturn 0 = .ok (.aload_n 0, 1) := by decide +kernel
theorem dX_performReturn_1 : decode bX_performReturn 1 = .ok (.bipush 32, 2) := by decide +kernel
theorem dX_performReturn_3 : decode bX_performReturn 3 = .ok (.invokevirtual 117, 3) := by decide +kernel
theorem dX_performReturn_6 : decode bX_performReturn 6 = .ok (.ifCond .eq 23, 3) := by decide +kernel
theorem dX_performReturn_9 : decode bX_performReturn 9 = .ok (.aload_n 0, 1) := by decide +kernel
theorem dX_performReturn_10 : decode bX_performReturn 10 = .ok (.aload_n 0, 1) := by decide +kernel
theorem dX_performReturn_11 : decode bX_performReturn 11 = .ok (.sipush 128, 3) := by decide +kernel
theorem dX_performReturn_14 : decode bX_performReturn 14 = .ok (.invokevirtual 117, 3) := by decide +kernel
theorem dX_performReturn_17 : decode bX_performReturn 17 = .ok (.ifCond .eq 7, 3) := by decide +kernel
theorem dX_performReturn_20 : decode bX_performReturn 20 = .ok (.iconst 2, 1) := by decide +kernel
theorem dX_performReturn_21 : decode bX_performReturn 21 = .ok (.goto 4, 3) := by decide +kernel
theorem dX_performReturn_24 : decode bX_performReturn 24 = .ok (.iconst 3, 1) := by decide +kernel
theorem dX_performReturn_25 : decode bX_performReturn 25 = .ok (.invokevirtual 111, 3) := by decide +kernel
theorem dX_performReturn_28 : decode bX_performReturn 28 = .ok (.ireturn, 1) := by decide +kernel
theorem dX_performReturn_29 : decode bX_performReturn 29 = .ok (.aload_n 0, 1) := by decide +kernel
theorem dX_performReturn_30 : decode bX_performReturn 30 = .ok (.iload_n 1, 1) := by decide +kernel
theorem dX_performReturn_31 : decode bX_performReturn 31 = .ok (.invokevirtual 195, 3) := by decide +kernel
theorem dX_performReturn_34 : decode bX_performReturn 34 = .ok (.aload_n 0, 1) := by decide +kernel
theorem dX_performReturn_35 : decode bX_performReturn 35 = .ok (.iload_n 1, 1) := by decide +kernel
theorem dX_performReturn_36 : decode bX_performReturn 36 = .ok (.invokevirtual 198, 3) := by decide +kernel
theorem dX_performReturn_39 : decode bX_performReturn 39 = .ok (.iadd, 1) := by decide +kernel
theorem dX_performReturn_40 : decode bX_performReturn 40 = .ok (.istore_n 2, 1) := by decide +kernel
theorem dX_performReturn_41 : decode bX_performReturn 41 = .ok (.aload_n 0, 1) := by decide +kernel
theorem dX_performReturn_42 : decode bX_performReturn 42 = .ok (.iconst 1, 1) := by decide +kernel
theorem dX_performReturn_43 : decode bX_performReturn 43 = .ok (.invokevirtual 126, 3) := by decide +kernel
theorem dX_performReturn_46 : decode bX_performReturn 46 = .ok (.istore_n 3, 1) := by decide +kernel
theorem dX_performReturn_47 : decode bX_performReturn 47 = .ok (.aload_n 0, 1) := by decide +kernel
theorem dX_performReturn_48 : decode bX_performReturn 48 = .ok (.sipush 128, 3) := by decide +kernel
theorem dX_performReturn_51 : decode bX_performReturn 51 = .ok (.invokevirtual 117, 3) := by decide +kernel
theorem dX_performReturn_54 : decode bX_performReturn 54 = .ok (.ifCond .eq 17, 3) := by decide +kernel
theorem dX_performReturn_57 : decode bX_performReturn 57 = .ok (.aload_n 0, 1) := by decide +kernel
theorem dX_performReturn_58 : decode bX_performReturn 58 = .ok (.iload_n 3, 1) := by decide +kernel
theorem dX_performReturn_59 : decode bX_performReturn 59 = .ok (.invokevirtual 222, 3) := by decide +kernel
theorem dX_performReturn_62 : decode bX_performReturn 62 = .ok (.ifCond .ne 9, 3) := by decide +kernel
theorem dX_performReturn_65 : decode bX_performReturn 65 = .ok (.iload_n 2, 1) := by decide +kernel
theorem dX_performReturn_66 : decode bX_performReturn 66 = .ok (.iconst 3, 1) := by decide +kernel
theorem dX_performReturn_67 : decode bX_performReturn 67 = .ok (.iand, 1) := by decide +kernel
theorem dX_performReturn_68 : decode bX_performReturn 68 = .ok (.ifCond .eq 8, 3) := by decide +kernel
theorem dX_performReturn_71 : decode bX_performReturn 71 = .ok (.aload_n 0, 1) := by decide +kernel
theorem dX_performReturn_72 : decode bX_performReturn 72 = .ok (.invokevirtual 123, 3) := by decide +kernel
theorem dX_performReturn_75 : decode bX_performReturn 75 = .ok (.ireturn, 1) := by decide +kernel
theorem dX_performReturn_76 : decode bX_performReturn 76 = .ok (.aload_n 0, 1) := by decide +kernel
theorem dX_performReturn_77 : decode bX_performReturn 77 = .ok (.bipush 64, 2) := by decide +kernel
theorem dX_performReturn_79 : decode bX_performReturn 79 = .ok (.invokevirtual 117, 3) := by decide +kernel
theorem dX_performReturn_82 : decode bX_performReturn 82 = .ok (.ifCond .eq 9, 3) := by decide +kernel
theorem dX_performReturn_85 : decode bX_performReturn 85 = .ok (.sipush 128, 3) := by decide +kernel
theorem dX_performReturn_88 : decode bX_performReturn 88 = .ok (.goto 4, 3) := by decide +kernel
theorem dX_performReturn_91 : decode bX_performReturn 91 = .ok (.iconst 0, 1) := by decide +kernel
theorem dX_performReturn_92 : decode bX_performReturn 92 = .ok (.istore 4, 2) := by decide +kernel
theorem dX_performReturn_94 : decode bX_performReturn 94 = .ok (.aload_n 0, 1) := by decide +kernel
theorem dX_performReturn_95 : decode bX_performReturn 95 = .ok (.aload_n 0, 1) := by decide +kernel
theorem dX_performReturn_96 : decode bX_performReturn 96 = .ok (.getfield 66, 3) := by decide +kernel
theorem dX_performReturn_99 : decode bX_performReturn 99 = .ok (.sipush (-129), 3) := by decide +kernel
theorem dX_performReturn_102 : decode bX_performReturn 102 = .ok (.iand, 1) := by decide +kernel
theorem dX_performReturn_103 : decode bX_performReturn 103 = .ok (.iload 4, 2) := by decide +kernel
theorem dX_performReturn_105 : decode bX_performReturn 105 = .ok (.ior, 1) := by decide +kernel
theorem dX_performReturn_106 : decode bX_performReturn 106 = .ok (.bipush 32, 2) := by decide +kernel
theorem dX_performReturn_108 : decode bX_performReturn 108 = .ok (.ior, 1) := by decide +kernel
theorem dX_performReturn_109 : decode bX_performReturn 109 = .ok (.putfield 66, 3) := by decide +kernel
theorem dX_performReturn_112 : decode bX_performReturn 112 = .ok (.aload_n 0, 1) := by decide +kernel
theorem dX_performReturn_113 : decode bX_performReturn 113 = .ok (.iload_n 3, 1) := by decide +kernel
theorem dX_performReturn_114 : decode bX_performReturn 114 = .ok (.invokevirtual 88, 3) := by decide +kernel
theorem dX_performReturn_117 : decode bX_performReturn 117 = .ok (.aload_n 0, 1) := by decide +kernel
theorem dX_performReturn_118 : decode bX_performReturn 118 = .ok (.iload_n 2, 1) := by decide +kernel
theorem dX_performReturn_119 : decode bX_performReturn 119 = .ok (.invokevirtual 120, 3) := by decide +kernel
theorem dX_performReturn_122 : decode bX_performReturn 122 = .ok (.ireturn, 1) := by decide +kernel
theorem dX_performTrap_0 : decode bX_performTrap 0 = .ok (.aload_n 0, 1) := by decide +kernel
theorem dX_performTrap_1 : decode bX_performTrap 1 = .ok (.iload_n 1, 1) := by decide +kernel
theorem dX_performTrap_2 : decode bX_performTrap 2 = .ok (.invokestatic 156, 3) := by decide +kernel
theorem dX_performTrap_5 : decode bX_performTrap 5 = .ok (.invokevirtual 159, 3) := by decide +kernel
theorem dX_performTrap_8 : decode bX_performTrap 8 = .ok (.ifCond .ne 8, 3) := by decide +kernel
theorem dX_performTrap_11 : decode bX_performTrap 11 = .ok (.aload_n 0, 1) := by decide +kernel
theorem dX_performTrap_12 : decode bX_performTrap 12 = .ok (.invokevirtual 104, 3) := by decide +kernel
theorem dX_performTrap_15 : decode bX_performTrap 15 = .ok (.ireturn, 1) := by decide +kernel
theorem dX_performTrap_16 : decode bX_performTrap 16 = .ok (.aload_n 0, 1) := by decide +kernel
theorem dX_performTrap_17 : decode bX_performTrap 17 = .ok (.sipush 128, 3) := by decide +kernel
theorem dX_performTrap_20 : decode bX_performTrap 20 = .ok (.aload_n 0, 1) := by decide +kernel
theorem dX_performTrap_21 : decode bX_performTrap 21 = .ok (.iload_n 1, 1) := by decide +kernel
theorem dX_performTrap_22 : decode bX_performTrap 22 = .ok (.invokevirtual 195, 3) := by decide +kernel
theorem dX_performTrap_25 : decode bX_performTrap 25 = .ok (.aload_n 0, 1) := by decide +kernel
theorem dX_performTrap_26 : decode bX_performTrap 26 = .ok (.iload_n 1, 1) := by decide +kernel
theorem dX_performTrap_27 : decode bX_performTrap 27 = .ok (.invokevirtual 198, 3) := by decide +kernel
theorem dX_performTrap_30 : decode bX_performTrap 30 = .ok (.iadd, 1) := by decide +kernel
theorem dX_performTrap_31 : decode bX_performTrap 31 = .ok (.bipush 127, 2) := by decide +kernel
theorem dX_performTrap_33 : decode bX_performTrap 33 = .ok (.iand, 1) := by decide +kernel
theorem dX_performTrap_34 : decode bX_performTrap 34 = .ok (.iadd, 1) := by decide +kernel
theorem dX_performTrap_35 : decode bX_performTrap 35 = .ok (.invokevirtual 111, 3) := by decide +kernel
theorem dX_performTrap_38 : decode bX_performTrap 38 = .ok (.ireturn, 1) := by decide +kernel
theorem dX_performTurn_0 : decode bX_performTurn 0 = .ok (.aload_n 0, 1) := by decide +kernel
theorem dX_performTurn_1 : decode bX_performTurn 1 = .ok (.iload_n 2, 1) := by decide +kernel
theorem dX_performTurn_2 : decode bX_performTurn 2 = .ok (.invokevirtual 222, 3) := by decide +kernel
theorem dX_performTurn_5 : decode bX_performTurn 5 = .ok (.ifCond .eq 9, 3) := by decide +kernel
theorem dX_performTurn_8 : decode bX_performTurn 8 = .ok (.aload_n 0, 1) := by decide +kernel
theorem dX_performTurn_9 : decode bX_performTurn 9 = .ok (.iload_n 3, 1) := by decide +kernel
theorem dX_performTurn_10 : decode bX_performTurn 10 = .ok (.invokevirtual 111, 3) := by decide +kernel
theorem dX_performTurn_13 : decode bX_performTurn 13 = .ok (.ireturn, 1) := by decide +kernel
theorem dX_performTurn_14 : decode bX_performTurn 14 = .ok (.aload_n 0, 1) := by decide +kernel
theorem dX_performTurn_15 : decode bX_performTurn 15 = .ok (.iload_n 1, 1) := by decide +kernel
theorem dX_performTurn_16 : decode bX_performTurn 16 = .ok (.invokevirtual 195, 3) := by decide +kernel
theorem dX_performTurn_19 : decode bX_performTurn 19 = .ok (.aload_n 0, 1) := by decide +kernel
theorem dX_performTurn_20 : decode bX_performTurn 20 = .ok (.iload_n 1, 1) := by decide +kernel
theorem dX_performTurn_21 : decode bX_performTurn 21 = .ok (.invokevirtual 198, 3) := by decide +kernel
theorem dX_performTurn_24 : decode bX_performTurn 24 = .ok (.iadd, 1) := by decide +kernel
theorem dX_performTurn_25 : decode bX_performTurn 25 = .ok (.istore 4, 2) := by decide +kernel
theorem dX_performTurn_27 : decode bX_performTurn 27 = .ok (.aload_n 0, 1) := by decide +kernel
theorem dX_performTurn_28 : decode bX_performTurn 28 = .ok (.iload_n 2, 1) := by decide +kernel
theorem dX_performTurn_29 : decode bX_performTurn 29 = .ok (.invokevirtual 88, 3) := by decide +kernel
theorem dX_performTurn_32 : decode bX_performTurn 32 = .ok (.aload_n 0, 1) := by decide +kernel
theorem dX_performTurn_33 : decode bX_performTurn 33 = .ok (.iload_n 1, 1) := by decide +kernel
theorem dX_performTurn_34 : decode bX_performTurn 34 = .ok (.invokestatic 153, 3) := by decide +kernel
theorem dX_performTurn_37 : decode bX_performTurn 37 = .ok (.iload 4, 2) := by decide +kernel
theorem dX_performTurn_39 : decode bX_performTurn 39 = .ok (.invokevirtual 129, 3) := by decide +kernel
theorem dX_performTurn_42 : decode bX_performTurn 42 = .ok (.aload_n 0, 1) := by decide +kernel
theorem dX_performTurn_43 : decode bX_performTurn 43 = .ok (.invokevirtual 104, 3) := by decide +kernel
theorem dX_performTurn_46 : decode bX_performTurn 46 = .ok (.ireturn, 1) := by decide +kernel
theorem dX_performTransfer_0 : decode bX_performTransfer 0 = .ok (.iload_n 2, 1) := by decide +kernel
theorem dX_performTransfer_1 : decode bX_performTransfer 1 = .ok (.invokestatic 225, 3) := by decide +kernel
theorem dX_performTransfer_4 : decode bX_performTransfer 4 = .ok (.istore_n 3, 1) := by decide +kernel
theorem dX_performTransfer_5 : decode bX_performTransfer 5 = .ok (.iload_n 1, 1) := by decide +kernel
theorem dX_performTransfer_6 : decode bX_performTransfer 6 = .ok (.invokestatic 153, 3) := by decide +kernel
theorem dX_performTransfer_9 : decode bX_performTransfer 9 = .ok (.istore 4, 2) := by decide +kernel
theorem dX_performTransfer_11 : decode bX_performTransfer 11 = .ok (.iload_n 3, 1) := by decide +kernel
theorem dX_performTransfer_12 : decode bX_performTransfer 12 = .ok (.ifCond .eq 16, 3) := by decide +kernel
theorem dX_performTransfer_15 : decode bX_performTransfer 15 = .ok (.iload_n 3, 1) := by decide +kernel
theorem dX_performTransfer_16 : decode bX_performTransfer 16 = .ok (.bipush 8, 2) := by decide +kernel
theorem dX_performTransfer_18 : decode bX_performTransfer 18 = .ok (.if_icmp .ne 16, 3) := by decide +kernel
theorem dX_performTransfer_21 : decode bX_performTransfer 21 = .ok (.iload 4, 2) := by decide +kernel
theorem dX_performTransfer_23 : decode bX_performTransfer 23 = .ok (.iconst 1, 1) := by decide +kernel
theorem dX_performTransfer_24 : decode bX_performTransfer 24 = .ok (.iand, 1) := by decide +kernel
theorem dX_performTransfer_25 : decode bX_performTransfer 25 = .ok (.ifCond .eq 9, 3) := by decide +kernel
theorem dX_performTransfer_28 : decode bX_performTransfer 28 = .ok (.aload_n 0, 1) := by decide +kernel
theorem dX_performTransfer_29 : decode bX_performTransfer 29 = .ok (.iconst 2, 1) := by decide +kernel
theorem dX_performTransfer_30 : decode bX_performTransfer 30 = .ok (.invokevirtual 111, 3) := by decide +kernel
theorem dX_performTransfer_33 : decode bX_performTransfer 33 = .ok (.ireturn, 1) := by decide +kernel
theorem dX_performTransfer_34 : decode bX_performTransfer 34 = .ok (.aload_n 0, 1) := by decide +kernel
theorem dX_performTransfer_35 : decode bX_performTransfer 35 = .ok (.iload_n 1, 1) := by decide +kernel
theorem dX_performTransfer_36 : decode bX_performTransfer 36 = .ok (.invokevirtual 195, 3) := by decide +kernel
theorem dX_performTransfer_39 : decode bX_performTransfer 39 = .ok (.aload_n 0, 1) := by decide +kernel
theorem dX_performTransfer_40 : decode bX_performTransfer 40 = .ok (.iload_n 1, 1) := by decide +kernel
theorem dX_performTransfer_41 : decode bX_performTransfer 41 = .ok (.invokevirtual 198, 3) := by decide +kernel
theorem dX_performTransfer_44 : decode bX_performTransfer 44 = .ok (.iadd, 1) := by decide +kernel
theorem dX_performTransfer_45 : decode bX_performTransfer 45 = .ok (.istore 5, 2) := by decide +kernel
theorem dX_performTransfer_47 : decode bX_performTransfer 47 = .ok (.iload 5, 2) := by decide +kernel
theorem dX_performTransfer_49 : decode bX_performTransfer 49 = .ok (.iload_n 3, 1) := by decide +kernel
theorem dX_performTransfer_50 : decode bX_performTransfer 50 = .ok (.iconst 1, 1) := by decide +kernel
theorem dX_performTransfer_51 : decode bX_performTransfer 51 = .ok (.isub, 1) := by decide +kernel
theorem dX_performTransfer_52 : decode bX_performTransfer 52 = .ok (.iand, 1) := by decide +kernel
theorem dX_performTransfer_53 : decode bX_performTransfer 53 = .ok (.ifCond .eq 10, 3) := by decide +kernel
theorem dX_performTransfer_56 : decode bX_performTransfer 56 = .ok (.aload_n 0, 1) := by decide +kernel
theorem dX_performTransfer_57 : decode bX_performTransfer 57 = .ok (.bipush 7, 2) := by decide +kernel
theorem dX_performTransfer_59 : decode bX_performTransfer 59 = .ok (.invokevirtual 111, 3) := by decide +kernel
theorem dX_performTransfer_62 : decode bX_performTransfer 62 = .ok (.ireturn, 1) := by decide +kernel
theorem dX_performTransfer_63 : decode bX_performTransfer 63 = .ok (.iload 5, 2) := by decide +kernel
theorem dX_performTransfer_65 : decode bX_performTransfer 65 = .ok (.invokestatic 95, 3) := by decide +kernel
theorem dX_performTransfer_68 : decode bX_performTransfer 68 = .ok (.ifCond .ne 10, 3) := by decide +kernel
theorem dX_performTransfer_71 : decode bX_performTransfer 71 = .ok (.aload_n 0, 1) := by decide +kernel
theorem dX_performTransfer_72 : decode bX_performTransfer 72 = .ok (.bipush 9, 2) := by decide +kernel
theorem dX_performTransfer_74 : decode bX_performTransfer 74 = .ok (.invokevirtual 111, 3) := by decide +kernel
theorem dX_performTransfer_77 : decode bX_performTransfer 77 = .ok (.ireturn, 1) := by decide +kernel
theorem dX_performTransfer_78 : decode bX_performTransfer 78 = .ok (.iload_n 3, 1) := by decide +kernel
theorem dX_performTransfer_79 : decode bX_performTransfer 79 = .ok (.bipush 8, 2) := by decide +kernel
theorem dX_performTransfer_81 : decode bX_performTransfer 81 = .ok (.if_icmp .ne 15, 3) := by decide +kernel
theorem dX_performTransfer_84 : decode bX_performTransfer 84 = .ok (.aload_n 0, 1) := by decide +kernel
theorem dX_performTransfer_85 : decode bX_performTransfer 85 = .ok (.iload_n 2, 1) := by decide +kernel
theorem dX_performTransfer_86 : decode bX_performTransfer 86 = .ok (.iload 4, 2) := by decide +kernel
theorem dX_performTransfer_88 : decode bX_performTransfer 88 = .ok (.iload 5, 2) := by decide +kernel
theorem dX_performTransfer_90 : decode bX_performTransfer 90 = .ok (.invokevirtual 228, 3) := by decide +kernel
theorem dX_performTransfer_93 : decode bX_performTransfer 93 = .ok (.goto 13, 3) := by decide +kernel
theorem dX_performTransfer_96 : decode bX_performTransfer 96 = .ok (.aload_n 0, 1) := by decide +kernel
theorem dX_performTransfer_97 : decode bX_performTransfer 97 = .ok (.iload_n 2, 1) := by decide +kernel
theorem dX_performTransfer_98 : decode bX_performTransfer 98 = .ok (.iload 4, 2) := by decide +kernel
theorem dX_performTransfer_100 : decode bX_performTransfer 100 = .ok (.iload 5, 2) := by decide +kernel
theorem dX_performTransfer_102 : decode bX_performTransfer 102 = .ok (.iload_n 3, 1) := by decide +kernel
theorem dX_performTransfer_103 : decode bX_performTransfer 103 = .ok (.invokevirtual 232, 3) := by decide +kernel
theorem dX_performTransfer_106 : decode bX_performTransfer 106 = .ok (.aload_n 0, 1) := by decide +kernel
theorem dX_performTransfer_107 : decode bX_performTransfer 107 = .ok (.invokevirtual 104, 3) := by decide +kernel
theorem dX_performTransfer_110 : decode bX_performTransfer 110 = .ok (.ireturn, 1) := by decide +kernel
theorem dX_sizeMoved_0 : decode bX_sizeMoved 0 = .ok (.iload_n 0, 1) := by decide +kernel
theorem dX_sizeMoved_1 : decode bX_sizeMoved 1 = .ok (.tableswitch 88 0 15 #[83, 79, 81, 85, 83, 79, 81, 85, 88, 79, 81, 88, 88, 79, 88, 83], 79) := by decide +kernel
theorem dX_sizeMoved_80 : decode bX_sizeMoved 80 = .ok (.iconst 1, 1) := by decide +kernel
theorem dX_sizeMoved_81 : decode bX_sizeMoved 81 = .ok (.ireturn, 1) := by decide +kernel
theorem dX_sizeMoved_82 : decode bX_sizeMoved 82 = .ok (.iconst 2, 1) := by decide +kernel
theorem dX_sizeMoved_83 : decode bX_sizeMoved 83 = .ok (.ireturn, 1) := by decide +kernel
theorem dX_sizeMoved_84 : decode bX_sizeMoved 84 = .ok (.iconst 4, 1) := by decide +kernel
theorem dX_sizeMoved_85 : decode bX_sizeMoved 85 = .ok (.ireturn, 1) := by decide +kernel
theorem dX_sizeMoved_86 : decode bX_sizeMoved 86 = .ok (.bipush 8, 2) := by decide +kernel
theorem dX_sizeMoved_88 : decode bX_sizeMoved 88 = .ok (.ireturn, 1) := by decide +kernel
theorem dX_sizeMoved_89 : decode bX_sizeMoved 89 = .ok (.iconst 0, 1) := by decide +kernel
theorem dX_sizeMoved_90 : decode bX_sizeMoved 90 = .ok (.ireturn, 1) := by decide +kernel
theorem dX_moveTwoWords_0 : decode bX_moveTwoWords 0 = .ok (.iload_n 1, 1) := by decide +kernel
theorem dX_moveTwoWords_1 : decode bX_moveTwoWords 1 = .ok (.iconst 3, 1) := by decide +kernel
theorem dX_moveTwoWords_2 : decode bX_moveTwoWords 2 = .ok (.if_icmp .ne 32, 3) := by decide +kernel
theorem dX_moveTwoWords_5 : decode bX_moveTwoWords 5 = .ok (.aload_n 0, 1) := by decide +kernel
theorem dX_moveTwoWords_6 : decode bX_moveTwoWords 6 = .ok (.iload_n 2, 1) := by decide +kernel
theorem dX_moveTwoWords_7 : decode bX_moveTwoWords 7 = .ok (.aload_n 0, 1) := by decide +kernel
theorem dX_moveTwoWords_8 : decode bX_moveTwoWords 8 = .ok (.iload_n 3, 1) := by decide +kernel
theorem dX_moveTwoWords_9 : decode bX_moveTwoWords 9 = .ok (.iconst 4, 1) := by decide +kernel
theorem dX_moveTwoWords_10 : decode bX_moveTwoWords 10 = .ok (.invokevirtual 236, 3) := by decide +kernel
theorem dX_moveTwoWords_13 : decode bX_moveTwoWords 13 = .ok (.invokevirtual 129, 3) := by decide +kernel
theorem dX_moveTwoWords_16 : decode bX_moveTwoWords 16 = .ok (.aload_n 0, 1) := by decide +kernel
theorem dX_moveTwoWords_17 : decode bX_moveTwoWords 17 = .ok (.iload_n 2, 1) := by decide +kernel
theorem dX_moveTwoWords_18 : decode bX_moveTwoWords 18 = .ok (.iconst 1, 1) := by decide +kernel
theorem dX_moveTwoWords_19 : decode bX_moveTwoWords 19 = .ok (.iadd, 1) := by decide +kernel
theorem dX_moveTwoWords_20 : decode bX_moveTwoWords 20 = .ok (.aload_n 0, 1) := by decide +kernel
theorem dX_moveTwoWords_21 : decode bX_moveTwoWords 21 = .ok (.iload_n 3, 1) := by decide +kernel
theorem dX_moveTwoWords_22 : decode bX_moveTwoWords 22 = .ok (.iconst 4, 1) := by decide +kernel
theorem dX_moveTwoWords_23 : decode bX_moveTwoWords 23 = .ok (.iadd, 1) := by decide +kernel
theorem dX_moveTwoWords_24 : decode bX_moveTwoWords 24 = .ok (.iconst 4, 1) := by decide +kernel
theorem dX_moveTwoWords_25 : decode bX_moveTwoWords 25 = .ok (.invokevirtual 236, 3) := by decide +kernel
theorem dX_moveTwoWords_28 : decode bX_moveTwoWords 28 = .ok (.invokevirtual 129, 3) := by decide +kernel
theorem dX_moveTwoWords_31 : decode bX_moveTwoWords 31 = .ok (.goto 29, 3) := by decide +kernel
theorem dX_moveTwoWords_34 : decode bX_moveTwoWords 34 = .ok (.aload_n 0, 1) := by decide +kernel
theorem dX_moveTwoWords_35 : decode bX_moveTwoWords 35 = .ok (.iload_n 3, 1) := by decide +kernel
theorem dX_moveTwoWords_36 : decode bX_moveTwoWords 36 = .ok (.iconst 4, 1) := by decide +kernel
theorem dX_moveTwoWords_37 : decode bX_moveTwoWords 37 = .ok (.aload_n 0, 1) := by decide +kernel
theorem dX_moveTwoWords_38 : decode bX_moveTwoWords 38 = .ok (.iload_n 2, 1) := by decide +kernel
theorem dX_moveTwoWords_39 : decode bX_moveTwoWords 39 = .ok (.invokevirtual 132, 3) := by decide +kernel
theorem dX_moveTwoWords_42 : decode bX_moveTwoWords 42 = .ok (.invokevirtual 239, 3) := by decide +kernel
theorem dX_moveTwoWords_45 : decode bX_moveTwoWords 45 = .ok (.aload_n 0, 1) := by decide +kernel
theorem dX_moveTwoWords_46 : decode bX_moveTwoWords 46 = .ok (.iload_n 3, 1) := by decide +kernel
theorem dX_moveTwoWords_47 : decode bX_moveTwoWords 47 = .ok (.iconst 4, 1) := by decide +kernel
theorem dX_moveTwoWords_48 : decode bX_moveTwoWords 48 = .ok (.iadd, 1) := by decide +kernel
theorem dX_moveTwoWords_49 : decode bX_moveTwoWords 49 = .ok (.iconst 4, 1) := by decide +kernel
theorem dX_moveTwoWords_50 : decode bX_moveTwoWords 50 = .ok (.aload_n 0, 1) := by decide +kernel
theorem dX_moveTwoWords_51 : decode bX_moveTwoWords 51 = .ok (.iload_n 2, 1) := by decide +kernel
theorem dX_moveTwoWords_52 : decode bX_moveTwoWords 52 = .ok (.iconst 1, 1) := by decide +kernel
theorem dX_moveTwoWords_53 : decode bX_moveTwoWords 53 = .ok (.iadd, 1) := by decide +kernel
theorem dX_moveTwoWords_54 : decode bX_moveTwoWords 54 = .ok (.invokevirtual 132, 3) := by decide +kernel
theorem dX_moveTwoWords_57 : decode bX_moveTwoWords 57 = .ok (.invokevirtual 239, 3) := by decide +kernel
theorem dX_moveTwoWords_60 : decode bX_moveTwoWords 60 = .ok (.return_, 1) := by decide +kernel
theorem dX_moveOne_0 : decode bX_moveOne 0 = .ok (.aload_n 0, 1) := by decide +kernel
theorem dX_moveOne_1 : decode bX_moveOne 1 = .ok (.iload_n 3, 1) := by decide +kernel
theorem dX_moveOne_2 : decode bX_moveOne 2 = .ok (.iload 4, 2) := by decide +kernel
theorem dX_moveOne_4 : decode bX_moveOne 4 = .ok (.invokevirtual 236, 3) := by decide +kernel
theorem dX_moveOne_7 : decode bX_moveOne 7 = .ok (.istore 5, 2) := by decide +kernel
theorem dX_moveOne_9 : decode bX_moveOne 9 = .ok (.iload_n 1, 1) := by decide +kernel
theorem dX_moveOne_10 : decode bX_moveOne 10 = .ok (.tableswitch 134 4 15 #[62, 62, 62, 134, 134, 77, 77, 134, 134, 92, 134, 112], 62) := by decide +kernel
theorem dX_moveOne_72 : decode bX_moveOne 72 = .ok (.aload_n 0, 1) := by decide +kernel
theorem dX_moveOne_73 : decode bX_moveOne 73 = .ok (.iload_n 3, 1) := by decide +kernel
theorem dX_moveOne_74 : decode bX_moveOne 74 = .ok (.iload 4, 2) := by decide +kernel
theorem dX_moveOne_76 : decode bX_moveOne 76 = .ok (.aload_n 0, 1) := by decide +kernel
theorem dX_moveOne_77 : decode bX_moveOne 77 = .ok (.iload_n 2, 1) := by decide +kernel
theorem dX_moveOne_78 : decode bX_moveOne 78 = .ok (.invokevirtual 132, 3) := by decide +kernel
theorem dX_moveOne_81 : decode bX_moveOne 81 = .ok (.invokevirtual 239, 3) := by decide +kernel
theorem dX_moveOne_84 : decode bX_moveOne 84 = .ok (.goto 67, 3) := by decide +kernel
theorem dX_moveOne_87 : decode bX_moveOne 87 = .ok (.aload_n 0, 1) := by decide +kernel
theorem dX_moveOne_88 : decode bX_moveOne 88 = .ok (.iload_n 2, 1) := by decide +kernel
theorem dX_moveOne_89 : decode bX_moveOne 89 = .ok (.iload 5, 2) := by decide +kernel
theorem dX_moveOne_91 : decode bX_moveOne 91 = .ok (.iload 4, 2) := by decide +kernel
theorem dX_moveOne_93 : decode bX_moveOne 93 = .ok (.invokestatic 242, 3) := by decide +kernel
theorem dX_moveOne_96 : decode bX_moveOne 96 = .ok (.invokevirtual 129, 3) := by decide +kernel
theorem dX_moveOne_99 : decode bX_moveOne 99 = .ok (.goto 52, 3) := by decide +kernel
theorem dX_moveOne_102 : decode bX_moveOne 102 = .ok (.aload_n 0, 1) := by decide +kernel
theorem dX_moveOne_103 : decode bX_moveOne 103 = .ok (.iload_n 3, 1) := by decide +kernel
theorem dX_moveOne_104 : decode bX_moveOne 104 = .ok (.iload 4, 2) := by decide +kernel
theorem dX_moveOne_106 : decode bX_moveOne 106 = .ok (.sipush 255, 3) := by decide +kernel
theorem dX_moveOne_109 : decode bX_moveOne 109 = .ok (.invokevirtual 239, 3) := by decide +kernel
theorem dX_moveOne_112 : decode bX_moveOne 112 = .ok (.aload_n 0, 1) := by decide +kernel
theorem dX_moveOne_113 : decode bX_moveOne 113 = .ok (.iload_n 2, 1) := by decide +kernel
theorem dX_moveOne_114 : decode bX_moveOne 114 = .ok (.iload 5, 2) := by decide +kernel
theorem dX_moveOne_116 : decode bX_moveOne 116 = .ok (.invokevirtual 129, 3) := by decide +kernel
theorem dX_moveOne_119 : decode bX_moveOne 119 = .ok (.goto 32, 3) := by decide +kernel
theorem dX_moveOne_122 : decode bX_moveOne 122 = .ok (.aload_n 0, 1) := by decide +kernel
theorem dX_moveOne_123 : decode bX_moveOne 123 = .ok (.iload_n 3, 1) := by decide +kernel
theorem dX_moveOne_124 : decode bX_moveOne 124 = .ok (.iload 4, 2) := by decide +kernel
theorem dX_moveOne_126 : decode bX_moveOne 126 = .ok (.aload_n 0, 1) := by decide +kernel
theorem dX_moveOne_127 : decode bX_moveOne 127 = .ok (.iload_n 2, 1) := by decide +kernel
theorem dX_moveOne_128 : decode bX_moveOne 128 = .ok (.invokevirtual 132, 3) := by decide +kernel
theorem dX_moveOne_131 : decode bX_moveOne 131 = .ok (.invokevirtual 239, 3) := by decide +kernel
theorem dX_moveOne_134 : decode bX_moveOne 134 = .ok (.aload_n 0, 1) := by decide +kernel
theorem dX_moveOne_135 : decode bX_moveOne 135 = .ok (.iload_n 2, 1) := by decide +kernel
theorem dX_moveOne_136 : decode bX_moveOne 136 = .ok (.iload 5, 2) := by decide +kernel
theorem dX_moveOne_138 : decode bX_moveOne 138 = .ok (.invokevirtual 129, 3) := by decide +kernel
theorem dX_moveOne_141 : decode bX_moveOne 141 = .ok (.goto 10, 3) := by decide +kernel
theorem dX_moveOne_144 : decode bX_moveOne 144 = .ok (.aload_n 0, 1) := by decide +kernel
theorem dX_moveOne_145 : decode bX_moveOne 145 = .ok (.iload_n 2, 1) := by decide +kernel
theorem dX_moveOne_146 : decode bX_moveOne 146 = .ok (.iload 5, 2) := by decide +kernel
theorem dX_moveOne_148 : decode bX_moveOne 148 = .ok (.invokevirtual 129, 3) := by decide +kernel
theorem dX_moveOne_151 : decode bX_moveOne 151 = .ok (.return_, 1) := by decide +kernel
theorem dX_withSign_0 : decode bX_withSign 0 = .ok (.bipush 32, 2) := by decide +kernel
theorem dX_withSign_2 : decode bX_withSign 2 = .ok (.bipush 8, 2) := by decide +kernel
theorem dX_withSign_4 : decode bX_withSign 4 = .ok (.iload_n 1, 1) := by decide +kernel
theorem dX_withSign_5 : decode bX_withSign 5 = .ok (.imul, 1) := by decide +kernel
theorem dX_withSign_6 : decode bX_withSign 6 = .ok (.isub, 1) := by decide +kernel
theorem dX_withSign_7 : decode bX_withSign 7 = .ok (.istore_n 2, 1) := by decide +kernel
theorem dX_withSign_8 : decode bX_withSign 8 = .ok (.iload_n 0, 1) := by decide +kernel
theorem dX_withSign_9 : decode bX_withSign 9 = .ok (.iload_n 2, 1) := by decide +kernel
theorem dX_withSign_10 : decode bX_withSign 10 = .ok (.ishl, 1) := by decide +kernel
theorem dX_withSign_11 : decode bX_withSign 11 = .ok (.iload_n 2, 1) := by decide +kernel
theorem dX_withSign_12 : decode bX_withSign 12 = .ok (.ishr, 1) := by decide +kernel
theorem dX_withSign_13 : decode bX_withSign 13 = .ok (.ireturn, 1) := by decide +kernel
theorem dJ_fill_0 : decode bJ_fill 0 = .ok (.iconst 0, 1) := by decide +kernel
theorem dJ_fill_1 : decode bJ_fill 1 = .ok (.istore_n 2, 1) := by decide +kernel
theorem dJ_fill_2 : decode bJ_fill 2 = .ok (.aload_n 0, 1) := by decide +kernel
theorem dJ_fill_3 : decode bJ_fill 3 = .ok (.arraylength, 1) := by decide +kernel
theorem dJ_fill_4 : decode bJ_fill 4 = .ok (.istore_n 3, 1) := by decide +kernel
theorem dJ_fill_5 : decode bJ_fill 5 = .ok (.iload_n 2, 1) := by decide +kernel
theorem dJ_fill_6 : decode bJ_fill 6 = .ok (.iload_n 3, 1) := by decide +kernel
theorem dJ_fill_7 : decode bJ_fill 7 = .ok (.if_icmp .ge 13, 3) := by decide +kernel
theorem dJ_fill_10 : decode bJ_fill 10 = .ok (.aload_n 0, 1) := by decide +kernel
theorem dJ_fill_11 : decode bJ_fill 11 = .ok (.iload_n 2, 1) := by decide +kernel
theorem dJ_fill_12 : decode bJ_fill 12 = .ok (.iload_n 1, 1) := by decide +kernel
theorem dJ_fill_13 : decode bJ_fill 13 = .ok (.iastore, 1) := by decide +kernel
theorem dJ_fill_14 : decode bJ_fill 14 = .ok (.iinc 2 1, 3) := by decide +kernel
theorem dJ_fill_17 : decode bJ_fill 17 = .ok (.goto (-12), 3) := by decide +kernel
theorem dJ_fill_20 : decode bJ_fill 20 = .ok (.return_, 1) := by decide +kernel
