theorem dX12_readsPart_55 : decode cX12_readsPart 55 = .ok (.if_icmp .ne 8, 3) := by decide +kernel
theorem dX12_readsPart_58 : decode cX12_readsPart 58 = .ok (.bipush 23, 2) := by decide +kernel
theorem dX12_readsPart_60 : decode cX12_readsPart 60 = .ok (.goto 4, 3) := by decide +kernel
theorem dX12_readsPart_63 : decode cX12_readsPart 63 = .ok (.iconst (-1), 1) := by decide +kernel
theorem dX12_readsPart_64 : decode cX12_readsPart 64 = .ok (.istore_n 2, 1) := by decide +kernel
theorem dX12_readsPart_65 : decode cX12_readsPart 65 = .ok (.iload_n 2, 1) := by decide +kernel
theorem dX12_readsPart_66 : decode cX12_readsPart 66 = .ok (.iconst (-1), 1) := by decide +kernel
theorem dX12_readsPart_67 : decode cX12_readsPart 67 = .ok (.if_icmp .ne 12, 3) := by decide +kernel
theorem dX12_readsPart_70 : decode cX12_readsPart 70 = .ok (.aload_n 0, 1) := by decide +kernel
theorem dX12_readsPart_71 : decode cX12_readsPart 71 = .ok (.aload_n 0, 1) := by decide +kernel
theorem dX12_readsPart_72 : decode cX12_readsPart 72 = .ok (.getfield 185, 3) := by decide +kernel
theorem dX12_readsPart_75 : decode cX12_readsPart 75 = .ok (.putfield 188, 3) := by decide +kernel
theorem dX12_readsPart_78 : decode cX12_readsPart 78 = .ok (.return_, 1) := by decide +kernel
theorem dX12_readsPart_79 : decode cX12_readsPart 79 = .ok (.aload_n 0, 1) := by decide +kernel
theorem dX12_readsPart_80 : decode cX12_readsPart 80 = .ok (.dup, 1) := by decide +kernel
theorem dX12_readsPart_81 : decode cX12_readsPart 81 = .ok (.getfield 185, 3) := by decide +kernel
theorem dX12_readsPart_84 : decode cX12_readsPart 84 = .ok (.iconst 1, 1) := by decide +kernel
theorem dX12_readsPart_85 : decode cX12_readsPart 85 = .ok (.iadd, 1) := by decide +kernel
theorem dX12_readsPart_86 : decode cX12_readsPart 86 = .ok (.putfield 185, 3) := by decide +kernel
theorem dX12_readsPart_89 : decode cX12_readsPart 89 = .ok (.iload_n 2, 1) := by decide +kernel
theorem dX12_readsPart_90 : decode cX12_readsPart 90 = .ok (.ifCond .ne 14, 3) := by decide +kernel
theorem dX12_readsPart_93 : decode cX12_readsPart 93 = .ok (.aload_n 0, 1) := by decide +kernel
theorem dX12_readsPart_94 : decode cX12_readsPart 94 = .ok (.iconst 2, 1) := by decide +kernel
theorem dX12_readsPart_95 : decode cX12_readsPart 95 = .ok (.iconst 0, 1) := by decide +kernel
theorem dX12_readsPart_96 : decode cX12_readsPart 96 = .ok (.bipush 19, 2) := by decide +kernel
theorem dX12_readsPart_98 : decode cX12_readsPart 98 = .ok (.invokevirtual 195, 3) := by decide +kernel
theorem dX12_readsPart_101 : decode cX12_readsPart 101 = .ok (.goto 4, 3) := by decide +kernel
theorem dX12_readsPart_104 : decode cX12_readsPart 104 = .ok (.iload_n 2, 1) := by decide +kernel
theorem dX12_readsPart_105 : decode cX12_readsPart 105 = .ok (.istore_n 2, 1) := by decide +kernel
theorem dX12_readsPart_106 : decode cX12_readsPart 106 = .ok (.aload_n 0, 1) := by decide +kernel
theorem dX12_readsPart_107 : decode cX12_readsPart 107 = .ok (.getfield 188, 3) := by decide +kernel
theorem dX12_readsPart_110 : decode cX12_readsPart 110 = .ok (.iconst (-1), 1) := by decide +kernel
theorem dX12_readsPart_111 : decode cX12_readsPart 111 = .ok (.if_icmp .ne 24, 3) := by decide +kernel
theorem dX12_readsPart_114 : decode cX12_readsPart 114 = .ok (.aload_n 0, 1) := by decide +kernel
theorem dX12_readsPart_115 : decode cX12_readsPart 115 = .ok (.aload_n 0, 1) := by decide +kernel
theorem dX12_readsPart_116 : decode cX12_readsPart 116 = .ok (.getfield 185, 3) := by decide +kernel
theorem dX12_readsPart_119 : decode cX12_readsPart 119 = .ok (.invokevirtual 191, 3) := by decide +kernel
theorem dX12_readsPart_122 : decode cX12_readsPart 122 = .ok (.bipush 61, 2) := by decide +kernel
theorem dX12_readsPart_124 : decode cX12_readsPart 124 = .ok (.if_icmp .eq 11, 3) := by decide +kernel
theorem dX12_readsPart_127 : decode cX12_readsPart 127 = .ok (.aload_n 0, 1) := by decide +kernel
theorem dX12_readsPart_128 : decode cX12_readsPart 128 = .ok (.aload_n 0, 1) := by decide +kernel
theorem dX12_readsPart_129 : decode cX12_readsPart 129 = .ok (.getfield 185, 3) := by decide +kernel
theorem dX12_readsPart_132 : decode cX12_readsPart 132 = .ok (.putfield 188, 3) := by decide +kernel
theorem dX12_readsPart_135 : decode cX12_readsPart 135 = .ok (.aload_n 0, 1) := by decide +kernel
theorem dX12_readsPart_136 : decode cX12_readsPart 136 = .ok (.dup, 1) := by decide +kernel
theorem dX12_readsPart_137 : decode cX12_readsPart 137 = .ok (.getfield 185, 3) := by decide +kernel
theorem dX12_readsPart_140 : decode cX12_readsPart 140 = .ok (.iconst 1, 1) := by decide +kernel
theorem dX12_readsPart_141 : decode cX12_readsPart 141 = .ok (.iadd, 1) := by decide +kernel
theorem dX12_readsPart_142 : decode cX12_readsPart 142 = .ok (.putfield 185, 3) := by decide +kernel
theorem dX12_readsPart_145 : decode cX12_readsPart 145 = .ok (.aload_n 0, 1) := by decide +kernel
theorem dX12_readsPart_146 : decode cX12_readsPart 146 = .ok (.getfield 34, 3) := by decide +kernel
theorem dX12_readsPart_149 : decode cX12_readsPart 149 = .ok (.aload_n 0, 1) := by decide +kernel
theorem dX12_readsPart_150 : decode cX12_readsPart 150 = .ok (.getfield 198, 3) := by decide +kernel
theorem dX12_readsPart_153 : decode cX12_readsPart 153 = .ok (.iload_n 2, 1) := by decide +kernel
theorem dX12_readsPart_154 : decode cX12_readsPart 154 = .ok (.iastore, 1) := by decide +kernel
theorem dX12_readsPart_155 : decode cX12_readsPart 155 = .ok (.aload_n 0, 1) := by decide +kernel
theorem dX12_readsPart_156 : decode cX12_readsPart 156 = .ok (.getfield 37, 3) := by decide +kernel
theorem dX12_readsPart_159 : decode cX12_readsPart 159 = .ok (.aload_n 0, 1) := by decide +kernel
theorem dX12_readsPart_160 : decode cX12_readsPart 160 = .ok (.getfield 198, 3) := by decide +kernel
theorem dX12_readsPart_163 : decode cX12_readsPart 163 = .ok (.iload_n 2, 1) := by decide +kernel
theorem dX12_readsPart_164 : decode cX12_readsPart 164 = .ok (.bipush 21, 2) := by decide +kernel
theorem dX12_readsPart_166 : decode cX12_readsPart 166 = .ok (.if_icmp .ne 13, 3) := by decide +kernel
theorem dX12_readsPart_169 : decode cX12_readsPart 169 = .ok (.aload_n 0, 1) := by decide +kernel
theorem dX12_readsPart_170 : decode cX12_readsPart 170 = .ok (.iconst 1, 1) := by decide +kernel
theorem dX12_readsPart_171 : decode cX12_readsPart 171 = .ok (.iconst 1, 1) := by decide +kernel
theorem dX12_readsPart_172 : decode cX12_readsPart 172 = .ok (.iconst 3, 1) := by decide +kernel
theorem dX12_readsPart_173 : decode cX12_readsPart 173 = .ok (.invokevirtual 195, 3) := by decide +kernel
theorem dX12_readsPart_176 : decode cX12_readsPart 176 = .ok (.goto 11, 3) := by decide +kernel
theorem dX12_readsPart_179 : decode cX12_readsPart 179 = .ok (.aload_n 0, 1) := by decide +kernel
theorem dX12_readsPart_180 : decode cX12_readsPart 180 = .ok (.iconst 2, 1) := by decide +kernel
theorem dX12_readsPart_181 : decode cX12_readsPart 181 = .ok (.iconst 0, 1) := by decide +kernel
theorem dX12_readsPart_182 : decode cX12_readsPart 182 = .ok (.bipush 99, 2) := by decide +kernel
theorem dX12_readsPart_184 : decode cX12_readsPart 184 = .ok (.invokevirtual 195, 3) := by decide +kernel
theorem dX12_readsPart_187 : decode cX12_readsPart 187 = .ok (.iastore, 1) := by decide +kernel
theorem dX12_readsPart_188 : decode cX12_readsPart 188 = .ok (.aload_n 0, 1) := by decide +kernel
theorem dX12_readsPart_189 : decode cX12_readsPart 189 = .ok (.getfield 40, 3) := by decide +kernel
theorem dX12_readsPart_192 : decode cX12_readsPart 192 = .ok (.aload_n 0, 1) := by decide +kernel
theorem dX12_readsPart_193 : decode cX12_readsPart 193 = .ok (.getfield 198, 3) := by decide +kernel
theorem dX12_readsPart_196 : decode cX12_readsPart 196 = .ok (.iconst 0, 1) := by decide +kernel
theorem dX12_readsPart_197 : decode cX12_readsPart 197 = .ok (.iastore, 1) := by decide +kernel
theorem dX12_readsPart_198 : decode cX12_readsPart 198 = .ok (.aload_n 0, 1) := by decide +kernel
theorem dX12_readsPart_199 : decode cX12_readsPart 199 = .ok (.getfield 188, 3) := by decide +kernel
theorem dX12_readsPart_202 : decode cX12_readsPart 202 = .ok (.iconst (-1), 1) := by decide +kernel
theorem dX12_readsPart_203 : decode cX12_readsPart 203 = .ok (.if_icmp .ne 44, 3) := by decide +kernel
theorem dX12_readsPart_206 : decode cX12_readsPart 206 = .ok (.aload_n 0, 1) := by decide +kernel
theorem dX12_readsPart_207 : decode cX12_readsPart 207 = .ok (.aload_n 0, 1) := by decide +kernel
theorem dX12_readsPart_208 : decode cX12_readsPart 208 = .ok (.getfield 185, 3) := by decide +kernel
theorem dX12_readsPart_211 : decode cX12_readsPart 211 = .ok (.invokevirtual 191, 3) := by decide +kernel
theorem dX12_readsPart_214 : decode cX12_readsPart 214 = .ok (.bipush 64, 2) := by decide +kernel
theorem dX12_readsPart_216 : decode cX12_readsPart 216 = .ok (.if_icmp .ne 31, 3) := by decide +kernel
theorem dX12_readsPart_219 : decode cX12_readsPart 219 = .ok (.aload_n 0, 1) := by decide +kernel
theorem dX12_readsPart_220 : decode cX12_readsPart 220 = .ok (.dup, 1) := by decide +kernel
theorem dX12_readsPart_221 : decode cX12_readsPart 221 = .ok (.getfield 185, 3) := by decide +kernel
theorem dX12_readsPart_224 : decode cX12_readsPart 224 = .ok (.iconst 1, 1) := by decide +kernel
theorem dX12_readsPart_225 : decode cX12_readsPart 225 = .ok (.iadd, 1) := by decide +kernel
theorem dX12_readsPart_226 : decode cX12_readsPart 226 = .ok (.putfield 185, 3) := by decide +kernel
theorem dX12_readsPart_229 : decode cX12_readsPart 229 = .ok (.aload_n 0, 1) := by decide +kernel
theorem dX12_readsPart_230 : decode cX12_readsPart 230 = .ok (.getfield 40, 3) := by decide +kernel
theorem dX12_readsPart_233 : decode cX12_readsPart 233 = .ok (.aload_n 0, 1) := by decide +kernel
theorem dX12_readsPart_234 : decode cX12_readsPart 234 = .ok (.getfield 198, 3) := by decide +kernel
theorem dX12_readsPart_237 : decode cX12_readsPart 237 = .ok (.aload_n 0, 1) := by decide +kernel
theorem dX12_readsPart_238 : decode cX12_readsPart 238 = .ok (.iconst 3, 1) := by decide +kernel
theorem dX12_readsPart_239 : decode cX12_readsPart 239 = .ok (.iconst 0, 1) := by decide +kernel
theorem dX12_readsPart_240 : decode cX12_readsPart 240 = .ok (.sipush 399, 3) := by decide +kernel
theorem dX12_readsPart_243 : decode cX12_readsPart 243 = .ok (.invokevirtual 195, 3) := by decide +kernel
theorem dX12_readsPart_246 : decode cX12_readsPart 246 = .ok (.iastore, 1) := by decide +kernel
theorem dX12_readsPart_247 : decode cX12_readsPart 247 = .ok (.aload_n 0, 1) := by decide +kernel
theorem dX12_readsPart_248 : decode cX12_readsPart 248 = .ok (.dup, 1) := by decide +kernel
theorem dX12_readsPart_249 : decode cX12_readsPart 249 = .ok (.getfield 198, 3) := by decide +kernel
theorem dX12_readsPart_252 : decode cX12_readsPart 252 = .ok (.iconst 1, 1) := by decide +kernel
theorem dX12_readsPart_253 : decode cX12_readsPart 253 = .ok (.iadd, 1) := by decide +kernel
theorem dX12_readsPart_254 : decode cX12_readsPart 254 = .ok (.putfield 198, 3) := by decide +kernel
theorem dX12_readsPart_257 : decode cX12_readsPart 257 = .ok (.return_, 1) := by decide +kernel
theorem dX12_reads_0 : decode cX12_reads 0 = .ok (.aload_n 0, 1) := by decide +kernel
theorem dX12_reads_1 : decode cX12_reads 1 = .ok (.getfield 181, 3) := by decide +kernel
theorem dX12_reads_4 : decode cX12_reads 4 = .ok (.ifCond .eq 4, 3) := by decide +kernel
theorem dX12_reads_7 : decode cX12_reads 7 = .ok (.return_, 1) := by decide +kernel
theorem dX12_reads_8 : decode cX12_reads 8 = .ok (.aload_n 0, 1) := by decide +kernel
theorem dX12_reads_9 : decode cX12_reads 9 = .ok (.iconst 1, 1) := by decide +kernel
theorem dX12_reads_10 : decode cX12_reads 10 = .ok (.putfield 181, 3) := by decide +kernel
theorem dX12_reads_13 : decode cX12_reads 13 = .ok (.aload_n 0, 1) := by decide +kernel
theorem dX12_reads_14 : decode cX12_reads 14 = .ok (.iconst 0, 1) := by decide +kernel
theorem dX12_reads_15 : decode cX12_reads 15 = .ok (.putfield 185, 3) := by decide +kernel
theorem dX12_reads_18 : decode cX12_reads 18 = .ok (.aload_n 0, 1) := by decide +kernel
theorem dX12_reads_19 : decode cX12_reads 19 = .ok (.iconst (-1), 1) := by decide +kernel
theorem dX12_reads_20 : decode cX12_reads 20 = .ok (.putfield 188, 3) := by decide +kernel
theorem dX12_reads_23 : decode cX12_reads 23 = .ok (.aload_n 0, 1) := by decide +kernel
theorem dX12_reads_24 : decode cX12_reads 24 = .ok (.iconst 0, 1) := by decide +kernel
theorem dX12_reads_25 : decode cX12_reads 25 = .ok (.putfield 198, 3) := by decide +kernel
theorem dX12_reads_28 : decode cX12_reads 28 = .ok (.aload_n 0, 1) := by decide +kernel
theorem dX12_reads_29 : decode cX12_reads 29 = .ok (.invokevirtual 201, 3) := by decide +kernel
theorem dX12_reads_32 : decode cX12_reads 32 = .ok (.aload_n 0, 1) := by decide +kernel
theorem dX12_reads_33 : decode cX12_reads 33 = .ok (.getfield 188, 3) := by decide +kernel
theorem dX12_reads_36 : decode cX12_reads 36 = .ok (.iconst (-1), 1) := by decide +kernel
theorem dX12_reads_37 : decode cX12_reads 37 = .ok (.if_icmp .ne 53, 3) := by decide +kernel
theorem dX12_reads_40 : decode cX12_reads 40 = .ok (.aload_n 0, 1) := by decide +kernel
theorem dX12_reads_41 : decode cX12_reads 41 = .ok (.getfield 185, 3) := by decide +kernel
theorem dX12_reads_44 : decode cX12_reads 44 = .ok (.aload_n 0, 1) := by decide +kernel
theorem dX12_reads_45 : decode cX12_reads 45 = .ok (.getfield 178, 3) := by decide +kernel
theorem dX12_reads_48 : decode cX12_reads 48 = .ok (.if_icmp .ge 42, 3) := by decide +kernel
theorem dX12_reads_51 : decode cX12_reads 51 = .ok (.aload_n 0, 1) := by decide +kernel
theorem dX12_reads_52 : decode cX12_reads 52 = .ok (.aload_n 0, 1) := by decide +kernel
theorem dX12_reads_53 : decode cX12_reads 53 = .ok (.getfield 185, 3) := by decide +kernel
theorem dX12_reads_56 : decode cX12_reads 56 = .ok (.invokevirtual 191, 3) := by decide +kernel
theorem dX12_reads_59 : decode cX12_reads 59 = .ok (.bipush 59, 2) := by decide +kernel
theorem dX12_reads_61 : decode cX12_reads 61 = .ok (.if_icmp .eq 12, 3) := by decide +kernel
theorem dX12_reads_64 : decode cX12_reads 64 = .ok (.aload_n 0, 1) := by decide +kernel
theorem dX12_reads_65 : decode cX12_reads 65 = .ok (.aload_n 0, 1) := by decide +kernel
theorem dX12_reads_66 : decode cX12_reads 66 = .ok (.getfield 185, 3) := by decide +kernel
theorem dX12_reads_69 : decode cX12_reads 69 = .ok (.putfield 188, 3) := by decide +kernel
theorem dX12_reads_72 : decode cX12_reads 72 = .ok (.return_, 1) := by decide +kernel
theorem dX12_reads_73 : decode cX12_reads 73 = .ok (.aload_n 0, 1) := by decide +kernel
theorem dX12_reads_74 : decode cX12_reads 74 = .ok (.dup, 1) := by decide +kernel
theorem dX12_reads_75 : decode cX12_reads 75 = .ok (.getfield 185, 3) := by decide +kernel
theorem dX12_reads_78 : decode cX12_reads 78 = .ok (.iconst 1, 1) := by decide +kernel
theorem dX12_reads_79 : decode cX12_reads 79 = .ok (.iadd, 1) := by decide +kernel
theorem dX12_reads_80 : decode cX12_reads 80 = .ok (.putfield 185, 3) := by decide +kernel
theorem dX12_reads_83 : decode cX12_reads 83 = .ok (.aload_n 0, 1) := by decide +kernel
theorem dX12_reads_84 : decode cX12_reads 84 = .ok (.invokevirtual 201, 3) := by decide +kernel
theorem dX12_reads_87 : decode cX12_reads 87 = .ok (.goto (-55), 3) := by decide +kernel
theorem dX12_reads_90 : decode cX12_reads 90 = .ok (.return_, 1) := by decide +kernel
theorem dX12_fault_0 : decode cX12_fault 0 = .ok (.aload_n 0, 1) := by decide +kernel
theorem dX12_fault_1 : decode cX12_fault 1 = .ok (.invokevirtual 204, 3) := by decide +kernel
theorem dX12_fault_4 : decode cX12_fault 4 = .ok (.aload_n 0, 1) := by decide +kernel
theorem dX12_fault_5 : decode cX12_fault 5 = .ok (.getfield 188, 3) := by decide +kernel
theorem dX12_fault_8 : decode cX12_fault 8 = .ok (.ireturn, 1) := by decide +kernel
theorem dX12_partOf_0 : decode cX12_partOf 0 = .ok (.aload_n 0, 1) := by decide +kernel
theorem dX12_partOf_1 : decode cX12_partOf 1 = .ok (.invokevirtual 204, 3) := by decide +kernel
theorem dX12_partOf_4 : decode cX12_partOf 4 = .ok (.iconst (-1), 1) := by decide +kernel
theorem dX12_partOf_5 : decode cX12_partOf 5 = .ok (.istore_n 3, 1) := by decide +kernel
theorem dX12_partOf_6 : decode cX12_partOf 6 = .ok (.iconst 0, 1) := by decide +kernel
theorem dX12_partOf_7 : decode cX12_partOf 7 = .ok (.istore 4, 2) := by decide +kernel
theorem dX12_partOf_9 : decode cX12_partOf 9 = .ok (.iload 4, 2) := by decide +kernel
theorem dX12_partOf_11 : decode cX12_partOf 11 = .ok (.aload_n 0, 1) := by decide +kernel
theorem dX12_partOf_12 : decode cX12_partOf 12 = .ok (.getfield 198, 3) := by decide +kernel
theorem dX12_partOf_15 : decode cX12_partOf 15 = .ok (.if_icmp .ge 46, 3) := by decide +kernel
theorem dX12_partOf_18 : decode cX12_partOf 18 = .ok (.aload_n 0, 1) := by decide +kernel
theorem dX12_partOf_19 : decode cX12_partOf 19 = .ok (.getfield 188, 3) := by decide +kernel
theorem dX12_partOf_22 : decode cX12_partOf 22 = .ok (.iconst (-1), 1) := by decide +kernel
theorem dX12_partOf_23 : decode cX12_partOf 23 = .ok (.if_icmp .ne 38, 3) := by decide +kernel
theorem dX12_partOf_26 : decode cX12_partOf 26 = .ok (.aload_n 0, 1) := by decide +kernel
theorem dX12_partOf_27 : decode cX12_partOf 27 = .ok (.getfield 34, 3) := by decide +kernel
theorem dX12_partOf_30 : decode cX12_partOf 30 = .ok (.iload 4, 2) := by decide +kernel
theorem dX12_partOf_32 : decode cX12_partOf 32 = .ok (.iaload, 1) := by decide +kernel
theorem dX12_partOf_33 : decode cX12_partOf 33 = .ok (.iload_n 1, 1) := by decide +kernel
theorem dX12_partOf_34 : decode cX12_partOf 34 = .ok (.if_icmp .ne 19, 3) := by decide +kernel
theorem dX12_partOf_37 : decode cX12_partOf 37 = .ok (.aload_n 0, 1) := by decide +kernel
theorem dX12_partOf_38 : decode cX12_partOf 38 = .ok (.getfield 40, 3) := by decide +kernel
theorem dX12_partOf_41 : decode cX12_partOf 41 = .ok (.iload 4, 2) := by decide +kernel
theorem dX12_partOf_43 : decode cX12_partOf 43 = .ok (.iaload, 1) := by decide +kernel
theorem dX12_partOf_44 : decode cX12_partOf 44 = .ok (.iload_n 2, 1) := by decide +kernel
theorem dX12_partOf_45 : decode cX12_partOf 45 = .ok (.if_icmp .gt 8, 3) := by decide +kernel
theorem dX12_partOf_48 : decode cX12_partOf 48 = .ok (.iload 4, 2) := by decide +kernel
theorem dX12_partOf_50 : decode cX12_partOf 50 = .ok (.goto 4, 3) := by decide +kernel
theorem dX12_partOf_53 : decode cX12_partOf 53 = .ok (.iload_n 3, 1) := by decide +kernel
theorem dX12_partOf_54 : decode cX12_partOf 54 = .ok (.istore_n 3, 1) := by decide +kernel
theorem dX12_partOf_55 : decode cX12_partOf 55 = .ok (.iinc 4 1, 3) := by decide +kernel
theorem dX12_partOf_58 : decode cX12_partOf 58 = .ok (.goto (-49), 3) := by decide +kernel
theorem dX12_partOf_61 : decode cX12_partOf 61 = .ok (.iload_n 3, 1) := by decide +kernel
theorem dX12_partOf_62 : decode cX12_partOf 62 = .ok (.ireturn, 1) := by decide +kernel
theorem dX12_rightOf_0 : decode cX12_rightOf 0 = .ok (.aload_n 0, 1) := by decide +kernel
theorem dX12_rightOf_1 : decode cX12_rightOf 1 = .ok (.iload_n 1, 1) := by decide +kernel
theorem dX12_rightOf_2 : decode cX12_rightOf 2 = .ok (.iload_n 2, 1) := by decide +kernel
theorem dX12_rightOf_3 : decode cX12_rightOf 3 = .ok (.invokevirtual 207, 3) := by decide +kernel
theorem dX12_rightOf_6 : decode cX12_rightOf 6 = .ok (.istore_n 3, 1) := by decide +kernel
theorem dX12_rightOf_7 : decode cX12_rightOf 7 = .ok (.iload_n 3, 1) := by decide +kernel
theorem dX12_rightOf_8 : decode cX12_rightOf 8 = .ok (.iconst (-1), 1) := by decide +kernel
theorem dX12_rightOf_9 : decode cX12_rightOf 9 = .ok (.if_icmp .ne 7, 3) := by decide +kernel
theorem dX12_rightOf_12 : decode cX12_rightOf 12 = .ok (.iconst (-1), 1) := by decide +kernel
theorem dX12_rightOf_13 : decode cX12_rightOf 13 = .ok (.goto 9, 3) := by decide +kernel
theorem dX12_rightOf_16 : decode cX12_rightOf 16 = .ok (.aload_n 0, 1) := by decide +kernel
theorem dX12_rightOf_17 : decode cX12_rightOf 17 = .ok (.getfield 37, 3) := by decide +kernel
theorem dX12_rightOf_20 : decode cX12_rightOf 20 = .ok (.iload_n 3, 1) := by decide +kernel
theorem dX12_rightOf_21 : decode cX12_rightOf 21 = .ok (.iaload, 1) := by decide +kernel
theorem dX12_rightOf_22 : decode cX12_rightOf 22 = .ok (.ireturn, 1) := by decide +kernel
theorem dX12_right_0 : decode cX12_right 0 = .ok (.iload_n 1, 1) := by decide +kernel
theorem dX12_right_1 : decode cX12_right 1 = .ok (.iconst 0, 1) := by decide +kernel
theorem dX12_right_2 : decode cX12_right 2 = .ok (.bipush 19, 2) := by decide +kernel
theorem dX12_right_4 : decode cX12_right 4 = .ok (.invokestatic 144, 3) := by decide +kernel
theorem dX12_right_7 : decode cX12_right 7 = .ok (.ifCond .eq 19, 3) := by decide +kernel
theorem dX12_right_10 : decode cX12_right 10 = .ok (.iload_n 2, 1) := by decide +kernel
theorem dX12_right_11 : decode cX12_right 11 = .ok (.invokestatic 210, 3) := by decide +kernel
theorem dX12_right_14 : decode cX12_right 14 = .ok (.ifCond .eq 12, 3) := by decide +kernel
theorem dX12_right_17 : decode cX12_right 17 = .ok (.aload_n 0, 1) := by decide +kernel
theorem dX12_right_18 : decode cX12_right 18 = .ok (.iload_n 1, 1) := by decide +kernel
theorem dX12_right_19 : decode cX12_right 19 = .ok (.iload_n 2, 1) := by decide +kernel
theorem dX12_right_20 : decode cX12_right 20 = .ok (.invokevirtual 213, 3) := by decide +kernel
theorem dX12_right_23 : decode cX12_right 23 = .ok (.goto 5, 3) := by decide +kernel
theorem dX12_right_26 : decode cX12_right 26 = .ok (.bipush (-2), 2) := by decide +kernel
theorem dX12_right_28 : decode cX12_right 28 = .ok (.ireturn, 1) := by decide +kernel
theorem dX12_lawOf_0 : decode cX12_lawOf 0 = .ok (.aload_n 0, 1) := by decide +kernel
theorem dX12_lawOf_1 : decode cX12_lawOf 1 = .ok (.bipush 20, 2) := by decide +kernel
theorem dX12_lawOf_3 : decode cX12_lawOf 3 = .ok (.iload_n 1, 1) := by decide +kernel
theorem dX12_lawOf_4 : decode cX12_lawOf 4 = .ok (.iadd, 1) := by decide +kernel
theorem dX12_lawOf_5 : decode cX12_lawOf 5 = .ok (.iload_n 2, 1) := by decide +kernel
theorem dX12_lawOf_6 : decode cX12_lawOf 6 = .ok (.invokevirtual 207, 3) := by decide +kernel
theorem dX12_lawOf_9 : decode cX12_lawOf 9 = .ok (.istore_n 3, 1) := by decide +kernel
theorem dX12_lawOf_10 : decode cX12_lawOf 10 = .ok (.iload_n 3, 1) := by decide +kernel
theorem dX12_lawOf_11 : decode cX12_lawOf 11 = .ok (.iconst (-1), 1) := by decide +kernel
theorem dX12_lawOf_12 : decode cX12_lawOf 12 = .ok (.if_icmp .eq 12, 3) := by decide +kernel
theorem dX12_lawOf_15 : decode cX12_lawOf 15 = .ok (.aload_n 0, 1) := by decide +kernel
theorem dX12_lawOf_16 : decode cX12_lawOf 16 = .ok (.getfield 37, 3) := by decide +kernel
theorem dX12_lawOf_19 : decode cX12_lawOf 19 = .ok (.iload_n 3, 1) := by decide +kernel
theorem dX12_lawOf_20 : decode cX12_lawOf 20 = .ok (.iaload, 1) := by decide +kernel
theorem dX12_lawOf_21 : decode cX12_lawOf 21 = .ok (.goto 31, 3) := by decide +kernel
theorem dX12_lawOf_24 : decode cX12_lawOf 24 = .ok (.iload_n 1, 1) := by decide +kernel
theorem dX12_lawOf_25 : decode cX12_lawOf 25 = .ok (.ifCond .ne 7, 3) := by decide +kernel
theorem dX12_lawOf_28 : decode cX12_lawOf 28 = .ok (.iconst 1, 1) := by decide +kernel
theorem dX12_lawOf_29 : decode cX12_lawOf 29 = .ok (.goto 23, 3) := by decide +kernel
theorem dX12_lawOf_32 : decode cX12_lawOf 32 = .ok (.iload_n 1, 1) := by decide +kernel
theorem dX12_lawOf_33 : decode cX12_lawOf 33 = .ok (.iconst 1, 1) := by decide +kernel
theorem dX12_lawOf_34 : decode cX12_lawOf 34 = .ok (.if_icmp .ne 7, 3) := by decide +kernel
theorem dX12_lawOf_37 : decode cX12_lawOf 37 = .ok (.iconst 3, 1) := by decide +kernel
theorem dX12_lawOf_38 : decode cX12_lawOf 38 = .ok (.goto 14, 3) := by decide +kernel
theorem dX12_lawOf_41 : decode cX12_lawOf 41 = .ok (.iload_n 1, 1) := by decide +kernel
theorem dX12_lawOf_42 : decode cX12_lawOf 42 = .ok (.iconst 2, 1) := by decide +kernel
theorem dX12_lawOf_43 : decode cX12_lawOf 43 = .ok (.if_icmp .ne 7, 3) := by decide +kernel
theorem dX12_lawOf_46 : decode cX12_lawOf 46 = .ok (.iconst 0, 1) := by decide +kernel
theorem dX12_lawOf_47 : decode cX12_lawOf 47 = .ok (.goto 5, 3) := by decide +kernel
theorem dX12_lawOf_50 : decode cX12_lawOf 50 = .ok (.bipush 99, 2) := by decide +kernel
theorem dX12_lawOf_52 : decode cX12_lawOf 52 = .ok (.ireturn, 1) := by decide +kernel
theorem dX12_law_0 : decode cX12_law 0 = .ok (.iload_n 1, 1) := by decide +kernel
theorem dX12_law_1 : decode cX12_law 1 = .ok (.iconst 0, 1) := by decide +kernel
theorem dX12_law_2 : decode cX12_law 2 = .ok (.iconst 3, 1) := by decide +kernel
theorem dX12_law_3 : decode cX12_law 3 = .ok (.invokestatic 144, 3) := by decide +kernel
theorem dX12_law_6 : decode cX12_law 6 = .ok (.ifCond .eq 19, 3) := by decide +kernel
theorem dX12_law_9 : decode cX12_law 9 = .ok (.iload_n 2, 1) := by decide +kernel
theorem dX12_law_10 : decode cX12_law 10 = .ok (.invokestatic 210, 3) := by decide +kernel
theorem dX12_law_13 : decode cX12_law 13 = .ok (.ifCond .eq 12, 3) := by decide +kernel
theorem dX12_law_16 : decode cX12_law 16 = .ok (.aload_n 0, 1) := by decide +kernel
theorem dX12_law_17 : decode cX12_law 17 = .ok (.iload_n 1, 1) := by decide +kernel
theorem dX12_law_18 : decode cX12_law 18 = .ok (.iload_n 2, 1) := by decide +kernel
theorem dX12_law_19 : decode cX12_law 19 = .ok (.invokevirtual 216, 3) := by decide +kernel
theorem dX12_law_22 : decode cX12_law 22 = .ok (.goto 5, 3) := by decide +kernel
theorem dX12_law_25 : decode cX12_law 25 = .ok (.bipush (-2), 2) := by decide +kernel
theorem dX12_law_27 : decode cX12_law 27 = .ok (.ireturn, 1) := by decide +kernel
theorem dX12_why_0 : decode cX12_why 0 = .ok (.iload_n 1, 1) := by decide +kernel
theorem dX12_why_1 : decode cX12_why 1 = .ok (.iconst 0, 1) := by decide +kernel
theorem dX12_why_2 : decode cX12_why 2 = .ok (.bipush 23, 2) := by decide +kernel
theorem dX12_why_4 : decode cX12_why 4 = .ok (.invokestatic 144, 3) := by decide +kernel
theorem dX12_why_7 : decode cX12_why 7 = .ok (.ifCond .eq 19, 3) := by decide +kernel
theorem dX12_why_10 : decode cX12_why 10 = .ok (.iload_n 2, 1) := by decide +kernel
theorem dX12_why_11 : decode cX12_why 11 = .ok (.invokestatic 210, 3) := by decide +kernel
theorem dX12_why_14 : decode cX12_why 14 = .ok (.ifCond .eq 12, 3) := by decide +kernel
theorem dX12_why_17 : decode cX12_why 17 = .ok (.aload_n 0, 1) := by decide +kernel
theorem dX12_why_18 : decode cX12_why 18 = .ok (.iload_n 1, 1) := by decide +kernel
theorem dX12_why_19 : decode cX12_why 19 = .ok (.iload_n 2, 1) := by decide +kernel
theorem dX12_why_20 : decode cX12_why 20 = .ok (.invokevirtual 207, 3) := by decide +kernel
theorem dX12_why_23 : decode cX12_why 23 = .ok (.goto 5, 3) := by decide +kernel
theorem dX12_why_26 : decode cX12_why 26 = .ok (.bipush (-2), 2) := by decide +kernel
theorem dX12_why_28 : decode cX12_why 28 = .ok (.ireturn, 1) := by decide +kernel
theorem dX12_isAllowed_0 : decode cX12_isAllowed 0 = .ok (.aload_n 0, 1) := by decide +kernel
theorem dX12_isAllowed_1 : decode cX12_isAllowed 1 = .ok (.iconst 1, 1) := by decide +kernel
theorem dX12_isAllowed_2 : decode cX12_isAllowed 2 = .ok (.iload_n 2, 1) := by decide +kernel
theorem dX12_isAllowed_3 : decode cX12_isAllowed 3 = .ok (.invokevirtual 216, 3) := by decide +kernel
theorem dX12_isAllowed_6 : decode cX12_isAllowed 6 = .ok (.iload_n 1, 1) := by decide +kernel
theorem dX12_isAllowed_7 : decode cX12_isAllowed 7 = .ok (.ishr, 1) := by decide +kernel
theorem dX12_isAllowed_8 : decode cX12_isAllowed 8 = .ok (.iconst 1, 1) := by decide +kernel
theorem dX12_isAllowed_9 : decode cX12_isAllowed 9 = .ok (.iand, 1) := by decide +kernel
theorem dX12_isAllowed_10 : decode cX12_isAllowed 10 = .ok (.iconst 1, 1) := by decide +kernel
theorem dX12_isAllowed_11 : decode cX12_isAllowed 11 = .ok (.if_icmp .ne 7, 3) := by decide +kernel
theorem dX12_isAllowed_14 : decode cX12_isAllowed 14 = .ok (.iconst 1, 1) := by decide +kernel
theorem dX12_isAllowed_15 : decode cX12_isAllowed 15 = .ok (.goto 4, 3) := by decide +kernel
theorem dX12_isAllowed_18 : decode cX12_isAllowed 18 = .ok (.iconst 0, 1) := by decide +kernel
theorem dX12_isAllowed_19 : decode cX12_isAllowed 19 = .ok (.ireturn, 1) := by decide +kernel
theorem dX12_asOfNow_0 : decode cX12_asOfNow 0 = .ok (.aload_n 0, 1) := by decide +kernel
theorem dX12_asOfNow_1 : decode cX12_asOfNow 1 = .ok (.getfield 67, 3) := by decide +kernel
theorem dX12_asOfNow_4 : decode cX12_asOfNow 4 = .ok (.iconst (-1), 1) := by decide +kernel
theorem dX12_asOfNow_5 : decode cX12_asOfNow 5 = .ok (.if_icmp .ne 10, 3) := by decide +kernel
theorem dX12_asOfNow_8 : decode cX12_asOfNow 8 = .ok (.aload_n 0, 1) := by decide +kernel
theorem dX12_asOfNow_9 : decode cX12_asOfNow 9 = .ok (.getfield 151, 3) := by decide +kernel
theorem dX12_asOfNow_12 : decode cX12_asOfNow 12 = .ok (.goto 7, 3) := by decide +kernel
theorem dX12_asOfNow_15 : decode cX12_asOfNow 15 = .ok (.aload_n 0, 1) := by decide +kernel
theorem dX12_asOfNow_16 : decode cX12_asOfNow 16 = .ok (.getfield 67, 3) := by decide +kernel
theorem dX12_asOfNow_19 : decode cX12_asOfNow 19 = .ok (.ireturn, 1) := by decide +kernel
theorem dX12_isKnown_0 : decode cX12_isKnown 0 = .ok (.aload_n 0, 1) := by decide +kernel
theorem dX12_isKnown_1 : decode cX12_isKnown 1 = .ok (.getfield 46, 3) := by decide +kernel
theorem dX12_isKnown_4 : decode cX12_isKnown 4 = .ok (.iload_n 1, 1) := by decide +kernel
theorem dX12_isKnown_5 : decode cX12_isKnown 5 = .ok (.iaload, 1) := by decide +kernel
theorem dX12_isKnown_6 : decode cX12_isKnown 6 = .ok (.aload_n 0, 1) := by decide +kernel
theorem dX12_isKnown_7 : decode cX12_isKnown 7 = .ok (.invokevirtual 219, 3) := by decide +kernel
theorem dX12_isKnown_10 : decode cX12_isKnown 10 = .ok (.if_icmp .gt 7, 3) := by decide +kernel
theorem dX12_isKnown_13 : decode cX12_isKnown 13 = .ok (.iconst 1, 1) := by decide +kernel
theorem dX12_isKnown_14 : decode cX12_isKnown 14 = .ok (.goto 4, 3) := by decide +kernel
theorem dX12_isKnown_17 : decode cX12_isKnown 17 = .ok (.iconst 0, 1) := by decide +kernel
theorem dX12_isKnown_18 : decode cX12_isKnown 18 = .ok (.ireturn, 1) := by decide +kernel
theorem dX12_howOf_0 : decode cX12_howOf 0 = .ok (.aload_n 0, 1) := by decide +kernel
theorem dX12_howOf_1 : decode cX12_howOf 1 = .ok (.iload_n 1, 1) := by decide +kernel
theorem dX12_howOf_2 : decode cX12_howOf 2 = .ok (.invokevirtual 164, 3) := by decide +kernel
theorem dX12_howOf_5 : decode cX12_howOf 5 = .ok (.ifCond .eq 34, 3) := by decide +kernel
theorem dX12_howOf_8 : decode cX12_howOf 8 = .ok (.aload_n 0, 1) := by decide +kernel
theorem dX12_howOf_9 : decode cX12_howOf 9 = .ok (.getfield 61, 3) := by decide +kernel
theorem dX12_howOf_12 : decode cX12_howOf 12 = .ok (.iload_n 1, 1) := by decide +kernel
theorem dX12_howOf_13 : decode cX12_howOf 13 = .ok (.iaload, 1) := by decide +kernel
theorem dX12_howOf_14 : decode cX12_howOf 14 = .ok (.ifCond .le 25, 3) := by decide +kernel
theorem dX12_howOf_17 : decode cX12_howOf 17 = .ok (.aload_n 0, 1) := by decide +kernel
theorem dX12_howOf_18 : decode cX12_howOf 18 = .ok (.getfield 55, 3) := by decide +kernel
theorem dX12_howOf_21 : decode cX12_howOf 21 = .ok (.iload_n 1, 1) := by decide +kernel
theorem dX12_howOf_22 : decode cX12_howOf 22 = .ok (.iaload, 1) := by decide +kernel
theorem dX12_howOf_23 : decode cX12_howOf 23 = .ok (.aload_n 0, 1) := by decide +kernel
theorem dX12_howOf_24 : decode cX12_howOf 24 = .ok (.invokevirtual 219, 3) := by decide +kernel
theorem dX12_howOf_27 : decode cX12_howOf 27 = .ok (.if_icmp .gt 12, 3) := by decide +kernel
theorem dX12_howOf_30 : decode cX12_howOf 30 = .ok (.aload_n 0, 1) := by decide +kernel
theorem dX12_howOf_31 : decode cX12_howOf 31 = .ok (.getfield 61, 3) := by decide +kernel
theorem dX12_howOf_34 : decode cX12_howOf 34 = .ok (.iload_n 1, 1) := by decide +kernel
theorem dX12_howOf_35 : decode cX12_howOf 35 = .ok (.iaload, 1) := by decide +kernel
theorem dX12_howOf_36 : decode cX12_howOf 36 = .ok (.goto 4, 3) := by decide +kernel
theorem dX12_howOf_39 : decode cX12_howOf 39 = .ok (.iconst 0, 1) := by decide +kernel
theorem dX12_howOf_40 : decode cX12_howOf 40 = .ok (.ireturn, 1) := by decide +kernel
theorem dX12_form_0 : decode cX12_form 0 = .ok (.aload_n 0, 1) := by decide +kernel
theorem dX12_form_1 : decode cX12_form 1 = .ok (.iload_n 1, 1) := by decide +kernel
theorem dX12_form_2 : decode cX12_form 2 = .ok (.invokevirtual 167, 3) := by decide +kernel
theorem dX12_form_5 : decode cX12_form 5 = .ok (.ifCond .eq 10, 3) := by decide +kernel
theorem dX12_form_8 : decode cX12_form 8 = .ok (.iload_n 2, 1) := by decide +kernel
theorem dX12_form_9 : decode cX12_form 9 = .ok (.invokestatic 223, 3) := by decide +kernel
theorem dX12_form_12 : decode cX12_form 12 = .ok (.ifCond .ne 6, 3) := by decide +kernel
theorem dX12_form_15 : decode cX12_form 15 = .ok (.bipush (-2), 2) := by decide +kernel
theorem dX12_form_17 : decode cX12_form 17 = .ok (.ireturn, 1) := by decide +kernel
theorem dX12_form_18 : decode cX12_form 18 = .ok (.aload_n 0, 1) := by decide +kernel
theorem dX12_form_19 : decode cX12_form 19 = .ok (.getfield 129, 3) := by decide +kernel
theorem dX12_form_22 : decode cX12_form 22 = .ok (.iload_n 2, 1) := by decide +kernel
theorem dX12_form_23 : decode cX12_form 23 = .ok (.baload, 1) := by decide +kernel
theorem dX12_form_24 : decode cX12_form 24 = .ok (.ifCond .ne 9, 3) := by decide +kernel
theorem dX12_form_27 : decode cX12_form 27 = .ok (.aload_n 0, 1) := by decide +kernel
theorem dX12_form_28 : decode cX12_form 28 = .ok (.iconst 1, 1) := by decide +kernel
theorem dX12_form_29 : decode cX12_form 29 = .ok (.invokevirtual 226, 3) := by decide +kernel
theorem dX12_form_32 : decode cX12_form 32 = .ok (.ireturn, 1) := by decide +kernel
theorem dX12_form_33 : decode cX12_form 33 = .ok (.aload_n 0, 1) := by decide +kernel
theorem dX12_form_34 : decode cX12_form 34 = .ok (.iload_n 1, 1) := by decide +kernel
theorem dX12_form_35 : decode cX12_form 35 = .ok (.invokevirtual 229, 3) := by decide +kernel
theorem dX12_form_38 : decode cX12_form 38 = .ok (.ifCond .ne 6, 3) := by decide +kernel
theorem dX12_form_41 : decode cX12_form 41 = .ok (.bipush (-3), 2) := by decide +kernel
theorem dX12_form_43 : decode cX12_form 43 = .ok (.ireturn, 1) := by decide +kernel
theorem dX12_form_44 : decode cX12_form 44 = .ok (.aload_n 0, 1) := by decide +kernel
theorem dX12_form_45 : decode cX12_form 45 = .ok (.getfield 161, 3) := by decide +kernel
theorem dX12_form_48 : decode cX12_form 48 = .ok (.bipush 60, 2) := by decide +kernel
theorem dX12_form_50 : decode cX12_form 50 = .ok (.if_icmp .ne 6, 3) := by decide +kernel
theorem dX12_form_53 : decode cX12_form 53 = .ok (.bipush (-4), 2) := by decide +kernel
theorem dX12_form_55 : decode cX12_form 55 = .ok (.ireturn, 1) := by decide +kernel
theorem dX12_form_56 : decode cX12_form 56 = .ok (.iconst 0, 1) := by decide +kernel
theorem dX12_form_57 : decode cX12_form 57 = .ok (.istore_n 3, 1) := by decide +kernel
theorem dX12_form_58 : decode cX12_form 58 = .ok (.iload_n 3, 1) := by decide +kernel
theorem dX12_form_59 : decode cX12_form 59 = .ok (.bipush 20, 2) := by decide +kernel
theorem dX12_form_61 : decode cX12_form 61 = .ok (.if_icmp .ge 80, 3) := by decide +kernel
theorem dX12_form_64 : decode cX12_form 64 = .ok (.iload_n 3, 1) := by decide +kernel
theorem dX12_form_65 : decode cX12_form 65 = .ok (.aload_n 0, 1) := by decide +kernel
theorem dX12_form_66 : decode cX12_form 66 = .ok (.getfield 135, 3) := by decide +kernel
theorem dX12_form_69 : decode cX12_form 69 = .ok (.iload_n 2, 1) := by decide +kernel
theorem dX12_form_70 : decode cX12_form 70 = .ok (.iaload, 1) := by decide +kernel
theorem dX12_form_71 : decode cX12_form 71 = .ok (.if_icmp .ge 27, 3) := by decide +kernel
theorem dX12_form_74 : decode cX12_form 74 = .ok (.aload_n 0, 1) := by decide +kernel
theorem dX12_form_75 : decode cX12_form 75 = .ok (.getfield 138, 3) := by decide +kernel
theorem dX12_form_78 : decode cX12_form 78 = .ok (.bipush 40, 2) := by decide +kernel
theorem dX12_form_80 : decode cX12_form 80 = .ok (.iload_n 2, 1) := by decide +kernel
theorem dX12_form_81 : decode cX12_form 81 = .ok (.imul, 1) := by decide +kernel
theorem dX12_form_82 : decode cX12_form 82 = .ok (.iload_n 3, 1) := by decide +kernel
theorem dX12_form_83 : decode cX12_form 83 = .ok (.iadd, 1) := by decide +kernel
theorem dX12_form_84 : decode cX12_form 84 = .ok (.iaload, 1) := by decide +kernel
theorem dX12_form_85 : decode cX12_form 85 = .ok (.iconst 0, 1) := by decide +kernel
theorem dX12_form_86 : decode cX12_form 86 = .ok (.bipush 99, 2) := by decide +kernel
theorem dX12_form_88 : decode cX12_form 88 = .ok (.invokestatic 144, 3) := by decide +kernel
theorem dX12_form_91 : decode cX12_form 91 = .ok (.ifCond .eq 7, 3) := by decide +kernel
theorem dX12_form_94 : decode cX12_form 94 = .ok (.iconst 1, 1) := by decide +kernel
theorem dX12_form_95 : decode cX12_form 95 = .ok (.goto 4, 3) := by decide +kernel
theorem dX12_form_98 : decode cX12_form 98 = .ok (.iconst 0, 1) := by decide +kernel
theorem dX12_form_99 : decode cX12_form 99 = .ok (.istore 4, 2) := by decide +kernel
theorem dX12_form_101 : decode cX12_form 101 = .ok (.aload_n 0, 1) := by decide +kernel
theorem dX12_form_102 : decode cX12_form 102 = .ok (.getfield 52, 3) := by decide +kernel
theorem dX12_form_105 : decode cX12_form 105 = .ok (.bipush 20, 2) := by decide +kernel
theorem dX12_form_107 : decode cX12_form 107 = .ok (.aload_n 0, 1) := by decide +kernel
theorem dX12_form_108 : decode cX12_form 108 = .ok (.getfield 161, 3) := by decide +kernel
theorem dX12_form_111 : decode cX12_form 111 = .ok (.imul, 1) := by decide +kernel
theorem dX12_form_112 : decode cX12_form 112 = .ok (.iload_n 3, 1) := by decide +kernel
theorem dX12_form_113 : decode cX12_form 113 = .ok (.iadd, 1) := by decide +kernel
theorem dX12_form_114 : decode cX12_form 114 = .ok (.iload 4, 2) := by decide +kernel
theorem dX12_form_116 : decode cX12_form 116 = .ok (.ifCond .eq 17, 3) := by decide +kernel
theorem dX12_form_119 : decode cX12_form 119 = .ok (.aload_n 0, 1) := by decide +kernel
theorem dX12_form_120 : decode cX12_form 120 = .ok (.getfield 138, 3) := by decide +kernel
theorem dX12_form_123 : decode cX12_form 123 = .ok (.bipush 40, 2) := by decide +kernel
theorem dX12_form_125 : decode cX12_form 125 = .ok (.iload_n 2, 1) := by decide +kernel
theorem dX12_form_126 : decode cX12_form 126 = .ok (.imul, 1) := by decide +kernel
theorem dX12_form_127 : decode cX12_form 127 = .ok (.iload_n 3, 1) := by decide +kernel
theorem dX12_form_128 : decode cX12_form 128 = .ok (.iadd, 1) := by decide +kernel
theorem dX12_form_129 : decode cX12_form 129 = .ok (.iaload, 1) := by decide +kernel
theorem dX12_form_130 : decode cX12_form 130 = .ok (.goto 4, 3) := by decide +kernel
theorem dX12_form_133 : decode cX12_form 133 = .ok (.iconst (-1), 1) := by decide +kernel
theorem dX12_form_134 : decode cX12_form 134 = .ok (.iastore, 1) := by decide +kernel
theorem dX12_form_135 : decode cX12_form 135 = .ok (.iinc 3 1, 3) := by decide +kernel
theorem dX12_form_138 : decode cX12_form 138 = .ok (.goto (-80), 3) := by decide +kernel
theorem dX12_form_141 : decode cX12_form 141 = .ok (.aload_n 0, 1) := by decide +kernel
theorem dX12_form_142 : decode cX12_form 142 = .ok (.getfield 43, 3) := by decide +kernel
theorem dX12_form_145 : decode cX12_form 145 = .ok (.aload_n 0, 1) := by decide +kernel
theorem dX12_form_146 : decode cX12_form 146 = .ok (.getfield 161, 3) := by decide +kernel
theorem dX12_form_149 : decode cX12_form 149 = .ok (.iload_n 1, 1) := by decide +kernel
theorem dX12_form_150 : decode cX12_form 150 = .ok (.iastore, 1) := by decide +kernel
theorem dX12_form_151 : decode cX12_form 151 = .ok (.aload_n 0, 1) := by decide +kernel
theorem dX12_form_152 : decode cX12_form 152 = .ok (.getfield 46, 3) := by decide +kernel
theorem dX12_form_155 : decode cX12_form 155 = .ok (.aload_n 0, 1) := by decide +kernel
theorem dX12_form_156 : decode cX12_form 156 = .ok (.getfield 161, 3) := by decide +kernel
theorem dX12_form_159 : decode cX12_form 159 = .ok (.aload_n 0, 1) := by decide +kernel
theorem dX12_form_160 : decode cX12_form 160 = .ok (.getfield 151, 3) := by decide +kernel
theorem dX12_form_163 : decode cX12_form 163 = .ok (.iastore, 1) := by decide +kernel
theorem dX12_form_164 : decode cX12_form 164 = .ok (.aload_n 0, 1) := by decide +kernel
theorem dX12_form_165 : decode cX12_form 165 = .ok (.getfield 49, 3) := by decide +kernel
theorem dX12_form_168 : decode cX12_form 168 = .ok (.aload_n 0, 1) := by decide +kernel
theorem dX12_form_169 : decode cX12_form 169 = .ok (.getfield 161, 3) := by decide +kernel
theorem dX12_form_172 : decode cX12_form 172 = .ok (.aload_n 0, 1) := by decide +kernel
theorem dX12_form_173 : decode cX12_form 173 = .ok (.getfield 16, 3) := by decide +kernel
theorem dX12_form_176 : decode cX12_form 176 = .ok (.iload_n 1, 1) := by decide +kernel
theorem dX12_form_177 : decode cX12_form 177 = .ok (.iaload, 1) := by decide +kernel
theorem dX12_form_178 : decode cX12_form 178 = .ok (.iastore, 1) := by decide +kernel
theorem dX12_form_179 : decode cX12_form 179 = .ok (.aload_n 0, 1) := by decide +kernel
theorem dX12_form_180 : decode cX12_form 180 = .ok (.getfield 61, 3) := by decide +kernel
theorem dX12_form_183 : decode cX12_form 183 = .ok (.aload_n 0, 1) := by decide +kernel
theorem dX12_form_184 : decode cX12_form 184 = .ok (.getfield 161, 3) := by decide +kernel
theorem dX12_form_187 : decode cX12_form 187 = .ok (.iconst 0, 1) := by decide +kernel
theorem dX12_form_188 : decode cX12_form 188 = .ok (.iastore, 1) := by decide +kernel
theorem dX12_form_189 : decode cX12_form 189 = .ok (.aload_n 0, 1) := by decide +kernel
theorem dX12_form_190 : decode cX12_form 190 = .ok (.dup, 1) := by decide +kernel
theorem dX12_form_191 : decode cX12_form 191 = .ok (.getfield 161, 3) := by decide +kernel
theorem dX12_form_194 : decode cX12_form 194 = .ok (.iconst 1, 1) := by decide +kernel
theorem dX12_form_195 : decode cX12_form 195 = .ok (.iadd, 1) := by decide +kernel
theorem dX12_form_196 : decode cX12_form 196 = .ok (.putfield 161, 3) := by decide +kernel
theorem dX12_form_199 : decode cX12_form 199 = .ok (.aload_n 0, 1) := by decide +kernel
theorem dX12_form_200 : decode cX12_form 200 = .ok (.getfield 161, 3) := by decide +kernel
theorem dX12_form_203 : decode cX12_form 203 = .ok (.iconst 1, 1) := by decide +kernel
theorem dX12_form_204 : decode cX12_form 204 = .ok (.isub, 1) := by decide +kernel
theorem dX12_form_205 : decode cX12_form 205 = .ok (.ireturn, 1) := by decide +kernel
theorem dX12_rightsOf_0 : decode cX12_rightsOf 0 = .ok (.iconst 0, 1) := by decide +kernel
theorem dX12_rightsOf_1 : decode cX12_rightsOf 1 = .ok (.istore_n 2, 1) := by decide +kernel
theorem dX12_rightsOf_2 : decode cX12_rightsOf 2 = .ok (.iconst 0, 1) := by decide +kernel
theorem dX12_rightsOf_3 : decode cX12_rightsOf 3 = .ok (.istore_n 3, 1) := by decide +kernel
theorem dX12_rightsOf_4 : decode cX12_rightsOf 4 = .ok (.iload_n 3, 1) := by decide +kernel
theorem dX12_rightsOf_5 : decode cX12_rightsOf 5 = .ok (.bipush 20, 2) := by decide +kernel
theorem dX12_rightsOf_7 : decode cX12_rightsOf 7 = .ok (.if_icmp .ge 52, 3) := by decide +kernel
theorem dX12_rightsOf_10 : decode cX12_rightsOf 10 = .ok (.aload_n 0, 1) := by decide +kernel
theorem dX12_rightsOf_11 : decode cX12_rightsOf 11 = .ok (.getfield 52, 3) := by decide +kernel
theorem dX12_rightsOf_14 : decode cX12_rightsOf 14 = .ok (.bipush 20, 2) := by decide +kernel
theorem dX12_rightsOf_16 : decode cX12_rightsOf 16 = .ok (.iload_n 1, 1) := by decide +kernel
theorem dX12_rightsOf_17 : decode cX12_rightsOf 17 = .ok (.imul, 1) := by decide +kernel
theorem dX12_rightsOf_18 : decode cX12_rightsOf 18 = .ok (.iload_n 3, 1) := by decide +kernel
theorem dX12_rightsOf_19 : decode cX12_rightsOf 19 = .ok (.iadd, 1) := by decide +kernel
theorem dX12_rightsOf_20 : decode cX12_rightsOf 20 = .ok (.iaload, 1) := by decide +kernel
theorem dX12_rightsOf_21 : decode cX12_rightsOf 21 = .ok (.istore 4, 2) := by decide +kernel
theorem dX12_rightsOf_23 : decode cX12_rightsOf 23 = .ok (.iload_n 2, 1) := by decide +kernel
theorem dX12_rightsOf_24 : decode cX12_rightsOf 24 = .ok (.iload 4, 2) := by decide +kernel
theorem dX12_rightsOf_26 : decode cX12_rightsOf 26 = .ok (.iconst (-1), 1) := by decide +kernel
theorem dX12_rightsOf_27 : decode cX12_rightsOf 27 = .ok (.if_icmp .eq 23, 3) := by decide +kernel
theorem dX12_rightsOf_30 : decode cX12_rightsOf 30 = .ok (.iload 4, 2) := by decide +kernel
theorem dX12_rightsOf_32 : decode cX12_rightsOf 32 = .ok (.aload_n 0, 1) := by decide +kernel
theorem dX12_rightsOf_33 : decode cX12_rightsOf 33 = .ok (.iload_n 3, 1) := by decide +kernel
theorem dX12_rightsOf_34 : decode cX12_rightsOf 34 = .ok (.aload_n 0, 1) := by decide +kernel
theorem dX12_rightsOf_35 : decode cX12_rightsOf 35 = .ok (.getfield 46, 3) := by decide +kernel
theorem dX12_rightsOf_38 : decode cX12_rightsOf 38 = .ok (.iload_n 1, 1) := by decide +kernel
theorem dX12_rightsOf_39 : decode cX12_rightsOf 39 = .ok (.iaload, 1) := by decide +kernel
theorem dX12_rightsOf_40 : decode cX12_rightsOf 40 = .ok (.invokevirtual 213, 3) := by decide +kernel
theorem dX12_rightsOf_43 : decode cX12_rightsOf 43 = .ok (.if_icmp .ne 7, 3) := by decide +kernel
theorem dX12_rightsOf_46 : decode cX12_rightsOf 46 = .ok (.iconst 1, 1) := by decide +kernel
theorem dX12_rightsOf_47 : decode cX12_rightsOf 47 = .ok (.goto 4, 3) := by decide +kernel
theorem dX12_rightsOf_50 : decode cX12_rightsOf 50 = .ok (.iconst 0, 1) := by decide +kernel
theorem dX12_rightsOf_51 : decode cX12_rightsOf 51 = .ok (.iadd, 1) := by decide +kernel
theorem dX12_rightsOf_52 : decode cX12_rightsOf 52 = .ok (.istore_n 2, 1) := by decide +kernel
theorem dX12_rightsOf_53 : decode cX12_rightsOf 53 = .ok (.iinc 3 1, 3) := by decide +kernel
theorem dX12_rightsOf_56 : decode cX12_rightsOf 56 = .ok (.goto (-52), 3) := by decide +kernel
theorem dX12_rightsOf_59 : decode cX12_rightsOf 59 = .ok (.iload_n 2, 1) := by decide +kernel
theorem dX12_rightsOf_60 : decode cX12_rightsOf 60 = .ok (.ireturn, 1) := by decide +kernel
theorem dX12_sortOfForm_0 : decode cX12_sortOfForm 0 = .ok (.aload_n 0, 1) := by decide +kernel
theorem dX12_sortOfForm_1 : decode cX12_sortOfForm 1 = .ok (.getfield 13, 3) := by decide +kernel
theorem dX12_sortOfForm_4 : decode cX12_sortOfForm 4 = .ok (.aload_n 0, 1) := by decide +kernel
theorem dX12_sortOfForm_5 : decode cX12_sortOfForm 5 = .ok (.getfield 43, 3) := by decide +kernel
theorem dX12_sortOfForm_8 : decode cX12_sortOfForm 8 = .ok (.iload_n 1, 1) := by decide +kernel
theorem dX12_sortOfForm_9 : decode cX12_sortOfForm 9 = .ok (.iaload, 1) := by decide +kernel
theorem dX12_sortOfForm_10 : decode cX12_sortOfForm 10 = .ok (.iaload, 1) := by decide +kernel
theorem dX12_sortOfForm_11 : decode cX12_sortOfForm 11 = .ok (.ireturn, 1) := by decide +kernel
theorem dX12_byText_0 : decode cX12_byText 0 = .ok (.aload_n 0, 1) := by decide +kernel
theorem dX12_byText_1 : decode cX12_byText 1 = .ok (.aload_n 0, 1) := by decide +kernel
theorem dX12_byText_2 : decode cX12_byText 2 = .ok (.iload_n 1, 1) := by decide +kernel
theorem dX12_byText_3 : decode cX12_byText 3 = .ok (.invokevirtual 232, 3) := by decide +kernel
theorem dX12_byText_6 : decode cX12_byText 6 = .ok (.aload_n 0, 1) := by decide +kernel
theorem dX12_byText_7 : decode cX12_byText 7 = .ok (.getfield 46, 3) := by decide +kernel
theorem dX12_byText_10 : decode cX12_byText 10 = .ok (.iload_n 1, 1) := by decide +kernel
theorem dX12_byText_11 : decode cX12_byText 11 = .ok (.iaload, 1) := by decide +kernel
theorem dX12_byText_12 : decode cX12_byText 12 = .ok (.invokevirtual 235, 3) := by decide +kernel
theorem dX12_byText_15 : decode cX12_byText 15 = .ok (.ifCond .eq 46, 3) := by decide +kernel
theorem dX12_byText_18 : decode cX12_byText 18 = .ok (.aload_n 0, 1) := by decide +kernel
theorem dX12_byText_19 : decode cX12_byText 19 = .ok (.getfield 49, 3) := by decide +kernel
theorem dX12_byText_22 : decode cX12_byText 22 = .ok (.iload_n 1, 1) := by decide +kernel
theorem dX12_byText_23 : decode cX12_byText 23 = .ok (.iaload, 1) := by decide +kernel
theorem dX12_byText_24 : decode cX12_byText 24 = .ok (.aload_n 0, 1) := by decide +kernel
theorem dX12_byText_25 : decode cX12_byText 25 = .ok (.iconst 2, 1) := by decide +kernel
theorem dX12_byText_26 : decode cX12_byText 26 = .ok (.aload_n 0, 1) := by decide +kernel
theorem dX12_byText_27 : decode cX12_byText 27 = .ok (.getfield 46, 3) := by decide +kernel
theorem dX12_byText_30 : decode cX12_byText 30 = .ok (.iload_n 1, 1) := by decide +kernel
theorem dX12_byText_31 : decode cX12_byText 31 = .ok (.iaload, 1) := by decide +kernel
theorem dX12_byText_32 : decode cX12_byText 32 = .ok (.invokevirtual 216, 3) := by decide +kernel
theorem dX12_byText_35 : decode cX12_byText 35 = .ok (.if_icmp .lt 26, 3) := by decide +kernel
theorem dX12_byText_38 : decode cX12_byText 38 = .ok (.aload_n 0, 1) := by decide +kernel
theorem dX12_byText_39 : decode cX12_byText 39 = .ok (.iload_n 1, 1) := by decide +kernel
theorem dX12_byText_40 : decode cX12_byText 40 = .ok (.invokevirtual 239, 3) := by decide +kernel
theorem dX12_byText_43 : decode cX12_byText 43 = .ok (.aload_n 0, 1) := by decide +kernel
theorem dX12_byText_44 : decode cX12_byText 44 = .ok (.iconst 0, 1) := by decide +kernel
theorem dX12_byText_45 : decode cX12_byText 45 = .ok (.aload_n 0, 1) := by decide +kernel
theorem dX12_byText_46 : decode cX12_byText 46 = .ok (.getfield 46, 3) := by decide +kernel
theorem dX12_byText_49 : decode cX12_byText 49 = .ok (.iload_n 1, 1) := by decide +kernel
theorem dX12_byText_50 : decode cX12_byText 50 = .ok (.iaload, 1) := by decide +kernel
theorem dX12_byText_51 : decode cX12_byText 51 = .ok (.invokevirtual 216, 3) := by decide +kernel
theorem dX12_byText_54 : decode cX12_byText 54 = .ok (.if_icmp .lt 7, 3) := by decide +kernel
theorem dX12_byText_57 : decode cX12_byText 57 = .ok (.iconst 1, 1) := by decide +kernel
theorem dX12_byText_58 : decode cX12_byText 58 = .ok (.goto 4, 3) := by decide +kernel
theorem dX12_byText_61 : decode cX12_byText 61 = .ok (.iconst 0, 1) := by decide +kernel
theorem dX12_byText_62 : decode cX12_byText 62 = .ok (.ireturn, 1) := by decide +kernel
theorem dX12_isLate_0 : decode cX12_isLate 0 = .ok (.aload_n 0, 1) := by decide +kernel
theorem dX12_isLate_1 : decode cX12_isLate 1 = .ok (.iload_n 1, 1) := by decide +kernel
theorem dX12_isLate_2 : decode cX12_isLate 2 = .ok (.invokevirtual 242, 3) := by decide +kernel
theorem dX12_isLate_5 : decode cX12_isLate 5 = .ok (.ifCond .le 12, 3) := by decide +kernel
theorem dX12_isLate_8 : decode cX12_isLate 8 = .ok (.aload_n 0, 1) := by decide +kernel
theorem dX12_isLate_9 : decode cX12_isLate 9 = .ok (.getfield 55, 3) := by decide +kernel
theorem dX12_isLate_12 : decode cX12_isLate 12 = .ok (.iload_n 1, 1) := by decide +kernel
theorem dX12_isLate_13 : decode cX12_isLate 13 = .ok (.iaload, 1) := by decide +kernel
theorem dX12_isLate_14 : decode cX12_isLate 14 = .ok (.goto 7, 3) := by decide +kernel
theorem dX12_isLate_17 : decode cX12_isLate 17 = .ok (.aload_n 0, 1) := by decide +kernel
theorem dX12_isLate_18 : decode cX12_isLate 18 = .ok (.invokevirtual 219, 3) := by decide +kernel
theorem dX12_isLate_21 : decode cX12_isLate 21 = .ok (.istore_n 2, 1) := by decide +kernel
theorem dX12_isLate_22 : decode cX12_isLate 22 = .ok (.iload_n 2, 1) := by decide +kernel
theorem dX12_isLate_23 : decode cX12_isLate 23 = .ok (.aload_n 0, 1) := by decide +kernel
theorem dX12_isLate_24 : decode cX12_isLate 24 = .ok (.getfield 46, 3) := by decide +kernel
theorem dX12_isLate_27 : decode cX12_isLate 27 = .ok (.iload_n 1, 1) := by decide +kernel
theorem dX12_isLate_28 : decode cX12_isLate 28 = .ok (.iaload, 1) := by decide +kernel
theorem dX12_isLate_29 : decode cX12_isLate 29 = .ok (.isub, 1) := by decide +kernel
theorem dX12_isLate_30 : decode cX12_isLate 30 = .ok (.aload_n 0, 1) := by decide +kernel
theorem dX12_isLate_31 : decode cX12_isLate 31 = .ok (.iconst 3, 1) := by decide +kernel
theorem dX12_isLate_32 : decode cX12_isLate 32 = .ok (.iload_n 2, 1) := by decide +kernel
theorem dX12_isLate_33 : decode cX12_isLate 33 = .ok (.invokevirtual 216, 3) := by decide +kernel
theorem dX12_isLate_36 : decode cX12_isLate 36 = .ok (.if_icmp .le 7, 3) := by decide +kernel
theorem dX12_isLate_39 : decode cX12_isLate 39 = .ok (.iconst 1, 1) := by decide +kernel
theorem dX12_isLate_40 : decode cX12_isLate 40 = .ok (.goto 4, 3) := by decide +kernel
theorem dX12_isLate_43 : decode cX12_isLate 43 = .ok (.iconst 0, 1) := by decide +kernel
theorem dX12_isLate_44 : decode cX12_isLate 44 = .ok (.ireturn, 1) := by decide +kernel
theorem dX12_trueReasons_0 : decode cX12_trueReasons 0 = .ok (.aload_n 0, 1) := by decide +kernel
theorem dX12_trueReasons_1 : decode cX12_trueReasons 1 = .ok (.aload_n 0, 1) := by decide +kernel
theorem dX12_trueReasons_2 : decode cX12_trueReasons 2 = .ok (.iload_n 1, 1) := by decide +kernel
theorem dX12_trueReasons_3 : decode cX12_trueReasons 3 = .ok (.invokevirtual 232, 3) := by decide +kernel
theorem dX12_trueReasons_6 : decode cX12_trueReasons 6 = .ok (.aload_n 0, 1) := by decide +kernel
theorem dX12_trueReasons_7 : decode cX12_trueReasons 7 = .ok (.getfield 46, 3) := by decide +kernel
theorem dX12_trueReasons_10 : decode cX12_trueReasons 10 = .ok (.iload_n 1, 1) := by decide +kernel
theorem dX12_trueReasons_11 : decode cX12_trueReasons 11 = .ok (.iaload, 1) := by decide +kernel
theorem dX12_trueReasons_12 : decode cX12_trueReasons 12 = .ok (.invokevirtual 235, 3) := by decide +kernel
theorem dX12_trueReasons_15 : decode cX12_trueReasons 15 = .ok (.ifCond .eq 7, 3) := by decide +kernel
theorem dX12_trueReasons_18 : decode cX12_trueReasons 18 = .ok (.iconst 0, 1) := by decide +kernel
theorem dX12_trueReasons_19 : decode cX12_trueReasons 19 = .ok (.goto 4, 3) := by decide +kernel
theorem dX12_trueReasons_22 : decode cX12_trueReasons 22 = .ok (.iconst 1, 1) := by decide +kernel
theorem dX12_trueReasons_23 : decode cX12_trueReasons 23 = .ok (.istore_n 2, 1) := by decide +kernel
theorem dX12_trueReasons_24 : decode cX12_trueReasons 24 = .ok (.iload_n 2, 1) := by decide +kernel
theorem dX12_trueReasons_25 : decode cX12_trueReasons 25 = .ok (.aload_n 0, 1) := by decide +kernel
theorem dX12_trueReasons_26 : decode cX12_trueReasons 26 = .ok (.getfield 49, 3) := by decide +kernel
theorem dX12_trueReasons_29 : decode cX12_trueReasons 29 = .ok (.iload_n 1, 1) := by decide +kernel
theorem dX12_trueReasons_30 : decode cX12_trueReasons 30 = .ok (.iaload, 1) := by decide +kernel
theorem dX12_trueReasons_31 : decode cX12_trueReasons 31 = .ok (.aload_n 0, 1) := by decide +kernel
theorem dX12_trueReasons_32 : decode cX12_trueReasons 32 = .ok (.iconst 2, 1) := by decide +kernel
theorem dX12_trueReasons_33 : decode cX12_trueReasons 33 = .ok (.aload_n 0, 1) := by decide +kernel
theorem dX12_trueReasons_34 : decode cX12_trueReasons 34 = .ok (.getfield 46, 3) := by decide +kernel
theorem dX12_trueReasons_37 : decode cX12_trueReasons 37 = .ok (.iload_n 1, 1) := by decide +kernel
theorem dX12_trueReasons_38 : decode cX12_trueReasons 38 = .ok (.iaload, 1) := by decide +kernel
theorem dX12_trueReasons_39 : decode cX12_trueReasons 39 = .ok (.invokevirtual 216, 3) := by decide +kernel
theorem dX12_trueReasons_42 : decode cX12_trueReasons 42 = .ok (.if_icmp .ge 7, 3) := by decide +kernel
theorem dX12_trueReasons_45 : decode cX12_trueReasons 45 = .ok (.iconst 2, 1) := by decide +kernel
theorem dX12_trueReasons_46 : decode cX12_trueReasons 46 = .ok (.goto 4, 3) := by decide +kernel
theorem dX12_trueReasons_49 : decode cX12_trueReasons 49 = .ok (.iconst 0, 1) := by decide +kernel
theorem dX12_trueReasons_50 : decode cX12_trueReasons 50 = .ok (.ior, 1) := by decide +kernel
theorem dX12_trueReasons_51 : decode cX12_trueReasons 51 = .ok (.istore_n 2, 1) := by decide +kernel
theorem dX12_trueReasons_52 : decode cX12_trueReasons 52 = .ok (.iload_n 2, 1) := by decide +kernel
theorem dX12_trueReasons_53 : decode cX12_trueReasons 53 = .ok (.aload_n 0, 1) := by decide +kernel
theorem dX12_trueReasons_54 : decode cX12_trueReasons 54 = .ok (.iload_n 1, 1) := by decide +kernel
theorem dX12_trueReasons_55 : decode cX12_trueReasons 55 = .ok (.invokevirtual 239, 3) := by decide +kernel
theorem dX12_trueReasons_58 : decode cX12_trueReasons 58 = .ok (.aload_n 0, 1) := by decide +kernel
theorem dX12_trueReasons_59 : decode cX12_trueReasons 59 = .ok (.iconst 0, 1) := by decide +kernel
theorem dX12_trueReasons_60 : decode cX12_trueReasons 60 = .ok (.aload_n 0, 1) := by decide +kernel
theorem dX12_trueReasons_61 : decode cX12_trueReasons 61 = .ok (.getfield 46, 3) := by decide +kernel
theorem dX12_trueReasons_64 : decode cX12_trueReasons 64 = .ok (.iload_n 1, 1) := by decide +kernel
theorem dX12_trueReasons_65 : decode cX12_trueReasons 65 = .ok (.iaload, 1) := by decide +kernel
theorem dX12_trueReasons_66 : decode cX12_trueReasons 66 = .ok (.invokevirtual 216, 3) := by decide +kernel
theorem dX12_trueReasons_69 : decode cX12_trueReasons 69 = .ok (.if_icmp .ge 7, 3) := by decide +kernel
theorem dX12_trueReasons_72 : decode cX12_trueReasons 72 = .ok (.iconst 4, 1) := by decide +kernel
theorem dX12_trueReasons_73 : decode cX12_trueReasons 73 = .ok (.goto 4, 3) := by decide +kernel
theorem dX12_trueReasons_76 : decode cX12_trueReasons 76 = .ok (.iconst 0, 1) := by decide +kernel
theorem dX12_trueReasons_77 : decode cX12_trueReasons 77 = .ok (.ior, 1) := by decide +kernel
theorem dX12_trueReasons_78 : decode cX12_trueReasons 78 = .ok (.istore_n 2, 1) := by decide +kernel
theorem dX12_trueReasons_79 : decode cX12_trueReasons 79 = .ok (.iload_n 2, 1) := by decide +kernel
theorem dX12_trueReasons_80 : decode cX12_trueReasons 80 = .ok (.aload_n 0, 1) := by decide +kernel
theorem dX12_trueReasons_81 : decode cX12_trueReasons 81 = .ok (.iload_n 1, 1) := by decide +kernel
theorem dX12_trueReasons_82 : decode cX12_trueReasons 82 = .ok (.invokevirtual 245, 3) := by decide +kernel
theorem dX12_trueReasons_85 : decode cX12_trueReasons 85 = .ok (.ifCond .eq 8, 3) := by decide +kernel
theorem dX12_trueReasons_88 : decode cX12_trueReasons 88 = .ok (.bipush 8, 2) := by decide +kernel
theorem dX12_trueReasons_90 : decode cX12_trueReasons 90 = .ok (.goto 4, 3) := by decide +kernel
theorem dX12_trueReasons_93 : decode cX12_trueReasons 93 = .ok (.iconst 0, 1) := by decide +kernel
theorem dX12_trueReasons_94 : decode cX12_trueReasons 94 = .ok (.ior, 1) := by decide +kernel
theorem dX12_trueReasons_95 : decode cX12_trueReasons 95 = .ok (.ireturn, 1) := by decide +kernel
theorem dX12_read_0 : decode cX12_read 0 = .ok (.iload_n 1, 1) := by decide +kernel
theorem dX12_read_1 : decode cX12_read 1 = .ok (.iconst 0, 1) := by decide +kernel
theorem dX12_read_2 : decode cX12_read 2 = .ok (.aload_n 0, 1) := by decide +kernel
theorem dX12_read_3 : decode cX12_read 3 = .ok (.getfield 161, 3) := by decide +kernel
theorem dX12_read_6 : decode cX12_read 6 = .ok (.iconst 1, 1) := by decide +kernel
theorem dX12_read_7 : decode cX12_read 7 = .ok (.isub, 1) := by decide +kernel
theorem dX12_read_8 : decode cX12_read 8 = .ok (.invokestatic 144, 3) := by decide +kernel
theorem dX12_read_11 : decode cX12_read 11 = .ok (.ifCond .eq 24, 3) := by decide +kernel
theorem dX12_read_14 : decode cX12_read 14 = .ok (.iload_n 2, 1) := by decide +kernel
theorem dX12_read_15 : decode cX12_read 15 = .ok (.invokestatic 248, 3) := by decide +kernel
theorem dX12_read_18 : decode cX12_read 18 = .ok (.ifCond .eq 17, 3) := by decide +kernel
theorem dX12_read_21 : decode cX12_read 21 = .ok (.iload_n 3, 1) := by decide +kernel
theorem dX12_read_22 : decode cX12_read 22 = .ok (.ifCond .ne 16, 3) := by decide +kernel
theorem dX12_read_25 : decode cX12_read 25 = .ok (.iload 4, 2) := by decide +kernel
theorem dX12_read_27 : decode cX12_read 27 = .ok (.iconst 0, 1) := by decide +kernel
theorem dX12_read_28 : decode cX12_read 28 = .ok (.iconst 4, 1) := by decide +kernel
theorem dX12_read_29 : decode cX12_read 29 = .ok (.invokestatic 144, 3) := by decide +kernel
theorem dX12_read_32 : decode cX12_read 32 = .ok (.ifCond .ne 6, 3) := by decide +kernel
theorem dX12_read_35 : decode cX12_read 35 = .ok (.bipush (-2), 2) := by decide +kernel
theorem dX12_read_37 : decode cX12_read 37 = .ok (.ireturn, 1) := by decide +kernel
theorem dX12_read_38 : decode cX12_read 38 = .ok (.aload_n 0, 1) := by decide +kernel
theorem dX12_read_39 : decode cX12_read 39 = .ok (.getfield 111, 3) := by decide +kernel
theorem dX12_read_42 : decode cX12_read 42 = .ok (.iload_n 2, 1) := by decide +kernel
theorem dX12_read_43 : decode cX12_read 43 = .ok (.iaload, 1) := by decide +kernel
theorem dX12_read_44 : decode cX12_read 44 = .ok (.iconst (-1), 1) := by decide +kernel
theorem dX12_read_45 : decode cX12_read 45 = .ok (.if_icmp .eq 24, 3) := by decide +kernel
theorem dX12_read_48 : decode cX12_read 48 = .ok (.aload_n 0, 1) := by decide +kernel
theorem dX12_read_49 : decode cX12_read 49 = .ok (.getfield 111, 3) := by decide +kernel
theorem dX12_read_52 : decode cX12_read 52 = .ok (.iload_n 2, 1) := by decide +kernel
theorem dX12_read_53 : decode cX12_read 53 = .ok (.iaload, 1) := by decide +kernel
theorem dX12_read_54 : decode cX12_read 54 = .ok (.aload_n 0, 1) := by decide +kernel
theorem dX12_read_55 : decode cX12_read 55 = .ok (.getfield 151, 3) := by decide +kernel
theorem dX12_read_58 : decode cX12_read 58 = .ok (.if_icmp .gt 11, 3) := by decide +kernel
theorem dX12_read_61 : decode cX12_read 61 = .ok (.iload_n 3, 1) := by decide +kernel
theorem dX12_read_62 : decode cX12_read 62 = .ok (.ifCond .ne 7, 3) := by decide +kernel
theorem dX12_read_65 : decode cX12_read 65 = .ok (.iconst 1, 1) := by decide +kernel
theorem dX12_read_66 : decode cX12_read 66 = .ok (.goto 4, 3) := by decide +kernel
theorem dX12_read_69 : decode cX12_read 69 = .ok (.iconst 0, 1) := by decide +kernel
theorem dX12_read_70 : decode cX12_read 70 = .ok (.istore 5, 2) := by decide +kernel
theorem dX12_read_72 : decode cX12_read 72 = .ok (.aload_n 0, 1) := by decide +kernel
theorem dX12_read_73 : decode cX12_read 73 = .ok (.getfield 61, 3) := by decide +kernel
theorem dX12_read_76 : decode cX12_read 76 = .ok (.iload_n 1, 1) := by decide +kernel
theorem dX12_read_77 : decode cX12_read 77 = .ok (.iaload, 1) := by decide +kernel
theorem dX12_read_78 : decode cX12_read 78 = .ok (.ifCond .gt 16, 3) := by decide +kernel
theorem dX12_read_81 : decode cX12_read 81 = .ok (.iload 5, 2) := by decide +kernel
theorem dX12_read_83 : decode cX12_read 83 = .ok (.ifCond .eq 14, 3) := by decide +kernel
theorem dX12_read_86 : decode cX12_read 86 = .ok (.aload_n 0, 1) := by decide +kernel
theorem dX12_read_87 : decode cX12_read 87 = .ok (.iload_n 1, 1) := by decide +kernel
theorem dX12_read_88 : decode cX12_read 88 = .ok (.invokevirtual 251, 3) := by decide +kernel
theorem dX12_read_91 : decode cX12_read 91 = .ok (.ifCond .eq 6, 3) := by decide +kernel
theorem dX12_read_94 : decode cX12_read 94 = .ok (.bipush (-3), 2) := by decide +kernel
theorem dX12_read_96 : decode cX12_read 96 = .ok (.ireturn, 1) := by decide +kernel
theorem dX12_read_97 : decode cX12_read 97 = .ok (.aload_n 0, 1) := by decide +kernel
theorem dX12_read_98 : decode cX12_read 98 = .ok (.getfield 61, 3) := by decide +kernel
theorem dX12_read_101 : decode cX12_read 101 = .ok (.iload_n 1, 1) := by decide +kernel
theorem dX12_read_102 : decode cX12_read 102 = .ok (.iload_n 3, 1) := by decide +kernel
theorem dX12_read_103 : decode cX12_read 103 = .ok (.ifCond .eq 7, 3) := by decide +kernel
theorem dX12_read_106 : decode cX12_read 106 = .ok (.iconst 1, 1) := by decide +kernel
theorem dX12_read_107 : decode cX12_read 107 = .ok (.goto 4, 3) := by decide +kernel
theorem dX12_read_110 : decode cX12_read 110 = .ok (.iconst 2, 1) := by decide +kernel
theorem dX12_read_111 : decode cX12_read 111 = .ok (.iastore, 1) := by decide +kernel
theorem dX12_read_112 : decode cX12_read 112 = .ok (.aload_n 0, 1) := by decide +kernel
theorem dX12_read_113 : decode cX12_read 113 = .ok (.getfield 55, 3) := by decide +kernel
theorem dX12_read_116 : decode cX12_read 116 = .ok (.iload_n 1, 1) := by decide +kernel
theorem dX12_read_117 : decode cX12_read 117 = .ok (.aload_n 0, 1) := by decide +kernel
theorem dX12_read_118 : decode cX12_read 118 = .ok (.getfield 151, 3) := by decide +kernel
theorem dX12_read_121 : decode cX12_read 121 = .ok (.iastore, 1) := by decide +kernel
theorem dX12_read_122 : decode cX12_read 122 = .ok (.aload_n 0, 1) := by decide +kernel
theorem dX12_read_123 : decode cX12_read 123 = .ok (.getfield 58, 3) := by decide +kernel
theorem dX12_read_126 : decode cX12_read 126 = .ok (.iload_n 1, 1) := by decide +kernel
theorem dX12_read_127 : decode cX12_read 127 = .ok (.iload_n 2, 1) := by decide +kernel
theorem dX12_read_128 : decode cX12_read 128 = .ok (.iastore, 1) := by decide +kernel
theorem dX12_read_129 : decode cX12_read 129 = .ok (.aload_n 0, 1) := by decide +kernel
theorem dX12_read_130 : decode cX12_read 130 = .ok (.getfield 64, 3) := by decide +kernel
theorem dX12_read_133 : decode cX12_read 133 = .ok (.iload_n 1, 1) := by decide +kernel
theorem dX12_read_134 : decode cX12_read 134 = .ok (.iload_n 3, 1) := by decide +kernel
theorem dX12_read_135 : decode cX12_read 135 = .ok (.ifCond .eq 7, 3) := by decide +kernel
theorem dX12_read_138 : decode cX12_read 138 = .ok (.iconst (-1), 1) := by decide +kernel
theorem dX12_read_139 : decode cX12_read 139 = .ok (.goto 5, 3) := by decide +kernel
theorem dX12_read_142 : decode cX12_read 142 = .ok (.iload 4, 2) := by decide +kernel
theorem dX12_read_144 : decode cX12_read 144 = .ok (.iastore, 1) := by decide +kernel
theorem dX12_read_145 : decode cX12_read 145 = .ok (.iload_n 3, 1) := by decide +kernel
theorem dX12_read_146 : decode cX12_read 146 = .ok (.ifCond .eq 28, 3) := by decide +kernel
theorem dX12_read_149 : decode cX12_read 149 = .ok (.aload_n 0, 1) := by decide +kernel
theorem dX12_read_150 : decode cX12_read 150 = .ok (.aload_n 0, 1) := by decide +kernel
theorem dX12_read_151 : decode cX12_read 151 = .ok (.getfield 43, 3) := by decide +kernel
theorem dX12_read_154 : decode cX12_read 154 = .ok (.iload_n 1, 1) := by decide +kernel
theorem dX12_read_155 : decode cX12_read 155 = .ok (.iaload, 1) := by decide +kernel
theorem dX12_read_156 : decode cX12_read 156 = .ok (.invokevirtual 229, 3) := by decide +kernel
theorem dX12_read_159 : decode cX12_read 159 = .ok (.ifCond .eq 15, 3) := by decide +kernel
theorem dX12_read_162 : decode cX12_read 162 = .ok (.aload_n 0, 1) := by decide +kernel
theorem dX12_read_163 : decode cX12_read 163 = .ok (.getfield 25, 3) := by decide +kernel
theorem dX12_read_166 : decode cX12_read 166 = .ok (.aload_n 0, 1) := by decide +kernel
theorem dX12_read_167 : decode cX12_read 167 = .ok (.getfield 43, 3) := by decide +kernel
theorem dX12_read_170 : decode cX12_read 170 = .ok (.iload_n 1, 1) := by decide +kernel
theorem dX12_read_171 : decode cX12_read 171 = .ok (.iaload, 1) := by decide +kernel
theorem dX12_read_172 : decode cX12_read 172 = .ok (.iconst 1, 1) := by decide +kernel
theorem dX12_read_173 : decode cX12_read 173 = .ok (.iastore, 1) := by decide +kernel
theorem dX12_read_174 : decode cX12_read 174 = .ok (.iconst 1, 1) := by decide +kernel
theorem dX12_read_175 : decode cX12_read 175 = .ok (.ireturn, 1) := by decide +kernel
theorem dX12_formOf_0 : decode cX12_formOf 0 = .ok (.aload_n 0, 1) := by decide +kernel
theorem dX12_formOf_1 : decode cX12_formOf 1 = .ok (.iload_n 1, 1) := by decide +kernel
theorem dX12_formOf_2 : decode cX12_formOf 2 = .ok (.invokevirtual 242, 3) := by decide +kernel
theorem dX12_formOf_5 : decode cX12_formOf 5 = .ok (.ifCond .le 7, 3) := by decide +kernel
theorem dX12_formOf_8 : decode cX12_formOf 8 = .ok (.iconst 1, 1) := by decide +kernel
theorem dX12_formOf_9 : decode cX12_formOf 9 = .ok (.goto 4, 3) := by decide +kernel
theorem dX12_formOf_12 : decode cX12_formOf 12 = .ok (.iconst 0, 1) := by decide +kernel
theorem dX12_formOf_13 : decode cX12_formOf 13 = .ok (.istore_n 3, 1) := by decide +kernel
theorem dX12_formOf_14 : decode cX12_formOf 14 = .ok (.iconst 0, 1) := by decide +kernel
theorem dX12_formOf_15 : decode cX12_formOf 15 = .ok (.istore 4, 2) := by decide +kernel
theorem dX12_formOf_17 : decode cX12_formOf 17 = .ok (.iload_n 2, 1) := by decide +kernel
theorem dX12_formOf_18 : decode cX12_formOf 18 = .ok (.tableswitch 201 0 10 #[58, 65, 72, 79, 85, 130, 144, 159, 174, 180, 195], 58) := by decide +kernel
theorem dX12_formOf_76 : decode cX12_formOf 76 = .ok (.aload_n 0, 1) := by decide +kernel
theorem dX12_formOf_77 : decode cX12_formOf 77 = .ok (.getfield 43, 3) := by decide +kernel
theorem dX12_formOf_80 : decode cX12_formOf 80 = .ok (.iload_n 1, 1) := by decide +kernel
theorem dX12_formOf_81 : decode cX12_formOf 81 = .ok (.iaload, 1) := by decide +kernel
theorem dX12_formOf_82 : decode cX12_formOf 82 = .ok (.ireturn, 1) := by decide +kernel
theorem dX12_formOf_83 : decode cX12_formOf 83 = .ok (.aload_n 0, 1) := by decide +kernel
theorem dX12_formOf_84 : decode cX12_formOf 84 = .ok (.getfield 46, 3) := by decide +kernel
theorem dX12_formOf_87 : decode cX12_formOf 87 = .ok (.iload_n 1, 1) := by decide +kernel
theorem dX12_formOf_88 : decode cX12_formOf 88 = .ok (.iaload, 1) := by decide +kernel
theorem dX12_formOf_89 : decode cX12_formOf 89 = .ok (.ireturn, 1) := by decide +kernel
theorem dX12_formOf_90 : decode cX12_formOf 90 = .ok (.aload_n 0, 1) := by decide +kernel
theorem dX12_formOf_91 : decode cX12_formOf 91 = .ok (.getfield 49, 3) := by decide +kernel
theorem dX12_formOf_94 : decode cX12_formOf 94 = .ok (.iload_n 1, 1) := by decide +kernel
theorem dX12_formOf_95 : decode cX12_formOf 95 = .ok (.iaload, 1) := by decide +kernel
theorem dX12_formOf_96 : decode cX12_formOf 96 = .ok (.ireturn, 1) := by decide +kernel
theorem dX12_formOf_97 : decode cX12_formOf 97 = .ok (.aload_n 0, 1) := by decide +kernel
theorem dX12_formOf_98 : decode cX12_formOf 98 = .ok (.iload_n 1, 1) := by decide +kernel
theorem dX12_formOf_99 : decode cX12_formOf 99 = .ok (.invokevirtual 239, 3) := by decide +kernel
theorem dX12_formOf_102 : decode cX12_formOf 102 = .ok (.ireturn, 1) := by decide +kernel
theorem dX12_formOf_103 : decode cX12_formOf 103 = .ok (.iconst 0, 1) := by decide +kernel
theorem dX12_formOf_104 : decode cX12_formOf 104 = .ok (.istore 5, 2) := by decide +kernel
theorem dX12_formOf_106 : decode cX12_formOf 106 = .ok (.iload 5, 2) := by decide +kernel
theorem dX12_formOf_108 : decode cX12_formOf 108 = .ok (.bipush 20, 2) := by decide +kernel
theorem dX12_formOf_110 : decode cX12_formOf 110 = .ok (.if_icmp .ge 35, 3) := by decide +kernel
theorem dX12_formOf_113 : decode cX12_formOf 113 = .ok (.iload 4, 2) := by decide +kernel
theorem dX12_formOf_115 : decode cX12_formOf 115 = .ok (.aload_n 0, 1) := by decide +kernel
theorem dX12_formOf_116 : decode cX12_formOf 116 = .ok (.getfield 52, 3) := by decide +kernel
theorem dX12_formOf_119 : decode cX12_formOf 119 = .ok (.bipush 20, 2) := by decide +kernel
theorem dX12_formOf_121 : decode cX12_formOf 121 = .ok (.iload_n 1, 1) := by decide +kernel
theorem dX12_formOf_122 : decode cX12_formOf 122 = .ok (.imul, 1) := by decide +kernel
theorem dX12_formOf_123 : decode cX12_formOf 123 = .ok (.iload 5, 2) := by decide +kernel
theorem dX12_formOf_125 : decode cX12_formOf 125 = .ok (.iadd, 1) := by decide +kernel
theorem dX12_formOf_126 : decode cX12_formOf 126 = .ok (.iaload, 1) := by decide +kernel
theorem dX12_formOf_127 : decode cX12_formOf 127 = .ok (.iconst (-1), 1) := by decide +kernel
theorem dX12_formOf_128 : decode cX12_formOf 128 = .ok (.if_icmp .ne 7, 3) := by decide +kernel
theorem dX12_formOf_131 : decode cX12_formOf 131 = .ok (.iconst 1, 1) := by decide +kernel
theorem dX12_formOf_132 : decode cX12_formOf 132 = .ok (.goto 4, 3) := by decide +kernel
theorem dX12_formOf_135 : decode cX12_formOf 135 = .ok (.iconst 0, 1) := by decide +kernel
theorem dX12_formOf_136 : decode cX12_formOf 136 = .ok (.iadd, 1) := by decide +kernel
theorem dX12_formOf_137 : decode cX12_formOf 137 = .ok (.istore 4, 2) := by decide +kernel
theorem dX12_formOf_139 : decode cX12_formOf 139 = .ok (.iinc 5 1, 3) := by decide +kernel
theorem dX12_formOf_142 : decode cX12_formOf 142 = .ok (.goto (-36), 3) := by decide +kernel
theorem dX12_formOf_145 : decode cX12_formOf 145 = .ok (.iload 4, 2) := by decide +kernel
theorem dX12_formOf_147 : decode cX12_formOf 147 = .ok (.ireturn, 1) := by decide +kernel
theorem dX12_formOf_148 : decode cX12_formOf 148 = .ok (.aload_n 0, 1) := by decide +kernel
theorem dX12_formOf_149 : decode cX12_formOf 149 = .ok (.iload_n 1, 1) := by decide +kernel
theorem dX12_formOf_150 : decode cX12_formOf 150 = .ok (.invokevirtual 251, 3) := by decide +kernel
theorem dX12_formOf_153 : decode cX12_formOf 153 = .ok (.ifCond .eq 7, 3) := by decide +kernel
theorem dX12_formOf_156 : decode cX12_formOf 156 = .ok (.iconst 1, 1) := by decide +kernel
theorem dX12_formOf_157 : decode cX12_formOf 157 = .ok (.goto 4, 3) := by decide +kernel
theorem dX12_formOf_160 : decode cX12_formOf 160 = .ok (.iconst 0, 1) := by decide +kernel
theorem dX12_formOf_161 : decode cX12_formOf 161 = .ok (.ireturn, 1) := by decide +kernel
theorem dX12_formOf_162 : decode cX12_formOf 162 = .ok (.iload_n 3, 1) := by decide +kernel
theorem dX12_formOf_163 : decode cX12_formOf 163 = .ok (.ifCond .eq 12, 3) := by decide +kernel
theorem dX12_formOf_166 : decode cX12_formOf 166 = .ok (.aload_n 0, 1) := by decide +kernel
theorem dX12_formOf_167 : decode cX12_formOf 167 = .ok (.getfield 55, 3) := by decide +kernel
theorem dX12_formOf_170 : decode cX12_formOf 170 = .ok (.iload_n 1, 1) := by decide +kernel
theorem dX12_formOf_171 : decode cX12_formOf 171 = .ok (.iaload, 1) := by decide +kernel
theorem dX12_formOf_172 : decode cX12_formOf 172 = .ok (.goto 4, 3) := by decide +kernel
theorem dX12_formOf_175 : decode cX12_formOf 175 = .ok (.iconst (-1), 1) := by decide +kernel
theorem dX12_formOf_176 : decode cX12_formOf 176 = .ok (.ireturn, 1) := by decide +kernel
theorem dX12_formOf_177 : decode cX12_formOf 177 = .ok (.iload_n 3, 1) := by decide +kernel
theorem dX12_formOf_178 : decode cX12_formOf 178 = .ok (.ifCond .eq 12, 3) := by decide +kernel
theorem dX12_formOf_181 : decode cX12_formOf 181 = .ok (.aload_n 0, 1) := by decide +kernel
theorem dX12_formOf_182 : decode cX12_formOf 182 = .ok (.getfield 58, 3) := by decide +kernel
theorem dX12_formOf_185 : decode cX12_formOf 185 = .ok (.iload_n 1, 1) := by decide +kernel
theorem dX12_formOf_186 : decode cX12_formOf 186 = .ok (.iaload, 1) := by decide +kernel
theorem dX12_formOf_187 : decode cX12_formOf 187 = .ok (.goto 4, 3) := by decide +kernel
theorem dX12_formOf_190 : decode cX12_formOf 190 = .ok (.iconst (-1), 1) := by decide +kernel
theorem dX12_formOf_191 : decode cX12_formOf 191 = .ok (.ireturn, 1) := by decide +kernel
theorem dX12_formOf_192 : decode cX12_formOf 192 = .ok (.aload_n 0, 1) := by decide +kernel
theorem dX12_formOf_193 : decode cX12_formOf 193 = .ok (.iload_n 1, 1) := by decide +kernel
theorem dX12_formOf_194 : decode cX12_formOf 194 = .ok (.invokevirtual 242, 3) := by decide +kernel
theorem dX12_formOf_197 : decode cX12_formOf 197 = .ok (.ireturn, 1) := by decide +kernel
theorem dX12_formOf_198 : decode cX12_formOf 198 = .ok (.iload_n 3, 1) := by decide +kernel
theorem dX12_formOf_199 : decode cX12_formOf 199 = .ok (.ifCond .eq 12, 3) := by decide +kernel
theorem dX12_formOf_202 : decode cX12_formOf 202 = .ok (.aload_n 0, 1) := by decide +kernel
theorem dX12_formOf_203 : decode cX12_formOf 203 = .ok (.getfield 64, 3) := by decide +kernel
theorem dX12_formOf_206 : decode cX12_formOf 206 = .ok (.iload_n 1, 1) := by decide +kernel
theorem dX12_formOf_207 : decode cX12_formOf 207 = .ok (.iaload, 1) := by decide +kernel
theorem dX12_formOf_208 : decode cX12_formOf 208 = .ok (.goto 4, 3) := by decide +kernel
theorem dX12_formOf_211 : decode cX12_formOf 211 = .ok (.iconst (-1), 1) := by decide +kernel
theorem dX12_formOf_212 : decode cX12_formOf 212 = .ok (.ireturn, 1) := by decide +kernel
theorem dX12_formOf_213 : decode cX12_formOf 213 = .ok (.aload_n 0, 1) := by decide +kernel
theorem dX12_formOf_214 : decode cX12_formOf 214 = .ok (.iload_n 1, 1) := by decide +kernel
theorem dX12_formOf_215 : decode cX12_formOf 215 = .ok (.invokevirtual 254, 3) := by decide +kernel
theorem dX12_formOf_218 : decode cX12_formOf 218 = .ok (.ireturn, 1) := by decide +kernel
theorem dX12_formOf_219 : decode cX12_formOf 219 = .ok (.aload_n 0, 1) := by decide +kernel
theorem dX12_formOf_220 : decode cX12_formOf 220 = .ok (.iload_n 1, 1) := by decide +kernel
theorem dX12_formOf_221 : decode cX12_formOf 221 = .ok (.invokevirtual 245, 3) := by decide +kernel
theorem dX12_formOf_224 : decode cX12_formOf 224 = .ok (.ifCond .eq 7, 3) := by decide +kernel
theorem dX12_formOf_227 : decode cX12_formOf 227 = .ok (.iconst 1, 1) := by decide +kernel
theorem dX12_formOf_228 : decode cX12_formOf 228 = .ok (.goto 4, 3) := by decide +kernel
theorem dX12_formOf_231 : decode cX12_formOf 231 = .ok (.iconst 0, 1) := by decide +kernel
theorem dX12_formOf_232 : decode cX12_formOf 232 = .ok (.ireturn, 1) := by decide +kernel
theorem dX12_formIs_0 : decode cX12_formIs 0 = .ok (.iload_n 1, 1) := by decide +kernel
theorem dX12_formIs_1 : decode cX12_formIs 1 = .ok (.iconst 0, 1) := by decide +kernel
theorem dX12_formIs_2 : decode cX12_formIs 2 = .ok (.aload_n 0, 1) := by decide +kernel
theorem dX12_formIs_3 : decode cX12_formIs 3 = .ok (.getfield 161, 3) := by decide +kernel
theorem dX12_formIs_6 : decode cX12_formIs 6 = .ok (.iconst 1, 1) := by decide +kernel
theorem dX12_formIs_7 : decode cX12_formIs 7 = .ok (.isub, 1) := by decide +kernel
theorem dX12_formIs_8 : decode cX12_formIs 8 = .ok (.invokestatic 144, 3) := by decide +kernel
theorem dX12_formIs_11 : decode cX12_formIs 11 = .ok (.ifCond .eq 13, 3) := by decide +kernel
theorem dX12_formIs_14 : decode cX12_formIs 14 = .ok (.iload_n 2, 1) := by decide +kernel
theorem dX12_formIs_15 : decode cX12_formIs 15 = .ok (.iconst 0, 1) := by decide +kernel
theorem dX12_formIs_16 : decode cX12_formIs 16 = .ok (.bipush 11, 2) := by decide +kernel
theorem dX12_formIs_18 : decode cX12_formIs 18 = .ok (.invokestatic 144, 3) := by decide +kernel
theorem dX12_formIs_21 : decode cX12_formIs 21 = .ok (.ifCond .ne 6, 3) := by decide +kernel
theorem dX12_formIs_24 : decode cX12_formIs 24 = .ok (.bipush (-2), 2) := by decide +kernel
theorem dX12_formIs_26 : decode cX12_formIs 26 = .ok (.ireturn, 1) := by decide +kernel
theorem dX12_formIs_27 : decode cX12_formIs 27 = .ok (.aload_n 0, 1) := by decide +kernel
theorem dX12_formIs_28 : decode cX12_formIs 28 = .ok (.iload_n 1, 1) := by decide +kernel
theorem dX12_formIs_29 : decode cX12_formIs 29 = .ok (.invokevirtual 164, 3) := by decide +kernel
theorem dX12_formIs_32 : decode cX12_formIs 32 = .ok (.ifCond .eq 12, 3) := by decide +kernel
theorem dX12_formIs_35 : decode cX12_formIs 35 = .ok (.aload_n 0, 1) := by decide +kernel
theorem dX12_formIs_36 : decode cX12_formIs 36 = .ok (.iload_n 1, 1) := by decide +kernel
theorem dX12_formIs_37 : decode cX12_formIs 37 = .ok (.iload_n 2, 1) := by decide +kernel
theorem dX12_formIs_38 : decode cX12_formIs 38 = .ok (.invokevirtual 257, 3) := by decide +kernel
theorem dX12_formIs_41 : decode cX12_formIs 41 = .ok (.goto 5, 3) := by decide +kernel
theorem dX12_formIs_44 : decode cX12_formIs 44 = .ok (.bipush (-3), 2) := by decide +kernel
theorem dX12_formIs_46 : decode cX12_formIs 46 = .ok (.ireturn, 1) := by decide +kernel
theorem dX12_answer_0 : decode cX12_answer 0 = .ok (.iload_n 1, 1) := by decide +kernel
theorem dX12_answer_1 : decode cX12_answer 1 = .ok (.iconst 0, 1) := by decide +kernel
theorem dX12_answer_2 : decode cX12_answer 2 = .ok (.aload_n 0, 1) := by decide +kernel
theorem dX12_answer_3 : decode cX12_answer 3 = .ok (.getfield 161, 3) := by decide +kernel
theorem dX12_answer_6 : decode cX12_answer 6 = .ok (.iconst 1, 1) := by decide +kernel
theorem dX12_answer_7 : decode cX12_answer 7 = .ok (.isub, 1) := by decide +kernel
theorem dX12_answer_8 : decode cX12_answer 8 = .ok (.invokestatic 144, 3) := by decide +kernel
theorem dX12_answer_11 : decode cX12_answer 11 = .ok (.ifCond .eq 13, 3) := by decide +kernel
theorem dX12_answer_14 : decode cX12_answer 14 = .ok (.iload_n 2, 1) := by decide +kernel
theorem dX12_answer_15 : decode cX12_answer 15 = .ok (.iconst 0, 1) := by decide +kernel
theorem dX12_answer_16 : decode cX12_answer 16 = .ok (.bipush 19, 2) := by decide +kernel
theorem dX12_answer_18 : decode cX12_answer 18 = .ok (.invokestatic 144, 3) := by decide +kernel
theorem dX12_answer_21 : decode cX12_answer 21 = .ok (.ifCond .ne 6, 3) := by decide +kernel
theorem dX12_answer_24 : decode cX12_answer 24 = .ok (.bipush (-2), 2) := by decide +kernel
theorem dX12_answer_26 : decode cX12_answer 26 = .ok (.ireturn, 1) := by decide +kernel
theorem dX12_answer_27 : decode cX12_answer 27 = .ok (.aload_n 0, 1) := by decide +kernel
theorem dX12_answer_28 : decode cX12_answer 28 = .ok (.iload_n 1, 1) := by decide +kernel
theorem dX12_answer_29 : decode cX12_answer 29 = .ok (.invokevirtual 164, 3) := by decide +kernel
theorem dX12_answer_32 : decode cX12_answer 32 = .ok (.ifCond .eq 17, 3) := by decide +kernel
theorem dX12_answer_35 : decode cX12_answer 35 = .ok (.aload_n 0, 1) := by decide +kernel
theorem dX12_answer_36 : decode cX12_answer 36 = .ok (.getfield 52, 3) := by decide +kernel
theorem dX12_answer_39 : decode cX12_answer 39 = .ok (.bipush 20, 2) := by decide +kernel
theorem dX12_answer_41 : decode cX12_answer 41 = .ok (.iload_n 1, 1) := by decide +kernel
theorem dX12_answer_42 : decode cX12_answer 42 = .ok (.imul, 1) := by decide +kernel
theorem dX12_answer_43 : decode cX12_answer 43 = .ok (.iload_n 2, 1) := by decide +kernel
theorem dX12_answer_44 : decode cX12_answer 44 = .ok (.iadd, 1) := by decide +kernel
theorem dX12_answer_45 : decode cX12_answer 45 = .ok (.iaload, 1) := by decide +kernel
theorem dX12_answer_46 : decode cX12_answer 46 = .ok (.goto 5, 3) := by decide +kernel
theorem dX12_answer_49 : decode cX12_answer 49 = .ok (.bipush (-3), 2) := by decide +kernel
theorem dX12_answer_51 : decode cX12_answer 51 = .ok (.ireturn, 1) := by decide +kernel
theorem dX12_isParted_0 : decode cX12_isParted 0 = .ok (.aload_n 0, 1) := by decide +kernel
theorem dX12_isParted_1 : decode cX12_isParted 1 = .ok (.iload_n 1, 1) := by decide +kernel
theorem dX12_isParted_2 : decode cX12_isParted 2 = .ok (.invokevirtual 242, 3) := by decide +kernel
theorem dX12_isParted_5 : decode cX12_isParted 5 = .ok (.ifCond .le 29, 3) := by decide +kernel
theorem dX12_isParted_8 : decode cX12_isParted 8 = .ok (.aload_n 0, 1) := by decide +kernel
theorem dX12_isParted_9 : decode cX12_isParted 9 = .ok (.iload_n 1, 1) := by decide +kernel
theorem dX12_isParted_10 : decode cX12_isParted 10 = .ok (.invokevirtual 242, 3) := by decide +kernel
theorem dX12_isParted_13 : decode cX12_isParted 13 = .ok (.iconst 1, 1) := by decide +kernel
theorem dX12_isParted_14 : decode cX12_isParted 14 = .ok (.if_icmp .ne 7, 3) := by decide +kernel
theorem dX12_isParted_17 : decode cX12_isParted 17 = .ok (.iconst 1, 1) := by decide +kernel
theorem dX12_isParted_18 : decode cX12_isParted 18 = .ok (.goto 4, 3) := by decide +kernel
theorem dX12_isParted_21 : decode cX12_isParted 21 = .ok (.iconst 0, 1) := by decide +kernel
theorem dX12_isParted_22 : decode cX12_isParted 22 = .ok (.aload_n 0, 1) := by decide +kernel
theorem dX12_isParted_23 : decode cX12_isParted 23 = .ok (.iload_n 1, 1) := by decide +kernel
theorem dX12_isParted_24 : decode cX12_isParted 24 = .ok (.invokevirtual 251, 3) := by decide +kernel
theorem dX12_isParted_27 : decode cX12_isParted 27 = .ok (.if_icmp .eq 7, 3) := by decide +kernel
theorem dX12_isParted_30 : decode cX12_isParted 30 = .ok (.iconst 1, 1) := by decide +kernel
theorem dX12_isParted_31 : decode cX12_isParted 31 = .ok (.goto 4, 3) := by decide +kernel
theorem dX12_isParted_34 : decode cX12_isParted 34 = .ok (.iconst 0, 1) := by decide +kernel
theorem dX12_isParted_35 : decode cX12_isParted 35 = .ok (.ireturn, 1) := by decide +kernel
theorem dX12_isFalse_0 : decode cX12_isFalse 0 = .ok (.aload_n 0, 1) := by decide +kernel
theorem dX12_isFalse_1 : decode cX12_isFalse 1 = .ok (.iload_n 1, 1) := by decide +kernel
theorem dX12_isFalse_2 : decode cX12_isFalse 2 = .ok (.invokevirtual 242, 3) := by decide +kernel
theorem dX12_isFalse_5 : decode cX12_isFalse 5 = .ok (.iconst 2, 1) := by decide +kernel
theorem dX12_isFalse_6 : decode cX12_isFalse 6 = .ok (.if_icmp .ne 24, 3) := by decide +kernel
theorem dX12_isFalse_9 : decode cX12_isFalse 9 = .ok (.aload_n 0, 1) := by decide +kernel
theorem dX12_isFalse_10 : decode cX12_isFalse 10 = .ok (.iload_n 1, 1) := by decide +kernel
theorem dX12_isFalse_11 : decode cX12_isFalse 11 = .ok (.invokevirtual 254, 3) := by decide +kernel
theorem dX12_isFalse_14 : decode cX12_isFalse 14 = .ok (.aload_n 0, 1) := by decide +kernel
theorem dX12_isFalse_15 : decode cX12_isFalse 15 = .ok (.getfield 64, 3) := by decide +kernel
theorem dX12_isFalse_18 : decode cX12_isFalse 18 = .ok (.iload_n 1, 1) := by decide +kernel
theorem dX12_isFalse_19 : decode cX12_isFalse 19 = .ok (.iaload, 1) := by decide +kernel
theorem dX12_isFalse_20 : decode cX12_isFalse 20 = .ok (.ishr, 1) := by decide +kernel
theorem dX12_isFalse_21 : decode cX12_isFalse 21 = .ok (.iconst 1, 1) := by decide +kernel
theorem dX12_isFalse_22 : decode cX12_isFalse 22 = .ok (.iand, 1) := by decide +kernel
theorem dX12_isFalse_23 : decode cX12_isFalse 23 = .ok (.ifCond .ne 7, 3) := by decide +kernel
theorem dX12_isFalse_26 : decode cX12_isFalse 26 = .ok (.iconst 1, 1) := by decide +kernel
theorem dX12_isFalse_27 : decode cX12_isFalse 27 = .ok (.goto 4, 3) := by decide +kernel
theorem dX12_isFalse_30 : decode cX12_isFalse 30 = .ok (.iconst 0, 1) := by decide +kernel
theorem dX12_isFalse_31 : decode cX12_isFalse 31 = .ok (.ireturn, 1) := by decide +kernel
theorem dX12_parted_0 : decode cX12_parted 0 = .ok (.iload_n 1, 1) := by decide +kernel
theorem dX12_parted_1 : decode cX12_parted 1 = .ok (.iconst (-1), 1) := by decide +kernel
theorem dX12_parted_2 : decode cX12_parted 2 = .ok (.iconst 1, 1) := by decide +kernel
theorem dX12_parted_3 : decode cX12_parted 3 = .ok (.invokestatic 144, 3) := by decide +kernel
theorem dX12_parted_6 : decode cX12_parted 6 = .ok (.ifCond .eq 12, 3) := by decide +kernel
theorem dX12_parted_9 : decode cX12_parted 9 = .ok (.iload_n 2, 1) := by decide +kernel
theorem dX12_parted_10 : decode cX12_parted 10 = .ok (.iconst 0, 1) := by decide +kernel
theorem dX12_parted_11 : decode cX12_parted 11 = .ok (.iconst 2, 1) := by decide +kernel
theorem dX12_parted_12 : decode cX12_parted 12 = .ok (.invokestatic 144, 3) := by decide +kernel
theorem dX12_parted_15 : decode cX12_parted 15 = .ok (.ifCond .ne 6, 3) := by decide +kernel
theorem dX12_parted_18 : decode cX12_parted 18 = .ok (.bipush (-2), 2) := by decide +kernel
theorem dX12_parted_20 : decode cX12_parted 20 = .ok (.ireturn, 1) := by decide +kernel
theorem dX12_parted_21 : decode cX12_parted 21 = .ok (.iconst 0, 1) := by decide +kernel
theorem dX12_parted_22 : decode cX12_parted 22 = .ok (.istore_n 3, 1) := by decide +kernel
theorem dX12_parted_23 : decode cX12_parted 23 = .ok (.iconst 0, 1) := by decide +kernel
theorem dX12_parted_24 : decode cX12_parted 24 = .ok (.istore 4, 2) := by decide +kernel
theorem dX12_parted_26 : decode cX12_parted 26 = .ok (.iload 4, 2) := by decide +kernel
theorem dX12_parted_28 : decode cX12_parted 28 = .ok (.aload_n 0, 1) := by decide +kernel
theorem dX12_parted_29 : decode cX12_parted 29 = .ok (.getfield 161, 3) := by decide +kernel
theorem dX12_parted_32 : decode cX12_parted 32 = .ok (.if_icmp .ge 79, 3) := by decide +kernel
theorem dX12_parted_35 : decode cX12_parted 35 = .ok (.iload_n 2, 1) := by decide +kernel
theorem dX12_parted_36 : decode cX12_parted 36 = .ok (.iconst 2, 1) := by decide +kernel
theorem dX12_parted_37 : decode cX12_parted 37 = .ok (.if_icmp .ne 12, 3) := by decide +kernel
theorem dX12_parted_40 : decode cX12_parted 40 = .ok (.aload_n 0, 1) := by decide +kernel
theorem dX12_parted_41 : decode cX12_parted 41 = .ok (.iload 4, 2) := by decide +kernel
theorem dX12_parted_43 : decode cX12_parted 43 = .ok (.invokevirtual 260, 3) := by decide +kernel
theorem dX12_parted_46 : decode cX12_parted 46 = .ok (.goto 29, 3) := by decide +kernel
theorem dX12_parted_49 : decode cX12_parted 49 = .ok (.aload_n 0, 1) := by decide +kernel
theorem dX12_parted_50 : decode cX12_parted 50 = .ok (.iload 4, 2) := by decide +kernel
theorem dX12_parted_52 : decode cX12_parted 52 = .ok (.invokevirtual 263, 3) := by decide +kernel
theorem dX12_parted_55 : decode cX12_parted 55 = .ok (.ifCond .eq 19, 3) := by decide +kernel
theorem dX12_parted_58 : decode cX12_parted 58 = .ok (.aload_n 0, 1) := by decide +kernel
theorem dX12_parted_59 : decode cX12_parted 59 = .ok (.iload 4, 2) := by decide +kernel
theorem dX12_parted_61 : decode cX12_parted 61 = .ok (.invokevirtual 242, 3) := by decide +kernel
theorem dX12_parted_64 : decode cX12_parted 64 = .ok (.iload_n 2, 1) := by decide +kernel
theorem dX12_parted_65 : decode cX12_parted 65 = .ok (.iconst 1, 1) := by decide +kernel
theorem dX12_parted_66 : decode cX12_parted 66 = .ok (.iadd, 1) := by decide +kernel
theorem dX12_parted_67 : decode cX12_parted 67 = .ok (.if_icmp .ne 7, 3) := by decide +kernel
theorem dX12_parted_70 : decode cX12_parted 70 = .ok (.iconst 1, 1) := by decide +kernel
theorem dX12_parted_71 : decode cX12_parted 71 = .ok (.goto 4, 3) := by decide +kernel
theorem dX12_parted_74 : decode cX12_parted 74 = .ok (.iconst 0, 1) := by decide +kernel
theorem dX12_parted_75 : decode cX12_parted 75 = .ok (.istore 5, 2) := by decide +kernel
theorem dX12_parted_77 : decode cX12_parted 77 = .ok (.iload_n 3, 1) := by decide +kernel
theorem dX12_parted_78 : decode cX12_parted 78 = .ok (.iload 5, 2) := by decide +kernel
theorem dX12_parted_80 : decode cX12_parted 80 = .ok (.ifCond .eq 22, 3) := by decide +kernel
theorem dX12_parted_83 : decode cX12_parted 83 = .ok (.iload_n 1, 1) := by decide +kernel
theorem dX12_parted_84 : decode cX12_parted 84 = .ok (.iconst (-1), 1) := by decide +kernel
theorem dX12_parted_85 : decode cX12_parted 85 = .ok (.if_icmp .eq 13, 3) := by decide +kernel
theorem dX12_parted_88 : decode cX12_parted 88 = .ok (.aload_n 0, 1) := by decide +kernel
theorem dX12_parted_89 : decode cX12_parted 89 = .ok (.iload 4, 2) := by decide +kernel
theorem dX12_parted_91 : decode cX12_parted 91 = .ok (.invokevirtual 232, 3) := by decide +kernel
theorem dX12_parted_94 : decode cX12_parted 94 = .ok (.iload_n 1, 1) := by decide +kernel
theorem dX12_parted_95 : decode cX12_parted 95 = .ok (.if_icmp .ne 7, 3) := by decide +kernel
theorem dX12_parted_98 : decode cX12_parted 98 = .ok (.iconst 1, 1) := by decide +kernel
theorem dX12_parted_99 : decode cX12_parted 99 = .ok (.goto 4, 3) := by decide +kernel
theorem dX12_parted_102 : decode cX12_parted 102 = .ok (.iconst 0, 1) := by decide +kernel
theorem dX12_parted_103 : decode cX12_parted 103 = .ok (.iadd, 1) := by decide +kernel
theorem dX12_parted_104 : decode cX12_parted 104 = .ok (.istore_n 3, 1) := by decide +kernel
theorem dX12_parted_105 : decode cX12_parted 105 = .ok (.iinc 4 1, 3) := by decide +kernel
theorem dX12_parted_108 : decode cX12_parted 108 = .ok (.goto (-82), 3) := by decide +kernel
theorem dX12_parted_111 : decode cX12_parted 111 = .ok (.iload_n 3, 1) := by decide +kernel
theorem dX12_parted_112 : decode cX12_parted 112 = .ok (.ireturn, 1) := by decide +kernel
theorem dX12_asOf_0 : decode cX12_asOf 0 = .ok (.iload_n 1, 1) := by decide +kernel
theorem dX12_asOf_1 : decode cX12_asOf 1 = .ok (.iconst (-1), 1) := by decide +kernel
theorem dX12_asOf_2 : decode cX12_asOf 2 = .ok (.aload_n 0, 1) := by decide +kernel
theorem dX12_asOf_3 : decode cX12_asOf 3 = .ok (.getfield 151, 3) := by decide +kernel
theorem dX12_asOf_6 : decode cX12_asOf 6 = .ok (.invokestatic 144, 3) := by decide +kernel
theorem dX12_asOf_9 : decode cX12_asOf 9 = .ok (.ifCond .ne 6, 3) := by decide +kernel
theorem dX12_asOf_12 : decode cX12_asOf 12 = .ok (.bipush (-2), 2) := by decide +kernel
theorem dX12_asOf_14 : decode cX12_asOf 14 = .ok (.ireturn, 1) := by decide +kernel
theorem dX12_asOf_15 : decode cX12_asOf 15 = .ok (.aload_n 0, 1) := by decide +kernel
theorem dX12_asOf_16 : decode cX12_asOf 16 = .ok (.getfield 67, 3) := by decide +kernel
theorem dX12_asOf_19 : decode cX12_asOf 19 = .ok (.istore_n 2, 1) := by decide +kernel
theorem dX12_asOf_20 : decode cX12_asOf 20 = .ok (.aload_n 0, 1) := by decide +kernel
theorem dX12_asOf_21 : decode cX12_asOf 21 = .ok (.iload_n 1, 1) := by decide +kernel
theorem dX12_asOf_22 : decode cX12_asOf 22 = .ok (.putfield 67, 3) := by decide +kernel
theorem dX12_asOf_25 : decode cX12_asOf 25 = .ok (.iload_n 2, 1) := by decide +kernel
theorem dX12_asOf_26 : decode cX12_asOf 26 = .ok (.ireturn, 1) := by decide +kernel
theorem dX12_isClerk_0 : decode cX12_isClerk 0 = .ok (.iload_n 0, 1) := by decide +kernel
theorem dX12_isClerk_1 : decode cX12_isClerk 1 = .ok (.iconst 0, 1) := by decide +kernel
theorem dX12_isClerk_2 : decode cX12_isClerk 2 = .ok (.iconst 3, 1) := by decide +kernel
theorem dX12_isClerk_3 : decode cX12_isClerk 3 = .ok (.invokestatic 144, 3) := by decide +kernel
theorem dX12_isClerk_6 : decode cX12_isClerk 6 = .ok (.ireturn, 1) := by decide +kernel
theorem dX12_doesFit_0 : decode cX12_doesFit 0 = .ok (.iconst 0, 1) := by decide +kernel
theorem dX12_doesFit_1 : decode cX12_doesFit 1 = .ok (.istore 4, 2) := by decide +kernel
theorem dX12_doesFit_3 : decode cX12_doesFit 3 = .ok (.iload 4, 2) := by decide +kernel
theorem dX12_doesFit_5 : decode cX12_doesFit 5 = .ok (.aload_n 0, 1) := by decide +kernel
theorem dX12_doesFit_6 : decode cX12_doesFit 6 = .ok (.getfield 161, 3) := by decide +kernel
theorem dX12_doesFit_9 : decode cX12_doesFit 9 = .ok (.if_icmp .ge 74, 3) := by decide +kernel
theorem dX12_doesFit_12 : decode cX12_doesFit 12 = .ok (.aload_n 0, 1) := by decide +kernel
theorem dX12_doesFit_13 : decode cX12_doesFit 13 = .ok (.iload 4, 2) := by decide +kernel
theorem dX12_doesFit_15 : decode cX12_doesFit 15 = .ok (.invokevirtual 242, 3) := by decide +kernel
theorem dX12_doesFit_18 : decode cX12_doesFit 18 = .ok (.ifCond .le 59, 3) := by decide +kernel
theorem dX12_doesFit_21 : decode cX12_doesFit 21 = .ok (.aload_n 0, 1) := by decide +kernel
theorem dX12_doesFit_22 : decode cX12_doesFit 22 = .ok (.getfield 58, 3) := by decide +kernel
theorem dX12_doesFit_25 : decode cX12_doesFit 25 = .ok (.iload 4, 2) := by decide +kernel
theorem dX12_doesFit_27 : decode cX12_doesFit 27 = .ok (.iaload, 1) := by decide +kernel
theorem dX12_doesFit_28 : decode cX12_doesFit 28 = .ok (.iload_n 1, 1) := by decide +kernel
theorem dX12_doesFit_29 : decode cX12_doesFit 29 = .ok (.if_icmp .ne 48, 3) := by decide +kernel
theorem dX12_doesFit_32 : decode cX12_doesFit 32 = .ok (.aload_n 0, 1) := by decide +kernel
theorem dX12_doesFit_33 : decode cX12_doesFit 33 = .ok (.iload 4, 2) := by decide +kernel
theorem dX12_doesFit_35 : decode cX12_doesFit 35 = .ok (.invokevirtual 232, 3) := by decide +kernel
theorem dX12_doesFit_38 : decode cX12_doesFit 38 = .ok (.iload_n 2, 1) := by decide +kernel
theorem dX12_doesFit_39 : decode cX12_doesFit 39 = .ok (.if_icmp .ne 38, 3) := by decide +kernel
theorem dX12_doesFit_42 : decode cX12_doesFit 42 = .ok (.aload_n 0, 1) := by decide +kernel
theorem dX12_doesFit_43 : decode cX12_doesFit 43 = .ok (.iload 4, 2) := by decide +kernel
theorem dX12_doesFit_45 : decode cX12_doesFit 45 = .ok (.invokevirtual 242, 3) := by decide +kernel
theorem dX12_doesFit_48 : decode cX12_doesFit 48 = .ok (.iconst 1, 1) := by decide +kernel
theorem dX12_doesFit_49 : decode cX12_doesFit 49 = .ok (.if_icmp .ne 7, 3) := by decide +kernel
theorem dX12_doesFit_52 : decode cX12_doesFit 52 = .ok (.iconst 1, 1) := by decide +kernel
theorem dX12_doesFit_53 : decode cX12_doesFit 53 = .ok (.goto 4, 3) := by decide +kernel
theorem dX12_doesFit_56 : decode cX12_doesFit 56 = .ok (.iconst 0, 1) := by decide +kernel
theorem dX12_doesFit_57 : decode cX12_doesFit 57 = .ok (.aload_n 0, 1) := by decide +kernel
theorem dX12_doesFit_58 : decode cX12_doesFit 58 = .ok (.iload 4, 2) := by decide +kernel
theorem dX12_doesFit_60 : decode cX12_doesFit 60 = .ok (.invokevirtual 239, 3) := by decide +kernel
theorem dX12_doesFit_63 : decode cX12_doesFit 63 = .ok (.iload_n 3, 1) := by decide +kernel
theorem dX12_doesFit_64 : decode cX12_doesFit 64 = .ok (.if_icmp .lt 7, 3) := by decide +kernel
theorem dX12_doesFit_67 : decode cX12_doesFit 67 = .ok (.iconst 1, 1) := by decide +kernel
theorem dX12_doesFit_68 : decode cX12_doesFit 68 = .ok (.goto 4, 3) := by decide +kernel
theorem dX12_doesFit_71 : decode cX12_doesFit 71 = .ok (.iconst 0, 1) := by decide +kernel
theorem dX12_doesFit_72 : decode cX12_doesFit 72 = .ok (.if_icmp .eq 5, 3) := by decide +kernel
theorem dX12_doesFit_75 : decode cX12_doesFit 75 = .ok (.iconst 0, 1) := by decide +kernel
theorem dX12_doesFit_76 : decode cX12_doesFit 76 = .ok (.ireturn, 1) := by decide +kernel
theorem dX12_doesFit_77 : decode cX12_doesFit 77 = .ok (.iinc 4 1, 3) := by decide +kernel
theorem dX12_doesFit_80 : decode cX12_doesFit 80 = .ok (.goto (-77), 3) := by decide +kernel
theorem dX12_doesFit_83 : decode cX12_doesFit 83 = .ok (.iconst 1, 1) := by decide +kernel
theorem dX12_doesFit_84 : decode cX12_doesFit 84 = .ok (.ireturn, 1) := by decide +kernel
theorem dX12_fitting_0 : decode cX12_fitting 0 = .ok (.iconst 0, 1) := by decide +kernel
theorem dX12_fitting_1 : decode cX12_fitting 1 = .ok (.istore_n 3, 1) := by decide +kernel
theorem dX12_fitting_2 : decode cX12_fitting 2 = .ok (.iconst 0, 1) := by decide +kernel
theorem dX12_fitting_3 : decode cX12_fitting 3 = .ok (.istore 4, 2) := by decide +kernel
theorem dX12_fitting_5 : decode cX12_fitting 5 = .ok (.iload 4, 2) := by decide +kernel
theorem dX12_fitting_7 : decode cX12_fitting 7 = .ok (.bipush 22, 2) := by decide +kernel
theorem dX12_fitting_9 : decode cX12_fitting 9 = .ok (.if_icmp .ge 28, 3) := by decide +kernel
theorem dX12_fitting_12 : decode cX12_fitting 12 = .ok (.iload_n 3, 1) := by decide +kernel
theorem dX12_fitting_13 : decode cX12_fitting 13 = .ok (.aload_n 0, 1) := by decide +kernel
theorem dX12_fitting_14 : decode cX12_fitting 14 = .ok (.iload_n 1, 1) := by decide +kernel
theorem dX12_fitting_15 : decode cX12_fitting 15 = .ok (.iload_n 2, 1) := by decide +kernel
theorem dX12_fitting_16 : decode cX12_fitting 16 = .ok (.iload 4, 2) := by decide +kernel
theorem dX12_fitting_18 : decode cX12_fitting 18 = .ok (.invokevirtual 266, 3) := by decide +kernel
theorem dX12_fitting_21 : decode cX12_fitting 21 = .ok (.ifCond .eq 7, 3) := by decide +kernel
theorem dX12_fitting_24 : decode cX12_fitting 24 = .ok (.iconst 1, 1) := by decide +kernel
theorem dX12_fitting_25 : decode cX12_fitting 25 = .ok (.goto 4, 3) := by decide +kernel
theorem dX12_fitting_28 : decode cX12_fitting 28 = .ok (.iconst 0, 1) := by decide +kernel
theorem dX12_fitting_29 : decode cX12_fitting 29 = .ok (.iadd, 1) := by decide +kernel
theorem dX12_fitting_30 : decode cX12_fitting 30 = .ok (.istore_n 3, 1) := by decide +kernel
theorem dX12_fitting_31 : decode cX12_fitting 31 = .ok (.iinc 4 1, 3) := by decide +kernel
theorem dX12_fitting_34 : decode cX12_fitting 34 = .ok (.goto (-29), 3) := by decide +kernel
theorem dX12_fitting_37 : decode cX12_fitting 37 = .ok (.iload_n 3, 1) := by decide +kernel
theorem dX12_fitting_38 : decode cX12_fitting 38 = .ok (.ireturn, 1) := by decide +kernel
theorem dX12_fitAt_0 : decode cX12_fitAt 0 = .ok (.iconst 0, 1) := by decide +kernel
theorem dX12_fitAt_1 : decode cX12_fitAt 1 = .ok (.istore 4, 2) := by decide +kernel
theorem dX12_fitAt_3 : decode cX12_fitAt 3 = .ok (.iload_n 3, 1) := by decide +kernel
theorem dX12_fitAt_4 : decode cX12_fitAt 4 = .ok (.istore 5, 2) := by decide +kernel
theorem dX12_fitAt_6 : decode cX12_fitAt 6 = .ok (.iload 5, 2) := by decide +kernel
theorem dX12_fitAt_8 : decode cX12_fitAt 8 = .ok (.ifCond .gt 14, 3) := by decide +kernel
theorem dX12_fitAt_11 : decode cX12_fitAt 11 = .ok (.aload_n 0, 1) := by decide +kernel
theorem dX12_fitAt_12 : decode cX12_fitAt 12 = .ok (.iload_n 1, 1) := by decide +kernel
theorem dX12_fitAt_13 : decode cX12_fitAt 13 = .ok (.iload_n 2, 1) := by decide +kernel
theorem dX12_fitAt_14 : decode cX12_fitAt 14 = .ok (.iload 4, 2) := by decide +kernel
theorem dX12_fitAt_16 : decode cX12_fitAt 16 = .ok (.invokevirtual 266, 3) := by decide +kernel
theorem dX12_fitAt_19 : decode cX12_fitAt 19 = .ok (.ifCond .ne 30, 3) := by decide +kernel
theorem dX12_fitAt_22 : decode cX12_fitAt 22 = .ok (.iload 5, 2) := by decide +kernel
theorem dX12_fitAt_24 : decode cX12_fitAt 24 = .ok (.aload_n 0, 1) := by decide +kernel
theorem dX12_fitAt_25 : decode cX12_fitAt 25 = .ok (.iload_n 1, 1) := by decide +kernel
theorem dX12_fitAt_26 : decode cX12_fitAt 26 = .ok (.iload_n 2, 1) := by decide +kernel
theorem dX12_fitAt_27 : decode cX12_fitAt 27 = .ok (.iload 4, 2) := by decide +kernel
theorem dX12_fitAt_29 : decode cX12_fitAt 29 = .ok (.invokevirtual 266, 3) := by decide +kernel
theorem dX12_fitAt_32 : decode cX12_fitAt 32 = .ok (.ifCond .eq 7, 3) := by decide +kernel
theorem dX12_fitAt_35 : decode cX12_fitAt 35 = .ok (.iconst 1, 1) := by decide +kernel
theorem dX12_fitAt_36 : decode cX12_fitAt 36 = .ok (.goto 4, 3) := by decide +kernel
theorem dX12_fitAt_39 : decode cX12_fitAt 39 = .ok (.iconst 0, 1) := by decide +kernel
theorem dX12_fitAt_40 : decode cX12_fitAt 40 = .ok (.isub, 1) := by decide +kernel
theorem dX12_fitAt_41 : decode cX12_fitAt 41 = .ok (.istore 5, 2) := by decide +kernel
theorem dX12_fitAt_43 : decode cX12_fitAt 43 = .ok (.iinc 4 1, 3) := by decide +kernel
theorem dX12_fitAt_46 : decode cX12_fitAt 46 = .ok (.goto (-40), 3) := by decide +kernel
theorem dX12_fitAt_49 : decode cX12_fitAt 49 = .ok (.iload 4, 2) := by decide +kernel
theorem dX12_fitAt_51 : decode cX12_fitAt 51 = .ok (.ireturn, 1) := by decide +kernel
theorem dX12_rules_0 : decode cX12_rules 0 = .ok (.iload_n 1, 1) := by decide +kernel
theorem dX12_rules_1 : decode cX12_rules 1 = .ok (.invokestatic 248, 3) := by decide +kernel
theorem dX12_rules_4 : decode cX12_rules 4 = .ok (.ifCond .eq 19, 3) := by decide +kernel
theorem dX12_rules_7 : decode cX12_rules 7 = .ok (.aload_n 0, 1) := by decide +kernel
theorem dX12_rules_8 : decode cX12_rules 8 = .ok (.iload_n 1, 1) := by decide +kernel
theorem dX12_rules_9 : decode cX12_rules 9 = .ok (.iconst 0, 1) := by decide +kernel
theorem dX12_rules_10 : decode cX12_rules 10 = .ok (.invokevirtual 269, 3) := by decide +kernel
theorem dX12_rules_13 : decode cX12_rules 13 = .ok (.aload_n 0, 1) := by decide +kernel
theorem dX12_rules_14 : decode cX12_rules 14 = .ok (.iload_n 1, 1) := by decide +kernel
theorem dX12_rules_15 : decode cX12_rules 15 = .ok (.iconst 1, 1) := by decide +kernel
theorem dX12_rules_16 : decode cX12_rules 16 = .ok (.invokevirtual 269, 3) := by decide +kernel
theorem dX12_rules_19 : decode cX12_rules 19 = .ok (.imul, 1) := by decide +kernel
theorem dX12_rules_20 : decode cX12_rules 20 = .ok (.goto 5, 3) := by decide +kernel
theorem dX12_rules_23 : decode cX12_rules 23 = .ok (.bipush (-2), 2) := by decide +kernel
theorem dX12_rules_25 : decode cX12_rules 25 = .ok (.ireturn, 1) := by decide +kernel
theorem dX12_rule_0 : decode cX12_rule 0 = .ok (.iload_n 1, 1) := by decide +kernel
theorem dX12_rule_1 : decode cX12_rule 1 = .ok (.invokestatic 248, 3) := by decide +kernel
theorem dX12_rule_4 : decode cX12_rule 4 = .ok (.ifCond .eq 7, 3) := by decide +kernel
theorem dX12_rule_7 : decode cX12_rule 7 = .ok (.iload_n 2, 1) := by decide +kernel
theorem dX12_rule_8 : decode cX12_rule 8 = .ok (.ifCond .ge 6, 3) := by decide +kernel
theorem dX12_rule_11 : decode cX12_rule 11 = .ok (.bipush (-2), 2) := by decide +kernel
theorem dX12_rule_13 : decode cX12_rule 13 = .ok (.ireturn, 1) := by decide +kernel
theorem dX12_rule_14 : decode cX12_rule 14 = .ok (.aload_n 0, 1) := by decide +kernel
theorem dX12_rule_15 : decode cX12_rule 15 = .ok (.iload_n 1, 1) := by decide +kernel
theorem dX12_rule_16 : decode cX12_rule 16 = .ok (.iconst 1, 1) := by decide +kernel
theorem dX12_rule_17 : decode cX12_rule 17 = .ok (.invokevirtual 269, 3) := by decide +kernel
theorem dX12_rule_20 : decode cX12_rule 20 = .ok (.istore_n 3, 1) := by decide +kernel
theorem dX12_rule_21 : decode cX12_rule 21 = .ok (.iload_n 2, 1) := by decide +kernel
theorem dX12_rule_22 : decode cX12_rule 22 = .ok (.aload_n 0, 1) := by decide +kernel
theorem dX12_rule_23 : decode cX12_rule 23 = .ok (.iload_n 1, 1) := by decide +kernel
theorem dX12_rule_24 : decode cX12_rule 24 = .ok (.iconst 0, 1) := by decide +kernel
theorem dX12_rule_25 : decode cX12_rule 25 = .ok (.invokevirtual 269, 3) := by decide +kernel
theorem dX12_rule_28 : decode cX12_rule 28 = .ok (.iload_n 3, 1) := by decide +kernel
theorem dX12_rule_29 : decode cX12_rule 29 = .ok (.imul, 1) := by decide +kernel
theorem dX12_rule_30 : decode cX12_rule 30 = .ok (.if_icmp .lt 5, 3) := by decide +kernel
theorem dX12_rule_33 : decode cX12_rule 33 = .ok (.iconst (-1), 1) := by decide +kernel
theorem dX12_rule_34 : decode cX12_rule 34 = .ok (.ireturn, 1) := by decide +kernel
theorem dX12_rule_35 : decode cX12_rule 35 = .ok (.bipush 100, 2) := by decide +kernel
theorem dX12_rule_37 : decode cX12_rule 37 = .ok (.aload_n 0, 1) := by decide +kernel
theorem dX12_rule_38 : decode cX12_rule 38 = .ok (.iload_n 1, 1) := by decide +kernel
theorem dX12_rule_39 : decode cX12_rule 39 = .ok (.iconst 0, 1) := by decide +kernel
theorem dX12_rule_40 : decode cX12_rule 40 = .ok (.iload_n 2, 1) := by decide +kernel
theorem dX12_rule_41 : decode cX12_rule 41 = .ok (.iload_n 3, 1) := by decide +kernel
theorem dX12_rule_42 : decode cX12_rule 42 = .ok (.idiv, 1) := by decide +kernel
theorem dX12_rule_43 : decode cX12_rule 43 = .ok (.invokevirtual 272, 3) := by decide +kernel
theorem dX12_rule_46 : decode cX12_rule 46 = .ok (.imul, 1) := by decide +kernel
theorem dX12_rule_47 : decode cX12_rule 47 = .ok (.aload_n 0, 1) := by decide +kernel
theorem dX12_rule_48 : decode cX12_rule 48 = .ok (.iload_n 1, 1) := by decide +kernel
theorem dX12_rule_49 : decode cX12_rule 49 = .ok (.iconst 1, 1) := by decide +kernel
theorem dX12_rule_50 : decode cX12_rule 50 = .ok (.iload_n 2, 1) := by decide +kernel
theorem dX12_rule_51 : decode cX12_rule 51 = .ok (.iload_n 3, 1) := by decide +kernel
theorem dX12_rule_52 : decode cX12_rule 52 = .ok (.irem, 1) := by decide +kernel
theorem dX12_rule_53 : decode cX12_rule 53 = .ok (.invokevirtual 272, 3) := by decide +kernel
theorem dX12_rule_56 : decode cX12_rule 56 = .ok (.iadd, 1) := by decide +kernel
theorem dX12_rule_57 : decode cX12_rule 57 = .ok (.ireturn, 1) := by decide +kernel
theorem dX12_areUnlike_0 : decode cX12_areUnlike 0 = .ok (.aload_n 0, 1) := by decide +kernel
theorem dX12_areUnlike_1 : decode cX12_areUnlike 1 = .ok (.iload_n 2, 1) := by decide +kernel
theorem dX12_areUnlike_2 : decode cX12_areUnlike 2 = .ok (.invokevirtual 242, 3) := by decide +kernel
theorem dX12_areUnlike_5 : decode cX12_areUnlike 5 = .ok (.iconst 1, 1) := by decide +kernel
theorem dX12_areUnlike_6 : decode cX12_areUnlike 6 = .ok (.if_icmp .ne 62, 3) := by decide +kernel
theorem dX12_areUnlike_9 : decode cX12_areUnlike 9 = .ok (.aload_n 0, 1) := by decide +kernel
theorem dX12_areUnlike_10 : decode cX12_areUnlike 10 = .ok (.iload_n 3, 1) := by decide +kernel
theorem dX12_areUnlike_11 : decode cX12_areUnlike 11 = .ok (.invokevirtual 242, 3) := by decide +kernel
theorem dX12_areUnlike_14 : decode cX12_areUnlike 14 = .ok (.iconst 2, 1) := by decide +kernel
theorem dX12_areUnlike_15 : decode cX12_areUnlike 15 = .ok (.if_icmp .ne 53, 3) := by decide +kernel
theorem dX12_areUnlike_18 : decode cX12_areUnlike 18 = .ok (.aload_n 0, 1) := by decide +kernel
theorem dX12_areUnlike_19 : decode cX12_areUnlike 19 = .ok (.getfield 58, 3) := by decide +kernel
theorem dX12_areUnlike_22 : decode cX12_areUnlike 22 = .ok (.iload_n 2, 1) := by decide +kernel
theorem dX12_areUnlike_23 : decode cX12_areUnlike 23 = .ok (.iaload, 1) := by decide +kernel
theorem dX12_areUnlike_24 : decode cX12_areUnlike 24 = .ok (.iload_n 1, 1) := by decide +kernel
theorem dX12_areUnlike_25 : decode cX12_areUnlike 25 = .ok (.if_icmp .ne 43, 3) := by decide +kernel
theorem dX12_areUnlike_28 : decode cX12_areUnlike 28 = .ok (.aload_n 0, 1) := by decide +kernel
theorem dX12_areUnlike_29 : decode cX12_areUnlike 29 = .ok (.getfield 58, 3) := by decide +kernel
theorem dX12_areUnlike_32 : decode cX12_areUnlike 32 = .ok (.iload_n 3, 1) := by decide +kernel
theorem dX12_areUnlike_33 : decode cX12_areUnlike 33 = .ok (.iaload, 1) := by decide +kernel
theorem dX12_areUnlike_34 : decode cX12_areUnlike 34 = .ok (.iload_n 1, 1) := by decide +kernel
theorem dX12_areUnlike_35 : decode cX12_areUnlike 35 = .ok (.if_icmp .ne 33, 3) := by decide +kernel
theorem dX12_areUnlike_38 : decode cX12_areUnlike 38 = .ok (.aload_n 0, 1) := by decide +kernel
theorem dX12_areUnlike_39 : decode cX12_areUnlike 39 = .ok (.iload_n 2, 1) := by decide +kernel
theorem dX12_areUnlike_40 : decode cX12_areUnlike 40 = .ok (.invokevirtual 232, 3) := by decide +kernel
theorem dX12_areUnlike_43 : decode cX12_areUnlike 43 = .ok (.aload_n 0, 1) := by decide +kernel
theorem dX12_areUnlike_44 : decode cX12_areUnlike 44 = .ok (.iload_n 3, 1) := by decide +kernel
theorem dX12_areUnlike_45 : decode cX12_areUnlike 45 = .ok (.invokevirtual 232, 3) := by decide +kernel
theorem dX12_areUnlike_48 : decode cX12_areUnlike 48 = .ok (.if_icmp .eq 20, 3) := by decide +kernel
theorem dX12_areUnlike_51 : decode cX12_areUnlike 51 = .ok (.aload_n 0, 1) := by decide +kernel
theorem dX12_areUnlike_52 : decode cX12_areUnlike 52 = .ok (.iload_n 3, 1) := by decide +kernel
theorem dX12_areUnlike_53 : decode cX12_areUnlike 53 = .ok (.invokevirtual 239, 3) := by decide +kernel
theorem dX12_areUnlike_56 : decode cX12_areUnlike 56 = .ok (.aload_n 0, 1) := by decide +kernel
theorem dX12_areUnlike_57 : decode cX12_areUnlike 57 = .ok (.iload_n 2, 1) := by decide +kernel
theorem dX12_areUnlike_58 : decode cX12_areUnlike 58 = .ok (.invokevirtual 239, 3) := by decide +kernel
theorem dX12_areUnlike_61 : decode cX12_areUnlike 61 = .ok (.if_icmp .lt 7, 3) := by decide +kernel
theorem dX12_areUnlike_64 : decode cX12_areUnlike 64 = .ok (.iconst 1, 1) := by decide +kernel
theorem dX12_areUnlike_65 : decode cX12_areUnlike 65 = .ok (.goto 4, 3) := by decide +kernel
theorem dX12_areUnlike_68 : decode cX12_areUnlike 68 = .ok (.iconst 0, 1) := by decide +kernel
theorem dX12_areUnlike_69 : decode cX12_areUnlike 69 = .ok (.ireturn, 1) := by decide +kernel
theorem dX12_unlikeOf_0 : decode cX12_unlikeOf 0 = .ok (.iconst 0, 1) := by decide +kernel
theorem dX12_unlikeOf_1 : decode cX12_unlikeOf 1 = .ok (.istore_n 2, 1) := by decide +kernel
theorem dX12_unlikeOf_2 : decode cX12_unlikeOf 2 = .ok (.iconst 0, 1) := by decide +kernel
theorem dX12_unlikeOf_3 : decode cX12_unlikeOf 3 = .ok (.istore_n 3, 1) := by decide +kernel
theorem dX12_unlikeOf_4 : decode cX12_unlikeOf 4 = .ok (.iload_n 3, 1) := by decide +kernel
theorem dX12_unlikeOf_5 : decode cX12_unlikeOf 5 = .ok (.aload_n 0, 1) := by decide +kernel
theorem dX12_unlikeOf_6 : decode cX12_unlikeOf 6 = .ok (.getfield 161, 3) := by decide +kernel
theorem dX12_unlikeOf_9 : decode cX12_unlikeOf 9 = .ok (.if_icmp .ge 46, 3) := by decide +kernel
theorem dX12_unlikeOf_12 : decode cX12_unlikeOf 12 = .ok (.iconst 0, 1) := by decide +kernel
theorem dX12_unlikeOf_13 : decode cX12_unlikeOf 13 = .ok (.istore 4, 2) := by decide +kernel
theorem dX12_unlikeOf_15 : decode cX12_unlikeOf 15 = .ok (.iload 4, 2) := by decide +kernel
theorem dX12_unlikeOf_17 : decode cX12_unlikeOf 17 = .ok (.aload_n 0, 1) := by decide +kernel
theorem dX12_unlikeOf_18 : decode cX12_unlikeOf 18 = .ok (.getfield 161, 3) := by decide +kernel
theorem dX12_unlikeOf_21 : decode cX12_unlikeOf 21 = .ok (.if_icmp .ge 28, 3) := by decide +kernel
theorem dX12_unlikeOf_24 : decode cX12_unlikeOf 24 = .ok (.iload_n 2, 1) := by decide +kernel
theorem dX12_unlikeOf_25 : decode cX12_unlikeOf 25 = .ok (.aload_n 0, 1) := by decide +kernel
theorem dX12_unlikeOf_26 : decode cX12_unlikeOf 26 = .ok (.iload_n 1, 1) := by decide +kernel
theorem dX12_unlikeOf_27 : decode cX12_unlikeOf 27 = .ok (.iload_n 3, 1) := by decide +kernel
theorem dX12_unlikeOf_28 : decode cX12_unlikeOf 28 = .ok (.iload 4, 2) := by decide +kernel
theorem dX12_unlikeOf_30 : decode cX12_unlikeOf 30 = .ok (.invokevirtual 275, 3) := by decide +kernel
theorem dX12_unlikeOf_33 : decode cX12_unlikeOf 33 = .ok (.ifCond .eq 7, 3) := by decide +kernel
theorem dX12_unlikeOf_36 : decode cX12_unlikeOf 36 = .ok (.iconst 1, 1) := by decide +kernel
theorem dX12_unlikeOf_37 : decode cX12_unlikeOf 37 = .ok (.goto 4, 3) := by decide +kernel
theorem dX12_unlikeOf_40 : decode cX12_unlikeOf 40 = .ok (.iconst 0, 1) := by decide +kernel
theorem dX12_unlikeOf_41 : decode cX12_unlikeOf 41 = .ok (.iadd, 1) := by decide +kernel
theorem dX12_unlikeOf_42 : decode cX12_unlikeOf 42 = .ok (.istore_n 2, 1) := by decide +kernel
theorem dX12_unlikeOf_43 : decode cX12_unlikeOf 43 = .ok (.iinc 4 1, 3) := by decide +kernel
theorem dX12_unlikeOf_46 : decode cX12_unlikeOf 46 = .ok (.goto (-31), 3) := by decide +kernel
theorem dX12_unlikeOf_49 : decode cX12_unlikeOf 49 = .ok (.iinc 3 1, 3) := by decide +kernel
theorem dX12_unlikeOf_52 : decode cX12_unlikeOf 52 = .ok (.goto (-48), 3) := by decide +kernel
theorem dX12_unlikeOf_55 : decode cX12_unlikeOf 55 = .ok (.iload_n 2, 1) := by decide +kernel
theorem dX12_unlikeOf_56 : decode cX12_unlikeOf 56 = .ok (.ireturn, 1) := by decide +kernel
theorem dX12_unlike_0 : decode cX12_unlike 0 = .ok (.iload_n 1, 1) := by decide +kernel
theorem dX12_unlike_1 : decode cX12_unlike 1 = .ok (.invokestatic 248, 3) := by decide +kernel
theorem dX12_unlike_4 : decode cX12_unlike 4 = .ok (.ifCond .eq 11, 3) := by decide +kernel
theorem dX12_unlike_7 : decode cX12_unlike 7 = .ok (.aload_n 0, 1) := by decide +kernel
theorem dX12_unlike_8 : decode cX12_unlike 8 = .ok (.iload_n 1, 1) := by decide +kernel
theorem dX12_unlike_9 : decode cX12_unlike 9 = .ok (.invokevirtual 278, 3) := by decide +kernel
theorem dX12_unlike_12 : decode cX12_unlike 12 = .ok (.goto 5, 3) := by decide +kernel
theorem dX12_unlike_15 : decode cX12_unlike 15 = .ok (.bipush (-2), 2) := by decide +kernel
theorem dX12_unlike_17 : decode cX12_unlike 17 = .ok (.ireturn, 1) := by decide +kernel
theorem dX12_proves_0 : decode cX12_proves 0 = .ok (.iload_n 1, 1) := by decide +kernel
theorem dX12_proves_1 : decode cX12_proves 1 = .ok (.invokestatic 248, 3) := by decide +kernel
theorem dX12_proves_4 : decode cX12_proves 4 = .ok (.ifCond .ne 6, 3) := by decide +kernel
theorem dX12_proves_7 : decode cX12_proves 7 = .ok (.bipush (-2), 2) := by decide +kernel
theorem dX12_proves_9 : decode cX12_proves 9 = .ok (.ireturn, 1) := by decide +kernel
theorem dX12_proves_10 : decode cX12_proves 10 = .ok (.iconst 0, 1) := by decide +kernel
theorem dX12_proves_11 : decode cX12_proves 11 = .ok (.istore_n 2, 1) := by decide +kernel
theorem dX12_proves_12 : decode cX12_proves 12 = .ok (.iload_n 2, 1) := by decide +kernel
theorem dX12_proves_13 : decode cX12_proves 13 = .ok (.aload_n 0, 1) := by decide +kernel
theorem dX12_proves_14 : decode cX12_proves 14 = .ok (.getfield 161, 3) := by decide +kernel
theorem dX12_proves_17 : decode cX12_proves 17 = .ok (.if_icmp .ge 42, 3) := by decide +kernel
theorem dX12_proves_20 : decode cX12_proves 20 = .ok (.iconst 0, 1) := by decide +kernel
theorem dX12_proves_21 : decode cX12_proves 21 = .ok (.istore_n 3, 1) := by decide +kernel
theorem dX12_proves_22 : decode cX12_proves 22 = .ok (.iload_n 3, 1) := by decide +kernel
theorem dX12_proves_23 : decode cX12_proves 23 = .ok (.aload_n 0, 1) := by decide +kernel
theorem dX12_proves_24 : decode cX12_proves 24 = .ok (.getfield 161, 3) := by decide +kernel
theorem dX12_proves_27 : decode cX12_proves 27 = .ok (.if_icmp .ge 26, 3) := by decide +kernel
theorem dX12_proves_30 : decode cX12_proves 30 = .ok (.aload_n 0, 1) := by decide +kernel
theorem dX12_proves_31 : decode cX12_proves 31 = .ok (.iload_n 1, 1) := by decide +kernel
theorem dX12_proves_32 : decode cX12_proves 32 = .ok (.iload_n 2, 1) := by decide +kernel
theorem dX12_proves_33 : decode cX12_proves 33 = .ok (.iload_n 3, 1) := by decide +kernel
theorem dX12_proves_34 : decode cX12_proves 34 = .ok (.invokevirtual 275, 3) := by decide +kernel
theorem dX12_proves_37 : decode cX12_proves 37 = .ok (.ifCond .eq 10, 3) := by decide +kernel
theorem dX12_proves_40 : decode cX12_proves 40 = .ok (.bipush 100, 2) := by decide +kernel
theorem dX12_proves_42 : decode cX12_proves 42 = .ok (.iload_n 2, 1) := by decide +kernel
theorem dX12_proves_43 : decode cX12_proves 43 = .ok (.imul, 1) := by decide +kernel
theorem dX12_proves_44 : decode cX12_proves 44 = .ok (.iload_n 3, 1) := by decide +kernel
theorem dX12_proves_45 : decode cX12_proves 45 = .ok (.iadd, 1) := by decide +kernel
theorem dX12_proves_46 : decode cX12_proves 46 = .ok (.ireturn, 1) := by decide +kernel
theorem dX12_proves_47 : decode cX12_proves 47 = .ok (.iinc 3 1, 3) := by decide +kernel
theorem dX12_proves_50 : decode cX12_proves 50 = .ok (.goto (-28), 3) := by decide +kernel
theorem dX12_proves_53 : decode cX12_proves 53 = .ok (.iinc 2 1, 3) := by decide +kernel
theorem dX12_proves_56 : decode cX12_proves 56 = .ok (.goto (-44), 3) := by decide +kernel
theorem dX12_proves_59 : decode cX12_proves 59 = .ok (.iconst (-1), 1) := by decide +kernel
theorem dX12_proves_60 : decode cX12_proves 60 = .ok (.ireturn, 1) := by decide +kernel
theorem dX12_minutes_0 : decode cX12_minutes 0 = .ok (.iload_n 1, 1) := by decide +kernel
theorem dX12_minutes_1 : decode cX12_minutes 1 = .ok (.invokestatic 248, 3) := by decide +kernel
theorem dX12_minutes_4 : decode cX12_minutes 4 = .ok (.ifCond .eq 22, 3) := by decide +kernel
theorem dX12_minutes_7 : decode cX12_minutes 7 = .ok (.iload_n 2, 1) := by decide +kernel
theorem dX12_minutes_8 : decode cX12_minutes 8 = .ok (.iconst 0, 1) := by decide +kernel
theorem dX12_minutes_9 : decode cX12_minutes 9 = .ok (.iconst 1, 1) := by decide +kernel
theorem dX12_minutes_10 : decode cX12_minutes 10 = .ok (.invokestatic 144, 3) := by decide +kernel
theorem dX12_minutes_13 : decode cX12_minutes 13 = .ok (.ifCond .eq 13, 3) := by decide +kernel
theorem dX12_minutes_16 : decode cX12_minutes 16 = .ok (.iload_n 3, 1) := by decide +kernel
theorem dX12_minutes_17 : decode cX12_minutes 17 = .ok (.iconst 1, 1) := by decide +kernel
theorem dX12_minutes_18 : decode cX12_minutes 18 = .ok (.bipush 120, 2) := by decide +kernel
theorem dX12_minutes_20 : decode cX12_minutes 20 = .ok (.invokestatic 144, 3) := by decide +kernel
theorem dX12_minutes_23 : decode cX12_minutes 23 = .ok (.ifCond .ne 6, 3) := by decide +kernel
theorem dX12_minutes_26 : decode cX12_minutes 26 = .ok (.bipush (-2), 2) := by decide +kernel
theorem dX12_minutes_28 : decode cX12_minutes 28 = .ok (.ireturn, 1) := by decide +kernel
theorem dX12_minutes_29 : decode cX12_minutes 29 = .ok (.aload_n 0, 1) := by decide +kernel
theorem dX12_minutes_30 : decode cX12_minutes 30 = .ok (.getfield 71, 3) := by decide +kernel
theorem dX12_minutes_33 : decode cX12_minutes 33 = .ok (.iconst 2, 1) := by decide +kernel
theorem dX12_minutes_34 : decode cX12_minutes 34 = .ok (.iload_n 1, 1) := by decide +kernel
theorem dX12_minutes_35 : decode cX12_minutes 35 = .ok (.imul, 1) := by decide +kernel
theorem dX12_minutes_36 : decode cX12_minutes 36 = .ok (.iload_n 2, 1) := by decide +kernel
theorem dX12_minutes_37 : decode cX12_minutes 37 = .ok (.iadd, 1) := by decide +kernel
theorem dX12_minutes_38 : decode cX12_minutes 38 = .ok (.iaload, 1) := by decide +kernel
theorem dX12_minutes_39 : decode cX12_minutes 39 = .ok (.istore 4, 2) := by decide +kernel
theorem dX12_minutes_41 : decode cX12_minutes 41 = .ok (.aload_n 0, 1) := by decide +kernel
theorem dX12_minutes_42 : decode cX12_minutes 42 = .ok (.getfield 71, 3) := by decide +kernel
theorem dX12_minutes_45 : decode cX12_minutes 45 = .ok (.iconst 2, 1) := by decide +kernel
theorem dX12_minutes_46 : decode cX12_minutes 46 = .ok (.iload_n 1, 1) := by decide +kernel
theorem dX12_minutes_47 : decode cX12_minutes 47 = .ok (.imul, 1) := by decide +kernel
theorem dX12_minutes_48 : decode cX12_minutes 48 = .ok (.iload_n 2, 1) := by decide +kernel
theorem dX12_minutes_49 : decode cX12_minutes 49 = .ok (.iadd, 1) := by decide +kernel
theorem dX12_minutes_50 : decode cX12_minutes 50 = .ok (.iload_n 3, 1) := by decide +kernel
theorem dX12_minutes_51 : decode cX12_minutes 51 = .ok (.iastore, 1) := by decide +kernel
theorem dX12_minutes_52 : decode cX12_minutes 52 = .ok (.iload 4, 2) := by decide +kernel
theorem dX12_minutes_54 : decode cX12_minutes 54 = .ok (.ireturn, 1) := by decide +kernel
theorem dX12_office_0 : decode cX12_office 0 = .ok (.iload_n 1, 1) := by decide +kernel
theorem dX12_office_1 : decode cX12_office 1 = .ok (.iconst 0, 1) := by decide +kernel
theorem dX12_office_2 : decode cX12_office 2 = .ok (.bipush 127, 2) := by decide +kernel
theorem dX12_office_4 : decode cX12_office 4 = .ok (.invokestatic 144, 3) := by decide +kernel
theorem dX12_office_7 : decode cX12_office 7 = .ok (.ifCond .eq 30, 3) := by decide +kernel
theorem dX12_office_10 : decode cX12_office 10 = .ok (.iload_n 2, 1) := by decide +kernel
theorem dX12_office_11 : decode cX12_office 11 = .ok (.iconst 0, 1) := by decide +kernel
theorem dX12_office_12 : decode cX12_office 12 = .ok (.sipush 1439, 3) := by decide +kernel
theorem dX12_office_15 : decode cX12_office 15 = .ok (.invokestatic 144, 3) := by decide +kernel
theorem dX12_office_18 : decode cX12_office 18 = .ok (.ifCond .eq 19, 3) := by decide +kernel
theorem dX12_office_21 : decode cX12_office 21 = .ok (.iload_n 3, 1) := by decide +kernel
theorem dX12_office_22 : decode cX12_office 22 = .ok (.iconst 0, 1) := by decide +kernel
theorem dX12_office_23 : decode cX12_office 23 = .ok (.sipush 1439, 3) := by decide +kernel
theorem dX12_office_26 : decode cX12_office 26 = .ok (.invokestatic 144, 3) := by decide +kernel
theorem dX12_office_29 : decode cX12_office 29 = .ok (.ifCond .eq 8, 3) := by decide +kernel
theorem dX12_office_32 : decode cX12_office 32 = .ok (.iload_n 2, 1) := by decide +kernel
theorem dX12_office_33 : decode cX12_office 33 = .ok (.iload_n 3, 1) := by decide +kernel
theorem dX12_office_34 : decode cX12_office 34 = .ok (.if_icmp .lt 6, 3) := by decide +kernel
theorem dX12_office_37 : decode cX12_office 37 = .ok (.bipush (-2), 2) := by decide +kernel
theorem dX12_office_39 : decode cX12_office 39 = .ok (.ireturn, 1) := by decide +kernel
theorem dX12_office_40 : decode cX12_office 40 = .ok (.aload_n 0, 1) := by decide +kernel
theorem dX12_office_41 : decode cX12_office 41 = .ok (.iload_n 1, 1) := by decide +kernel
theorem dX12_office_42 : decode cX12_office 42 = .ok (.putfield 74, 3) := by decide +kernel
theorem dX12_office_45 : decode cX12_office 45 = .ok (.aload_n 0, 1) := by decide +kernel
theorem dX12_office_46 : decode cX12_office 46 = .ok (.iload_n 2, 1) := by decide +kernel
theorem dX12_office_47 : decode cX12_office 47 = .ok (.putfield 77, 3) := by decide +kernel
theorem dX12_office_50 : decode cX12_office 50 = .ok (.aload_n 0, 1) := by decide +kernel
theorem dX12_office_51 : decode cX12_office 51 = .ok (.iload_n 3, 1) := by decide +kernel
theorem dX12_office_52 : decode cX12_office 52 = .ok (.putfield 80, 3) := by decide +kernel
theorem dX12_office_55 : decode cX12_office 55 = .ok (.iconst 1, 1) := by decide +kernel
theorem dX12_office_56 : decode cX12_office 56 = .ok (.ireturn, 1) := by decide +kernel
theorem dX12_placeOf_0 : decode cX12_placeOf 0 = .ok (.iconst 0, 1) := by decide +kernel
theorem dX12_placeOf_1 : decode cX12_placeOf 1 = .ok (.istore_n 2, 1) := by decide +kernel
theorem dX12_placeOf_2 : decode cX12_placeOf 2 = .ok (.iload_n 2, 1) := by decide +kernel
theorem dX12_placeOf_3 : decode cX12_placeOf 3 = .ok (.aload_n 0, 1) := by decide +kernel
theorem dX12_placeOf_4 : decode cX12_placeOf 4 = .ok (.getfield 281, 3) := by decide +kernel
theorem dX12_placeOf_7 : decode cX12_placeOf 7 = .ok (.if_icmp .ge 21, 3) := by decide +kernel
theorem dX12_placeOf_10 : decode cX12_placeOf 10 = .ok (.aload_n 0, 1) := by decide +kernel
theorem dX12_placeOf_11 : decode cX12_placeOf 11 = .ok (.getfield 83, 3) := by decide +kernel
theorem dX12_placeOf_14 : decode cX12_placeOf 14 = .ok (.iload_n 2, 1) := by decide +kernel
theorem dX12_placeOf_15 : decode cX12_placeOf 15 = .ok (.iaload, 1) := by decide +kernel
theorem dX12_placeOf_16 : decode cX12_placeOf 16 = .ok (.iload_n 1, 1) := by decide +kernel
theorem dX12_placeOf_17 : decode cX12_placeOf 17 = .ok (.if_icmp .ne 5, 3) := by decide +kernel
theorem dX12_placeOf_20 : decode cX12_placeOf 20 = .ok (.iload_n 2, 1) := by decide +kernel
theorem dX12_placeOf_21 : decode cX12_placeOf 21 = .ok (.ireturn, 1) := by decide +kernel
theorem dX12_placeOf_22 : decode cX12_placeOf 22 = .ok (.iinc 2 1, 3) := by decide +kernel
theorem dX12_placeOf_25 : decode cX12_placeOf 25 = .ok (.goto (-23), 3) := by decide +kernel
theorem dX12_placeOf_28 : decode cX12_placeOf 28 = .ok (.iconst (-1), 1) := by decide +kernel
theorem dX12_placeOf_29 : decode cX12_placeOf 29 = .ok (.ireturn, 1) := by decide +kernel
theorem dX12_stand_0 : decode cX12_stand 0 = .ok (.aload_n 0, 1) := by decide +kernel
theorem dX12_stand_1 : decode cX12_stand 1 = .ok (.iload_n 1, 1) := by decide +kernel
theorem dX12_stand_2 : decode cX12_stand 2 = .ok (.invokevirtual 167, 3) := by decide +kernel
theorem dX12_stand_5 : decode cX12_stand 5 = .ok (.ifCond .eq 23, 3) := by decide +kernel
theorem dX12_stand_8 : decode cX12_stand 8 = .ok (.iload_n 2, 1) := by decide +kernel
theorem dX12_stand_9 : decode cX12_stand 9 = .ok (.iconst 0, 1) := by decide +kernel
theorem dX12_stand_10 : decode cX12_stand 10 = .ok (.sipush 1439, 3) := by decide +kernel
theorem dX12_stand_13 : decode cX12_stand 13 = .ok (.invokestatic 144, 3) := by decide +kernel
theorem dX12_stand_16 : decode cX12_stand 16 = .ok (.ifCond .eq 12, 3) := by decide +kernel
theorem dX12_stand_19 : decode cX12_stand 19 = .ok (.aload_n 0, 1) := by decide +kernel
theorem dX12_stand_20 : decode cX12_stand 20 = .ok (.iload_n 1, 1) := by decide +kernel
theorem dX12_stand_21 : decode cX12_stand 21 = .ok (.invokevirtual 284, 3) := by decide +kernel
theorem dX12_stand_24 : decode cX12_stand 24 = .ok (.iconst (-1), 1) := by decide +kernel
theorem dX12_stand_25 : decode cX12_stand 25 = .ok (.if_icmp .eq 6, 3) := by decide +kernel
theorem dX12_stand_28 : decode cX12_stand 28 = .ok (.bipush (-2), 2) := by decide +kernel
theorem dX12_stand_30 : decode cX12_stand 30 = .ok (.ireturn, 1) := by decide +kernel
theorem dX12_stand_31 : decode cX12_stand 31 = .ok (.aload_n 0, 1) := by decide +kernel
theorem dX12_stand_32 : decode cX12_stand 32 = .ok (.getfield 281, 3) := by decide +kernel
theorem dX12_stand_35 : decode cX12_stand 35 = .ok (.bipush 24, 2) := by decide +kernel
theorem dX12_stand_37 : decode cX12_stand 37 = .ok (.if_icmp .ne 6, 3) := by decide +kernel
theorem dX12_stand_40 : decode cX12_stand 40 = .ok (.bipush (-4), 2) := by decide +kernel
theorem dX12_stand_42 : decode cX12_stand 42 = .ok (.ireturn, 1) := by decide +kernel
theorem dX12_stand_43 : decode cX12_stand 43 = .ok (.aload_n 0, 1) := by decide +kernel
theorem dX12_stand_44 : decode cX12_stand 44 = .ok (.getfield 83, 3) := by decide +kernel
theorem dX12_stand_47 : decode cX12_stand 47 = .ok (.aload_n 0, 1) := by decide +kernel
theorem dX12_stand_48 : decode cX12_stand 48 = .ok (.getfield 281, 3) := by decide +kernel
theorem dX12_stand_51 : decode cX12_stand 51 = .ok (.iload_n 1, 1) := by decide +kernel
theorem dX12_stand_52 : decode cX12_stand 52 = .ok (.iastore, 1) := by decide +kernel
theorem dX12_stand_53 : decode cX12_stand 53 = .ok (.aload_n 0, 1) := by decide +kernel
theorem dX12_stand_54 : decode cX12_stand 54 = .ok (.getfield 86, 3) := by decide +kernel
theorem dX12_stand_57 : decode cX12_stand 57 = .ok (.aload_n 0, 1) := by decide +kernel
theorem dX12_stand_58 : decode cX12_stand 58 = .ok (.getfield 281, 3) := by decide +kernel
theorem dX12_stand_61 : decode cX12_stand 61 = .ok (.iload_n 2, 1) := by decide +kernel
theorem dX12_stand_62 : decode cX12_stand 62 = .ok (.iastore, 1) := by decide +kernel
theorem dX12_stand_63 : decode cX12_stand 63 = .ok (.aload_n 0, 1) := by decide +kernel
theorem dX12_stand_64 : decode cX12_stand 64 = .ok (.dup, 1) := by decide +kernel
theorem dX12_stand_65 : decode cX12_stand 65 = .ok (.getfield 281, 3) := by decide +kernel
theorem dX12_stand_68 : decode cX12_stand 68 = .ok (.iconst 1, 1) := by decide +kernel
theorem dX12_stand_69 : decode cX12_stand 69 = .ok (.iadd, 1) := by decide +kernel
theorem dX12_stand_70 : decode cX12_stand 70 = .ok (.putfield 281, 3) := by decide +kernel
theorem dX12_stand_73 : decode cX12_stand 73 = .ok (.aload_n 0, 1) := by decide +kernel
theorem dX12_stand_74 : decode cX12_stand 74 = .ok (.getfield 281, 3) := by decide +kernel
theorem dX12_stand_77 : decode cX12_stand 77 = .ok (.ireturn, 1) := by decide +kernel
theorem dX12_leave_0 : decode cX12_leave 0 = .ok (.aload_n 0, 1) := by decide +kernel
theorem dX12_leave_1 : decode cX12_leave 1 = .ok (.getfield 281, 3) := by decide +kernel
theorem dX12_leave_4 : decode cX12_leave 4 = .ok (.istore_n 1, 1) := by decide +kernel
theorem dX12_leave_5 : decode cX12_leave 5 = .ok (.aload_n 0, 1) := by decide +kernel
theorem dX12_leave_6 : decode cX12_leave 6 = .ok (.iconst 0, 1) := by decide +kernel
theorem dX12_leave_7 : decode cX12_leave 7 = .ok (.putfield 281, 3) := by decide +kernel
theorem dX12_leave_10 : decode cX12_leave 10 = .ok (.iload_n 1, 1) := by decide +kernel
theorem dX12_leave_11 : decode cX12_leave 11 = .ok (.ireturn, 1) := by decide +kernel
theorem dX12_nextIn_0 : decode cX12_nextIn 0 = .ok (.iconst (-1), 1) := by decide +kernel
theorem dX12_nextIn_1 : decode cX12_nextIn 1 = .ok (.istore_n 2, 1) := by decide +kernel
theorem dX12_nextIn_2 : decode cX12_nextIn 2 = .ok (.iconst 0, 1) := by decide +kernel
theorem dX12_nextIn_3 : decode cX12_nextIn 3 = .ok (.istore_n 3, 1) := by decide +kernel
theorem dX12_nextIn_4 : decode cX12_nextIn 4 = .ok (.iload_n 3, 1) := by decide +kernel
theorem dX12_nextIn_5 : decode cX12_nextIn 5 = .ok (.aload_n 0, 1) := by decide +kernel
theorem dX12_nextIn_6 : decode cX12_nextIn 6 = .ok (.getfield 281, 3) := by decide +kernel
theorem dX12_nextIn_9 : decode cX12_nextIn 9 = .ok (.if_icmp .ge 87, 3) := by decide +kernel
theorem dX12_nextIn_12 : decode cX12_nextIn 12 = .ok (.iload_n 1, 1) := by decide +kernel
theorem dX12_nextIn_13 : decode cX12_nextIn 13 = .ok (.iconst (-1), 1) := by decide +kernel
theorem dX12_nextIn_14 : decode cX12_nextIn 14 = .ok (.if_icmp .eq 38, 3) := by decide +kernel
theorem dX12_nextIn_17 : decode cX12_nextIn 17 = .ok (.aload_n 0, 1) := by decide +kernel
theorem dX12_nextIn_18 : decode cX12_nextIn 18 = .ok (.getfield 86, 3) := by decide +kernel
theorem dX12_nextIn_21 : decode cX12_nextIn 21 = .ok (.iload_n 3, 1) := by decide +kernel
theorem dX12_nextIn_22 : decode cX12_nextIn 22 = .ok (.iaload, 1) := by decide +kernel
theorem dX12_nextIn_23 : decode cX12_nextIn 23 = .ok (.aload_n 0, 1) := by decide +kernel
theorem dX12_nextIn_24 : decode cX12_nextIn 24 = .ok (.getfield 86, 3) := by decide +kernel
theorem dX12_nextIn_27 : decode cX12_nextIn 27 = .ok (.iload_n 1, 1) := by decide +kernel
theorem dX12_nextIn_28 : decode cX12_nextIn 28 = .ok (.iaload, 1) := by decide +kernel
theorem dX12_nextIn_29 : decode cX12_nextIn 29 = .ok (.if_icmp .gt 23, 3) := by decide +kernel
theorem dX12_nextIn_32 : decode cX12_nextIn 32 = .ok (.aload_n 0, 1) := by decide +kernel
theorem dX12_nextIn_33 : decode cX12_nextIn 33 = .ok (.getfield 86, 3) := by decide +kernel
theorem dX12_nextIn_36 : decode cX12_nextIn 36 = .ok (.iload_n 3, 1) := by decide +kernel
theorem dX12_nextIn_37 : decode cX12_nextIn 37 = .ok (.iaload, 1) := by decide +kernel
theorem dX12_nextIn_38 : decode cX12_nextIn 38 = .ok (.aload_n 0, 1) := by decide +kernel
theorem dX12_nextIn_39 : decode cX12_nextIn 39 = .ok (.getfield 86, 3) := by decide +kernel
theorem dX12_nextIn_42 : decode cX12_nextIn 42 = .ok (.iload_n 1, 1) := by decide +kernel
theorem dX12_nextIn_43 : decode cX12_nextIn 43 = .ok (.iaload, 1) := by decide +kernel
theorem dX12_nextIn_44 : decode cX12_nextIn 44 = .ok (.if_icmp .ne 12, 3) := by decide +kernel
theorem dX12_nextIn_47 : decode cX12_nextIn 47 = .ok (.iload_n 3, 1) := by decide +kernel
theorem dX12_nextIn_48 : decode cX12_nextIn 48 = .ok (.iload_n 1, 1) := by decide +kernel
theorem dX12_nextIn_49 : decode cX12_nextIn 49 = .ok (.if_icmp .le 7, 3) := by decide +kernel
theorem dX12_nextIn_52 : decode cX12_nextIn 52 = .ok (.iconst 1, 1) := by decide +kernel
theorem dX12_nextIn_53 : decode cX12_nextIn 53 = .ok (.goto 4, 3) := by decide +kernel
theorem dX12_nextIn_56 : decode cX12_nextIn 56 = .ok (.iconst 0, 1) := by decide +kernel
theorem dX12_nextIn_57 : decode cX12_nextIn 57 = .ok (.istore 4, 2) := by decide +kernel
theorem dX12_nextIn_59 : decode cX12_nextIn 59 = .ok (.iload 4, 2) := by decide +kernel
theorem dX12_nextIn_61 : decode cX12_nextIn 61 = .ok (.ifCond .eq 27, 3) := by decide +kernel
theorem dX12_nextIn_64 : decode cX12_nextIn 64 = .ok (.iload_n 2, 1) := by decide +kernel
theorem dX12_nextIn_65 : decode cX12_nextIn 65 = .ok (.iconst (-1), 1) := by decide +kernel
theorem dX12_nextIn_66 : decode cX12_nextIn 66 = .ok (.if_icmp .eq 18, 3) := by decide +kernel
theorem dX12_nextIn_69 : decode cX12_nextIn 69 = .ok (.aload_n 0, 1) := by decide +kernel
theorem dX12_nextIn_70 : decode cX12_nextIn 70 = .ok (.getfield 86, 3) := by decide +kernel
theorem dX12_nextIn_73 : decode cX12_nextIn 73 = .ok (.iload_n 3, 1) := by decide +kernel
theorem dX12_nextIn_74 : decode cX12_nextIn 74 = .ok (.iaload, 1) := by decide +kernel
theorem dX12_nextIn_75 : decode cX12_nextIn 75 = .ok (.aload_n 0, 1) := by decide +kernel
theorem dX12_nextIn_76 : decode cX12_nextIn 76 = .ok (.getfield 86, 3) := by decide +kernel
theorem dX12_nextIn_79 : decode cX12_nextIn 79 = .ok (.iload_n 2, 1) := by decide +kernel
theorem dX12_nextIn_80 : decode cX12_nextIn 80 = .ok (.iaload, 1) := by decide +kernel
theorem dX12_nextIn_81 : decode cX12_nextIn 81 = .ok (.if_icmp .ge 7, 3) := by decide +kernel
theorem dX12_nextIn_84 : decode cX12_nextIn 84 = .ok (.iload_n 3, 1) := by decide +kernel
theorem dX12_nextIn_85 : decode cX12_nextIn 85 = .ok (.goto 4, 3) := by decide +kernel
theorem dX12_nextIn_88 : decode cX12_nextIn 88 = .ok (.iload_n 2, 1) := by decide +kernel
theorem dX12_nextIn_89 : decode cX12_nextIn 89 = .ok (.istore_n 2, 1) := by decide +kernel
theorem dX12_nextIn_90 : decode cX12_nextIn 90 = .ok (.iinc 3 1, 3) := by decide +kernel
theorem dX12_nextIn_93 : decode cX12_nextIn 93 = .ok (.goto (-89), 3) := by decide +kernel
theorem dX12_nextIn_96 : decode cX12_nextIn 96 = .ok (.iload_n 2, 1) := by decide +kernel
theorem dX12_nextIn_97 : decode cX12_nextIn 97 = .ok (.ireturn, 1) := by decide +kernel
theorem dX12_seesOf_0 : decode cX12_seesOf 0 = .ok (.iconst 0, 1) := by decide +kernel
theorem dX12_seesOf_1 : decode cX12_seesOf 1 = .ok (.istore_n 3, 1) := by decide +kernel
theorem dX12_seesOf_2 : decode cX12_seesOf 2 = .ok (.iload_n 3, 1) := by decide +kernel
theorem dX12_seesOf_3 : decode cX12_seesOf 3 = .ok (.aload_n 0, 1) := by decide +kernel
theorem dX12_seesOf_4 : decode cX12_seesOf 4 = .ok (.getfield 281, 3) := by decide +kernel
theorem dX12_seesOf_7 : decode cX12_seesOf 7 = .ok (.if_icmp .ge 16, 3) := by decide +kernel
theorem dX12_seesOf_10 : decode cX12_seesOf 10 = .ok (.aload_n 0, 1) := by decide +kernel
theorem dX12_seesOf_11 : decode cX12_seesOf 11 = .ok (.getfield 89, 3) := by decide +kernel
theorem dX12_seesOf_14 : decode cX12_seesOf 14 = .ok (.iload_n 3, 1) := by decide +kernel
theorem dX12_seesOf_15 : decode cX12_seesOf 15 = .ok (.iconst (-1), 1) := by decide +kernel
theorem dX12_seesOf_16 : decode cX12_seesOf 16 = .ok (.iastore, 1) := by decide +kernel
theorem dX12_seesOf_17 : decode cX12_seesOf 17 = .ok (.iinc 3 1, 3) := by decide +kernel
theorem dX12_seesOf_20 : decode cX12_seesOf 20 = .ok (.goto (-18), 3) := by decide +kernel
theorem dX12_seesOf_23 : decode cX12_seesOf 23 = .ok (.aload_n 0, 1) := by decide +kernel
theorem dX12_seesOf_24 : decode cX12_seesOf 24 = .ok (.getfield 74, 3) := by decide +kernel
theorem dX12_seesOf_27 : decode cX12_seesOf 27 = .ok (.iload_n 2, 1) := by decide +kernel
theorem dX12_seesOf_28 : decode cX12_seesOf 28 = .ok (.bipush 7, 2) := by decide +kernel
theorem dX12_seesOf_30 : decode cX12_seesOf 30 = .ok (.irem, 1) := by decide +kernel
theorem dX12_seesOf_31 : decode cX12_seesOf 31 = .ok (.ishr, 1) := by decide +kernel
theorem dX12_seesOf_32 : decode cX12_seesOf 32 = .ok (.iconst 1, 1) := by decide +kernel
theorem dX12_seesOf_33 : decode cX12_seesOf 33 = .ok (.iand, 1) := by decide +kernel
theorem dX12_seesOf_34 : decode cX12_seesOf 34 = .ok (.ifCond .ne 5, 3) := by decide +kernel
theorem dX12_seesOf_37 : decode cX12_seesOf 37 = .ok (.iconst 0, 1) := by decide +kernel
theorem dX12_seesOf_38 : decode cX12_seesOf 38 = .ok (.ireturn, 1) := by decide +kernel
theorem dX12_seesOf_39 : decode cX12_seesOf 39 = .ok (.iconst 0, 1) := by decide +kernel
theorem dX12_seesOf_40 : decode cX12_seesOf 40 = .ok (.istore_n 3, 1) := by decide +kernel
theorem dX12_seesOf_41 : decode cX12_seesOf 41 = .ok (.aload_n 0, 1) := by decide +kernel
theorem dX12_seesOf_42 : decode cX12_seesOf 42 = .ok (.getfield 77, 3) := by decide +kernel
theorem dX12_seesOf_45 : decode cX12_seesOf 45 = .ok (.istore 4, 2) := by decide +kernel
theorem dX12_seesOf_47 : decode cX12_seesOf 47 = .ok (.aload_n 0, 1) := by decide +kernel
theorem dX12_seesOf_48 : decode cX12_seesOf 48 = .ok (.iconst (-1), 1) := by decide +kernel
theorem dX12_seesOf_49 : decode cX12_seesOf 49 = .ok (.invokevirtual 287, 3) := by decide +kernel
theorem dX12_seesOf_52 : decode cX12_seesOf 52 = .ok (.istore 5, 2) := by decide +kernel
theorem dX12_seesOf_54 : decode cX12_seesOf 54 = .ok (.iload 5, 2) := by decide +kernel
theorem dX12_seesOf_56 : decode cX12_seesOf 56 = .ok (.iconst (-1), 1) := by decide +kernel
theorem dX12_seesOf_57 : decode cX12_seesOf 57 = .ok (.if_icmp .eq 93, 3) := by decide +kernel
theorem dX12_seesOf_60 : decode cX12_seesOf 60 = .ok (.aload_n 0, 1) := by decide +kernel
theorem dX12_seesOf_61 : decode cX12_seesOf 61 = .ok (.getfield 86, 3) := by decide +kernel
theorem dX12_seesOf_64 : decode cX12_seesOf 64 = .ok (.iload 5, 2) := by decide +kernel
theorem dX12_seesOf_66 : decode cX12_seesOf 66 = .ok (.iaload, 1) := by decide +kernel
theorem dX12_seesOf_67 : decode cX12_seesOf 67 = .ok (.iload 4, 2) := by decide +kernel
theorem dX12_seesOf_69 : decode cX12_seesOf 69 = .ok (.if_icmp .le 13, 3) := by decide +kernel
theorem dX12_seesOf_72 : decode cX12_seesOf 72 = .ok (.aload_n 0, 1) := by decide +kernel
theorem dX12_seesOf_73 : decode cX12_seesOf 73 = .ok (.getfield 86, 3) := by decide +kernel
theorem dX12_seesOf_76 : decode cX12_seesOf 76 = .ok (.iload 5, 2) := by decide +kernel
theorem dX12_seesOf_78 : decode cX12_seesOf 78 = .ok (.iaload, 1) := by decide +kernel
theorem dX12_seesOf_79 : decode cX12_seesOf 79 = .ok (.goto 5, 3) := by decide +kernel
theorem dX12_seesOf_82 : decode cX12_seesOf 82 = .ok (.iload 4, 2) := by decide +kernel
theorem dX12_seesOf_84 : decode cX12_seesOf 84 = .ok (.istore 6, 2) := by decide +kernel
theorem dX12_seesOf_86 : decode cX12_seesOf 86 = .ok (.iload 6, 2) := by decide +kernel
theorem dX12_seesOf_88 : decode cX12_seesOf 88 = .ok (.aload_n 0, 1) := by decide +kernel
theorem dX12_seesOf_89 : decode cX12_seesOf 89 = .ok (.getfield 71, 3) := by decide +kernel
theorem dX12_seesOf_92 : decode cX12_seesOf 92 = .ok (.iconst 2, 1) := by decide +kernel
theorem dX12_seesOf_93 : decode cX12_seesOf 93 = .ok (.iload_n 1, 1) := by decide +kernel
theorem dX12_seesOf_94 : decode cX12_seesOf 94 = .ok (.imul, 1) := by decide +kernel
theorem dX12_seesOf_95 : decode cX12_seesOf 95 = .ok (.aload_n 0, 1) := by decide +kernel
theorem dX12_seesOf_96 : decode cX12_seesOf 96 = .ok (.getfield 13, 3) := by decide +kernel
theorem dX12_seesOf_99 : decode cX12_seesOf 99 = .ok (.aload_n 0, 1) := by decide +kernel
theorem dX12_seesOf_100 : decode cX12_seesOf 100 = .ok (.getfield 83, 3) := by decide +kernel
theorem dX12_seesOf_103 : decode cX12_seesOf 103 = .ok (.iload 5, 2) := by decide +kernel
theorem dX12_seesOf_105 : decode cX12_seesOf 105 = .ok (.iaload, 1) := by decide +kernel
theorem dX12_seesOf_106 : decode cX12_seesOf 106 = .ok (.iaload, 1) := by decide +kernel
theorem dX12_seesOf_107 : decode cX12_seesOf 107 = .ok (.iadd, 1) := by decide +kernel
theorem dX12_seesOf_108 : decode cX12_seesOf 108 = .ok (.iaload, 1) := by decide +kernel
theorem dX12_seesOf_109 : decode cX12_seesOf 109 = .ok (.iadd, 1) := by decide +kernel
theorem dX12_seesOf_110 : decode cX12_seesOf 110 = .ok (.istore 7, 2) := by decide +kernel
theorem dX12_seesOf_112 : decode cX12_seesOf 112 = .ok (.iload 7, 2) := by decide +kernel
theorem dX12_seesOf_114 : decode cX12_seesOf 114 = .ok (.aload_n 0, 1) := by decide +kernel
theorem dX12_seesOf_115 : decode cX12_seesOf 115 = .ok (.getfield 80, 3) := by decide +kernel
theorem dX12_seesOf_118 : decode cX12_seesOf 118 = .ok (.if_icmp .le 5, 3) := by decide +kernel
theorem dX12_seesOf_121 : decode cX12_seesOf 121 = .ok (.iload_n 3, 1) := by decide +kernel
theorem dX12_seesOf_122 : decode cX12_seesOf 122 = .ok (.ireturn, 1) := by decide +kernel
theorem dX12_seesOf_123 : decode cX12_seesOf 123 = .ok (.aload_n 0, 1) := by decide +kernel
theorem dX12_seesOf_124 : decode cX12_seesOf 124 = .ok (.getfield 89, 3) := by decide +kernel
theorem dX12_seesOf_127 : decode cX12_seesOf 127 = .ok (.iload 5, 2) := by decide +kernel
theorem dX12_seesOf_129 : decode cX12_seesOf 129 = .ok (.iload 6, 2) := by decide +kernel
theorem dX12_seesOf_131 : decode cX12_seesOf 131 = .ok (.iastore, 1) := by decide +kernel
theorem dX12_seesOf_132 : decode cX12_seesOf 132 = .ok (.iload 7, 2) := by decide +kernel
theorem dX12_seesOf_134 : decode cX12_seesOf 134 = .ok (.istore 4, 2) := by decide +kernel
theorem dX12_seesOf_136 : decode cX12_seesOf 136 = .ok (.iinc 3 1, 3) := by decide +kernel
theorem dX12_seesOf_139 : decode cX12_seesOf 139 = .ok (.aload_n 0, 1) := by decide +kernel
theorem dX12_seesOf_140 : decode cX12_seesOf 140 = .ok (.iload 5, 2) := by decide +kernel
theorem dX12_seesOf_142 : decode cX12_seesOf 142 = .ok (.invokevirtual 287, 3) := by decide +kernel
theorem dX12_seesOf_145 : decode cX12_seesOf 145 = .ok (.istore 5, 2) := by decide +kernel
theorem dX12_seesOf_147 : decode cX12_seesOf 147 = .ok (.goto (-93), 3) := by decide +kernel
theorem dX12_seesOf_150 : decode cX12_seesOf 150 = .ok (.iload_n 3, 1) := by decide +kernel
theorem dX12_seesOf_151 : decode cX12_seesOf 151 = .ok (.ireturn, 1) := by decide +kernel
theorem dX12_sees_0 : decode cX12_sees 0 = .ok (.iload_n 1, 1) := by decide +kernel
theorem dX12_sees_1 : decode cX12_sees 1 = .ok (.invokestatic 248, 3) := by decide +kernel
theorem dX12_sees_4 : decode cX12_sees 4 = .ok (.ifCond .eq 19, 3) := by decide +kernel
theorem dX12_sees_7 : decode cX12_sees 7 = .ok (.iload_n 2, 1) := by decide +kernel
theorem dX12_sees_8 : decode cX12_sees 8 = .ok (.invokestatic 210, 3) := by decide +kernel
theorem dX12_sees_11 : decode cX12_sees 11 = .ok (.ifCond .eq 12, 3) := by decide +kernel
theorem dX12_sees_14 : decode cX12_sees 14 = .ok (.aload_n 0, 1) := by decide +kernel
theorem dX12_sees_15 : decode cX12_sees 15 = .ok (.iload_n 1, 1) := by decide +kernel
theorem dX12_sees_16 : decode cX12_sees 16 = .ok (.iload_n 2, 1) := by decide +kernel
theorem dX12_sees_17 : decode cX12_sees 17 = .ok (.invokevirtual 290, 3) := by decide +kernel
theorem dX12_sees_20 : decode cX12_sees 20 = .ok (.goto 5, 3) := by decide +kernel
theorem dX12_sees_23 : decode cX12_sees 23 = .ok (.bipush (-2), 2) := by decide +kernel
theorem dX12_sees_25 : decode cX12_sees 25 = .ok (.ireturn, 1) := by decide +kernel
theorem dX12_begun_0 : decode cX12_begun 0 = .ok (.iload_n 1, 1) := by decide +kernel
theorem dX12_begun_1 : decode cX12_begun 1 = .ok (.invokestatic 248, 3) := by decide +kernel
theorem dX12_begun_4 : decode cX12_begun 4 = .ok (.ifCond .eq 19, 3) := by decide +kernel
theorem dX12_begun_7 : decode cX12_begun 7 = .ok (.iload_n 2, 1) := by decide +kernel
theorem dX12_begun_8 : decode cX12_begun 8 = .ok (.invokestatic 210, 3) := by decide +kernel
theorem dX12_begun_11 : decode cX12_begun 11 = .ok (.ifCond .eq 12, 3) := by decide +kernel
theorem dX12_begun_14 : decode cX12_begun 14 = .ok (.aload_n 0, 1) := by decide +kernel
theorem dX12_begun_15 : decode cX12_begun 15 = .ok (.iload_n 3, 1) := by decide +kernel
theorem dX12_begun_16 : decode cX12_begun 16 = .ok (.invokevirtual 284, 3) := by decide +kernel
theorem dX12_begun_19 : decode cX12_begun 19 = .ok (.iconst (-1), 1) := by decide +kernel
theorem dX12_begun_20 : decode cX12_begun 20 = .ok (.if_icmp .ne 6, 3) := by decide +kernel
theorem dX12_begun_23 : decode cX12_begun 23 = .ok (.bipush (-2), 2) := by decide +kernel
theorem dX12_begun_25 : decode cX12_begun 25 = .ok (.ireturn, 1) := by decide +kernel
theorem dX12_begun_26 : decode cX12_begun 26 = .ok (.aload_n 0, 1) := by decide +kernel
theorem dX12_begun_27 : decode cX12_begun 27 = .ok (.iload_n 1, 1) := by decide +kernel
theorem dX12_begun_28 : decode cX12_begun 28 = .ok (.iload_n 2, 1) := by decide +kernel
theorem dX12_begun_29 : decode cX12_begun 29 = .ok (.invokevirtual 290, 3) := by decide +kernel
theorem dX12_begun_32 : decode cX12_begun 32 = .ok (.istore 4, 2) := by decide +kernel
theorem dX12_begun_34 : decode cX12_begun 34 = .ok (.aload_n 0, 1) := by decide +kernel
theorem dX12_begun_35 : decode cX12_begun 35 = .ok (.getfield 89, 3) := by decide +kernel
theorem dX12_begun_38 : decode cX12_begun 38 = .ok (.aload_n 0, 1) := by decide +kernel
theorem dX12_begun_39 : decode cX12_begun 39 = .ok (.iload_n 3, 1) := by decide +kernel
theorem dX12_begun_40 : decode cX12_begun 40 = .ok (.invokevirtual 284, 3) := by decide +kernel
theorem dX12_begun_43 : decode cX12_begun 43 = .ok (.iaload, 1) := by decide +kernel
theorem dX12_begun_44 : decode cX12_begun 44 = .ok (.ireturn, 1) := by decide +kernel
theorem dX12_teach_0 : decode cX12_teach 0 = .ok (.iload_n 1, 1) := by decide +kernel
theorem dX12_teach_1 : decode cX12_teach 1 = .ok (.invokestatic 154, 3) := by decide +kernel
theorem dX12_teach_4 : decode cX12_teach 4 = .ok (.ifCond .ne 6, 3) := by decide +kernel
theorem dX12_teach_7 : decode cX12_teach 7 = .ok (.bipush (-2), 2) := by decide +kernel
theorem dX12_teach_9 : decode cX12_teach 9 = .ok (.ireturn, 1) := by decide +kernel
theorem dX12_teach_10 : decode cX12_teach 10 = .ok (.iconst 0, 1) := by decide +kernel
theorem dX12_teach_11 : decode cX12_teach 11 = .ok (.istore_n 2, 1) := by decide +kernel
theorem dX12_teach_12 : decode cX12_teach 12 = .ok (.iconst 0, 1) := by decide +kernel
theorem dX12_teach_13 : decode cX12_teach 13 = .ok (.istore_n 3, 1) := by decide +kernel
theorem dX12_teach_14 : decode cX12_teach 14 = .ok (.iload_n 3, 1) := by decide +kernel
theorem dX12_teach_15 : decode cX12_teach 15 = .ok (.aload_n 0, 1) := by decide +kernel
theorem dX12_teach_16 : decode cX12_teach 16 = .ok (.getfield 148, 3) := by decide +kernel
theorem dX12_teach_19 : decode cX12_teach 19 = .ok (.if_icmp .ge 88, 3) := by decide +kernel
theorem dX12_teach_22 : decode cX12_teach 22 = .ok (.aload_n 0, 1) := by decide +kernel
theorem dX12_teach_23 : decode cX12_teach 23 = .ok (.iload_n 3, 1) := by decide +kernel
theorem dX12_teach_24 : decode cX12_teach 24 = .ok (.invokevirtual 229, 3) := by decide +kernel
theorem dX12_teach_27 : decode cX12_teach 27 = .ok (.ifCond .eq 74, 3) := by decide +kernel
theorem dX12_teach_30 : decode cX12_teach 30 = .ok (.aload_n 0, 1) := by decide +kernel
theorem dX12_teach_31 : decode cX12_teach 31 = .ok (.getfield 7, 3) := by decide +kernel
theorem dX12_teach_34 : decode cX12_teach 34 = .ok (.iload_n 3, 1) := by decide +kernel
theorem dX12_teach_35 : decode cX12_teach 35 = .ok (.iaload, 1) := by decide +kernel
theorem dX12_teach_36 : decode cX12_teach 36 = .ok (.iload_n 1, 1) := by decide +kernel
theorem dX12_teach_37 : decode cX12_teach 37 = .ok (.if_icmp .ne 64, 3) := by decide +kernel
theorem dX12_teach_40 : decode cX12_teach 40 = .ok (.aload_n 0, 1) := by decide +kernel
theorem dX12_teach_41 : decode cX12_teach 41 = .ok (.aload_n 0, 1) := by decide +kernel
theorem dX12_teach_42 : decode cX12_teach 42 = .ok (.getfield 13, 3) := by decide +kernel
theorem dX12_teach_45 : decode cX12_teach 45 = .ok (.iload_n 3, 1) := by decide +kernel
theorem dX12_teach_46 : decode cX12_teach 46 = .ok (.iaload, 1) := by decide +kernel
theorem dX12_teach_47 : decode cX12_teach 47 = .ok (.aload_n 0, 1) := by decide +kernel
theorem dX12_teach_48 : decode cX12_teach 48 = .ok (.getfield 151, 3) := by decide +kernel
theorem dX12_teach_51 : decode cX12_teach 51 = .ok (.invokevirtual 235, 3) := by decide +kernel
theorem dX12_teach_54 : decode cX12_teach 54 = .ok (.ifCond .eq 47, 3) := by decide +kernel
theorem dX12_teach_57 : decode cX12_teach 57 = .ok (.aload_n 0, 1) := by decide +kernel
theorem dX12_teach_58 : decode cX12_teach 58 = .ok (.getfield 16, 3) := by decide +kernel
theorem dX12_teach_61 : decode cX12_teach 61 = .ok (.iload_n 3, 1) := by decide +kernel
theorem dX12_teach_62 : decode cX12_teach 62 = .ok (.iaload, 1) := by decide +kernel
theorem dX12_teach_63 : decode cX12_teach 63 = .ok (.bipush 20, 2) := by decide +kernel
theorem dX12_teach_65 : decode cX12_teach 65 = .ok (.if_icmp .ge 36, 3) := by decide +kernel
theorem dX12_teach_68 : decode cX12_teach 68 = .ok (.aload_n 0, 1) := by decide +kernel
theorem dX12_teach_69 : decode cX12_teach 69 = .ok (.getfield 16, 3) := by decide +kernel
theorem dX12_teach_72 : decode cX12_teach 72 = .ok (.iload_n 3, 1) := by decide +kernel
theorem dX12_teach_73 : decode cX12_teach 73 = .ok (.aload_n 0, 1) := by decide +kernel
theorem dX12_teach_74 : decode cX12_teach 74 = .ok (.getfield 16, 3) := by decide +kernel
theorem dX12_teach_77 : decode cX12_teach 77 = .ok (.iload_n 3, 1) := by decide +kernel
theorem dX12_teach_78 : decode cX12_teach 78 = .ok (.iaload, 1) := by decide +kernel
theorem dX12_teach_79 : decode cX12_teach 79 = .ok (.bipush 18, 2) := by decide +kernel
theorem dX12_teach_81 : decode cX12_teach 81 = .ok (.if_icmp .le 8, 3) := by decide +kernel
theorem dX12_teach_84 : decode cX12_teach 84 = .ok (.bipush 20, 2) := by decide +kernel
theorem dX12_teach_86 : decode cX12_teach 86 = .ok (.goto 11, 3) := by decide +kernel
theorem dX12_teach_89 : decode cX12_teach 89 = .ok (.aload_n 0, 1) := by decide +kernel
theorem dX12_teach_90 : decode cX12_teach 90 = .ok (.getfield 16, 3) := by decide +kernel
theorem dX12_teach_93 : decode cX12_teach 93 = .ok (.iload_n 3, 1) := by decide +kernel
theorem dX12_teach_94 : decode cX12_teach 94 = .ok (.iaload, 1) := by decide +kernel
theorem dX12_teach_95 : decode cX12_teach 95 = .ok (.iconst 2, 1) := by decide +kernel
theorem dX12_teach_96 : decode cX12_teach 96 = .ok (.iadd, 1) := by decide +kernel
theorem dX12_teach_97 : decode cX12_teach 97 = .ok (.iastore, 1) := by decide +kernel
theorem dX12_teach_98 : decode cX12_teach 98 = .ok (.iinc 2 1, 3) := by decide +kernel
theorem dX12_teach_101 : decode cX12_teach 101 = .ok (.iinc 3 1, 3) := by decide +kernel
theorem dX12_teach_104 : decode cX12_teach 104 = .ok (.goto (-90), 3) := by decide +kernel
theorem dX12_teach_107 : decode cX12_teach 107 = .ok (.iload_n 2, 1) := by decide +kernel
theorem dX12_teach_108 : decode cX12_teach 108 = .ok (.ireturn, 1) := by decide +kernel
theorem dX12_readyOf_0 : decode cX12_readyOf 0 = .ok (.iconst 0, 1) := by decide +kernel
theorem dX12_readyOf_1 : decode cX12_readyOf 1 = .ok (.istore_n 3, 1) := by decide +kernel
theorem dX12_readyOf_2 : decode cX12_readyOf 2 = .ok (.iconst 0, 1) := by decide +kernel
theorem dX12_readyOf_3 : decode cX12_readyOf 3 = .ok (.istore 4, 2) := by decide +kernel
theorem dX12_readyOf_5 : decode cX12_readyOf 5 = .ok (.iload 4, 2) := by decide +kernel
theorem dX12_readyOf_7 : decode cX12_readyOf 7 = .ok (.aload_n 0, 1) := by decide +kernel
theorem dX12_readyOf_8 : decode cX12_readyOf 8 = .ok (.getfield 148, 3) := by decide +kernel
theorem dX12_readyOf_11 : decode cX12_readyOf 11 = .ok (.if_icmp .ge 103, 3) := by decide +kernel
theorem dX12_readyOf_14 : decode cX12_readyOf 14 = .ok (.aload_n 0, 1) := by decide +kernel
theorem dX12_readyOf_15 : decode cX12_readyOf 15 = .ok (.getfield 16, 3) := by decide +kernel
theorem dX12_readyOf_18 : decode cX12_readyOf 18 = .ok (.iload 4, 2) := by decide +kernel
theorem dX12_readyOf_20 : decode cX12_readyOf 20 = .ok (.iaload, 1) := by decide +kernel
theorem dX12_readyOf_21 : decode cX12_readyOf 21 = .ok (.iconst 2, 1) := by decide +kernel
theorem dX12_readyOf_22 : decode cX12_readyOf 22 = .ok (.iload_n 2, 1) := by decide +kernel
theorem dX12_readyOf_23 : decode cX12_readyOf 23 = .ok (.imul, 1) := by decide +kernel
theorem dX12_readyOf_24 : decode cX12_readyOf 24 = .ok (.iadd, 1) := by decide +kernel
theorem dX12_readyOf_25 : decode cX12_readyOf 25 = .ok (.istore 5, 2) := by decide +kernel
theorem dX12_readyOf_27 : decode cX12_readyOf 27 = .ok (.iload 5, 2) := by decide +kernel
theorem dX12_readyOf_29 : decode cX12_readyOf 29 = .ok (.bipush 20, 2) := by decide +kernel
theorem dX12_readyOf_31 : decode cX12_readyOf 31 = .ok (.if_icmp .le 8, 3) := by decide +kernel
theorem dX12_readyOf_34 : decode cX12_readyOf 34 = .ok (.bipush 20, 2) := by decide +kernel
theorem dX12_readyOf_36 : decode cX12_readyOf 36 = .ok (.goto 5, 3) := by decide +kernel
theorem dX12_readyOf_39 : decode cX12_readyOf 39 = .ok (.iload 5, 2) := by decide +kernel
theorem dX12_readyOf_41 : decode cX12_readyOf 41 = .ok (.istore 5, 2) := by decide +kernel
theorem dX12_readyOf_43 : decode cX12_readyOf 43 = .ok (.iload_n 3, 1) := by decide +kernel
theorem dX12_readyOf_44 : decode cX12_readyOf 44 = .ok (.aload_n 0, 1) := by decide +kernel
theorem dX12_readyOf_45 : decode cX12_readyOf 45 = .ok (.iload 4, 2) := by decide +kernel
theorem dX12_readyOf_47 : decode cX12_readyOf 47 = .ok (.invokevirtual 229, 3) := by decide +kernel
theorem dX12_readyOf_50 : decode cX12_readyOf 50 = .ok (.ifCond .eq 55, 3) := by decide +kernel
theorem dX12_readyOf_53 : decode cX12_readyOf 53 = .ok (.iload_n 1, 1) := by decide +kernel
theorem dX12_readyOf_54 : decode cX12_readyOf 54 = .ok (.iconst (-1), 1) := by decide +kernel
theorem dX12_readyOf_55 : decode cX12_readyOf 55 = .ok (.if_icmp .eq 14, 3) := by decide +kernel
theorem dX12_readyOf_58 : decode cX12_readyOf 58 = .ok (.aload_n 0, 1) := by decide +kernel
theorem dX12_readyOf_59 : decode cX12_readyOf 59 = .ok (.getfield 7, 3) := by decide +kernel
theorem dX12_readyOf_62 : decode cX12_readyOf 62 = .ok (.iload 4, 2) := by decide +kernel
theorem dX12_readyOf_64 : decode cX12_readyOf 64 = .ok (.iaload, 1) := by decide +kernel
theorem dX12_readyOf_65 : decode cX12_readyOf 65 = .ok (.iload_n 1, 1) := by decide +kernel
theorem dX12_readyOf_66 : decode cX12_readyOf 66 = .ok (.if_icmp .ne 39, 3) := by decide +kernel
theorem dX12_readyOf_69 : decode cX12_readyOf 69 = .ok (.aload_n 0, 1) := by decide +kernel
theorem dX12_readyOf_70 : decode cX12_readyOf 70 = .ok (.aload_n 0, 1) := by decide +kernel
theorem dX12_readyOf_71 : decode cX12_readyOf 71 = .ok (.getfield 13, 3) := by decide +kernel
theorem dX12_readyOf_74 : decode cX12_readyOf 74 = .ok (.iload 4, 2) := by decide +kernel
theorem dX12_readyOf_76 : decode cX12_readyOf 76 = .ok (.iaload, 1) := by decide +kernel
theorem dX12_readyOf_77 : decode cX12_readyOf 77 = .ok (.aload_n 0, 1) := by decide +kernel
theorem dX12_readyOf_78 : decode cX12_readyOf 78 = .ok (.getfield 151, 3) := by decide +kernel
theorem dX12_readyOf_81 : decode cX12_readyOf 81 = .ok (.invokevirtual 235, 3) := by decide +kernel
theorem dX12_readyOf_84 : decode cX12_readyOf 84 = .ok (.ifCond .eq 21, 3) := by decide +kernel
theorem dX12_readyOf_87 : decode cX12_readyOf 87 = .ok (.iload 5, 2) := by decide +kernel
theorem dX12_readyOf_89 : decode cX12_readyOf 89 = .ok (.aload_n 0, 1) := by decide +kernel
theorem dX12_readyOf_90 : decode cX12_readyOf 90 = .ok (.iconst 2, 1) := by decide +kernel
theorem dX12_readyOf_91 : decode cX12_readyOf 91 = .ok (.aload_n 0, 1) := by decide +kernel
theorem dX12_readyOf_92 : decode cX12_readyOf 92 = .ok (.getfield 151, 3) := by decide +kernel
theorem dX12_readyOf_95 : decode cX12_readyOf 95 = .ok (.invokevirtual 216, 3) := by decide +kernel
theorem dX12_readyOf_98 : decode cX12_readyOf 98 = .ok (.if_icmp .lt 7, 3) := by decide +kernel
theorem dX12_readyOf_101 : decode cX12_readyOf 101 = .ok (.iconst 1, 1) := by decide +kernel
theorem dX12_readyOf_102 : decode cX12_readyOf 102 = .ok (.goto 4, 3) := by decide +kernel
theorem dX12_readyOf_105 : decode cX12_readyOf 105 = .ok (.iconst 0, 1) := by decide +kernel
theorem dX12_readyOf_106 : decode cX12_readyOf 106 = .ok (.iadd, 1) := by decide +kernel
theorem dX12_readyOf_107 : decode cX12_readyOf 107 = .ok (.istore_n 3, 1) := by decide +kernel
theorem dX12_readyOf_108 : decode cX12_readyOf 108 = .ok (.iinc 4 1, 3) := by decide +kernel
theorem dX12_readyOf_111 : decode cX12_readyOf 111 = .ok (.goto (-106), 3) := by decide +kernel
theorem dX12_readyOf_114 : decode cX12_readyOf 114 = .ok (.iload_n 3, 1) := by decide +kernel
theorem dX12_readyOf_115 : decode cX12_readyOf 115 = .ok (.ireturn, 1) := by decide +kernel
theorem dX12_ready_0 : decode cX12_ready 0 = .ok (.iload_n 1, 1) := by decide +kernel
theorem dX12_ready_1 : decode cX12_ready 1 = .ok (.iconst (-1), 1) := by decide +kernel
theorem dX12_ready_2 : decode cX12_ready 2 = .ok (.iconst 5, 1) := by decide +kernel
theorem dX12_ready_3 : decode cX12_ready 3 = .ok (.invokestatic 144, 3) := by decide +kernel
theorem dX12_ready_6 : decode cX12_ready 6 = .ok (.ifCond .eq 12, 3) := by decide +kernel
theorem dX12_ready_9 : decode cX12_ready 9 = .ok (.aload_n 0, 1) := by decide +kernel
theorem dX12_ready_10 : decode cX12_ready 10 = .ok (.iload_n 1, 1) := by decide +kernel
theorem dX12_ready_11 : decode cX12_ready 11 = .ok (.iconst 0, 1) := by decide +kernel
theorem dX12_ready_12 : decode cX12_ready 12 = .ok (.invokevirtual 293, 3) := by decide +kernel
theorem dX12_ready_15 : decode cX12_ready 15 = .ok (.goto 5, 3) := by decide +kernel
theorem dX12_ready_18 : decode cX12_ready 18 = .ok (.bipush (-2), 2) := by decide +kernel
theorem dX12_ready_20 : decode cX12_ready 20 = .ok (.ireturn, 1) := by decide +kernel
theorem dX12_helpers_0 : decode cX12_helpers 0 = .ok (.iload_n 1, 1) := by decide +kernel
theorem dX12_helpers_1 : decode cX12_helpers 1 = .ok (.iconst 0, 1) := by decide +kernel
theorem dX12_helpers_2 : decode cX12_helpers 2 = .ok (.bipush 12, 2) := by decide +kernel
theorem dX12_helpers_4 : decode cX12_helpers 4 = .ok (.invokestatic 144, 3) := by decide +kernel
theorem dX12_helpers_7 : decode cX12_helpers 7 = .ok (.ifCond .eq 12, 3) := by decide +kernel
theorem dX12_helpers_10 : decode cX12_helpers 10 = .ok (.iload_n 2, 1) := by decide +kernel
theorem dX12_helpers_11 : decode cX12_helpers 11 = .ok (.iconst (-1), 1) := by decide +kernel
theorem dX12_helpers_12 : decode cX12_helpers 12 = .ok (.iconst 5, 1) := by decide +kernel
theorem dX12_helpers_13 : decode cX12_helpers 13 = .ok (.invokestatic 144, 3) := by decide +kernel
theorem dX12_helpers_16 : decode cX12_helpers 16 = .ok (.ifCond .ne 6, 3) := by decide +kernel
theorem dX12_helpers_19 : decode cX12_helpers 19 = .ok (.bipush (-2), 2) := by decide +kernel
theorem dX12_helpers_21 : decode cX12_helpers 21 = .ok (.ireturn, 1) := by decide +kernel
theorem dX12_helpers_22 : decode cX12_helpers 22 = .ok (.iconst 0, 1) := by decide +kernel
theorem dX12_helpers_23 : decode cX12_helpers 23 = .ok (.istore_n 3, 1) := by decide +kernel
theorem dX12_helpers_24 : decode cX12_helpers 24 = .ok (.iload_n 3, 1) := by decide +kernel
theorem dX12_helpers_25 : decode cX12_helpers 25 = .ok (.bipush 78, 2) := by decide +kernel
theorem dX12_helpers_27 : decode cX12_helpers 27 = .ok (.if_icmp .ge 27, 3) := by decide +kernel
theorem dX12_helpers_30 : decode cX12_helpers 30 = .ok (.aload_n 0, 1) := by decide +kernel
theorem dX12_helpers_31 : decode cX12_helpers 31 = .ok (.getfield 92, 3) := by decide +kernel
theorem dX12_helpers_34 : decode cX12_helpers 34 = .ok (.iload_n 3, 1) := by decide +kernel
theorem dX12_helpers_35 : decode cX12_helpers 35 = .ok (.aload_n 0, 1) := by decide +kernel
theorem dX12_helpers_36 : decode cX12_helpers 36 = .ok (.iload_n 3, 1) := by decide +kernel
theorem dX12_helpers_37 : decode cX12_helpers 37 = .ok (.bipush 13, 2) := by decide +kernel
theorem dX12_helpers_39 : decode cX12_helpers 39 = .ok (.idiv, 1) := by decide +kernel
theorem dX12_helpers_40 : decode cX12_helpers 40 = .ok (.iload_n 3, 1) := by decide +kernel
theorem dX12_helpers_41 : decode cX12_helpers 41 = .ok (.bipush 13, 2) := by decide +kernel
theorem dX12_helpers_43 : decode cX12_helpers 43 = .ok (.irem, 1) := by decide +kernel
theorem dX12_helpers_44 : decode cX12_helpers 44 = .ok (.invokevirtual 293, 3) := by decide +kernel
theorem dX12_helpers_47 : decode cX12_helpers 47 = .ok (.iastore, 1) := by decide +kernel
theorem dX12_helpers_48 : decode cX12_helpers 48 = .ok (.iinc 3 1, 3) := by decide +kernel
theorem dX12_helpers_51 : decode cX12_helpers 51 = .ok (.goto (-27), 3) := by decide +kernel
theorem dX12_helpers_54 : decode cX12_helpers 54 = .ok (.iconst (-1), 1) := by decide +kernel
theorem dX12_helpers_55 : decode cX12_helpers 55 = .ok (.istore_n 3, 1) := by decide +kernel
theorem dX12_helpers_56 : decode cX12_helpers 56 = .ok (.iconst 0, 1) := by decide +kernel
theorem dX12_helpers_57 : decode cX12_helpers 57 = .ok (.istore 4, 2) := by decide +kernel
theorem dX12_helpers_59 : decode cX12_helpers 59 = .ok (.iconst 0, 1) := by decide +kernel
theorem dX12_helpers_60 : decode cX12_helpers 60 = .ok (.istore 5, 2) := by decide +kernel
theorem dX12_helpers_62 : decode cX12_helpers 62 = .ok (.iload 5, 2) := by decide +kernel
theorem dX12_helpers_64 : decode cX12_helpers 64 = .ok (.bipush 6, 2) := by decide +kernel
theorem dX12_helpers_66 : decode cX12_helpers 66 = .ok (.if_icmp .ge 17, 3) := by decide +kernel
theorem dX12_helpers_69 : decode cX12_helpers 69 = .ok (.aload_n 0, 1) := by decide +kernel
theorem dX12_helpers_70 : decode cX12_helpers 70 = .ok (.getfield 95, 3) := by decide +kernel
theorem dX12_helpers_73 : decode cX12_helpers 73 = .ok (.iload 5, 2) := by decide +kernel
theorem dX12_helpers_75 : decode cX12_helpers 75 = .ok (.iconst 0, 1) := by decide +kernel
theorem dX12_helpers_76 : decode cX12_helpers 76 = .ok (.iastore, 1) := by decide +kernel
theorem dX12_helpers_77 : decode cX12_helpers 77 = .ok (.iinc 5 1, 3) := by decide +kernel
theorem dX12_helpers_80 : decode cX12_helpers 80 = .ok (.goto (-18), 3) := by decide +kernel
theorem dX12_helpers_83 : decode cX12_helpers 83 = .ok (.iconst 1, 1) := by decide +kernel
theorem dX12_helpers_84 : decode cX12_helpers 84 = .ok (.istore 5, 2) := by decide +kernel
theorem dX12_helpers_86 : decode cX12_helpers 86 = .ok (.iload 5, 2) := by decide +kernel
theorem dX12_helpers_88 : decode cX12_helpers 88 = .ok (.ifCond .eq 142, 3) := by decide +kernel
theorem dX12_helpers_91 : decode cX12_helpers 91 = .ok (.iconst 0, 1) := by decide +kernel
theorem dX12_helpers_92 : decode cX12_helpers 92 = .ok (.istore 6, 2) := by decide +kernel
theorem dX12_helpers_94 : decode cX12_helpers 94 = .ok (.iconst 0, 1) := by decide +kernel
theorem dX12_helpers_95 : decode cX12_helpers 95 = .ok (.istore 7, 2) := by decide +kernel
theorem dX12_helpers_97 : decode cX12_helpers 97 = .ok (.iconst 0, 1) := by decide +kernel
theorem dX12_helpers_98 : decode cX12_helpers 98 = .ok (.istore 8, 2) := by decide +kernel
theorem dX12_helpers_100 : decode cX12_helpers 100 = .ok (.iload 8, 2) := by decide +kernel
theorem dX12_helpers_102 : decode cX12_helpers 102 = .ok (.bipush 6, 2) := by decide +kernel
theorem dX12_helpers_104 : decode cX12_helpers 104 = .ok (.if_icmp .ge 44, 3) := by decide +kernel
theorem dX12_helpers_107 : decode cX12_helpers 107 = .ok (.iload 6, 2) := by decide +kernel
theorem dX12_helpers_109 : decode cX12_helpers 109 = .ok (.aload_n 0, 1) := by decide +kernel
theorem dX12_helpers_110 : decode cX12_helpers 110 = .ok (.getfield 95, 3) := by decide +kernel
theorem dX12_helpers_113 : decode cX12_helpers 113 = .ok (.iload 8, 2) := by decide +kernel
theorem dX12_helpers_115 : decode cX12_helpers 115 = .ok (.iaload, 1) := by decide +kernel
theorem dX12_helpers_116 : decode cX12_helpers 116 = .ok (.iadd, 1) := by decide +kernel
theorem dX12_helpers_117 : decode cX12_helpers 117 = .ok (.istore 6, 2) := by decide +kernel
theorem dX12_helpers_119 : decode cX12_helpers 119 = .ok (.iload 7, 2) := by decide +kernel
theorem dX12_helpers_121 : decode cX12_helpers 121 = .ok (.aload_n 0, 1) := by decide +kernel
theorem dX12_helpers_122 : decode cX12_helpers 122 = .ok (.getfield 92, 3) := by decide +kernel
theorem dX12_helpers_125 : decode cX12_helpers 125 = .ok (.bipush 13, 2) := by decide +kernel
theorem dX12_helpers_127 : decode cX12_helpers 127 = .ok (.iload 8, 2) := by decide +kernel
theorem dX12_helpers_129 : decode cX12_helpers 129 = .ok (.imul, 1) := by decide +kernel
theorem dX12_helpers_130 : decode cX12_helpers 130 = .ok (.aload_n 0, 1) := by decide +kernel
theorem dX12_helpers_131 : decode cX12_helpers 131 = .ok (.getfield 95, 3) := by decide +kernel
theorem dX12_helpers_134 : decode cX12_helpers 134 = .ok (.iload 8, 2) := by decide +kernel
theorem dX12_helpers_136 : decode cX12_helpers 136 = .ok (.iaload, 1) := by decide +kernel
theorem dX12_helpers_137 : decode cX12_helpers 137 = .ok (.iadd, 1) := by decide +kernel
theorem dX12_helpers_138 : decode cX12_helpers 138 = .ok (.iaload, 1) := by decide +kernel
theorem dX12_helpers_139 : decode cX12_helpers 139 = .ok (.iadd, 1) := by decide +kernel
theorem dX12_helpers_140 : decode cX12_helpers 140 = .ok (.istore 7, 2) := by decide +kernel
theorem dX12_helpers_142 : decode cX12_helpers 142 = .ok (.iinc 8 1, 3) := by decide +kernel
theorem dX12_helpers_145 : decode cX12_helpers 145 = .ok (.goto (-45), 3) := by decide +kernel
theorem dX12_helpers_148 : decode cX12_helpers 148 = .ok (.iload 7, 2) := by decide +kernel
theorem dX12_helpers_150 : decode cX12_helpers 150 = .ok (.iload_n 3, 1) := by decide +kernel
theorem dX12_helpers_151 : decode cX12_helpers 151 = .ok (.if_icmp .gt 30, 3) := by decide +kernel
theorem dX12_helpers_154 : decode cX12_helpers 154 = .ok (.iload 7, 2) := by decide +kernel
theorem dX12_helpers_156 : decode cX12_helpers 156 = .ok (.iload_n 3, 1) := by decide +kernel
theorem dX12_helpers_157 : decode cX12_helpers 157 = .ok (.if_icmp .ne 61, 3) := by decide +kernel
theorem dX12_helpers_160 : decode cX12_helpers 160 = .ok (.iload 6, 2) := by decide +kernel
theorem dX12_helpers_162 : decode cX12_helpers 162 = .ok (.iload 4, 2) := by decide +kernel
theorem dX12_helpers_164 : decode cX12_helpers 164 = .ok (.if_icmp .lt 17, 3) := by decide +kernel
theorem dX12_helpers_167 : decode cX12_helpers 167 = .ok (.iload 6, 2) := by decide +kernel
theorem dX12_helpers_169 : decode cX12_helpers 169 = .ok (.iload 4, 2) := by decide +kernel
theorem dX12_helpers_171 : decode cX12_helpers 171 = .ok (.if_icmp .ne 47, 3) := by decide +kernel
theorem dX12_helpers_174 : decode cX12_helpers 174 = .ok (.aload_n 0, 1) := by decide +kernel
theorem dX12_helpers_175 : decode cX12_helpers 175 = .ok (.invokevirtual 296, 3) := by decide +kernel
theorem dX12_helpers_178 : decode cX12_helpers 178 = .ok (.ifCond .eq 40, 3) := by decide +kernel
theorem dX12_helpers_181 : decode cX12_helpers 181 = .ok (.iload 7, 2) := by decide +kernel
theorem dX12_helpers_183 : decode cX12_helpers 183 = .ok (.istore_n 3, 1) := by decide +kernel
theorem dX12_helpers_184 : decode cX12_helpers 184 = .ok (.iload 6, 2) := by decide +kernel
theorem dX12_helpers_186 : decode cX12_helpers 186 = .ok (.istore 4, 2) := by decide +kernel
theorem dX12_helpers_188 : decode cX12_helpers 188 = .ok (.iconst 0, 1) := by decide +kernel
theorem dX12_helpers_189 : decode cX12_helpers 189 = .ok (.istore 8, 2) := by decide +kernel
theorem dX12_helpers_191 : decode cX12_helpers 191 = .ok (.iload 8, 2) := by decide +kernel
theorem dX12_helpers_193 : decode cX12_helpers 193 = .ok (.bipush 6, 2) := by decide +kernel
theorem dX12_helpers_195 : decode cX12_helpers 195 = .ok (.if_icmp .ge 23, 3) := by decide +kernel
theorem dX12_helpers_198 : decode cX12_helpers 198 = .ok (.aload_n 0, 1) := by decide +kernel
theorem dX12_helpers_199 : decode cX12_helpers 199 = .ok (.getfield 98, 3) := by decide +kernel
theorem dX12_helpers_202 : decode cX12_helpers 202 = .ok (.iload 8, 2) := by decide +kernel
theorem dX12_helpers_204 : decode cX12_helpers 204 = .ok (.aload_n 0, 1) := by decide +kernel
theorem dX12_helpers_205 : decode cX12_helpers 205 = .ok (.getfield 95, 3) := by decide +kernel
theorem dX12_helpers_208 : decode cX12_helpers 208 = .ok (.iload 8, 2) := by decide +kernel
theorem dX12_helpers_210 : decode cX12_helpers 210 = .ok (.iaload, 1) := by decide +kernel
theorem dX12_helpers_211 : decode cX12_helpers 211 = .ok (.iastore, 1) := by decide +kernel
theorem dX12_helpers_212 : decode cX12_helpers 212 = .ok (.iinc 8 1, 3) := by decide +kernel
theorem dX12_helpers_215 : decode cX12_helpers 215 = .ok (.goto (-24), 3) := by decide +kernel
theorem dX12_helpers_218 : decode cX12_helpers 218 = .ok (.aload_n 0, 1) := by decide +kernel
theorem dX12_helpers_219 : decode cX12_helpers 219 = .ok (.iload_n 1, 1) := by decide +kernel
theorem dX12_helpers_220 : decode cX12_helpers 220 = .ok (.iload 6, 2) := by decide +kernel
theorem dX12_helpers_222 : decode cX12_helpers 222 = .ok (.invokevirtual 300, 3) := by decide +kernel
theorem dX12_helpers_225 : decode cX12_helpers 225 = .ok (.istore 5, 2) := by decide +kernel
theorem dX12_helpers_227 : decode cX12_helpers 227 = .ok (.goto (-141), 3) := by decide +kernel
theorem dX12_helpers_230 : decode cX12_helpers 230 = .ok (.iload_n 2, 1) := by decide +kernel
theorem dX12_helpers_231 : decode cX12_helpers 231 = .ok (.iconst (-1), 1) := by decide +kernel
theorem dX12_helpers_232 : decode cX12_helpers 232 = .ok (.if_icmp .ne 7, 3) := by decide +kernel
theorem dX12_helpers_235 : decode cX12_helpers 235 = .ok (.iload_n 3, 1) := by decide +kernel
theorem dX12_helpers_236 : decode cX12_helpers 236 = .ok (.goto 9, 3) := by decide +kernel
theorem dX12_helpers_239 : decode cX12_helpers 239 = .ok (.aload_n 0, 1) := by decide +kernel
theorem dX12_helpers_240 : decode cX12_helpers 240 = .ok (.getfield 98, 3) := by decide +kernel
theorem dX12_helpers_243 : decode cX12_helpers 243 = .ok (.iload_n 2, 1) := by decide +kernel
theorem dX12_helpers_244 : decode cX12_helpers 244 = .ok (.iaload, 1) := by decide +kernel
theorem dX12_helpers_245 : decode cX12_helpers 245 = .ok (.ireturn, 1) := by decide +kernel
theorem dX12_isMoreAhead_0 : decode cX12_isMoreAhead 0 = .ok (.iconst 0, 1) := by decide +kernel
theorem dX12_isMoreAhead_1 : decode cX12_isMoreAhead 1 = .ok (.istore_n 1, 1) := by decide +kernel
theorem dX12_isMoreAhead_2 : decode cX12_isMoreAhead 2 = .ok (.iload_n 1, 1) := by decide +kernel
theorem dX12_isMoreAhead_3 : decode cX12_isMoreAhead 3 = .ok (.bipush 6, 2) := by decide +kernel
theorem dX12_isMoreAhead_5 : decode cX12_isMoreAhead 5 = .ok (.if_icmp .ge 45, 3) := by decide +kernel
theorem dX12_isMoreAhead_8 : decode cX12_isMoreAhead 8 = .ok (.aload_n 0, 1) := by decide +kernel
theorem dX12_isMoreAhead_9 : decode cX12_isMoreAhead 9 = .ok (.getfield 95, 3) := by decide +kernel
theorem dX12_isMoreAhead_12 : decode cX12_isMoreAhead 12 = .ok (.iload_n 1, 1) := by decide +kernel
theorem dX12_isMoreAhead_13 : decode cX12_isMoreAhead 13 = .ok (.iaload, 1) := by decide +kernel
theorem dX12_isMoreAhead_14 : decode cX12_isMoreAhead 14 = .ok (.aload_n 0, 1) := by decide +kernel
theorem dX12_isMoreAhead_15 : decode cX12_isMoreAhead 15 = .ok (.getfield 98, 3) := by decide +kernel
theorem dX12_isMoreAhead_18 : decode cX12_isMoreAhead 18 = .ok (.iload_n 1, 1) := by decide +kernel
theorem dX12_isMoreAhead_19 : decode cX12_isMoreAhead 19 = .ok (.iaload, 1) := by decide +kernel
theorem dX12_isMoreAhead_20 : decode cX12_isMoreAhead 20 = .ok (.if_icmp .eq 24, 3) := by decide +kernel
theorem dX12_isMoreAhead_23 : decode cX12_isMoreAhead 23 = .ok (.aload_n 0, 1) := by decide +kernel
theorem dX12_isMoreAhead_24 : decode cX12_isMoreAhead 24 = .ok (.getfield 95, 3) := by decide +kernel
theorem dX12_isMoreAhead_27 : decode cX12_isMoreAhead 27 = .ok (.iload_n 1, 1) := by decide +kernel
theorem dX12_isMoreAhead_28 : decode cX12_isMoreAhead 28 = .ok (.iaload, 1) := by decide +kernel
theorem dX12_isMoreAhead_29 : decode cX12_isMoreAhead 29 = .ok (.aload_n 0, 1) := by decide +kernel
theorem dX12_isMoreAhead_30 : decode cX12_isMoreAhead 30 = .ok (.getfield 98, 3) := by decide +kernel
theorem dX12_isMoreAhead_33 : decode cX12_isMoreAhead 33 = .ok (.iload_n 1, 1) := by decide +kernel
theorem dX12_isMoreAhead_34 : decode cX12_isMoreAhead 34 = .ok (.iaload, 1) := by decide +kernel
theorem dX12_isMoreAhead_35 : decode cX12_isMoreAhead 35 = .ok (.if_icmp .le 7, 3) := by decide +kernel
theorem dX12_isMoreAhead_38 : decode cX12_isMoreAhead 38 = .ok (.iconst 1, 1) := by decide +kernel
theorem dX12_isMoreAhead_39 : decode cX12_isMoreAhead 39 = .ok (.goto 4, 3) := by decide +kernel
theorem dX12_isMoreAhead_42 : decode cX12_isMoreAhead 42 = .ok (.iconst 0, 1) := by decide +kernel
theorem dX12_isMoreAhead_43 : decode cX12_isMoreAhead 43 = .ok (.ireturn, 1) := by decide +kernel
theorem dX12_isMoreAhead_44 : decode cX12_isMoreAhead 44 = .ok (.iinc 1 1, 3) := by decide +kernel
theorem dX12_isMoreAhead_47 : decode cX12_isMoreAhead 47 = .ok (.goto (-45), 3) := by decide +kernel
theorem dX12_isMoreAhead_50 : decode cX12_isMoreAhead 50 = .ok (.iconst 0, 1) := by decide +kernel
theorem dX12_isMoreAhead_51 : decode cX12_isMoreAhead 51 = .ok (.ireturn, 1) := by decide +kernel
theorem dX12_nextGiven_0 : decode cX12_nextGiven 0 = .ok (.iload_n 2, 1) := by decide +kernel
theorem dX12_nextGiven_1 : decode cX12_nextGiven 1 = .ok (.istore_n 3, 1) := by decide +kernel
theorem dX12_nextGiven_2 : decode cX12_nextGiven 2 = .ok (.iconst 0, 1) := by decide +kernel
theorem dX12_nextGiven_3 : decode cX12_nextGiven 3 = .ok (.istore 4, 2) := by decide +kernel
theorem dX12_nextGiven_5 : decode cX12_nextGiven 5 = .ok (.iload 4, 2) := by decide +kernel
theorem dX12_nextGiven_7 : decode cX12_nextGiven 7 = .ok (.bipush 6, 2) := by decide +kernel
theorem dX12_nextGiven_9 : decode cX12_nextGiven 9 = .ok (.if_icmp .ge 45, 3) := by decide +kernel
theorem dX12_nextGiven_12 : decode cX12_nextGiven 12 = .ok (.iload_n 3, 1) := by decide +kernel
theorem dX12_nextGiven_13 : decode cX12_nextGiven 13 = .ok (.iload_n 1, 1) := by decide +kernel
theorem dX12_nextGiven_14 : decode cX12_nextGiven 14 = .ok (.if_icmp .ge 16, 3) := by decide +kernel
theorem dX12_nextGiven_17 : decode cX12_nextGiven 17 = .ok (.aload_n 0, 1) := by decide +kernel
theorem dX12_nextGiven_18 : decode cX12_nextGiven 18 = .ok (.getfield 95, 3) := by decide +kernel
theorem dX12_nextGiven_21 : decode cX12_nextGiven 21 = .ok (.iload 4, 2) := by decide +kernel
theorem dX12_nextGiven_23 : decode cX12_nextGiven 23 = .ok (.dup2, 1) := by decide +kernel
theorem dX12_nextGiven_24 : decode cX12_nextGiven 24 = .ok (.iaload, 1) := by decide +kernel
theorem dX12_nextGiven_25 : decode cX12_nextGiven 25 = .ok (.iconst 1, 1) := by decide +kernel
theorem dX12_nextGiven_26 : decode cX12_nextGiven 26 = .ok (.iadd, 1) := by decide +kernel
theorem dX12_nextGiven_27 : decode cX12_nextGiven 27 = .ok (.iastore, 1) := by decide +kernel
theorem dX12_nextGiven_28 : decode cX12_nextGiven 28 = .ok (.iconst 1, 1) := by decide +kernel
theorem dX12_nextGiven_29 : decode cX12_nextGiven 29 = .ok (.ireturn, 1) := by decide +kernel
theorem dX12_nextGiven_30 : decode cX12_nextGiven 30 = .ok (.iload_n 3, 1) := by decide +kernel
theorem dX12_nextGiven_31 : decode cX12_nextGiven 31 = .ok (.aload_n 0, 1) := by decide +kernel
theorem dX12_nextGiven_32 : decode cX12_nextGiven 32 = .ok (.getfield 95, 3) := by decide +kernel
theorem dX12_nextGiven_35 : decode cX12_nextGiven 35 = .ok (.iload 4, 2) := by decide +kernel
theorem dX12_nextGiven_37 : decode cX12_nextGiven 37 = .ok (.iaload, 1) := by decide +kernel
theorem dX12_nextGiven_38 : decode cX12_nextGiven 38 = .ok (.isub, 1) := by decide +kernel
theorem dX12_nextGiven_39 : decode cX12_nextGiven 39 = .ok (.istore_n 3, 1) := by decide +kernel
theorem dX12_nextGiven_40 : decode cX12_nextGiven 40 = .ok (.aload_n 0, 1) := by decide +kernel
theorem dX12_nextGiven_41 : decode cX12_nextGiven 41 = .ok (.getfield 95, 3) := by decide +kernel
theorem dX12_nextGiven_44 : decode cX12_nextGiven 44 = .ok (.iload 4, 2) := by decide +kernel
theorem dX12_nextGiven_46 : decode cX12_nextGiven 46 = .ok (.iconst 0, 1) := by decide +kernel
theorem dX12_nextGiven_47 : decode cX12_nextGiven 47 = .ok (.iastore, 1) := by decide +kernel
theorem dX12_nextGiven_48 : decode cX12_nextGiven 48 = .ok (.iinc 4 1, 3) := by decide +kernel
theorem dX12_nextGiven_51 : decode cX12_nextGiven 51 = .ok (.goto (-46), 3) := by decide +kernel
theorem dX12_nextGiven_54 : decode cX12_nextGiven 54 = .ok (.iconst 0, 1) := by decide +kernel
theorem dX12_nextGiven_55 : decode cX12_nextGiven 55 = .ok (.ireturn, 1) := by decide +kernel
theorem dX12_list_0 : decode cX12_list 0 = .ok (.aload_n 0, 1) := by decide +kernel
theorem dX12_list_1 : decode cX12_list 1 = .ok (.getfield 303, 3) := by decide +kernel
theorem dX12_list_4 : decode cX12_list 4 = .ok (.bipush 30, 2) := by decide +kernel
theorem dX12_list_6 : decode cX12_list 6 = .ok (.if_icmp .ne 6, 3) := by decide +kernel
theorem dX12_list_9 : decode cX12_list 9 = .ok (.bipush (-4), 2) := by decide +kernel
theorem dX12_list_11 : decode cX12_list 11 = .ok (.ireturn, 1) := by decide +kernel
theorem dX12_list_12 : decode cX12_list 12 = .ok (.iconst 0, 1) := by decide +kernel
theorem dX12_list_13 : decode cX12_list 13 = .ok (.istore_n 1, 1) := by decide +kernel
theorem dX12_list_14 : decode cX12_list 14 = .ok (.iconst 0, 1) := by decide +kernel
theorem dX12_list_15 : decode cX12_list 15 = .ok (.istore_n 2, 1) := by decide +kernel
theorem dX12_list_16 : decode cX12_list 16 = .ok (.aload_n 0, 1) := by decide +kernel
theorem dX12_list_17 : decode cX12_list 17 = .ok (.getfield 101, 3) := by decide +kernel
theorem dX12_list_20 : decode cX12_list 20 = .ok (.iconst 4, 1) := by decide +kernel
theorem dX12_list_21 : decode cX12_list 21 = .ok (.aload_n 0, 1) := by decide +kernel
theorem dX12_list_22 : decode cX12_list 22 = .ok (.getfield 303, 3) := by decide +kernel
theorem dX12_list_25 : decode cX12_list 25 = .ok (.imul, 1) := by decide +kernel
theorem dX12_list_26 : decode cX12_list 26 = .ok (.aload_n 0, 1) := by decide +kernel
theorem dX12_list_27 : decode cX12_list 27 = .ok (.getfield 151, 3) := by decide +kernel
theorem dX12_list_30 : decode cX12_list 30 = .ok (.iastore, 1) := by decide +kernel
theorem dX12_list_31 : decode cX12_list 31 = .ok (.aload_n 0, 1) := by decide +kernel
theorem dX12_list_32 : decode cX12_list 32 = .ok (.getfield 101, 3) := by decide +kernel
theorem dX12_list_35 : decode cX12_list 35 = .ok (.iconst 4, 1) := by decide +kernel
theorem dX12_list_36 : decode cX12_list 36 = .ok (.aload_n 0, 1) := by decide +kernel
theorem dX12_list_37 : decode cX12_list 37 = .ok (.getfield 303, 3) := by decide +kernel
theorem dX12_list_40 : decode cX12_list 40 = .ok (.imul, 1) := by decide +kernel
theorem dX12_list_41 : decode cX12_list 41 = .ok (.iconst 1, 1) := by decide +kernel
theorem dX12_list_42 : decode cX12_list 42 = .ok (.iadd, 1) := by decide +kernel
theorem dX12_list_43 : decode cX12_list 43 = .ok (.aload_n 0, 1) := by decide +kernel
theorem dX12_list_44 : decode cX12_list 44 = .ok (.iconst (-1), 1) := by decide +kernel
theorem dX12_list_45 : decode cX12_list 45 = .ok (.iconst (-1), 1) := by decide +kernel
theorem dX12_list_46 : decode cX12_list 46 = .ok (.iconst 1, 1) := by decide +kernel
theorem dX12_list_47 : decode cX12_list 47 = .ok (.invokevirtual 174, 3) := by decide +kernel
theorem dX12_list_50 : decode cX12_list 50 = .ok (.iastore, 1) := by decide +kernel
theorem dX12_list_51 : decode cX12_list 51 = .ok (.iconst 0, 1) := by decide +kernel
theorem dX12_list_52 : decode cX12_list 52 = .ok (.istore_n 3, 1) := by decide +kernel
theorem dX12_list_53 : decode cX12_list 53 = .ok (.iload_n 3, 1) := by decide +kernel
theorem dX12_list_54 : decode cX12_list 54 = .ok (.bipush 6, 2) := by decide +kernel
theorem dX12_list_56 : decode cX12_list 56 = .ok (.if_icmp .ge 16, 3) := by decide +kernel
theorem dX12_list_59 : decode cX12_list 59 = .ok (.aload_n 0, 1) := by decide +kernel
theorem dX12_list_60 : decode cX12_list 60 = .ok (.getfield 104, 3) := by decide +kernel
theorem dX12_list_63 : decode cX12_list 63 = .ok (.iload_n 3, 1) := by decide +kernel
theorem dX12_list_64 : decode cX12_list 64 = .ok (.iconst 0, 1) := by decide +kernel
theorem dX12_list_65 : decode cX12_list 65 = .ok (.iastore, 1) := by decide +kernel
theorem dX12_list_66 : decode cX12_list 66 = .ok (.iinc 3 1, 3) := by decide +kernel
theorem dX12_list_69 : decode cX12_list 69 = .ok (.goto (-16), 3) := by decide +kernel
theorem dX12_list_72 : decode cX12_list 72 = .ok (.iconst 0, 1) := by decide +kernel
theorem dX12_list_73 : decode cX12_list 73 = .ok (.istore_n 3, 1) := by decide +kernel
theorem dX12_list_74 : decode cX12_list 74 = .ok (.iload_n 3, 1) := by decide +kernel
theorem dX12_list_75 : decode cX12_list 75 = .ok (.aload_n 0, 1) := by decide +kernel
theorem dX12_list_76 : decode cX12_list 76 = .ok (.getfield 148, 3) := by decide +kernel
theorem dX12_list_79 : decode cX12_list 79 = .ok (.if_icmp .ge 74, 3) := by decide +kernel
theorem dX12_list_82 : decode cX12_list 82 = .ok (.aload_n 0, 1) := by decide +kernel
theorem dX12_list_83 : decode cX12_list 83 = .ok (.getfield 107, 3) := by decide +kernel
theorem dX12_list_86 : decode cX12_list 86 = .ok (.iload_n 3, 1) := by decide +kernel
theorem dX12_list_87 : decode cX12_list 87 = .ok (.aload_n 0, 1) := by decide +kernel
theorem dX12_list_88 : decode cX12_list 88 = .ok (.getfield 25, 3) := by decide +kernel
theorem dX12_list_91 : decode cX12_list 91 = .ok (.iload_n 3, 1) := by decide +kernel
theorem dX12_list_92 : decode cX12_list 92 = .ok (.iaload, 1) := by decide +kernel
theorem dX12_list_93 : decode cX12_list 93 = .ok (.iconst 1, 1) := by decide +kernel
theorem dX12_list_94 : decode cX12_list 94 = .ok (.if_icmp .ne 51, 3) := by decide +kernel
theorem dX12_list_97 : decode cX12_list 97 = .ok (.aload_n 0, 1) := by decide +kernel
theorem dX12_list_98 : decode cX12_list 98 = .ok (.getfield 22, 3) := by decide +kernel
theorem dX12_list_101 : decode cX12_list 101 = .ok (.iload_n 3, 1) := by decide +kernel
theorem dX12_list_102 : decode cX12_list 102 = .ok (.iaload, 1) := by decide +kernel
theorem dX12_list_103 : decode cX12_list 103 = .ok (.iconst (-1), 1) := by decide +kernel
theorem dX12_list_104 : decode cX12_list 104 = .ok (.if_icmp .eq 41, 3) := by decide +kernel
theorem dX12_list_107 : decode cX12_list 107 = .ok (.aload_n 0, 1) := by decide +kernel
theorem dX12_list_108 : decode cX12_list 108 = .ok (.getfield 19, 3) := by decide +kernel
theorem dX12_list_111 : decode cX12_list 111 = .ok (.iload_n 3, 1) := by decide +kernel
theorem dX12_list_112 : decode cX12_list 112 = .ok (.iaload, 1) := by decide +kernel
theorem dX12_list_113 : decode cX12_list 113 = .ok (.aload_n 0, 1) := by decide +kernel
theorem dX12_list_114 : decode cX12_list 114 = .ok (.getfield 28, 3) := by decide +kernel
theorem dX12_list_117 : decode cX12_list 117 = .ok (.aload_n 0, 1) := by decide +kernel
theorem dX12_list_118 : decode cX12_list 118 = .ok (.getfield 22, 3) := by decide +kernel
theorem dX12_list_121 : decode cX12_list 121 = .ok (.iload_n 3, 1) := by decide +kernel
theorem dX12_list_122 : decode cX12_list 122 = .ok (.iaload, 1) := by decide +kernel
theorem dX12_list_123 : decode cX12_list 123 = .ok (.iconst (-1), 1) := by decide +kernel
theorem dX12_list_124 : decode cX12_list 124 = .ok (.if_icmp .ne 7, 3) := by decide +kernel
theorem dX12_list_127 : decode cX12_list 127 = .ok (.iconst 0, 1) := by decide +kernel
theorem dX12_list_128 : decode cX12_list 128 = .ok (.goto 9, 3) := by decide +kernel
theorem dX12_list_131 : decode cX12_list 131 = .ok (.aload_n 0, 1) := by decide +kernel
theorem dX12_list_132 : decode cX12_list 132 = .ok (.getfield 22, 3) := by decide +kernel
theorem dX12_list_135 : decode cX12_list 135 = .ok (.iload_n 3, 1) := by decide +kernel
theorem dX12_list_136 : decode cX12_list 136 = .ok (.iaload, 1) := by decide +kernel
theorem dX12_list_137 : decode cX12_list 137 = .ok (.iaload, 1) := by decide +kernel
theorem dX12_list_138 : decode cX12_list 138 = .ok (.if_icmp .ge 7, 3) := by decide +kernel
theorem dX12_list_141 : decode cX12_list 141 = .ok (.iconst 1, 1) := by decide +kernel
theorem dX12_list_142 : decode cX12_list 142 = .ok (.goto 4, 3) := by decide +kernel
theorem dX12_list_145 : decode cX12_list 145 = .ok (.iconst 0, 1) := by decide +kernel
theorem dX12_list_146 : decode cX12_list 146 = .ok (.bastore, 1) := by decide +kernel
theorem dX12_list_147 : decode cX12_list 147 = .ok (.iinc 3 1, 3) := by decide +kernel
theorem dX12_list_150 : decode cX12_list 150 = .ok (.goto (-76), 3) := by decide +kernel
theorem dX12_list_153 : decode cX12_list 153 = .ok (.iconst 0, 1) := by decide +kernel
theorem dX12_list_154 : decode cX12_list 154 = .ok (.istore_n 3, 1) := by decide +kernel
theorem dX12_list_155 : decode cX12_list 155 = .ok (.iload_n 3, 1) := by decide +kernel
theorem dX12_list_156 : decode cX12_list 156 = .ok (.aload_n 0, 1) := by decide +kernel
theorem dX12_list_157 : decode cX12_list 157 = .ok (.getfield 148, 3) := by decide +kernel
theorem dX12_list_160 : decode cX12_list 160 = .ok (.if_icmp .ge 43, 3) := by decide +kernel
theorem dX12_list_163 : decode cX12_list 163 = .ok (.aload_n 0, 1) := by decide +kernel
theorem dX12_list_164 : decode cX12_list 164 = .ok (.getfield 107, 3) := by decide +kernel
theorem dX12_list_167 : decode cX12_list 167 = .ok (.iload_n 3, 1) := by decide +kernel
theorem dX12_list_168 : decode cX12_list 168 = .ok (.baload, 1) := by decide +kernel
theorem dX12_list_169 : decode cX12_list 169 = .ok (.ifCond .eq 28, 3) := by decide +kernel
theorem dX12_list_172 : decode cX12_list 172 = .ok (.aload_n 0, 1) := by decide +kernel
theorem dX12_list_173 : decode cX12_list 173 = .ok (.getfield 25, 3) := by decide +kernel
theorem dX12_list_176 : decode cX12_list 176 = .ok (.iload_n 3, 1) := by decide +kernel
theorem dX12_list_177 : decode cX12_list 177 = .ok (.iconst 3, 1) := by decide +kernel
theorem dX12_list_178 : decode cX12_list 178 = .ok (.iastore, 1) := by decide +kernel
theorem dX12_list_179 : decode cX12_list 179 = .ok (.aload_n 0, 1) := by decide +kernel
theorem dX12_list_180 : decode cX12_list 180 = .ok (.getfield 104, 3) := by decide +kernel
theorem dX12_list_183 : decode cX12_list 183 = .ok (.aload_n 0, 1) := by decide +kernel
theorem dX12_list_184 : decode cX12_list 184 = .ok (.getfield 7, 3) := by decide +kernel
theorem dX12_list_187 : decode cX12_list 187 = .ok (.iload_n 3, 1) := by decide +kernel
theorem dX12_list_188 : decode cX12_list 188 = .ok (.iaload, 1) := by decide +kernel
theorem dX12_list_189 : decode cX12_list 189 = .ok (.dup2, 1) := by decide +kernel
theorem dX12_list_190 : decode cX12_list 190 = .ok (.iaload, 1) := by decide +kernel
theorem dX12_list_191 : decode cX12_list 191 = .ok (.iconst 1, 1) := by decide +kernel
theorem dX12_list_192 : decode cX12_list 192 = .ok (.iadd, 1) := by decide +kernel
theorem dX12_list_193 : decode cX12_list 193 = .ok (.iastore, 1) := by decide +kernel
theorem dX12_list_194 : decode cX12_list 194 = .ok (.iinc 1 1, 3) := by decide +kernel
theorem dX12_list_197 : decode cX12_list 197 = .ok (.iinc 3 1, 3) := by decide +kernel
theorem dX12_list_200 : decode cX12_list 200 = .ok (.goto (-45), 3) := by decide +kernel
theorem dX12_list_203 : decode cX12_list 203 = .ok (.iconst 0, 1) := by decide +kernel
theorem dX12_list_204 : decode cX12_list 204 = .ok (.istore_n 3, 1) := by decide +kernel
theorem dX12_list_205 : decode cX12_list 205 = .ok (.iload_n 3, 1) := by decide +kernel
theorem dX12_list_206 : decode cX12_list 206 = .ok (.aload_n 0, 1) := by decide +kernel
theorem dX12_list_207 : decode cX12_list 207 = .ok (.getfield 148, 3) := by decide +kernel
theorem dX12_list_210 : decode cX12_list 210 = .ok (.if_icmp .ge 125, 3) := by decide +kernel
theorem dX12_list_213 : decode cX12_list 213 = .ok (.aload_n 0, 1) := by decide +kernel
theorem dX12_list_214 : decode cX12_list 214 = .ok (.getfield 104, 3) := by decide +kernel
theorem dX12_list_217 : decode cX12_list 217 = .ok (.aload_n 0, 1) := by decide +kernel
theorem dX12_list_218 : decode cX12_list 218 = .ok (.getfield 7, 3) := by decide +kernel
theorem dX12_list_221 : decode cX12_list 221 = .ok (.iload_n 3, 1) := by decide +kernel
theorem dX12_list_222 : decode cX12_list 222 = .ok (.iaload, 1) := by decide +kernel
theorem dX12_list_223 : decode cX12_list 223 = .ok (.iaload, 1) := by decide +kernel
theorem dX12_list_224 : decode cX12_list 224 = .ok (.istore 4, 2) := by decide +kernel
theorem dX12_list_226 : decode cX12_list 226 = .ok (.aload_n 0, 1) := by decide +kernel
theorem dX12_list_227 : decode cX12_list 227 = .ok (.iload_n 3, 1) := by decide +kernel
theorem dX12_list_228 : decode cX12_list 228 = .ok (.invokevirtual 158, 3) := by decide +kernel
theorem dX12_list_231 : decode cX12_list 231 = .ok (.ifCond .eq 98, 3) := by decide +kernel
theorem dX12_list_234 : decode cX12_list 234 = .ok (.iload 4, 2) := by decide +kernel
theorem dX12_list_236 : decode cX12_list 236 = .ok (.ifCond .le 93, 3) := by decide +kernel
theorem dX12_list_239 : decode cX12_list 239 = .ok (.aload_n 0, 1) := by decide +kernel
theorem dX12_list_240 : decode cX12_list 240 = .ok (.getfield 25, 3) := by decide +kernel
theorem dX12_list_243 : decode cX12_list 243 = .ok (.iload_n 3, 1) := by decide +kernel
theorem dX12_list_244 : decode cX12_list 244 = .ok (.iaload, 1) := by decide +kernel
theorem dX12_list_245 : decode cX12_list 245 = .ok (.iconst 1, 1) := by decide +kernel
theorem dX12_list_246 : decode cX12_list 246 = .ok (.if_icmp .ne 21, 3) := by decide +kernel
theorem dX12_list_249 : decode cX12_list 249 = .ok (.aload_n 0, 1) := by decide +kernel
theorem dX12_list_250 : decode cX12_list 250 = .ok (.getfield 19, 3) := by decide +kernel
theorem dX12_list_253 : decode cX12_list 253 = .ok (.iload_n 3, 1) := by decide +kernel
theorem dX12_list_254 : decode cX12_list 254 = .ok (.iaload, 1) := by decide +kernel
theorem dX12_list_255 : decode cX12_list 255 = .ok (.iload 4, 2) := by decide +kernel
theorem dX12_list_257 : decode cX12_list 257 = .ok (.iadd, 1) := by decide +kernel
theorem dX12_list_258 : decode cX12_list 258 = .ok (.bipush 10, 2) := by decide +kernel
theorem dX12_list_260 : decode cX12_list 260 = .ok (.if_icmp .lt 7, 3) := by decide +kernel
theorem dX12_list_263 : decode cX12_list 263 = .ok (.iconst 1, 1) := by decide +kernel
theorem dX12_list_264 : decode cX12_list 264 = .ok (.goto 4, 3) := by decide +kernel
theorem dX12_list_267 : decode cX12_list 267 = .ok (.iconst 0, 1) := by decide +kernel
theorem dX12_list_268 : decode cX12_list 268 = .ok (.istore 5, 2) := by decide +kernel
theorem dX12_list_270 : decode cX12_list 270 = .ok (.iload_n 2, 1) := by decide +kernel
theorem dX12_list_271 : decode cX12_list 271 = .ok (.iload 5, 2) := by decide +kernel
theorem dX12_list_273 : decode cX12_list 273 = .ok (.ifCond .eq 7, 3) := by decide +kernel
theorem dX12_list_276 : decode cX12_list 276 = .ok (.iconst 1, 1) := by decide +kernel
theorem dX12_list_277 : decode cX12_list 277 = .ok (.goto 4, 3) := by decide +kernel
theorem dX12_list_280 : decode cX12_list 280 = .ok (.iconst 0, 1) := by decide +kernel
theorem dX12_list_281 : decode cX12_list 281 = .ok (.iadd, 1) := by decide +kernel
theorem dX12_list_282 : decode cX12_list 282 = .ok (.istore_n 2, 1) := by decide +kernel
theorem dX12_list_283 : decode cX12_list 283 = .ok (.aload_n 0, 1) := by decide +kernel
theorem dX12_list_284 : decode cX12_list 284 = .ok (.getfield 25, 3) := by decide +kernel
theorem dX12_list_287 : decode cX12_list 287 = .ok (.iload_n 3, 1) := by decide +kernel
theorem dX12_list_288 : decode cX12_list 288 = .ok (.iload 5, 2) := by decide +kernel
theorem dX12_list_290 : decode cX12_list 290 = .ok (.ifCond .eq 7, 3) := by decide +kernel
theorem dX12_list_293 : decode cX12_list 293 = .ok (.iconst 2, 1) := by decide +kernel
theorem dX12_list_294 : decode cX12_list 294 = .ok (.goto 9, 3) := by decide +kernel
theorem dX12_list_297 : decode cX12_list 297 = .ok (.aload_n 0, 1) := by decide +kernel
theorem dX12_list_298 : decode cX12_list 298 = .ok (.getfield 25, 3) := by decide +kernel
theorem dX12_list_301 : decode cX12_list 301 = .ok (.iload_n 3, 1) := by decide +kernel
theorem dX12_list_302 : decode cX12_list 302 = .ok (.iaload, 1) := by decide +kernel
theorem dX12_list_303 : decode cX12_list 303 = .ok (.iastore, 1) := by decide +kernel
theorem dX12_list_304 : decode cX12_list 304 = .ok (.aload_n 0, 1) := by decide +kernel
theorem dX12_list_305 : decode cX12_list 305 = .ok (.getfield 19, 3) := by decide +kernel
theorem dX12_list_308 : decode cX12_list 308 = .ok (.iload_n 3, 1) := by decide +kernel
theorem dX12_list_309 : decode cX12_list 309 = .ok (.dup2, 1) := by decide +kernel
theorem dX12_list_310 : decode cX12_list 310 = .ok (.iaload, 1) := by decide +kernel
theorem dX12_list_311 : decode cX12_list 311 = .ok (.aload_n 0, 1) := by decide +kernel
theorem dX12_list_312 : decode cX12_list 312 = .ok (.getfield 19, 3) := by decide +kernel
theorem dX12_list_315 : decode cX12_list 315 = .ok (.iload_n 3, 1) := by decide +kernel
theorem dX12_list_316 : decode cX12_list 316 = .ok (.iaload, 1) := by decide +kernel
theorem dX12_list_317 : decode cX12_list 317 = .ok (.bipush 9, 2) := by decide +kernel
theorem dX12_list_319 : decode cX12_list 319 = .ok (.if_icmp .ge 7, 3) := by decide +kernel
theorem dX12_list_322 : decode cX12_list 322 = .ok (.iconst 1, 1) := by decide +kernel
theorem dX12_list_323 : decode cX12_list 323 = .ok (.goto 4, 3) := by decide +kernel
theorem dX12_list_326 : decode cX12_list 326 = .ok (.iconst 0, 1) := by decide +kernel
theorem dX12_list_327 : decode cX12_list 327 = .ok (.iadd, 1) := by decide +kernel
theorem dX12_list_328 : decode cX12_list 328 = .ok (.iastore, 1) := by decide +kernel
theorem dX12_list_329 : decode cX12_list 329 = .ok (.iinc 3 1, 3) := by decide +kernel
theorem dX12_list_332 : decode cX12_list 332 = .ok (.goto (-127), 3) := by decide +kernel
theorem dX12_list_335 : decode cX12_list 335 = .ok (.aload_n 0, 1) := by decide +kernel
theorem dX12_list_336 : decode cX12_list 336 = .ok (.getfield 101, 3) := by decide +kernel
theorem dX12_list_339 : decode cX12_list 339 = .ok (.iconst 4, 1) := by decide +kernel
theorem dX12_list_340 : decode cX12_list 340 = .ok (.aload_n 0, 1) := by decide +kernel
theorem dX12_list_341 : decode cX12_list 341 = .ok (.getfield 303, 3) := by decide +kernel
theorem dX12_list_344 : decode cX12_list 344 = .ok (.imul, 1) := by decide +kernel
theorem dX12_list_345 : decode cX12_list 345 = .ok (.iconst 2, 1) := by decide +kernel
theorem dX12_list_346 : decode cX12_list 346 = .ok (.iadd, 1) := by decide +kernel
theorem dX12_list_347 : decode cX12_list 347 = .ok (.iload_n 1, 1) := by decide +kernel
theorem dX12_list_348 : decode cX12_list 348 = .ok (.iastore, 1) := by decide +kernel
theorem dX12_list_349 : decode cX12_list 349 = .ok (.aload_n 0, 1) := by decide +kernel
theorem dX12_list_350 : decode cX12_list 350 = .ok (.getfield 101, 3) := by decide +kernel
theorem dX12_list_353 : decode cX12_list 353 = .ok (.iconst 4, 1) := by decide +kernel
theorem dX12_list_354 : decode cX12_list 354 = .ok (.aload_n 0, 1) := by decide +kernel
theorem dX12_list_355 : decode cX12_list 355 = .ok (.getfield 303, 3) := by decide +kernel
theorem dX12_list_358 : decode cX12_list 358 = .ok (.imul, 1) := by decide +kernel
theorem dX12_list_359 : decode cX12_list 359 = .ok (.iconst 3, 1) := by decide +kernel
theorem dX12_list_360 : decode cX12_list 360 = .ok (.iadd, 1) := by decide +kernel
theorem dX12_list_361 : decode cX12_list 361 = .ok (.iload_n 2, 1) := by decide +kernel
theorem dX12_list_362 : decode cX12_list 362 = .ok (.iastore, 1) := by decide +kernel
theorem dX12_list_363 : decode cX12_list 363 = .ok (.aload_n 0, 1) := by decide +kernel
theorem dX12_list_364 : decode cX12_list 364 = .ok (.dup, 1) := by decide +kernel
theorem dX12_list_365 : decode cX12_list 365 = .ok (.getfield 303, 3) := by decide +kernel
theorem dX12_list_368 : decode cX12_list 368 = .ok (.iconst 1, 1) := by decide +kernel
theorem dX12_list_369 : decode cX12_list 369 = .ok (.iadd, 1) := by decide +kernel
theorem dX12_list_370 : decode cX12_list 370 = .ok (.putfield 303, 3) := by decide +kernel
theorem dX12_list_373 : decode cX12_list 373 = .ok (.iload_n 1, 1) := by decide +kernel
theorem dX12_list_374 : decode cX12_list 374 = .ok (.ireturn, 1) := by decide +kernel
theorem dX12_listIs_0 : decode cX12_listIs 0 = .ok (.iload_n 1, 1) := by decide +kernel
theorem dX12_listIs_1 : decode cX12_listIs 1 = .ok (.iconst 0, 1) := by decide +kernel
theorem dX12_listIs_2 : decode cX12_listIs 2 = .ok (.aload_n 0, 1) := by decide +kernel
theorem dX12_listIs_3 : decode cX12_listIs 3 = .ok (.getfield 303, 3) := by decide +kernel
theorem dX12_listIs_6 : decode cX12_listIs 6 = .ok (.iconst 1, 1) := by decide +kernel
theorem dX12_listIs_7 : decode cX12_listIs 7 = .ok (.isub, 1) := by decide +kernel
theorem dX12_listIs_8 : decode cX12_listIs 8 = .ok (.invokestatic 144, 3) := by decide +kernel
theorem dX12_listIs_11 : decode cX12_listIs 11 = .ok (.ifCond .eq 25, 3) := by decide +kernel
theorem dX12_listIs_14 : decode cX12_listIs 14 = .ok (.iload_n 2, 1) := by decide +kernel
theorem dX12_listIs_15 : decode cX12_listIs 15 = .ok (.iconst 0, 1) := by decide +kernel
theorem dX12_listIs_16 : decode cX12_listIs 16 = .ok (.iconst 3, 1) := by decide +kernel
theorem dX12_listIs_17 : decode cX12_listIs 17 = .ok (.invokestatic 144, 3) := by decide +kernel
theorem dX12_listIs_20 : decode cX12_listIs 20 = .ok (.ifCond .eq 16, 3) := by decide +kernel
theorem dX12_listIs_23 : decode cX12_listIs 23 = .ok (.aload_n 0, 1) := by decide +kernel
theorem dX12_listIs_24 : decode cX12_listIs 24 = .ok (.getfield 101, 3) := by decide +kernel
theorem dX12_listIs_27 : decode cX12_listIs 27 = .ok (.iconst 4, 1) := by decide +kernel
theorem dX12_listIs_28 : decode cX12_listIs 28 = .ok (.iload_n 1, 1) := by decide +kernel
theorem dX12_listIs_29 : decode cX12_listIs 29 = .ok (.imul, 1) := by decide +kernel
theorem dX12_listIs_30 : decode cX12_listIs 30 = .ok (.iload_n 2, 1) := by decide +kernel
theorem dX12_listIs_31 : decode cX12_listIs 31 = .ok (.iadd, 1) := by decide +kernel
theorem dX12_listIs_32 : decode cX12_listIs 32 = .ok (.iaload, 1) := by decide +kernel
theorem dX12_listIs_33 : decode cX12_listIs 33 = .ok (.goto 5, 3) := by decide +kernel
theorem dX12_listIs_36 : decode cX12_listIs 36 = .ok (.bipush (-2), 2) := by decide +kernel
theorem dX12_listIs_38 : decode cX12_listIs 38 = .ok (.ireturn, 1) := by decide +kernel
theorem dX12_ripe_0 : decode cX12_ripe 0 = .ok (.iload_n 1, 1) := by decide +kernel
theorem dX12_ripe_1 : decode cX12_ripe 1 = .ok (.iconst 1, 1) := by decide +kernel
theorem dX12_ripe_2 : decode cX12_ripe 2 = .ok (.bipush 30, 2) := by decide +kernel
theorem dX12_ripe_4 : decode cX12_ripe 4 = .ok (.invokestatic 144, 3) := by decide +kernel
theorem dX12_ripe_7 : decode cX12_ripe 7 = .ok (.ifCond .eq 22, 3) := by decide +kernel
theorem dX12_ripe_10 : decode cX12_ripe 10 = .ok (.iload_n 2, 1) := by decide +kernel
theorem dX12_ripe_11 : decode cX12_ripe 11 = .ok (.invokestatic 210, 3) := by decide +kernel
theorem dX12_ripe_14 : decode cX12_ripe 14 = .ok (.ifCond .eq 15, 3) := by decide +kernel
theorem dX12_ripe_17 : decode cX12_ripe 17 = .ok (.iload_n 3, 1) := by decide +kernel
theorem dX12_ripe_18 : decode cX12_ripe 18 = .ok (.invokestatic 210, 3) := by decide +kernel
theorem dX12_ripe_21 : decode cX12_ripe 21 = .ok (.ifCond .eq 8, 3) := by decide +kernel
theorem dX12_ripe_24 : decode cX12_ripe 24 = .ok (.iload_n 2, 1) := by decide +kernel
theorem dX12_ripe_25 : decode cX12_ripe 25 = .ok (.iload_n 3, 1) := by decide +kernel
theorem dX12_ripe_26 : decode cX12_ripe 26 = .ok (.if_icmp .le 6, 3) := by decide +kernel
theorem dX12_ripe_29 : decode cX12_ripe 29 = .ok (.bipush (-2), 2) := by decide +kernel
theorem dX12_ripe_31 : decode cX12_ripe 31 = .ok (.ireturn, 1) := by decide +kernel
theorem dX12_ripe_32 : decode cX12_ripe 32 = .ok (.iconst 0, 1) := by decide +kernel
theorem dX12_ripe_33 : decode cX12_ripe 33 = .ok (.istore 4, 2) := by decide +kernel
theorem dX12_ripe_35 : decode cX12_ripe 35 = .ok (.iload 4, 2) := by decide +kernel
theorem dX12_ripe_37 : decode cX12_ripe 37 = .ok (.aload_n 0, 1) := by decide +kernel
theorem dX12_ripe_38 : decode cX12_ripe 38 = .ok (.invokevirtual 219, 3) := by decide +kernel
theorem dX12_ripe_41 : decode cX12_ripe 41 = .ok (.if_icmp .gt 105, 3) := by decide +kernel
theorem dX12_ripe_44 : decode cX12_ripe 44 = .ok (.iconst 0, 1) := by decide +kernel
theorem dX12_ripe_45 : decode cX12_ripe 45 = .ok (.istore 5, 2) := by decide +kernel
theorem dX12_ripe_47 : decode cX12_ripe 47 = .ok (.iconst 0, 1) := by decide +kernel
theorem dX12_ripe_48 : decode cX12_ripe 48 = .ok (.istore 6, 2) := by decide +kernel
theorem dX12_ripe_50 : decode cX12_ripe 50 = .ok (.iload 6, 2) := by decide +kernel
theorem dX12_ripe_52 : decode cX12_ripe 52 = .ok (.aload_n 0, 1) := by decide +kernel
theorem dX12_ripe_53 : decode cX12_ripe 53 = .ok (.getfield 161, 3) := by decide +kernel
theorem dX12_ripe_56 : decode cX12_ripe 56 = .ok (.if_icmp .ge 75, 3) := by decide +kernel
theorem dX12_ripe_59 : decode cX12_ripe 59 = .ok (.iload 5, 2) := by decide +kernel
theorem dX12_ripe_61 : decode cX12_ripe 61 = .ok (.aload_n 0, 1) := by decide +kernel
theorem dX12_ripe_62 : decode cX12_ripe 62 = .ok (.iload 6, 2) := by decide +kernel
theorem dX12_ripe_64 : decode cX12_ripe 64 = .ok (.invokevirtual 242, 3) := by decide +kernel
theorem dX12_ripe_67 : decode cX12_ripe 67 = .ok (.iconst 2, 1) := by decide +kernel
theorem dX12_ripe_68 : decode cX12_ripe 68 = .ok (.if_icmp .ne 53, 3) := by decide +kernel
theorem dX12_ripe_71 : decode cX12_ripe 71 = .ok (.aload_n 0, 1) := by decide +kernel
theorem dX12_ripe_72 : decode cX12_ripe 72 = .ok (.iload 6, 2) := by decide +kernel
theorem dX12_ripe_74 : decode cX12_ripe 74 = .ok (.invokevirtual 263, 3) := by decide +kernel
theorem dX12_ripe_77 : decode cX12_ripe 77 = .ok (.ifCond .eq 44, 3) := by decide +kernel
theorem dX12_ripe_80 : decode cX12_ripe 80 = .ok (.aload_n 0, 1) := by decide +kernel
theorem dX12_ripe_81 : decode cX12_ripe 81 = .ok (.iload 6, 2) := by decide +kernel
theorem dX12_ripe_83 : decode cX12_ripe 83 = .ok (.invokevirtual 232, 3) := by decide +kernel
theorem dX12_ripe_86 : decode cX12_ripe 86 = .ok (.iconst 1, 1) := by decide +kernel
theorem dX12_ripe_87 : decode cX12_ripe 87 = .ok (.if_icmp .ne 34, 3) := by decide +kernel
theorem dX12_ripe_90 : decode cX12_ripe 90 = .ok (.aload_n 0, 1) := by decide +kernel
theorem dX12_ripe_91 : decode cX12_ripe 91 = .ok (.getfield 46, 3) := by decide +kernel
theorem dX12_ripe_94 : decode cX12_ripe 94 = .ok (.iload 6, 2) := by decide +kernel
theorem dX12_ripe_96 : decode cX12_ripe 96 = .ok (.iaload, 1) := by decide +kernel
theorem dX12_ripe_97 : decode cX12_ripe 97 = .ok (.iload_n 2, 1) := by decide +kernel
theorem dX12_ripe_98 : decode cX12_ripe 98 = .ok (.iload_n 3, 1) := by decide +kernel
theorem dX12_ripe_99 : decode cX12_ripe 99 = .ok (.invokestatic 144, 3) := by decide +kernel
theorem dX12_ripe_102 : decode cX12_ripe 102 = .ok (.ifCond .eq 19, 3) := by decide +kernel
theorem dX12_ripe_105 : decode cX12_ripe 105 = .ok (.aload_n 0, 1) := by decide +kernel
theorem dX12_ripe_106 : decode cX12_ripe 106 = .ok (.getfield 55, 3) := by decide +kernel
theorem dX12_ripe_109 : decode cX12_ripe 109 = .ok (.iload 6, 2) := by decide +kernel
theorem dX12_ripe_111 : decode cX12_ripe 111 = .ok (.iaload, 1) := by decide +kernel
theorem dX12_ripe_112 : decode cX12_ripe 112 = .ok (.iload 4, 2) := by decide +kernel
theorem dX12_ripe_114 : decode cX12_ripe 114 = .ok (.if_icmp .gt 7, 3) := by decide +kernel
theorem dX12_ripe_117 : decode cX12_ripe 117 = .ok (.iconst 1, 1) := by decide +kernel
theorem dX12_ripe_118 : decode cX12_ripe 118 = .ok (.goto 4, 3) := by decide +kernel
theorem dX12_ripe_121 : decode cX12_ripe 121 = .ok (.iconst 0, 1) := by decide +kernel
theorem dX12_ripe_122 : decode cX12_ripe 122 = .ok (.iadd, 1) := by decide +kernel
theorem dX12_ripe_123 : decode cX12_ripe 123 = .ok (.istore 5, 2) := by decide +kernel
theorem dX12_ripe_125 : decode cX12_ripe 125 = .ok (.iinc 6 1, 3) := by decide +kernel
theorem dX12_ripe_128 : decode cX12_ripe 128 = .ok (.goto (-78), 3) := by decide +kernel
theorem dX12_ripe_131 : decode cX12_ripe 131 = .ok (.iload 5, 2) := by decide +kernel
theorem dX12_ripe_133 : decode cX12_ripe 133 = .ok (.iload_n 1, 1) := by decide +kernel
theorem dX12_ripe_134 : decode cX12_ripe 134 = .ok (.if_icmp .lt 6, 3) := by decide +kernel
theorem dX12_ripe_137 : decode cX12_ripe 137 = .ok (.iload 4, 2) := by decide +kernel
theorem dX12_ripe_139 : decode cX12_ripe 139 = .ok (.ireturn, 1) := by decide +kernel
theorem dX12_ripe_140 : decode cX12_ripe 140 = .ok (.iinc 4 1, 3) := by decide +kernel
theorem dX12_ripe_143 : decode cX12_ripe 143 = .ok (.goto (-108), 3) := by decide +kernel
theorem dX12_ripe_146 : decode cX12_ripe 146 = .ok (.iconst (-1), 1) := by decide +kernel
theorem dX12_ripe_147 : decode cX12_ripe 147 = .ok (.ireturn, 1) := by decide +kernel
theorem dX12_order_0 : decode cX12_order 0 = .ok (.iload_n 1, 1) := by decide +kernel
theorem dX12_order_1 : decode cX12_order 1 = .ok (.invokestatic 248, 3) := by decide +kernel
theorem dX12_order_4 : decode cX12_order 4 = .ok (.ifCond .eq 14, 3) := by decide +kernel
theorem dX12_order_7 : decode cX12_order 7 = .ok (.iload_n 2, 1) := by decide +kernel
theorem dX12_order_8 : decode cX12_order 8 = .ok (.iconst (-1), 1) := by decide +kernel
theorem dX12_order_9 : decode cX12_order 9 = .ok (.sipush 399, 3) := by decide +kernel
theorem dX12_order_12 : decode cX12_order 12 = .ok (.invokestatic 144, 3) := by decide +kernel
theorem dX12_order_15 : decode cX12_order 15 = .ok (.ifCond .ne 6, 3) := by decide +kernel
theorem dX12_order_18 : decode cX12_order 18 = .ok (.bipush (-2), 2) := by decide +kernel
theorem dX12_order_20 : decode cX12_order 20 = .ok (.ireturn, 1) := by decide +kernel
theorem dX12_order_21 : decode cX12_order 21 = .ok (.aload_n 0, 1) := by decide +kernel
theorem dX12_order_22 : decode cX12_order 22 = .ok (.getfield 111, 3) := by decide +kernel
theorem dX12_order_25 : decode cX12_order 25 = .ok (.iload_n 1, 1) := by decide +kernel
theorem dX12_order_26 : decode cX12_order 26 = .ok (.iaload, 1) := by decide +kernel
theorem dX12_order_27 : decode cX12_order 27 = .ok (.istore_n 3, 1) := by decide +kernel
theorem dX12_order_28 : decode cX12_order 28 = .ok (.aload_n 0, 1) := by decide +kernel
theorem dX12_order_29 : decode cX12_order 29 = .ok (.getfield 111, 3) := by decide +kernel
theorem dX12_order_32 : decode cX12_order 32 = .ok (.iload_n 1, 1) := by decide +kernel
theorem dX12_order_33 : decode cX12_order 33 = .ok (.iload_n 2, 1) := by decide +kernel
theorem dX12_order_34 : decode cX12_order 34 = .ok (.iastore, 1) := by decide +kernel
theorem dX12_order_35 : decode cX12_order 35 = .ok (.iload_n 3, 1) := by decide +kernel
theorem dX12_order_36 : decode cX12_order 36 = .ok (.ireturn, 1) := by decide +kernel
theorem dX12_asksSome_0 : decode cX12_asksSome 0 = .ok (.aload_n 0, 1) := by decide +kernel
theorem dX12_asksSome_1 : decode cX12_asksSome 1 = .ok (.iconst 2, 1) := by decide +kernel
theorem dX12_asksSome_2 : decode cX12_asksSome 2 = .ok (.iload_n 1, 1) := by decide +kernel
theorem dX12_asksSome_3 : decode cX12_asksSome 3 = .ok (.invokevirtual 216, 3) := by decide +kernel
theorem dX12_asksSome_6 : decode cX12_asksSome 6 = .ok (.ifCond .le 5, 3) := by decide +kernel
theorem dX12_asksSome_9 : decode cX12_asksSome 9 = .ok (.iconst 1, 1) := by decide +kernel
theorem dX12_asksSome_10 : decode cX12_asksSome 10 = .ok (.ireturn, 1) := by decide +kernel
theorem dX12_asksSome_11 : decode cX12_asksSome 11 = .ok (.iconst 0, 1) := by decide +kernel
theorem dX12_asksSome_12 : decode cX12_asksSome 12 = .ok (.istore_n 2, 1) := by decide +kernel
theorem dX12_asksSome_13 : decode cX12_asksSome 13 = .ok (.iload_n 2, 1) := by decide +kernel
theorem dX12_asksSome_14 : decode cX12_asksSome 14 = .ok (.bipush 20, 2) := by decide +kernel
theorem dX12_asksSome_16 : decode cX12_asksSome 16 = .ok (.if_icmp .ge 21, 3) := by decide +kernel
theorem dX12_asksSome_19 : decode cX12_asksSome 19 = .ok (.aload_n 0, 1) := by decide +kernel
theorem dX12_asksSome_20 : decode cX12_asksSome 20 = .ok (.iload_n 2, 1) := by decide +kernel
theorem dX12_asksSome_21 : decode cX12_asksSome 21 = .ok (.iload_n 1, 1) := by decide +kernel
theorem dX12_asksSome_22 : decode cX12_asksSome 22 = .ok (.invokevirtual 213, 3) := by decide +kernel
theorem dX12_asksSome_25 : decode cX12_asksSome 25 = .ok (.iconst (-1), 1) := by decide +kernel
theorem dX12_asksSome_26 : decode cX12_asksSome 26 = .ok (.if_icmp .eq 5, 3) := by decide +kernel
theorem dX12_asksSome_29 : decode cX12_asksSome 29 = .ok (.iconst 1, 1) := by decide +kernel
theorem dX12_asksSome_30 : decode cX12_asksSome 30 = .ok (.ireturn, 1) := by decide +kernel
theorem dX12_asksSome_31 : decode cX12_asksSome 31 = .ok (.iinc 2 1, 3) := by decide +kernel
theorem dX12_asksSome_34 : decode cX12_asksSome 34 = .ok (.goto (-21), 3) := by decide +kernel
theorem dX12_asksSome_37 : decode cX12_asksSome 37 = .ok (.iconst 0, 1) := by decide +kernel
theorem dX12_asksSome_38 : decode cX12_asksSome 38 = .ok (.ireturn, 1) := by decide +kernel
theorem dX12_number_0 : decode cX12_number 0 = .ok (.iload_n 1, 1) := by decide +kernel
theorem dX12_number_1 : decode cX12_number 1 = .ok (.iconst 1, 1) := by decide +kernel
theorem dX12_number_2 : decode cX12_number 2 = .ok (.bipush 100, 2) := by decide +kernel
theorem dX12_number_4 : decode cX12_number 4 = .ok (.invokestatic 144, 3) := by decide +kernel
theorem dX12_number_7 : decode cX12_number 7 = .ok (.ifCond .eq 37, 3) := by decide +kernel
theorem dX12_number_10 : decode cX12_number 10 = .ok (.iload_n 2, 1) := by decide +kernel
theorem dX12_number_11 : decode cX12_number 11 = .ok (.iconst 1, 1) := by decide +kernel
theorem dX12_number_12 : decode cX12_number 12 = .ok (.sipush 1000, 3) := by decide +kernel
theorem dX12_number_15 : decode cX12_number 15 = .ok (.invokestatic 144, 3) := by decide +kernel
theorem dX12_number_18 : decode cX12_number 18 = .ok (.ifCond .eq 26, 3) := by decide +kernel
theorem dX12_number_21 : decode cX12_number 21 = .ok (.iload_n 3, 1) := by decide +kernel
theorem dX12_number_22 : decode cX12_number 22 = .ok (.iconst 0, 1) := by decide +kernel
theorem dX12_number_23 : decode cX12_number 23 = .ok (.bipush 100, 2) := by decide +kernel
theorem dX12_number_25 : decode cX12_number 25 = .ok (.invokestatic 144, 3) := by decide +kernel
theorem dX12_number_28 : decode cX12_number 28 = .ok (.ifCond .eq 16, 3) := by decide +kernel
theorem dX12_number_31 : decode cX12_number 31 = .ok (.iload_n 3, 1) := by decide +kernel
theorem dX12_number_32 : decode cX12_number 32 = .ok (.iload_n 2, 1) := by decide +kernel
theorem dX12_number_33 : decode cX12_number 33 = .ok (.if_icmp .ge 11, 3) := by decide +kernel
theorem dX12_number_36 : decode cX12_number 36 = .ok (.iload 4, 2) := by decide +kernel
theorem dX12_number_38 : decode cX12_number 38 = .ok (.invokestatic 210, 3) := by decide +kernel
theorem dX12_number_41 : decode cX12_number 41 = .ok (.ifCond .ne 6, 3) := by decide +kernel
theorem dX12_number_44 : decode cX12_number 44 = .ok (.bipush (-2), 2) := by decide +kernel
theorem dX12_number_46 : decode cX12_number 46 = .ok (.ireturn, 1) := by decide +kernel
theorem dX12_number_47 : decode cX12_number 47 = .ok (.bipush 100, 2) := by decide +kernel
theorem dX12_number_49 : decode cX12_number 49 = .ok (.aload_n 0, 1) := by decide +kernel
theorem dX12_number_50 : decode cX12_number 50 = .ok (.iconst (-1), 1) := by decide +kernel
theorem dX12_number_51 : decode cX12_number 51 = .ok (.iconst (-1), 1) := by decide +kernel
theorem dX12_number_52 : decode cX12_number 52 = .ok (.iconst 1, 1) := by decide +kernel
theorem dX12_number_53 : decode cX12_number 53 = .ok (.invokevirtual 174, 3) := by decide +kernel
theorem dX12_number_56 : decode cX12_number 56 = .ok (.imul, 1) := by decide +kernel
theorem dX12_number_57 : decode cX12_number 57 = .ok (.istore 5, 2) := by decide +kernel
theorem dX12_number_59 : decode cX12_number 59 = .ok (.aload_n 0, 1) := by decide +kernel
theorem dX12_number_60 : decode cX12_number 60 = .ok (.iload 4, 2) := by decide +kernel
theorem dX12_number_62 : decode cX12_number 62 = .ok (.invokevirtual 306, 3) := by decide +kernel
theorem dX12_number_65 : decode cX12_number 65 = .ok (.ifCond .ne 5, 3) := by decide +kernel
theorem dX12_number_68 : decode cX12_number 68 = .ok (.iconst 0, 1) := by decide +kernel
theorem dX12_number_69 : decode cX12_number 69 = .ok (.ireturn, 1) := by decide +kernel
theorem dX12_number_70 : decode cX12_number 70 = .ok (.iload 5, 2) := by decide +kernel
theorem dX12_number_72 : decode cX12_number 72 = .ok (.iload_n 1, 1) := by decide +kernel
theorem dX12_number_73 : decode cX12_number 73 = .ok (.iload_n 2, 1) := by decide +kernel
theorem dX12_number_74 : decode cX12_number 74 = .ok (.iload_n 3, 1) := by decide +kernel
theorem dX12_number_75 : decode cX12_number 75 = .ok (.isub, 1) := by decide +kernel
theorem dX12_number_76 : decode cX12_number 76 = .ok (.imul, 1) := by decide +kernel
theorem dX12_number_77 : decode cX12_number 77 = .ok (.if_icmp .ge 7, 3) := by decide +kernel
theorem dX12_number_80 : decode cX12_number 80 = .ok (.iconst 2, 1) := by decide +kernel
theorem dX12_number_81 : decode cX12_number 81 = .ok (.goto 18, 3) := by decide +kernel
theorem dX12_number_84 : decode cX12_number 84 = .ok (.iload 5, 2) := by decide +kernel
theorem dX12_number_86 : decode cX12_number 86 = .ok (.iload_n 1, 1) := by decide +kernel
theorem dX12_number_87 : decode cX12_number 87 = .ok (.iload_n 2, 1) := by decide +kernel
theorem dX12_number_88 : decode cX12_number 88 = .ok (.iload_n 3, 1) := by decide +kernel
theorem dX12_number_89 : decode cX12_number 89 = .ok (.iadd, 1) := by decide +kernel
theorem dX12_number_90 : decode cX12_number 90 = .ok (.imul, 1) := by decide +kernel
theorem dX12_number_91 : decode cX12_number 91 = .ok (.if_icmp .ge 7, 3) := by decide +kernel
theorem dX12_number_94 : decode cX12_number 94 = .ok (.iconst 1, 1) := by decide +kernel
theorem dX12_number_95 : decode cX12_number 95 = .ok (.goto 4, 3) := by decide +kernel
theorem dX12_number_98 : decode cX12_number 98 = .ok (.iconst 0, 1) := by decide +kernel
theorem dX12_number_99 : decode cX12_number 99 = .ok (.ireturn, 1) := by decide +kernel
theorem dX12_chosenIn_0 : decode cX12_chosenIn 0 = .ok (.aload_n 0, 1) := by decide +kernel
theorem dX12_chosenIn_1 : decode cX12_chosenIn 1 = .ok (.iload_n 1, 1) := by decide +kernel
theorem dX12_chosenIn_2 : decode cX12_chosenIn 2 = .ok (.iconst 0, 1) := by decide +kernel
theorem dX12_chosenIn_3 : decode cX12_chosenIn 3 = .ok (.iconst 1, 1) := by decide +kernel
theorem dX12_chosenIn_4 : decode cX12_chosenIn 4 = .ok (.invokevirtual 174, 3) := by decide +kernel
theorem dX12_chosenIn_7 : decode cX12_chosenIn 7 = .ok (.istore_n 2, 1) := by decide +kernel
theorem dX12_chosenIn_8 : decode cX12_chosenIn 8 = .ok (.aload_n 0, 1) := by decide +kernel
theorem dX12_chosenIn_9 : decode cX12_chosenIn 9 = .ok (.iload_n 1, 1) := by decide +kernel
theorem dX12_chosenIn_10 : decode cX12_chosenIn 10 = .ok (.iconst 1, 1) := by decide +kernel
theorem dX12_chosenIn_11 : decode cX12_chosenIn 11 = .ok (.iconst 1, 1) := by decide +kernel
theorem dX12_chosenIn_12 : decode cX12_chosenIn 12 = .ok (.invokevirtual 174, 3) := by decide +kernel
theorem dX12_chosenIn_15 : decode cX12_chosenIn 15 = .ok (.istore_n 3, 1) := by decide +kernel
theorem dX12_chosenIn_16 : decode cX12_chosenIn 16 = .ok (.iload_n 2, 1) := by decide +kernel
theorem dX12_chosenIn_17 : decode cX12_chosenIn 17 = .ok (.iload_n 3, 1) := by decide +kernel
theorem dX12_chosenIn_18 : decode cX12_chosenIn 18 = .ok (.if_icmp .le 7, 3) := by decide +kernel
theorem dX12_chosenIn_21 : decode cX12_chosenIn 21 = .ok (.iconst 0, 1) := by decide +kernel
theorem dX12_chosenIn_22 : decode cX12_chosenIn 22 = .ok (.goto 13, 3) := by decide +kernel
theorem dX12_chosenIn_25 : decode cX12_chosenIn 25 = .ok (.iload_n 3, 1) := by decide +kernel
theorem dX12_chosenIn_26 : decode cX12_chosenIn 26 = .ok (.iload_n 2, 1) := by decide +kernel
theorem dX12_chosenIn_27 : decode cX12_chosenIn 27 = .ok (.if_icmp .le 7, 3) := by decide +kernel
theorem dX12_chosenIn_30 : decode cX12_chosenIn 30 = .ok (.iconst 1, 1) := by decide +kernel
theorem dX12_chosenIn_31 : decode cX12_chosenIn 31 = .ok (.goto 4, 3) := by decide +kernel
theorem dX12_chosenIn_34 : decode cX12_chosenIn 34 = .ok (.iconst (-1), 1) := by decide +kernel
theorem dX12_chosenIn_35 : decode cX12_chosenIn 35 = .ok (.ireturn, 1) := by decide +kernel
theorem dX12_chosen_0 : decode cX12_chosen 0 = .ok (.iload_n 1, 1) := by decide +kernel
theorem dX12_chosen_1 : decode cX12_chosen 1 = .ok (.invokestatic 154, 3) := by decide +kernel
theorem dX12_chosen_4 : decode cX12_chosen 4 = .ok (.ifCond .eq 11, 3) := by decide +kernel
theorem dX12_chosen_7 : decode cX12_chosen 7 = .ok (.aload_n 0, 1) := by decide +kernel
theorem dX12_chosen_8 : decode cX12_chosen 8 = .ok (.iload_n 1, 1) := by decide +kernel
theorem dX12_chosen_9 : decode cX12_chosen 9 = .ok (.invokevirtual 309, 3) := by decide +kernel
theorem dX12_chosen_12 : decode cX12_chosen 12 = .ok (.goto 5, 3) := by decide +kernel
theorem dX12_chosen_15 : decode cX12_chosen 15 = .ok (.bipush (-2), 2) := by decide +kernel
theorem dX12_chosen_17 : decode cX12_chosen 17 = .ok (.ireturn, 1) := by decide +kernel
theorem dX12_wants_0 : decode cX12_wants 0 = .ok (.aload_n 0, 1) := by decide +kernel
theorem dX12_wants_1 : decode cX12_wants 1 = .ok (.iload_n 1, 1) := by decide +kernel
theorem dX12_wants_2 : decode cX12_wants 2 = .ok (.iconst 1, 1) := by decide +kernel
theorem dX12_wants_3 : decode cX12_wants 3 = .ok (.iload_n 2, 1) := by decide +kernel
theorem dX12_wants_4 : decode cX12_wants 4 = .ok (.isub, 1) := by decide +kernel
theorem dX12_wants_5 : decode cX12_wants 5 = .ok (.iconst 1, 1) := by decide +kernel
theorem dX12_wants_6 : decode cX12_wants 6 = .ok (.invokevirtual 174, 3) := by decide +kernel
theorem dX12_wants_9 : decode cX12_wants 9 = .ok (.aload_n 0, 1) := by decide +kernel
theorem dX12_wants_10 : decode cX12_wants 10 = .ok (.iload_n 1, 1) := by decide +kernel
theorem dX12_wants_11 : decode cX12_wants 11 = .ok (.iload_n 2, 1) := by decide +kernel
theorem dX12_wants_12 : decode cX12_wants 12 = .ok (.iconst 1, 1) := by decide +kernel
theorem dX12_wants_13 : decode cX12_wants 13 = .ok (.invokevirtual 174, 3) := by decide +kernel
theorem dX12_wants_16 : decode cX12_wants 16 = .ok (.isub, 1) := by decide +kernel
theorem dX12_wants_17 : decode cX12_wants 17 = .ok (.iconst 1, 1) := by decide +kernel
theorem dX12_wants_18 : decode cX12_wants 18 = .ok (.iadd, 1) := by decide +kernel
theorem dX12_wants_19 : decode cX12_wants 19 = .ok (.istore_n 3, 1) := by decide +kernel
theorem dX12_wants_20 : decode cX12_wants 20 = .ok (.iload_n 3, 1) := by decide +kernel
theorem dX12_wants_21 : decode cX12_wants 21 = .ok (.ifCond .ge 7, 3) := by decide +kernel
theorem dX12_wants_24 : decode cX12_wants 24 = .ok (.iconst 0, 1) := by decide +kernel
theorem dX12_wants_25 : decode cX12_wants 25 = .ok (.goto 4, 3) := by decide +kernel
theorem dX12_wants_28 : decode cX12_wants 28 = .ok (.iload_n 3, 1) := by decide +kernel
theorem dX12_wants_29 : decode cX12_wants 29 = .ok (.istore_n 3, 1) := by decide +kernel
theorem dX12_wants_30 : decode cX12_wants 30 = .ok (.iload_n 3, 1) := by decide +kernel
theorem dX12_wants_31 : decode cX12_wants 31 = .ok (.aload_n 0, 1) := by decide +kernel
theorem dX12_wants_32 : decode cX12_wants 32 = .ok (.iload_n 1, 1) := by decide +kernel
theorem dX12_wants_33 : decode cX12_wants 33 = .ok (.iload_n 2, 1) := by decide +kernel
theorem dX12_wants_34 : decode cX12_wants 34 = .ok (.iconst 0, 1) := by decide +kernel
theorem dX12_wants_35 : decode cX12_wants 35 = .ok (.invokevirtual 174, 3) := by decide +kernel
theorem dX12_wants_38 : decode cX12_wants 38 = .ok (.aload_n 0, 1) := by decide +kernel
theorem dX12_wants_39 : decode cX12_wants 39 = .ok (.iload_n 1, 1) := by decide +kernel
theorem dX12_wants_40 : decode cX12_wants 40 = .ok (.iload_n 2, 1) := by decide +kernel
theorem dX12_wants_41 : decode cX12_wants 41 = .ok (.iconst 2, 1) := by decide +kernel
theorem dX12_wants_42 : decode cX12_wants 42 = .ok (.invokevirtual 174, 3) := by decide +kernel
theorem dX12_wants_45 : decode cX12_wants 45 = .ok (.iadd, 1) := by decide +kernel
theorem dX12_wants_46 : decode cX12_wants 46 = .ok (.if_icmp .gt 7, 3) := by decide +kernel
theorem dX12_wants_49 : decode cX12_wants 49 = .ok (.iload_n 3, 1) := by decide +kernel
theorem dX12_wants_50 : decode cX12_wants 50 = .ok (.goto 4, 3) := by decide +kernel
theorem dX12_wants_53 : decode cX12_wants 53 = .ok (.iconst (-1), 1) := by decide +kernel
theorem dX12_wants_54 : decode cX12_wants 54 = .ok (.ireturn, 1) := by decide +kernel
theorem dX12_changed_0 : decode cX12_changed 0 = .ok (.iload_n 1, 1) := by decide +kernel
theorem dX12_changed_1 : decode cX12_changed 1 = .ok (.invokestatic 154, 3) := by decide +kernel
theorem dX12_changed_4 : decode cX12_changed 4 = .ok (.ifCond .ne 6, 3) := by decide +kernel
theorem dX12_changed_7 : decode cX12_changed 7 = .ok (.bipush (-2), 2) := by decide +kernel
theorem dX12_changed_9 : decode cX12_changed 9 = .ok (.ireturn, 1) := by decide +kernel
theorem dX12_changed_10 : decode cX12_changed 10 = .ok (.aload_n 0, 1) := by decide +kernel
theorem dX12_changed_11 : decode cX12_changed 11 = .ok (.iload_n 1, 1) := by decide +kernel
theorem dX12_changed_12 : decode cX12_changed 12 = .ok (.invokevirtual 309, 3) := by decide +kernel
theorem dX12_changed_15 : decode cX12_changed 15 = .ok (.istore_n 2, 1) := by decide +kernel
theorem dX12_changed_16 : decode cX12_changed 16 = .ok (.iconst (-1), 1) := by decide +kernel
theorem dX12_changed_17 : decode cX12_changed 17 = .ok (.istore_n 3, 1) := by decide +kernel
theorem dX12_changed_18 : decode cX12_changed 18 = .ok (.iconst 0, 1) := by decide +kernel
theorem dX12_changed_19 : decode cX12_changed 19 = .ok (.istore 4, 2) := by decide +kernel
theorem dX12_changed_21 : decode cX12_changed 21 = .ok (.iload 4, 2) := by decide +kernel
theorem dX12_changed_23 : decode cX12_changed 23 = .ok (.iconst 2, 1) := by decide +kernel
theorem dX12_changed_24 : decode cX12_changed 24 = .ok (.if_icmp .ge 52, 3) := by decide +kernel
theorem dX12_changed_27 : decode cX12_changed 27 = .ok (.iload 4, 2) := by decide +kernel
theorem dX12_changed_29 : decode cX12_changed 29 = .ok (.iload_n 2, 1) := by decide +kernel
theorem dX12_changed_30 : decode cX12_changed 30 = .ok (.if_icmp .ne 7, 3) := by decide +kernel
theorem dX12_changed_33 : decode cX12_changed 33 = .ok (.iconst (-1), 1) := by decide +kernel
theorem dX12_changed_34 : decode cX12_changed 34 = .ok (.goto 10, 3) := by decide +kernel
theorem dX12_changed_37 : decode cX12_changed 37 = .ok (.aload_n 0, 1) := by decide +kernel
theorem dX12_changed_38 : decode cX12_changed 38 = .ok (.iload_n 1, 1) := by decide +kernel
theorem dX12_changed_39 : decode cX12_changed 39 = .ok (.iload 4, 2) := by decide +kernel
theorem dX12_changed_41 : decode cX12_changed 41 = .ok (.invokevirtual 312, 3) := by decide +kernel
theorem dX12_changed_44 : decode cX12_changed 44 = .ok (.istore 5, 2) := by decide +kernel
theorem dX12_changed_46 : decode cX12_changed 46 = .ok (.iload 5, 2) := by decide +kernel
theorem dX12_changed_48 : decode cX12_changed 48 = .ok (.iconst (-1), 1) := by decide +kernel
theorem dX12_changed_49 : decode cX12_changed 49 = .ok (.if_icmp .eq 19, 3) := by decide +kernel
theorem dX12_changed_52 : decode cX12_changed 52 = .ok (.iload_n 3, 1) := by decide +kernel
theorem dX12_changed_53 : decode cX12_changed 53 = .ok (.iconst (-1), 1) := by decide +kernel
theorem dX12_changed_54 : decode cX12_changed 54 = .ok (.if_icmp .eq 9, 3) := by decide +kernel
theorem dX12_changed_57 : decode cX12_changed 57 = .ok (.iload 5, 2) := by decide +kernel
theorem dX12_changed_59 : decode cX12_changed 59 = .ok (.iload_n 3, 1) := by decide +kernel
theorem dX12_changed_60 : decode cX12_changed 60 = .ok (.if_icmp .ge 8, 3) := by decide +kernel
theorem dX12_changed_63 : decode cX12_changed 63 = .ok (.iload 5, 2) := by decide +kernel
theorem dX12_changed_65 : decode cX12_changed 65 = .ok (.goto 4, 3) := by decide +kernel
theorem dX12_changed_68 : decode cX12_changed 68 = .ok (.iload_n 3, 1) := by decide +kernel
theorem dX12_changed_69 : decode cX12_changed 69 = .ok (.istore_n 3, 1) := by decide +kernel
theorem dX12_changed_70 : decode cX12_changed 70 = .ok (.iinc 4 1, 3) := by decide +kernel
theorem dX12_changed_73 : decode cX12_changed 73 = .ok (.goto (-52), 3) := by decide +kernel
theorem dX12_changed_76 : decode cX12_changed 76 = .ok (.iload_n 3, 1) := by decide +kernel
theorem dX12_changed_77 : decode cX12_changed 77 = .ok (.ireturn, 1) := by decide +kernel
theorem dX12_wins_0 : decode cX12_wins 0 = .ok (.iload_n 1, 1) := by decide +kernel
theorem dX12_wins_1 : decode cX12_wins 1 = .ok (.iconst 0, 1) := by decide +kernel
theorem dX12_wins_2 : decode cX12_wins 2 = .ok (.bipush 6, 2) := by decide +kernel
theorem dX12_wins_4 : decode cX12_wins 4 = .ok (.invokestatic 144, 3) := by decide +kernel
theorem dX12_wins_7 : decode cX12_wins 7 = .ok (.ifCond .ne 6, 3) := by decide +kernel
theorem dX12_wins_10 : decode cX12_wins 10 = .ok (.bipush (-2), 2) := by decide +kernel
theorem dX12_wins_12 : decode cX12_wins 12 = .ok (.ireturn, 1) := by decide +kernel
theorem dX12_wins_13 : decode cX12_wins 13 = .ok (.iconst 0, 1) := by decide +kernel
theorem dX12_wins_14 : decode cX12_wins 14 = .ok (.istore_n 2, 1) := by decide +kernel
theorem dX12_wins_15 : decode cX12_wins 15 = .ok (.iconst 0, 1) := by decide +kernel
theorem dX12_wins_16 : decode cX12_wins 16 = .ok (.istore_n 3, 1) := by decide +kernel
theorem dX12_wins_17 : decode cX12_wins 17 = .ok (.iconst 0, 1) := by decide +kernel
theorem dX12_wins_18 : decode cX12_wins 18 = .ok (.istore 4, 2) := by decide +kernel
theorem dX12_wins_20 : decode cX12_wins 20 = .ok (.iload 4, 2) := by decide +kernel
theorem dX12_wins_22 : decode cX12_wins 22 = .ok (.iload_n 1, 1) := by decide +kernel
theorem dX12_wins_23 : decode cX12_wins 23 = .ok (.if_icmp .ge 117, 3) := by decide +kernel
theorem dX12_wins_26 : decode cX12_wins 26 = .ok (.iconst (-1), 1) := by decide +kernel
theorem dX12_wins_27 : decode cX12_wins 27 = .ok (.istore 5, 2) := by decide +kernel
theorem dX12_wins_29 : decode cX12_wins 29 = .ok (.iconst 0, 1) := by decide +kernel
theorem dX12_wins_30 : decode cX12_wins 30 = .ok (.istore 6, 2) := by decide +kernel
theorem dX12_wins_32 : decode cX12_wins 32 = .ok (.iload 6, 2) := by decide +kernel
theorem dX12_wins_34 : decode cX12_wins 34 = .ok (.bipush 6, 2) := by decide +kernel
theorem dX12_wins_36 : decode cX12_wins 36 = .ok (.if_icmp .ge 73, 3) := by decide +kernel
theorem dX12_wins_39 : decode cX12_wins 39 = .ok (.iload_n 3, 1) := by decide +kernel
theorem dX12_wins_40 : decode cX12_wins 40 = .ok (.iload 6, 2) := by decide +kernel
theorem dX12_wins_42 : decode cX12_wins 42 = .ok (.ishr, 1) := by decide +kernel
theorem dX12_wins_43 : decode cX12_wins 43 = .ok (.iconst 1, 1) := by decide +kernel
theorem dX12_wins_44 : decode cX12_wins 44 = .ok (.iand, 1) := by decide +kernel
theorem dX12_wins_45 : decode cX12_wins 45 = .ok (.ifCond .ne 18, 3) := by decide +kernel
theorem dX12_wins_48 : decode cX12_wins 48 = .ok (.aload_n 0, 1) := by decide +kernel
theorem dX12_wins_49 : decode cX12_wins 49 = .ok (.iload 6, 2) := by decide +kernel
theorem dX12_wins_51 : decode cX12_wins 51 = .ok (.iconst 1, 1) := by decide +kernel
theorem dX12_wins_52 : decode cX12_wins 52 = .ok (.invokevirtual 312, 3) := by decide +kernel
theorem dX12_wins_55 : decode cX12_wins 55 = .ok (.iconst (-1), 1) := by decide +kernel
theorem dX12_wins_56 : decode cX12_wins 56 = .ok (.if_icmp .eq 7, 3) := by decide +kernel
theorem dX12_wins_59 : decode cX12_wins 59 = .ok (.iconst 1, 1) := by decide +kernel
theorem dX12_wins_60 : decode cX12_wins 60 = .ok (.goto 4, 3) := by decide +kernel
theorem dX12_wins_63 : decode cX12_wins 63 = .ok (.iconst 0, 1) := by decide +kernel
theorem dX12_wins_64 : decode cX12_wins 64 = .ok (.istore 7, 2) := by decide +kernel
theorem dX12_wins_66 : decode cX12_wins 66 = .ok (.iload 7, 2) := by decide +kernel
theorem dX12_wins_68 : decode cX12_wins 68 = .ok (.ifCond .eq 31, 3) := by decide +kernel
theorem dX12_wins_71 : decode cX12_wins 71 = .ok (.iload 5, 2) := by decide +kernel
theorem dX12_wins_73 : decode cX12_wins 73 = .ok (.iconst (-1), 1) := by decide +kernel
theorem dX12_wins_74 : decode cX12_wins 74 = .ok (.if_icmp .eq 20, 3) := by decide +kernel
theorem dX12_wins_77 : decode cX12_wins 77 = .ok (.aload_n 0, 1) := by decide +kernel
theorem dX12_wins_78 : decode cX12_wins 78 = .ok (.iload 6, 2) := by decide +kernel
theorem dX12_wins_80 : decode cX12_wins 80 = .ok (.iconst 1, 1) := by decide +kernel
theorem dX12_wins_81 : decode cX12_wins 81 = .ok (.invokevirtual 312, 3) := by decide +kernel
theorem dX12_wins_84 : decode cX12_wins 84 = .ok (.aload_n 0, 1) := by decide +kernel
theorem dX12_wins_85 : decode cX12_wins 85 = .ok (.iload 5, 2) := by decide +kernel
theorem dX12_wins_87 : decode cX12_wins 87 = .ok (.iconst 1, 1) := by decide +kernel
theorem dX12_wins_88 : decode cX12_wins 88 = .ok (.invokevirtual 312, 3) := by decide +kernel
theorem dX12_wins_91 : decode cX12_wins 91 = .ok (.if_icmp .ge 8, 3) := by decide +kernel
theorem dX12_wins_94 : decode cX12_wins 94 = .ok (.iload 6, 2) := by decide +kernel
theorem dX12_wins_96 : decode cX12_wins 96 = .ok (.goto 5, 3) := by decide +kernel
theorem dX12_wins_99 : decode cX12_wins 99 = .ok (.iload 5, 2) := by decide +kernel
theorem dX12_wins_101 : decode cX12_wins 101 = .ok (.istore 5, 2) := by decide +kernel
theorem dX12_wins_103 : decode cX12_wins 103 = .ok (.iinc 6 1, 3) := by decide +kernel
theorem dX12_wins_106 : decode cX12_wins 106 = .ok (.goto (-74), 3) := by decide +kernel
theorem dX12_wins_109 : decode cX12_wins 109 = .ok (.iload 5, 2) := by decide +kernel
theorem dX12_wins_111 : decode cX12_wins 111 = .ok (.iconst (-1), 1) := by decide +kernel
theorem dX12_wins_112 : decode cX12_wins 112 = .ok (.if_icmp .ne 5, 3) := by decide +kernel
theorem dX12_wins_115 : decode cX12_wins 115 = .ok (.iconst (-1), 1) := by decide +kernel
theorem dX12_wins_116 : decode cX12_wins 116 = .ok (.ireturn, 1) := by decide +kernel
theorem dX12_wins_117 : decode cX12_wins 117 = .ok (.iload_n 3, 1) := by decide +kernel
theorem dX12_wins_118 : decode cX12_wins 118 = .ok (.iconst 1, 1) := by decide +kernel
theorem dX12_wins_119 : decode cX12_wins 119 = .ok (.iload 5, 2) := by decide +kernel
theorem dX12_wins_121 : decode cX12_wins 121 = .ok (.ishl, 1) := by decide +kernel
theorem dX12_wins_122 : decode cX12_wins 122 = .ok (.ior, 1) := by decide +kernel
theorem dX12_wins_123 : decode cX12_wins 123 = .ok (.istore_n 3, 1) := by decide +kernel
theorem dX12_wins_124 : decode cX12_wins 124 = .ok (.iload_n 2, 1) := by decide +kernel
theorem dX12_wins_125 : decode cX12_wins 125 = .ok (.aload_n 0, 1) := by decide +kernel
theorem dX12_wins_126 : decode cX12_wins 126 = .ok (.iload 5, 2) := by decide +kernel
theorem dX12_wins_128 : decode cX12_wins 128 = .ok (.iconst 1, 1) := by decide +kernel
theorem dX12_wins_129 : decode cX12_wins 129 = .ok (.invokevirtual 312, 3) := by decide +kernel
theorem dX12_wins_132 : decode cX12_wins 132 = .ok (.iadd, 1) := by decide +kernel
theorem dX12_wins_133 : decode cX12_wins 133 = .ok (.istore_n 2, 1) := by decide +kernel
theorem dX12_wins_134 : decode cX12_wins 134 = .ok (.iinc 4 1, 3) := by decide +kernel
theorem dX12_wins_137 : decode cX12_wins 137 = .ok (.goto (-117), 3) := by decide +kernel
theorem dX12_wins_140 : decode cX12_wins 140 = .ok (.iload_n 2, 1) := by decide +kernel
theorem dX12_wins_141 : decode cX12_wins 141 = .ok (.ireturn, 1) := by decide +kernel
theorem dX12_choice_0 : decode cX12_choice 0 = .ok (.iload_n 1, 1) := by decide +kernel
theorem dX12_choice_1 : decode cX12_choice 1 = .ok (.ifCond .eq 14, 3) := by decide +kernel
theorem dX12_choice_4 : decode cX12_choice 4 = .ok (.aload_n 0, 1) := by decide +kernel
theorem dX12_choice_5 : decode cX12_choice 5 = .ok (.iload_n 2, 1) := by decide +kernel
theorem dX12_choice_6 : decode cX12_choice 6 = .ok (.invokevirtual 167, 3) := by decide +kernel
theorem dX12_choice_9 : decode cX12_choice 9 = .ok (.ifCond .eq 23, 3) := by decide +kernel
theorem dX12_choice_12 : decode cX12_choice 12 = .ok (.goto 10, 3) := by decide +kernel
theorem dX12_choice_15 : decode cX12_choice 15 = .ok (.iload_n 2, 1) := by decide +kernel
theorem dX12_choice_16 : decode cX12_choice 16 = .ok (.invokestatic 154, 3) := by decide +kernel
theorem dX12_choice_19 : decode cX12_choice 19 = .ok (.ifCond .eq 13, 3) := by decide +kernel
theorem dX12_choice_22 : decode cX12_choice 22 = .ok (.iload_n 3, 1) := by decide +kernel
theorem dX12_choice_23 : decode cX12_choice 23 = .ok (.iconst 0, 1) := by decide +kernel
theorem dX12_choice_24 : decode cX12_choice 24 = .ok (.bipush 100, 2) := by decide +kernel
theorem dX12_choice_26 : decode cX12_choice 26 = .ok (.invokestatic 144, 3) := by decide +kernel
theorem dX12_choice_29 : decode cX12_choice 29 = .ok (.ifCond .ne 6, 3) := by decide +kernel
theorem dX12_choice_32 : decode cX12_choice 32 = .ok (.bipush (-2), 2) := by decide +kernel
theorem dX12_choice_34 : decode cX12_choice 34 = .ok (.ireturn, 1) := by decide +kernel
theorem dX12_choice_35 : decode cX12_choice 35 = .ok (.aload_n 0, 1) := by decide +kernel
theorem dX12_choice_36 : decode cX12_choice 36 = .ok (.getfield 315, 3) := by decide +kernel
theorem dX12_choice_39 : decode cX12_choice 39 = .ok (.bipush 8, 2) := by decide +kernel
theorem dX12_choice_41 : decode cX12_choice 41 = .ok (.if_icmp .ne 6, 3) := by decide +kernel
theorem dX12_choice_44 : decode cX12_choice 44 = .ok (.bipush (-4), 2) := by decide +kernel
theorem dX12_choice_46 : decode cX12_choice 46 = .ok (.ireturn, 1) := by decide +kernel
theorem dX12_choice_47 : decode cX12_choice 47 = .ok (.aload_n 0, 1) := by decide +kernel
theorem dX12_choice_48 : decode cX12_choice 48 = .ok (.getfield 114, 3) := by decide +kernel
theorem dX12_choice_51 : decode cX12_choice 51 = .ok (.aload_n 0, 1) := by decide +kernel
theorem dX12_choice_52 : decode cX12_choice 52 = .ok (.getfield 315, 3) := by decide +kernel
theorem dX12_choice_55 : decode cX12_choice 55 = .ok (.iload_n 1, 1) := by decide +kernel
theorem dX12_choice_56 : decode cX12_choice 56 = .ok (.bastore, 1) := by decide +kernel
theorem dX12_choice_57 : decode cX12_choice 57 = .ok (.aload_n 0, 1) := by decide +kernel
theorem dX12_choice_58 : decode cX12_choice 58 = .ok (.getfield 117, 3) := by decide +kernel
theorem dX12_choice_61 : decode cX12_choice 61 = .ok (.aload_n 0, 1) := by decide +kernel
theorem dX12_choice_62 : decode cX12_choice 62 = .ok (.getfield 315, 3) := by decide +kernel
theorem dX12_choice_65 : decode cX12_choice 65 = .ok (.iload_n 2, 1) := by decide +kernel
theorem dX12_choice_66 : decode cX12_choice 66 = .ok (.iastore, 1) := by decide +kernel
theorem dX12_choice_67 : decode cX12_choice 67 = .ok (.aload_n 0, 1) := by decide +kernel
theorem dX12_choice_68 : decode cX12_choice 68 = .ok (.getfield 120, 3) := by decide +kernel
theorem dX12_choice_71 : decode cX12_choice 71 = .ok (.aload_n 0, 1) := by decide +kernel
theorem dX12_choice_72 : decode cX12_choice 72 = .ok (.getfield 315, 3) := by decide +kernel
theorem dX12_choice_75 : decode cX12_choice 75 = .ok (.iload_n 3, 1) := by decide +kernel
theorem dX12_choice_76 : decode cX12_choice 76 = .ok (.iastore, 1) := by decide +kernel
theorem dX12_choice_77 : decode cX12_choice 77 = .ok (.aload_n 0, 1) := by decide +kernel
theorem dX12_choice_78 : decode cX12_choice 78 = .ok (.dup, 1) := by decide +kernel
theorem dX12_choice_79 : decode cX12_choice 79 = .ok (.getfield 315, 3) := by decide +kernel
theorem dX12_choice_82 : decode cX12_choice 82 = .ok (.iconst 1, 1) := by decide +kernel
theorem dX12_choice_83 : decode cX12_choice 83 = .ok (.iadd, 1) := by decide +kernel
theorem dX12_choice_84 : decode cX12_choice 84 = .ok (.putfield 315, 3) := by decide +kernel
theorem dX12_choice_87 : decode cX12_choice 87 = .ok (.aload_n 0, 1) := by decide +kernel
theorem dX12_choice_88 : decode cX12_choice 88 = .ok (.getfield 315, 3) := by decide +kernel
theorem dX12_choice_91 : decode cX12_choice 91 = .ok (.ireturn, 1) := by decide +kernel
theorem dX12_drop_0 : decode cX12_drop 0 = .ok (.aload_n 0, 1) := by decide +kernel
theorem dX12_drop_1 : decode cX12_drop 1 = .ok (.getfield 315, 3) := by decide +kernel
theorem dX12_drop_4 : decode cX12_drop 4 = .ok (.istore_n 1, 1) := by decide +kernel
theorem dX12_drop_5 : decode cX12_drop 5 = .ok (.aload_n 0, 1) := by decide +kernel
theorem dX12_drop_6 : decode cX12_drop 6 = .ok (.iconst 0, 1) := by decide +kernel
theorem dX12_drop_7 : decode cX12_drop 7 = .ok (.putfield 315, 3) := by decide +kernel
theorem dX12_drop_10 : decode cX12_drop 10 = .ok (.iload_n 1, 1) := by decide +kernel
theorem dX12_drop_11 : decode cX12_drop 11 = .ok (.ireturn, 1) := by decide +kernel
theorem dX12_rightMany_0 : decode cX12_rightMany 0 = .ok (.iconst 0, 1) := by decide +kernel
theorem dX12_rightMany_1 : decode cX12_rightMany 1 = .ok (.istore_n 1, 1) := by decide +kernel
theorem dX12_rightMany_2 : decode cX12_rightMany 2 = .ok (.iconst 0, 1) := by decide +kernel
theorem dX12_rightMany_3 : decode cX12_rightMany 3 = .ok (.istore_n 2, 1) := by decide +kernel
theorem dX12_rightMany_4 : decode cX12_rightMany 4 = .ok (.iload_n 2, 1) := by decide +kernel
theorem dX12_rightMany_5 : decode cX12_rightMany 5 = .ok (.bipush 20, 2) := by decide +kernel
theorem dX12_rightMany_7 : decode cX12_rightMany 7 = .ok (.if_icmp .ge 30, 3) := by decide +kernel
theorem dX12_rightMany_10 : decode cX12_rightMany 10 = .ok (.iload_n 1, 1) := by decide +kernel
theorem dX12_rightMany_11 : decode cX12_rightMany 11 = .ok (.aload_n 0, 1) := by decide +kernel
theorem dX12_rightMany_12 : decode cX12_rightMany 12 = .ok (.iload_n 2, 1) := by decide +kernel
theorem dX12_rightMany_13 : decode cX12_rightMany 13 = .ok (.aload_n 0, 1) := by decide +kernel
theorem dX12_rightMany_14 : decode cX12_rightMany 14 = .ok (.getfield 151, 3) := by decide +kernel
theorem dX12_rightMany_17 : decode cX12_rightMany 17 = .ok (.invokevirtual 213, 3) := by decide +kernel
theorem dX12_rightMany_20 : decode cX12_rightMany 20 = .ok (.iconst (-1), 1) := by decide +kernel
theorem dX12_rightMany_21 : decode cX12_rightMany 21 = .ok (.if_icmp .ne 7, 3) := by decide +kernel
theorem dX12_rightMany_24 : decode cX12_rightMany 24 = .ok (.iconst 0, 1) := by decide +kernel
theorem dX12_rightMany_25 : decode cX12_rightMany 25 = .ok (.goto 4, 3) := by decide +kernel
theorem dX12_rightMany_28 : decode cX12_rightMany 28 = .ok (.iconst 1, 1) := by decide +kernel
theorem dX12_rightMany_29 : decode cX12_rightMany 29 = .ok (.iadd, 1) := by decide +kernel
theorem dX12_rightMany_30 : decode cX12_rightMany 30 = .ok (.istore_n 1, 1) := by decide +kernel
theorem dX12_rightMany_31 : decode cX12_rightMany 31 = .ok (.iinc 2 1, 3) := by decide +kernel
theorem dX12_rightMany_34 : decode cX12_rightMany 34 = .ok (.goto (-30), 3) := by decide +kernel
theorem dX12_rightMany_37 : decode cX12_rightMany 37 = .ok (.iload_n 1, 1) := by decide +kernel
theorem dX12_rightMany_38 : decode cX12_rightMany 38 = .ok (.ireturn, 1) := by decide +kernel
theorem dX12_isFree_0 : decode cX12_isFree 0 = .ok (.aload_n 0, 1) := by decide +kernel
theorem dX12_isFree_1 : decode cX12_isFree 1 = .ok (.iload_n 1, 1) := by decide +kernel
theorem dX12_isFree_2 : decode cX12_isFree 2 = .ok (.invokevirtual 229, 3) := by decide +kernel
theorem dX12_isFree_5 : decode cX12_isFree 5 = .ok (.ifCond .eq 33, 3) := by decide +kernel
theorem dX12_isFree_8 : decode cX12_isFree 8 = .ok (.aload_n 0, 1) := by decide +kernel
theorem dX12_isFree_9 : decode cX12_isFree 9 = .ok (.getfield 126, 3) := by decide +kernel
theorem dX12_isFree_12 : decode cX12_isFree 12 = .ok (.iload_n 1, 1) := by decide +kernel
theorem dX12_isFree_13 : decode cX12_isFree 13 = .ok (.baload, 1) := by decide +kernel
theorem dX12_isFree_14 : decode cX12_isFree 14 = .ok (.ifCond .ne 24, 3) := by decide +kernel
theorem dX12_isFree_17 : decode cX12_isFree 17 = .ok (.aload_n 0, 1) := by decide +kernel
theorem dX12_isFree_18 : decode cX12_isFree 18 = .ok (.aload_n 0, 1) := by decide +kernel
theorem dX12_isFree_19 : decode cX12_isFree 19 = .ok (.getfield 13, 3) := by decide +kernel
theorem dX12_isFree_22 : decode cX12_isFree 22 = .ok (.iload_n 1, 1) := by decide +kernel
theorem dX12_isFree_23 : decode cX12_isFree 23 = .ok (.iaload, 1) := by decide +kernel
theorem dX12_isFree_24 : decode cX12_isFree 24 = .ok (.aload_n 0, 1) := by decide +kernel
theorem dX12_isFree_25 : decode cX12_isFree 25 = .ok (.getfield 151, 3) := by decide +kernel
theorem dX12_isFree_28 : decode cX12_isFree 28 = .ok (.invokevirtual 235, 3) := by decide +kernel
theorem dX12_isFree_31 : decode cX12_isFree 31 = .ok (.ifCond .eq 7, 3) := by decide +kernel
theorem dX12_isFree_34 : decode cX12_isFree 34 = .ok (.iconst 1, 1) := by decide +kernel
theorem dX12_isFree_35 : decode cX12_isFree 35 = .ok (.goto 4, 3) := by decide +kernel
theorem dX12_isFree_38 : decode cX12_isFree 38 = .ok (.iconst 0, 1) := by decide +kernel
theorem dX12_isFree_39 : decode cX12_isFree 39 = .ok (.ireturn, 1) := by decide +kernel
theorem dX12_judges_0 : decode cX12_judges 0 = .ok (.aload_n 0, 1) := by decide +kernel
theorem dX12_judges_1 : decode cX12_judges 1 = .ok (.invokevirtual 318, 3) := by decide +kernel
theorem dX12_judges_4 : decode cX12_judges 4 = .ok (.aload_n 0, 1) := by decide +kernel
theorem dX12_judges_5 : decode cX12_judges 5 = .ok (.iconst 0, 1) := by decide +kernel
theorem dX12_judges_6 : decode cX12_judges 6 = .ok (.aload_n 0, 1) := by decide +kernel
theorem dX12_judges_7 : decode cX12_judges 7 = .ok (.getfield 151, 3) := by decide +kernel
theorem dX12_judges_10 : decode cX12_judges 10 = .ok (.invokevirtual 216, 3) := by decide +kernel
theorem dX12_judges_13 : decode cX12_judges 13 = .ok (.if_icmp .lt 7, 3) := by decide +kernel
theorem dX12_judges_16 : decode cX12_judges 16 = .ok (.iconst 1, 1) := by decide +kernel
theorem dX12_judges_17 : decode cX12_judges 17 = .ok (.goto 4, 3) := by decide +kernel
theorem dX12_judges_20 : decode cX12_judges 20 = .ok (.iconst 0, 1) := by decide +kernel
theorem dX12_judges_21 : decode cX12_judges 21 = .ok (.istore_n 2, 1) := by decide +kernel
theorem dX12_judges_22 : decode cX12_judges 22 = .ok (.aload_n 0, 1) := by decide +kernel
theorem dX12_judges_23 : decode cX12_judges 23 = .ok (.iconst 2, 1) := by decide +kernel
theorem dX12_judges_24 : decode cX12_judges 24 = .ok (.aload_n 0, 1) := by decide +kernel
theorem dX12_judges_25 : decode cX12_judges 25 = .ok (.getfield 151, 3) := by decide +kernel
theorem dX12_judges_28 : decode cX12_judges 28 = .ok (.invokevirtual 216, 3) := by decide +kernel
theorem dX12_judges_31 : decode cX12_judges 31 = .ok (.istore_n 3, 1) := by decide +kernel
theorem dX12_judges_32 : decode cX12_judges 32 = .ok (.aload_n 0, 1) := by decide +kernel
theorem dX12_judges_33 : decode cX12_judges 33 = .ok (.iconst 0, 1) := by decide +kernel
theorem dX12_judges_34 : decode cX12_judges 34 = .ok (.putfield 321, 3) := by decide +kernel
theorem dX12_judges_37 : decode cX12_judges 37 = .ok (.aload_n 0, 1) := by decide +kernel
theorem dX12_judges_38 : decode cX12_judges 38 = .ok (.iconst 0, 1) := by decide +kernel
theorem dX12_judges_39 : decode cX12_judges 39 = .ok (.putfield 324, 3) := by decide +kernel
theorem dX12_judges_42 : decode cX12_judges 42 = .ok (.aload_n 0, 1) := by decide +kernel
theorem dX12_judges_43 : decode cX12_judges 43 = .ok (.iconst 0, 1) := by decide +kernel
theorem dX12_judges_44 : decode cX12_judges 44 = .ok (.putfield 327, 3) := by decide +kernel
theorem dX12_judges_47 : decode cX12_judges 47 = .ok (.iconst 0, 1) := by decide +kernel
theorem dX12_judges_48 : decode cX12_judges 48 = .ok (.istore 4, 2) := by decide +kernel
