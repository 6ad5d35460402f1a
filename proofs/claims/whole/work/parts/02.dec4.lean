theorem dX10_most_27 : decode cX10_most 27 = .ok (.bipush 60, 2) := by decide +kernel
theorem dX10_most_29 : decode cX10_most 29 = .ok (.goto 13, 3) := by decide +kernel
theorem dX10_most_32 : decode cX10_most 32 = .ok (.aload_n 0, 1) := by decide +kernel
theorem dX10_most_33 : decode cX10_most 33 = .ok (.getfield 81, 3) := by decide +kernel
theorem dX10_most_36 : decode cX10_most 36 = .ok (.iconst 3, 1) := by decide +kernel
theorem dX10_most_37 : decode cX10_most 37 = .ok (.iload_n 1, 1) := by decide +kernel
theorem dX10_most_38 : decode cX10_most 38 = .ok (.imul, 1) := by decide +kernel
theorem dX10_most_39 : decode cX10_most 39 = .ok (.iload_n 2, 1) := by decide +kernel
theorem dX10_most_40 : decode cX10_most 40 = .ok (.iadd, 1) := by decide +kernel
theorem dX10_most_41 : decode cX10_most 41 = .ok (.iaload, 1) := by decide +kernel
theorem dX10_most_42 : decode cX10_most 42 = .ok (.ireturn, 1) := by decide +kernel
theorem dX10_findPattern_0 : decode cX10_findPattern 0 = .ok (.iload_n 2, 1) := by decide +kernel
theorem dX10_findPattern_1 : decode cX10_findPattern 1 = .ok (.aload_n 0, 1) := by decide +kernel
theorem dX10_findPattern_2 : decode cX10_findPattern 2 = .ok (.getfield 7, 3) := by decide +kernel
theorem dX10_findPattern_5 : decode cX10_findPattern 5 = .ok (.iconst 4, 1) := by decide +kernel
theorem dX10_findPattern_6 : decode cX10_findPattern 6 = .ok (.iaload, 1) := by decide +kernel
theorem dX10_findPattern_7 : decode cX10_findPattern 7 = .ok (.iadd, 1) := by decide +kernel
theorem dX10_findPattern_8 : decode cX10_findPattern 8 = .ok (.istore_n 3, 1) := by decide +kernel
theorem dX10_findPattern_9 : decode cX10_findPattern 9 = .ok (.aload_n 0, 1) := by decide +kernel
theorem dX10_findPattern_10 : decode cX10_findPattern 10 = .ok (.iconst (-1), 1) := by decide +kernel
theorem dX10_findPattern_11 : decode cX10_findPattern 11 = .ok (.putfield 171, 3) := by decide +kernel
theorem dX10_findPattern_14 : decode cX10_findPattern 14 = .ok (.iconst 0, 1) := by decide +kernel
theorem dX10_findPattern_15 : decode cX10_findPattern 15 = .ok (.istore 4, 2) := by decide +kernel
theorem dX10_findPattern_17 : decode cX10_findPattern 17 = .ok (.aload_n 0, 1) := by decide +kernel
theorem dX10_findPattern_18 : decode cX10_findPattern 18 = .ok (.iload_n 1, 1) := by decide +kernel
theorem dX10_findPattern_19 : decode cX10_findPattern 19 = .ok (.iconst 0, 1) := by decide +kernel
theorem dX10_findPattern_20 : decode cX10_findPattern 20 = .ok (.invokevirtual 174, 3) := by decide +kernel
theorem dX10_findPattern_23 : decode cX10_findPattern 23 = .ok (.istore 5, 2) := by decide +kernel
theorem dX10_findPattern_25 : decode cX10_findPattern 25 = .ok (.iload 5, 2) := by decide +kernel
theorem dX10_findPattern_27 : decode cX10_findPattern 27 = .ok (.ifCond .lt 228, 3) := by decide +kernel
theorem dX10_findPattern_30 : decode cX10_findPattern 30 = .ok (.aload_n 0, 1) := by decide +kernel
theorem dX10_findPattern_31 : decode cX10_findPattern 31 = .ok (.iload_n 1, 1) := by decide +kernel
theorem dX10_findPattern_32 : decode cX10_findPattern 32 = .ok (.iconst 1, 1) := by decide +kernel
theorem dX10_findPattern_33 : decode cX10_findPattern 33 = .ok (.invokevirtual 174, 3) := by decide +kernel
theorem dX10_findPattern_36 : decode cX10_findPattern 36 = .ok (.istore 6, 2) := by decide +kernel
theorem dX10_findPattern_38 : decode cX10_findPattern 38 = .ok (.iload 6, 2) := by decide +kernel
theorem dX10_findPattern_40 : decode cX10_findPattern 40 = .ok (.ifCond .lt 209, 3) := by decide +kernel
theorem dX10_findPattern_43 : decode cX10_findPattern 43 = .ok (.iload_n 3, 1) := by decide +kernel
theorem dX10_findPattern_44 : decode cX10_findPattern 44 = .ok (.iload 5, 2) := by decide +kernel
theorem dX10_findPattern_46 : decode cX10_findPattern 46 = .ok (.aload_n 0, 1) := by decide +kernel
theorem dX10_findPattern_47 : decode cX10_findPattern 47 = .ok (.iload_n 1, 1) := by decide +kernel
theorem dX10_findPattern_48 : decode cX10_findPattern 48 = .ok (.iconst 0, 1) := by decide +kernel
theorem dX10_findPattern_49 : decode cX10_findPattern 49 = .ok (.invokevirtual 178, 3) := by decide +kernel
theorem dX10_findPattern_52 : decode cX10_findPattern 52 = .ok (.aload_n 0, 1) := by decide +kernel
theorem dX10_findPattern_53 : decode cX10_findPattern 53 = .ok (.getfield 7, 3) := by decide +kernel
theorem dX10_findPattern_56 : decode cX10_findPattern 56 = .ok (.iconst 4, 1) := by decide +kernel
theorem dX10_findPattern_57 : decode cX10_findPattern 57 = .ok (.iaload, 1) := by decide +kernel
theorem dX10_findPattern_58 : decode cX10_findPattern 58 = .ok (.iadd, 1) := by decide +kernel
theorem dX10_findPattern_59 : decode cX10_findPattern 59 = .ok (.imul, 1) := by decide +kernel
theorem dX10_findPattern_60 : decode cX10_findPattern 60 = .ok (.isub, 1) := by decide +kernel
theorem dX10_findPattern_61 : decode cX10_findPattern 61 = .ok (.iload 6, 2) := by decide +kernel
theorem dX10_findPattern_63 : decode cX10_findPattern 63 = .ok (.aload_n 0, 1) := by decide +kernel
theorem dX10_findPattern_64 : decode cX10_findPattern 64 = .ok (.iload_n 1, 1) := by decide +kernel
theorem dX10_findPattern_65 : decode cX10_findPattern 65 = .ok (.iconst 1, 1) := by decide +kernel
theorem dX10_findPattern_66 : decode cX10_findPattern 66 = .ok (.invokevirtual 178, 3) := by decide +kernel
theorem dX10_findPattern_69 : decode cX10_findPattern 69 = .ok (.aload_n 0, 1) := by decide +kernel
theorem dX10_findPattern_70 : decode cX10_findPattern 70 = .ok (.getfield 7, 3) := by decide +kernel
theorem dX10_findPattern_73 : decode cX10_findPattern 73 = .ok (.iconst 4, 1) := by decide +kernel
theorem dX10_findPattern_74 : decode cX10_findPattern 74 = .ok (.iaload, 1) := by decide +kernel
theorem dX10_findPattern_75 : decode cX10_findPattern 75 = .ok (.iadd, 1) := by decide +kernel
theorem dX10_findPattern_76 : decode cX10_findPattern 76 = .ok (.imul, 1) := by decide +kernel
theorem dX10_findPattern_77 : decode cX10_findPattern 77 = .ok (.isub, 1) := by decide +kernel
theorem dX10_findPattern_78 : decode cX10_findPattern 78 = .ok (.istore 7, 2) := by decide +kernel
theorem dX10_findPattern_80 : decode cX10_findPattern 80 = .ok (.iload 7, 2) := by decide +kernel
theorem dX10_findPattern_82 : decode cX10_findPattern 82 = .ok (.ifCond .lt 161, 3) := by decide +kernel
theorem dX10_findPattern_85 : decode cX10_findPattern 85 = .ok (.aload_n 0, 1) := by decide +kernel
theorem dX10_findPattern_86 : decode cX10_findPattern 86 = .ok (.getfield 75, 3) := by decide +kernel
theorem dX10_findPattern_89 : decode cX10_findPattern 89 = .ok (.iload_n 1, 1) := by decide +kernel
theorem dX10_findPattern_90 : decode cX10_findPattern 90 = .ok (.iaload, 1) := by decide +kernel
theorem dX10_findPattern_91 : decode cX10_findPattern 91 = .ok (.iconst 3, 1) := by decide +kernel
theorem dX10_findPattern_92 : decode cX10_findPattern 92 = .ok (.if_icmp .ge 7, 3) := by decide +kernel
theorem dX10_findPattern_95 : decode cX10_findPattern 95 = .ok (.iconst 0, 1) := by decide +kernel
theorem dX10_findPattern_96 : decode cX10_findPattern 96 = .ok (.goto 19, 3) := by decide +kernel
theorem dX10_findPattern_99 : decode cX10_findPattern 99 = .ok (.iload 7, 2) := by decide +kernel
theorem dX10_findPattern_101 : decode cX10_findPattern 101 = .ok (.aload_n 0, 1) := by decide +kernel
theorem dX10_findPattern_102 : decode cX10_findPattern 102 = .ok (.iload_n 1, 1) := by decide +kernel
theorem dX10_findPattern_103 : decode cX10_findPattern 103 = .ok (.iconst 2, 1) := by decide +kernel
theorem dX10_findPattern_104 : decode cX10_findPattern 104 = .ok (.invokevirtual 178, 3) := by decide +kernel
theorem dX10_findPattern_107 : decode cX10_findPattern 107 = .ok (.aload_n 0, 1) := by decide +kernel
theorem dX10_findPattern_108 : decode cX10_findPattern 108 = .ok (.getfield 7, 3) := by decide +kernel
theorem dX10_findPattern_111 : decode cX10_findPattern 111 = .ok (.iconst 4, 1) := by decide +kernel
theorem dX10_findPattern_112 : decode cX10_findPattern 112 = .ok (.iaload, 1) := by decide +kernel
theorem dX10_findPattern_113 : decode cX10_findPattern 113 = .ok (.iadd, 1) := by decide +kernel
theorem dX10_findPattern_114 : decode cX10_findPattern 114 = .ok (.idiv, 1) := by decide +kernel
theorem dX10_findPattern_115 : decode cX10_findPattern 115 = .ok (.istore 8, 2) := by decide +kernel
theorem dX10_findPattern_117 : decode cX10_findPattern 117 = .ok (.iload 8, 2) := by decide +kernel
theorem dX10_findPattern_119 : decode cX10_findPattern 119 = .ok (.aload_n 0, 1) := by decide +kernel
theorem dX10_findPattern_120 : decode cX10_findPattern 120 = .ok (.iload_n 1, 1) := by decide +kernel
theorem dX10_findPattern_121 : decode cX10_findPattern 121 = .ok (.iconst 2, 1) := by decide +kernel
theorem dX10_findPattern_122 : decode cX10_findPattern 122 = .ok (.invokevirtual 174, 3) := by decide +kernel
theorem dX10_findPattern_125 : decode cX10_findPattern 125 = .ok (.if_icmp .le 12, 3) := by decide +kernel
theorem dX10_findPattern_128 : decode cX10_findPattern 128 = .ok (.aload_n 0, 1) := by decide +kernel
theorem dX10_findPattern_129 : decode cX10_findPattern 129 = .ok (.iload_n 1, 1) := by decide +kernel
theorem dX10_findPattern_130 : decode cX10_findPattern 130 = .ok (.iconst 2, 1) := by decide +kernel
theorem dX10_findPattern_131 : decode cX10_findPattern 131 = .ok (.invokevirtual 174, 3) := by decide +kernel
theorem dX10_findPattern_134 : decode cX10_findPattern 134 = .ok (.goto 5, 3) := by decide +kernel
theorem dX10_findPattern_137 : decode cX10_findPattern 137 = .ok (.iload 8, 2) := by decide +kernel
theorem dX10_findPattern_139 : decode cX10_findPattern 139 = .ok (.istore 8, 2) := by decide +kernel
theorem dX10_findPattern_141 : decode cX10_findPattern 141 = .ok (.iload 5, 2) := by decide +kernel
theorem dX10_findPattern_143 : decode cX10_findPattern 143 = .ok (.aload_n 0, 1) := by decide +kernel
theorem dX10_findPattern_144 : decode cX10_findPattern 144 = .ok (.iload_n 1, 1) := by decide +kernel
theorem dX10_findPattern_145 : decode cX10_findPattern 145 = .ok (.iconst 0, 1) := by decide +kernel
theorem dX10_findPattern_146 : decode cX10_findPattern 146 = .ok (.invokevirtual 178, 3) := by decide +kernel
theorem dX10_findPattern_149 : decode cX10_findPattern 149 = .ok (.imul, 1) := by decide +kernel
theorem dX10_findPattern_150 : decode cX10_findPattern 150 = .ok (.iload 6, 2) := by decide +kernel
theorem dX10_findPattern_152 : decode cX10_findPattern 152 = .ok (.aload_n 0, 1) := by decide +kernel
theorem dX10_findPattern_153 : decode cX10_findPattern 153 = .ok (.iload_n 1, 1) := by decide +kernel
theorem dX10_findPattern_154 : decode cX10_findPattern 154 = .ok (.iconst 1, 1) := by decide +kernel
theorem dX10_findPattern_155 : decode cX10_findPattern 155 = .ok (.invokevirtual 178, 3) := by decide +kernel
theorem dX10_findPattern_158 : decode cX10_findPattern 158 = .ok (.imul, 1) := by decide +kernel
theorem dX10_findPattern_159 : decode cX10_findPattern 159 = .ok (.iadd, 1) := by decide +kernel
theorem dX10_findPattern_160 : decode cX10_findPattern 160 = .ok (.iload 8, 2) := by decide +kernel
theorem dX10_findPattern_162 : decode cX10_findPattern 162 = .ok (.aload_n 0, 1) := by decide +kernel
theorem dX10_findPattern_163 : decode cX10_findPattern 163 = .ok (.iload_n 1, 1) := by decide +kernel
theorem dX10_findPattern_164 : decode cX10_findPattern 164 = .ok (.iconst 2, 1) := by decide +kernel
theorem dX10_findPattern_165 : decode cX10_findPattern 165 = .ok (.invokevirtual 178, 3) := by decide +kernel
theorem dX10_findPattern_168 : decode cX10_findPattern 168 = .ok (.imul, 1) := by decide +kernel
theorem dX10_findPattern_169 : decode cX10_findPattern 169 = .ok (.iadd, 1) := by decide +kernel
theorem dX10_findPattern_170 : decode cX10_findPattern 170 = .ok (.istore 9, 2) := by decide +kernel
theorem dX10_findPattern_172 : decode cX10_findPattern 172 = .ok (.iload 9, 2) := by decide +kernel
theorem dX10_findPattern_174 : decode cX10_findPattern 174 = .ok (.aload_n 0, 1) := by decide +kernel
theorem dX10_findPattern_175 : decode cX10_findPattern 175 = .ok (.getfield 171, 3) := by decide +kernel
theorem dX10_findPattern_178 : decode cX10_findPattern 178 = .ok (.if_icmp .gt 25, 3) := by decide +kernel
theorem dX10_findPattern_181 : decode cX10_findPattern 181 = .ok (.iload 9, 2) := by decide +kernel
theorem dX10_findPattern_183 : decode cX10_findPattern 183 = .ok (.aload_n 0, 1) := by decide +kernel
theorem dX10_findPattern_184 : decode cX10_findPattern 184 = .ok (.getfield 171, 3) := by decide +kernel
theorem dX10_findPattern_187 : decode cX10_findPattern 187 = .ok (.if_icmp .ne 56, 3) := by decide +kernel
theorem dX10_findPattern_190 : decode cX10_findPattern 190 = .ok (.iload 5, 2) := by decide +kernel
theorem dX10_findPattern_192 : decode cX10_findPattern 192 = .ok (.iload 6, 2) := by decide +kernel
theorem dX10_findPattern_194 : decode cX10_findPattern 194 = .ok (.iadd, 1) := by decide +kernel
theorem dX10_findPattern_195 : decode cX10_findPattern 195 = .ok (.iload 8, 2) := by decide +kernel
theorem dX10_findPattern_197 : decode cX10_findPattern 197 = .ok (.iadd, 1) := by decide +kernel
theorem dX10_findPattern_198 : decode cX10_findPattern 198 = .ok (.iload 4, 2) := by decide +kernel
theorem dX10_findPattern_200 : decode cX10_findPattern 200 = .ok (.if_icmp .ge 43, 3) := by decide +kernel
theorem dX10_findPattern_203 : decode cX10_findPattern 203 = .ok (.aload_n 0, 1) := by decide +kernel
theorem dX10_findPattern_204 : decode cX10_findPattern 204 = .ok (.iload 9, 2) := by decide +kernel
theorem dX10_findPattern_206 : decode cX10_findPattern 206 = .ok (.putfield 171, 3) := by decide +kernel
theorem dX10_findPattern_209 : decode cX10_findPattern 209 = .ok (.iload 5, 2) := by decide +kernel
theorem dX10_findPattern_211 : decode cX10_findPattern 211 = .ok (.iload 6, 2) := by decide +kernel
theorem dX10_findPattern_213 : decode cX10_findPattern 213 = .ok (.iadd, 1) := by decide +kernel
theorem dX10_findPattern_214 : decode cX10_findPattern 214 = .ok (.iload 8, 2) := by decide +kernel
theorem dX10_findPattern_216 : decode cX10_findPattern 216 = .ok (.iadd, 1) := by decide +kernel
theorem dX10_findPattern_217 : decode cX10_findPattern 217 = .ok (.istore 4, 2) := by decide +kernel
theorem dX10_findPattern_219 : decode cX10_findPattern 219 = .ok (.aload_n 0, 1) := by decide +kernel
theorem dX10_findPattern_220 : decode cX10_findPattern 220 = .ok (.getfield 84, 3) := by decide +kernel
theorem dX10_findPattern_223 : decode cX10_findPattern 223 = .ok (.iconst 0, 1) := by decide +kernel
theorem dX10_findPattern_224 : decode cX10_findPattern 224 = .ok (.iload 5, 2) := by decide +kernel
theorem dX10_findPattern_226 : decode cX10_findPattern 226 = .ok (.iastore, 1) := by decide +kernel
theorem dX10_findPattern_227 : decode cX10_findPattern 227 = .ok (.aload_n 0, 1) := by decide +kernel
theorem dX10_findPattern_228 : decode cX10_findPattern 228 = .ok (.getfield 84, 3) := by decide +kernel
theorem dX10_findPattern_231 : decode cX10_findPattern 231 = .ok (.iconst 1, 1) := by decide +kernel
theorem dX10_findPattern_232 : decode cX10_findPattern 232 = .ok (.iload 6, 2) := by decide +kernel
theorem dX10_findPattern_234 : decode cX10_findPattern 234 = .ok (.iastore, 1) := by decide +kernel
theorem dX10_findPattern_235 : decode cX10_findPattern 235 = .ok (.aload_n 0, 1) := by decide +kernel
theorem dX10_findPattern_236 : decode cX10_findPattern 236 = .ok (.getfield 84, 3) := by decide +kernel
theorem dX10_findPattern_239 : decode cX10_findPattern 239 = .ok (.iconst 2, 1) := by decide +kernel
theorem dX10_findPattern_240 : decode cX10_findPattern 240 = .ok (.iload 8, 2) := by decide +kernel
theorem dX10_findPattern_242 : decode cX10_findPattern 242 = .ok (.iastore, 1) := by decide +kernel
theorem dX10_findPattern_243 : decode cX10_findPattern 243 = .ok (.iinc 6 (-1), 3) := by decide +kernel
theorem dX10_findPattern_246 : decode cX10_findPattern 246 = .ok (.goto (-208), 3) := by decide +kernel
theorem dX10_findPattern_249 : decode cX10_findPattern 249 = .ok (.iinc 5 (-1), 3) := by decide +kernel
theorem dX10_findPattern_252 : decode cX10_findPattern 252 = .ok (.goto (-227), 3) := by decide +kernel
theorem dX10_findPattern_255 : decode cX10_findPattern 255 = .ok (.return_, 1) := by decide +kernel
theorem dX10_lengthOf_0 : decode cX10_lengthOf 0 = .ok (.iload_n 2, 1) := by decide +kernel
theorem dX10_lengthOf_1 : decode cX10_lengthOf 1 = .ok (.aload_n 0, 1) := by decide +kernel
theorem dX10_lengthOf_2 : decode cX10_lengthOf 2 = .ok (.getfield 75, 3) := by decide +kernel
theorem dX10_lengthOf_5 : decode cX10_lengthOf 5 = .ok (.iload_n 1, 1) := by decide +kernel
theorem dX10_lengthOf_6 : decode cX10_lengthOf 6 = .ok (.iaload, 1) := by decide +kernel
theorem dX10_lengthOf_7 : decode cX10_lengthOf 7 = .ok (.if_icmp .ge 16, 3) := by decide +kernel
theorem dX10_lengthOf_10 : decode cX10_lengthOf 10 = .ok (.aload_n 0, 1) := by decide +kernel
theorem dX10_lengthOf_11 : decode cX10_lengthOf 11 = .ok (.getfield 78, 3) := by decide +kernel
theorem dX10_lengthOf_14 : decode cX10_lengthOf 14 = .ok (.iconst 3, 1) := by decide +kernel
theorem dX10_lengthOf_15 : decode cX10_lengthOf 15 = .ok (.iload_n 1, 1) := by decide +kernel
theorem dX10_lengthOf_16 : decode cX10_lengthOf 16 = .ok (.imul, 1) := by decide +kernel
theorem dX10_lengthOf_17 : decode cX10_lengthOf 17 = .ok (.iload_n 2, 1) := by decide +kernel
theorem dX10_lengthOf_18 : decode cX10_lengthOf 18 = .ok (.iadd, 1) := by decide +kernel
theorem dX10_lengthOf_19 : decode cX10_lengthOf 19 = .ok (.iaload, 1) := by decide +kernel
theorem dX10_lengthOf_20 : decode cX10_lengthOf 20 = .ok (.goto 4, 3) := by decide +kernel
theorem dX10_lengthOf_23 : decode cX10_lengthOf 23 = .ok (.iconst 0, 1) := by decide +kernel
theorem dX10_lengthOf_24 : decode cX10_lengthOf 24 = .ok (.ireturn, 1) := by decide +kernel
theorem dX10_findBar_0 : decode cX10_findBar 0 = .ok (.iload_n 2, 1) := by decide +kernel
theorem dX10_findBar_1 : decode cX10_findBar 1 = .ok (.aload_n 0, 1) := by decide +kernel
theorem dX10_findBar_2 : decode cX10_findBar 2 = .ok (.getfield 7, 3) := by decide +kernel
theorem dX10_findBar_5 : decode cX10_findBar 5 = .ok (.iconst 0, 1) := by decide +kernel
theorem dX10_findBar_6 : decode cX10_findBar 6 = .ok (.iaload, 1) := by decide +kernel
theorem dX10_findBar_7 : decode cX10_findBar 7 = .ok (.if_icmp .le 14, 3) := by decide +kernel
theorem dX10_findBar_10 : decode cX10_findBar 10 = .ok (.iload_n 2, 1) := by decide +kernel
theorem dX10_findBar_11 : decode cX10_findBar 11 = .ok (.aload_n 0, 1) := by decide +kernel
theorem dX10_findBar_12 : decode cX10_findBar 12 = .ok (.getfield 7, 3) := by decide +kernel
theorem dX10_findBar_15 : decode cX10_findBar 15 = .ok (.iconst 0, 1) := by decide +kernel
theorem dX10_findBar_16 : decode cX10_findBar 16 = .ok (.iaload, 1) := by decide +kernel
theorem dX10_findBar_17 : decode cX10_findBar 17 = .ok (.isub, 1) := by decide +kernel
theorem dX10_findBar_18 : decode cX10_findBar 18 = .ok (.goto 4, 3) := by decide +kernel
theorem dX10_findBar_21 : decode cX10_findBar 21 = .ok (.iconst 0, 1) := by decide +kernel
theorem dX10_findBar_22 : decode cX10_findBar 22 = .ok (.istore 4, 2) := by decide +kernel
theorem dX10_findBar_24 : decode cX10_findBar 24 = .ok (.aload_n 0, 1) := by decide +kernel
theorem dX10_findBar_25 : decode cX10_findBar 25 = .ok (.iload 4, 2) := by decide +kernel
theorem dX10_findBar_27 : decode cX10_findBar 27 = .ok (.i2l, 1) := by decide +kernel
theorem dX10_findBar_28 : decode cX10_findBar 28 = .ok (.aload_n 0, 1) := by decide +kernel
theorem dX10_findBar_29 : decode cX10_findBar 29 = .ok (.getfield 16, 3) := by decide +kernel
theorem dX10_findBar_32 : decode cX10_findBar 32 = .ok (.iload_n 1, 1) := by decide +kernel
theorem dX10_findBar_33 : decode cX10_findBar 33 = .ok (.iaload, 1) := by decide +kernel
theorem dX10_findBar_34 : decode cX10_findBar 34 = .ok (.i2l, 1) := by decide +kernel
theorem dX10_findBar_35 : decode cX10_findBar 35 = .ok (.lmul, 1) := by decide +kernel
theorem dX10_findBar_36 : decode cX10_findBar 36 = .ok (.sipush 1000, 3) := by decide +kernel
theorem dX10_findBar_39 : decode cX10_findBar 39 = .ok (.aload_n 0, 1) := by decide +kernel
theorem dX10_findBar_40 : decode cX10_findBar 40 = .ok (.getfield 7, 3) := by decide +kernel
theorem dX10_findBar_43 : decode cX10_findBar 43 = .ok (.iconst 5, 1) := by decide +kernel
theorem dX10_findBar_44 : decode cX10_findBar 44 = .ok (.iaload, 1) := by decide +kernel
theorem dX10_findBar_45 : decode cX10_findBar 45 = .ok (.iadd, 1) := by decide +kernel
theorem dX10_findBar_46 : decode cX10_findBar 46 = .ok (.i2l, 1) := by decide +kernel
theorem dX10_findBar_47 : decode cX10_findBar 47 = .ok (.lmul, 1) := by decide +kernel
theorem dX10_findBar_48 : decode cX10_findBar 48 = .ok (.ldc2_w 181, 3) := by decide +kernel
theorem dX10_findBar_51 : decode cX10_findBar 51 = .ok (.ldiv, 1) := by decide +kernel
theorem dX10_findBar_52 : decode cX10_findBar 52 = .ok (.l2i, 1) := by decide +kernel
theorem dX10_findBar_53 : decode cX10_findBar 53 = .ok (.putfield 183, 3) := by decide +kernel
theorem dX10_findBar_56 : decode cX10_findBar 56 = .ok (.aload_n 0, 1) := by decide +kernel
theorem dX10_findBar_57 : decode cX10_findBar 57 = .ok (.aload_n 0, 1) := by decide +kernel
theorem dX10_findBar_58 : decode cX10_findBar 58 = .ok (.getfield 7, 3) := by decide +kernel
theorem dX10_findBar_61 : decode cX10_findBar 61 = .ok (.iconst 1, 1) := by decide +kernel
theorem dX10_findBar_62 : decode cX10_findBar 62 = .ok (.iaload, 1) := by decide +kernel
theorem dX10_findBar_63 : decode cX10_findBar 63 = .ok (.aload_n 0, 1) := by decide +kernel
theorem dX10_findBar_64 : decode cX10_findBar 64 = .ok (.getfield 183, 3) := by decide +kernel
theorem dX10_findBar_67 : decode cX10_findBar 67 = .ok (.if_icmp .ge 12, 3) := by decide +kernel
theorem dX10_findBar_70 : decode cX10_findBar 70 = .ok (.aload_n 0, 1) := by decide +kernel
theorem dX10_findBar_71 : decode cX10_findBar 71 = .ok (.getfield 7, 3) := by decide +kernel
theorem dX10_findBar_74 : decode cX10_findBar 74 = .ok (.iconst 1, 1) := by decide +kernel
theorem dX10_findBar_75 : decode cX10_findBar 75 = .ok (.iaload, 1) := by decide +kernel
theorem dX10_findBar_76 : decode cX10_findBar 76 = .ok (.goto 7, 3) := by decide +kernel
theorem dX10_findBar_79 : decode cX10_findBar 79 = .ok (.aload_n 0, 1) := by decide +kernel
theorem dX10_findBar_80 : decode cX10_findBar 80 = .ok (.getfield 183, 3) := by decide +kernel
theorem dX10_findBar_83 : decode cX10_findBar 83 = .ok (.putfield 186, 3) := by decide +kernel
theorem dX10_findBar_86 : decode cX10_findBar 86 = .ok (.aload_n 0, 1) := by decide +kernel
theorem dX10_findBar_87 : decode cX10_findBar 87 = .ok (.aload_n 0, 1) := by decide +kernel
theorem dX10_findBar_88 : decode cX10_findBar 88 = .ok (.getfield 7, 3) := by decide +kernel
theorem dX10_findBar_91 : decode cX10_findBar 91 = .ok (.iconst 2, 1) := by decide +kernel
theorem dX10_findBar_92 : decode cX10_findBar 92 = .ok (.iaload, 1) := by decide +kernel
theorem dX10_findBar_93 : decode cX10_findBar 93 = .ok (.aload_n 0, 1) := by decide +kernel
theorem dX10_findBar_94 : decode cX10_findBar 94 = .ok (.getfield 183, 3) := by decide +kernel
theorem dX10_findBar_97 : decode cX10_findBar 97 = .ok (.aload_n 0, 1) := by decide +kernel
theorem dX10_findBar_98 : decode cX10_findBar 98 = .ok (.getfield 186, 3) := by decide +kernel
theorem dX10_findBar_101 : decode cX10_findBar 101 = .ok (.isub, 1) := by decide +kernel
theorem dX10_findBar_102 : decode cX10_findBar 102 = .ok (.if_icmp .ge 12, 3) := by decide +kernel
theorem dX10_findBar_105 : decode cX10_findBar 105 = .ok (.aload_n 0, 1) := by decide +kernel
theorem dX10_findBar_106 : decode cX10_findBar 106 = .ok (.getfield 7, 3) := by decide +kernel
theorem dX10_findBar_109 : decode cX10_findBar 109 = .ok (.iconst 2, 1) := by decide +kernel
theorem dX10_findBar_110 : decode cX10_findBar 110 = .ok (.iaload, 1) := by decide +kernel
theorem dX10_findBar_111 : decode cX10_findBar 111 = .ok (.goto 12, 3) := by decide +kernel
theorem dX10_findBar_114 : decode cX10_findBar 114 = .ok (.aload_n 0, 1) := by decide +kernel
theorem dX10_findBar_115 : decode cX10_findBar 115 = .ok (.getfield 183, 3) := by decide +kernel
theorem dX10_findBar_118 : decode cX10_findBar 118 = .ok (.aload_n 0, 1) := by decide +kernel
theorem dX10_findBar_119 : decode cX10_findBar 119 = .ok (.getfield 186, 3) := by decide +kernel
theorem dX10_findBar_122 : decode cX10_findBar 122 = .ok (.isub, 1) := by decide +kernel
theorem dX10_findBar_123 : decode cX10_findBar 123 = .ok (.putfield 189, 3) := by decide +kernel
theorem dX10_findBar_126 : decode cX10_findBar 126 = .ok (.aload_n 0, 1) := by decide +kernel
theorem dX10_findBar_127 : decode cX10_findBar 127 = .ok (.getfield 183, 3) := by decide +kernel
theorem dX10_findBar_130 : decode cX10_findBar 130 = .ok (.aload_n 0, 1) := by decide +kernel
theorem dX10_findBar_131 : decode cX10_findBar 131 = .ok (.getfield 186, 3) := by decide +kernel
theorem dX10_findBar_134 : decode cX10_findBar 134 = .ok (.isub, 1) := by decide +kernel
theorem dX10_findBar_135 : decode cX10_findBar 135 = .ok (.aload_n 0, 1) := by decide +kernel
theorem dX10_findBar_136 : decode cX10_findBar 136 = .ok (.getfield 189, 3) := by decide +kernel
theorem dX10_findBar_139 : decode cX10_findBar 139 = .ok (.isub, 1) := by decide +kernel
theorem dX10_findBar_140 : decode cX10_findBar 140 = .ok (.istore 5, 2) := by decide +kernel
theorem dX10_findBar_142 : decode cX10_findBar 142 = .ok (.aload_n 0, 1) := by decide +kernel
theorem dX10_findBar_143 : decode cX10_findBar 143 = .ok (.iload_n 3, 1) := by decide +kernel
theorem dX10_findBar_144 : decode cX10_findBar 144 = .ok (.ifCond .ne 7, 3) := by decide +kernel
theorem dX10_findBar_147 : decode cX10_findBar 147 = .ok (.iconst 0, 1) := by decide +kernel
theorem dX10_findBar_148 : decode cX10_findBar 148 = .ok (.goto 25, 3) := by decide +kernel
theorem dX10_findBar_151 : decode cX10_findBar 151 = .ok (.aload_n 0, 1) := by decide +kernel
theorem dX10_findBar_152 : decode cX10_findBar 152 = .ok (.getfield 7, 3) := by decide +kernel
theorem dX10_findBar_155 : decode cX10_findBar 155 = .ok (.iconst 3, 1) := by decide +kernel
theorem dX10_findBar_156 : decode cX10_findBar 156 = .ok (.iaload, 1) := by decide +kernel
theorem dX10_findBar_157 : decode cX10_findBar 157 = .ok (.iload 5, 2) := by decide +kernel
theorem dX10_findBar_159 : decode cX10_findBar 159 = .ok (.if_icmp .ge 12, 3) := by decide +kernel
theorem dX10_findBar_162 : decode cX10_findBar 162 = .ok (.aload_n 0, 1) := by decide +kernel
theorem dX10_findBar_163 : decode cX10_findBar 163 = .ok (.getfield 7, 3) := by decide +kernel
theorem dX10_findBar_166 : decode cX10_findBar 166 = .ok (.iconst 3, 1) := by decide +kernel
theorem dX10_findBar_167 : decode cX10_findBar 167 = .ok (.iaload, 1) := by decide +kernel
theorem dX10_findBar_168 : decode cX10_findBar 168 = .ok (.goto 5, 3) := by decide +kernel
theorem dX10_findBar_171 : decode cX10_findBar 171 = .ok (.iload 5, 2) := by decide +kernel
theorem dX10_findBar_173 : decode cX10_findBar 173 = .ok (.putfield 192, 3) := by decide +kernel
theorem dX10_findBar_176 : decode cX10_findBar 176 = .ok (.aload_n 0, 1) := by decide +kernel
theorem dX10_findBar_177 : decode cX10_findBar 177 = .ok (.iload 5, 2) := by decide +kernel
theorem dX10_findBar_179 : decode cX10_findBar 179 = .ok (.aload_n 0, 1) := by decide +kernel
theorem dX10_findBar_180 : decode cX10_findBar 180 = .ok (.getfield 192, 3) := by decide +kernel
theorem dX10_findBar_183 : decode cX10_findBar 183 = .ok (.isub, 1) := by decide +kernel
theorem dX10_findBar_184 : decode cX10_findBar 184 = .ok (.putfield 195, 3) := by decide +kernel
theorem dX10_findBar_187 : decode cX10_findBar 187 = .ok (.aload_n 0, 1) := by decide +kernel
theorem dX10_findBar_188 : decode cX10_findBar 188 = .ok (.iload_n 1, 1) := by decide +kernel
theorem dX10_findBar_189 : decode cX10_findBar 189 = .ok (.aload_n 0, 1) := by decide +kernel
theorem dX10_findBar_190 : decode cX10_findBar 190 = .ok (.getfield 195, 3) := by decide +kernel
theorem dX10_findBar_193 : decode cX10_findBar 193 = .ok (.invokevirtual 198, 3) := by decide +kernel
theorem dX10_findBar_196 : decode cX10_findBar 196 = .ok (.return_, 1) := by decide +kernel
theorem dX10_press_0 : decode cX10_press 0 = .ok (.aload_n 0, 1) := by decide +kernel
theorem dX10_press_1 : decode cX10_press 1 = .ok (.iload_n 1, 1) := by decide +kernel
theorem dX10_press_2 : decode cX10_press 2 = .ok (.invokevirtual 156, 3) := by decide +kernel
theorem dX10_press_5 : decode cX10_press 5 = .ok (.ifCond .eq 17, 3) := by decide +kernel
theorem dX10_press_8 : decode cX10_press 8 = .ok (.iload_n 2, 1) := by decide +kernel
theorem dX10_press_9 : decode cX10_press 9 = .ok (.i2l, 1) := by decide +kernel
theorem dX10_press_10 : decode cX10_press 10 = .ok (.ldc2_w 202, 3) := by decide +kernel
theorem dX10_press_13 : decode cX10_press 13 = .ok (.ldc2_w 204, 3) := by decide +kernel
theorem dX10_press_16 : decode cX10_press 16 = .ok (.invokestatic 131, 3) := by decide +kernel
theorem dX10_press_19 : decode cX10_press 19 = .ok (.ifCond .ne 6, 3) := by decide +kernel
theorem dX10_press_22 : decode cX10_press 22 = .ok (.bipush (-2), 2) := by decide +kernel
theorem dX10_press_24 : decode cX10_press 24 = .ok (.ireturn, 1) := by decide +kernel
theorem dX10_press_25 : decode cX10_press 25 = .ok (.aload_n 0, 1) := by decide +kernel
theorem dX10_press_26 : decode cX10_press 26 = .ok (.iload_n 1, 1) := by decide +kernel
theorem dX10_press_27 : decode cX10_press 27 = .ok (.invokevirtual 164, 3) := by decide +kernel
theorem dX10_press_30 : decode cX10_press 30 = .ok (.ifCond .ne 6, 3) := by decide +kernel
theorem dX10_press_33 : decode cX10_press 33 = .ok (.bipush (-3), 2) := by decide +kernel
theorem dX10_press_35 : decode cX10_press 35 = .ok (.ireturn, 1) := by decide +kernel
theorem dX10_press_36 : decode cX10_press 36 = .ok (.aload_n 0, 1) := by decide +kernel
theorem dX10_press_37 : decode cX10_press 37 = .ok (.getfield 206, 3) := by decide +kernel
theorem dX10_press_40 : decode cX10_press 40 = .ok (.sipush 200, 3) := by decide +kernel
theorem dX10_press_43 : decode cX10_press 43 = .ok (.if_icmp .ne 6, 3) := by decide +kernel
theorem dX10_press_46 : decode cX10_press 46 = .ok (.bipush (-4), 2) := by decide +kernel
theorem dX10_press_48 : decode cX10_press 48 = .ok (.ireturn, 1) := by decide +kernel
theorem dX10_press_49 : decode cX10_press 49 = .ok (.aload_n 0, 1) := by decide +kernel
theorem dX10_press_50 : decode cX10_press 50 = .ok (.getfield 25, 3) := by decide +kernel
theorem dX10_press_53 : decode cX10_press 53 = .ok (.iload_n 1, 1) := by decide +kernel
theorem dX10_press_54 : decode cX10_press 54 = .ok (.iaload, 1) := by decide +kernel
theorem dX10_press_55 : decode cX10_press 55 = .ok (.istore_n 3, 1) := by decide +kernel
theorem dX10_press_56 : decode cX10_press 56 = .ok (.aload_n 0, 1) := by decide +kernel
theorem dX10_press_57 : decode cX10_press 57 = .ok (.iload_n 3, 1) := by decide +kernel
theorem dX10_press_58 : decode cX10_press 58 = .ok (.iload_n 2, 1) := by decide +kernel
theorem dX10_press_59 : decode cX10_press 59 = .ok (.aload_n 0, 1) := by decide +kernel
theorem dX10_press_60 : decode cX10_press 60 = .ok (.getfield 64, 3) := by decide +kernel
theorem dX10_press_63 : decode cX10_press 63 = .ok (.iload_n 1, 1) := by decide +kernel
theorem dX10_press_64 : decode cX10_press 64 = .ok (.if_icmp .ne 20, 3) := by decide +kernel
theorem dX10_press_67 : decode cX10_press 67 = .ok (.aload_n 0, 1) := by decide +kernel
theorem dX10_press_68 : decode cX10_press 68 = .ok (.getfield 68, 3) := by decide +kernel
theorem dX10_press_71 : decode cX10_press 71 = .ok (.aload_n 0, 1) := by decide +kernel
theorem dX10_press_72 : decode cX10_press 72 = .ok (.getfield 159, 3) := by decide +kernel
theorem dX10_press_75 : decode cX10_press 75 = .ok (.iconst 1, 1) := by decide +kernel
theorem dX10_press_76 : decode cX10_press 76 = .ok (.isub, 1) := by decide +kernel
theorem dX10_press_77 : decode cX10_press 77 = .ok (.if_icmp .ne 7, 3) := by decide +kernel
theorem dX10_press_80 : decode cX10_press 80 = .ok (.iconst 1, 1) := by decide +kernel
theorem dX10_press_81 : decode cX10_press 81 = .ok (.goto 4, 3) := by decide +kernel
theorem dX10_press_84 : decode cX10_press 84 = .ok (.iconst 0, 1) := by decide +kernel
theorem dX10_press_85 : decode cX10_press 85 = .ok (.invokevirtual 209, 3) := by decide +kernel
theorem dX10_press_88 : decode cX10_press 88 = .ok (.iconst 0, 1) := by decide +kernel
theorem dX10_press_89 : decode cX10_press 89 = .ok (.istore 4, 2) := by decide +kernel
theorem dX10_press_91 : decode cX10_press 91 = .ok (.iload 4, 2) := by decide +kernel
theorem dX10_press_93 : decode cX10_press 93 = .ok (.aload_n 0, 1) := by decide +kernel
theorem dX10_press_94 : decode cX10_press 94 = .ok (.getfield 75, 3) := by decide +kernel
theorem dX10_press_97 : decode cX10_press 97 = .ok (.iload_n 3, 1) := by decide +kernel
theorem dX10_press_98 : decode cX10_press 98 = .ok (.iaload, 1) := by decide +kernel
theorem dX10_press_99 : decode cX10_press 99 = .ok (.if_icmp .ge 30, 3) := by decide +kernel
theorem dX10_press_102 : decode cX10_press 102 = .ok (.aload_n 0, 1) := by decide +kernel
theorem dX10_press_103 : decode cX10_press 103 = .ok (.getfield 81, 3) := by decide +kernel
theorem dX10_press_106 : decode cX10_press 106 = .ok (.iconst 3, 1) := by decide +kernel
theorem dX10_press_107 : decode cX10_press 107 = .ok (.iload_n 3, 1) := by decide +kernel
theorem dX10_press_108 : decode cX10_press 108 = .ok (.imul, 1) := by decide +kernel
theorem dX10_press_109 : decode cX10_press 109 = .ok (.iload 4, 2) := by decide +kernel
theorem dX10_press_111 : decode cX10_press 111 = .ok (.iadd, 1) := by decide +kernel
theorem dX10_press_112 : decode cX10_press 112 = .ok (.dup2, 1) := by decide +kernel
theorem dX10_press_113 : decode cX10_press 113 = .ok (.iaload, 1) := by decide +kernel
theorem dX10_press_114 : decode cX10_press 114 = .ok (.aload_n 0, 1) := by decide +kernel
theorem dX10_press_115 : decode cX10_press 115 = .ok (.getfield 84, 3) := by decide +kernel
theorem dX10_press_118 : decode cX10_press 118 = .ok (.iload 4, 2) := by decide +kernel
theorem dX10_press_120 : decode cX10_press 120 = .ok (.iaload, 1) := by decide +kernel
theorem dX10_press_121 : decode cX10_press 121 = .ok (.isub, 1) := by decide +kernel
theorem dX10_press_122 : decode cX10_press 122 = .ok (.iastore, 1) := by decide +kernel
theorem dX10_press_123 : decode cX10_press 123 = .ok (.iinc 4 1, 3) := by decide +kernel
theorem dX10_press_126 : decode cX10_press 126 = .ok (.goto (-35), 3) := by decide +kernel
theorem dX10_press_129 : decode cX10_press 129 = .ok (.aload_n 0, 1) := by decide +kernel
theorem dX10_press_130 : decode cX10_press 130 = .ok (.getfield 40, 3) := by decide +kernel
theorem dX10_press_133 : decode cX10_press 133 = .ok (.aload_n 0, 1) := by decide +kernel
theorem dX10_press_134 : decode cX10_press 134 = .ok (.getfield 206, 3) := by decide +kernel
theorem dX10_press_137 : decode cX10_press 137 = .ok (.iload_n 1, 1) := by decide +kernel
theorem dX10_press_138 : decode cX10_press 138 = .ok (.iastore, 1) := by decide +kernel
theorem dX10_press_139 : decode cX10_press 139 = .ok (.aload_n 0, 1) := by decide +kernel
theorem dX10_press_140 : decode cX10_press 140 = .ok (.getfield 43, 3) := by decide +kernel
theorem dX10_press_143 : decode cX10_press 143 = .ok (.aload_n 0, 1) := by decide +kernel
theorem dX10_press_144 : decode cX10_press 144 = .ok (.getfield 206, 3) := by decide +kernel
theorem dX10_press_147 : decode cX10_press 147 = .ok (.iload_n 2, 1) := by decide +kernel
theorem dX10_press_148 : decode cX10_press 148 = .ok (.iastore, 1) := by decide +kernel
theorem dX10_press_149 : decode cX10_press 149 = .ok (.aload_n 0, 1) := by decide +kernel
theorem dX10_press_150 : decode cX10_press 150 = .ok (.getfield 46, 3) := by decide +kernel
theorem dX10_press_153 : decode cX10_press 153 = .ok (.aload_n 0, 1) := by decide +kernel
theorem dX10_press_154 : decode cX10_press 154 = .ok (.getfield 206, 3) := by decide +kernel
theorem dX10_press_157 : decode cX10_press 157 = .ok (.aload_n 0, 1) := by decide +kernel
theorem dX10_press_158 : decode cX10_press 158 = .ok (.getfield 183, 3) := by decide +kernel
theorem dX10_press_161 : decode cX10_press 161 = .ok (.iastore, 1) := by decide +kernel
theorem dX10_press_162 : decode cX10_press 162 = .ok (.aload_n 0, 1) := by decide +kernel
theorem dX10_press_163 : decode cX10_press 163 = .ok (.getfield 49, 3) := by decide +kernel
theorem dX10_press_166 : decode cX10_press 166 = .ok (.aload_n 0, 1) := by decide +kernel
theorem dX10_press_167 : decode cX10_press 167 = .ok (.getfield 206, 3) := by decide +kernel
theorem dX10_press_170 : decode cX10_press 170 = .ok (.aload_n 0, 1) := by decide +kernel
theorem dX10_press_171 : decode cX10_press 171 = .ok (.getfield 171, 3) := by decide +kernel
theorem dX10_press_174 : decode cX10_press 174 = .ok (.iastore, 1) := by decide +kernel
theorem dX10_press_175 : decode cX10_press 175 = .ok (.aload_n 0, 1) := by decide +kernel
theorem dX10_press_176 : decode cX10_press 176 = .ok (.getfield 52, 3) := by decide +kernel
theorem dX10_press_179 : decode cX10_press 179 = .ok (.aload_n 0, 1) := by decide +kernel
theorem dX10_press_180 : decode cX10_press 180 = .ok (.getfield 206, 3) := by decide +kernel
theorem dX10_press_183 : decode cX10_press 183 = .ok (.aload_n 0, 1) := by decide +kernel
theorem dX10_press_184 : decode cX10_press 184 = .ok (.getfield 195, 3) := by decide +kernel
theorem dX10_press_187 : decode cX10_press 187 = .ok (.aload_n 0, 1) := by decide +kernel
theorem dX10_press_188 : decode cX10_press 188 = .ok (.getfield 171, 3) := by decide +kernel
theorem dX10_press_191 : decode cX10_press 191 = .ok (.isub, 1) := by decide +kernel
theorem dX10_press_192 : decode cX10_press 192 = .ok (.iastore, 1) := by decide +kernel
theorem dX10_press_193 : decode cX10_press 193 = .ok (.aload_n 0, 1) := by decide +kernel
theorem dX10_press_194 : decode cX10_press 194 = .ok (.getfield 55, 3) := by decide +kernel
theorem dX10_press_197 : decode cX10_press 197 = .ok (.aload_n 0, 1) := by decide +kernel
theorem dX10_press_198 : decode cX10_press 198 = .ok (.getfield 206, 3) := by decide +kernel
theorem dX10_press_201 : decode cX10_press 201 = .ok (.aload_n 0, 1) := by decide +kernel
theorem dX10_press_202 : decode cX10_press 202 = .ok (.getfield 192, 3) := by decide +kernel
theorem dX10_press_205 : decode cX10_press 205 = .ok (.iastore, 1) := by decide +kernel
theorem dX10_press_206 : decode cX10_press 206 = .ok (.aload_n 0, 1) := by decide +kernel
theorem dX10_press_207 : decode cX10_press 207 = .ok (.getfield 58, 3) := by decide +kernel
theorem dX10_press_210 : decode cX10_press 210 = .ok (.aload_n 0, 1) := by decide +kernel
theorem dX10_press_211 : decode cX10_press 211 = .ok (.getfield 206, 3) := by decide +kernel
theorem dX10_press_214 : decode cX10_press 214 = .ok (.iconst (-1), 1) := by decide +kernel
theorem dX10_press_215 : decode cX10_press 215 = .ok (.iastore, 1) := by decide +kernel
theorem dX10_press_216 : decode cX10_press 216 = .ok (.aload_n 0, 1) := by decide +kernel
theorem dX10_press_217 : decode cX10_press 217 = .ok (.getfield 61, 3) := by decide +kernel
theorem dX10_press_220 : decode cX10_press 220 = .ok (.aload_n 0, 1) := by decide +kernel
theorem dX10_press_221 : decode cX10_press 221 = .ok (.getfield 206, 3) := by decide +kernel
theorem dX10_press_224 : decode cX10_press 224 = .ok (.iconst (-1), 1) := by decide +kernel
theorem dX10_press_225 : decode cX10_press 225 = .ok (.iastore, 1) := by decide +kernel
theorem dX10_press_226 : decode cX10_press 226 = .ok (.aload_n 0, 1) := by decide +kernel
theorem dX10_press_227 : decode cX10_press 227 = .ok (.dup, 1) := by decide +kernel
theorem dX10_press_228 : decode cX10_press 228 = .ok (.getfield 206, 3) := by decide +kernel
theorem dX10_press_231 : decode cX10_press 231 = .ok (.iconst 1, 1) := by decide +kernel
theorem dX10_press_232 : decode cX10_press 232 = .ok (.iadd, 1) := by decide +kernel
theorem dX10_press_233 : decode cX10_press 233 = .ok (.putfield 206, 3) := by decide +kernel
theorem dX10_press_236 : decode cX10_press 236 = .ok (.aload_n 0, 1) := by decide +kernel
theorem dX10_press_237 : decode cX10_press 237 = .ok (.getfield 71, 3) := by decide +kernel
theorem dX10_press_240 : decode cX10_press 240 = .ok (.iconst 0, 1) := by decide +kernel
theorem dX10_press_241 : decode cX10_press 241 = .ok (.dup2, 1) := by decide +kernel
theorem dX10_press_242 : decode cX10_press 242 = .ok (.laload, 1) := by decide +kernel
theorem dX10_press_243 : decode cX10_press 243 = .ok (.aload_n 0, 1) := by decide +kernel
theorem dX10_press_244 : decode cX10_press 244 = .ok (.getfield 186, 3) := by decide +kernel
theorem dX10_press_247 : decode cX10_press 247 = .ok (.i2l, 1) := by decide +kernel
theorem dX10_press_248 : decode cX10_press 248 = .ok (.ladd, 1) := by decide +kernel
theorem dX10_press_249 : decode cX10_press 249 = .ok (.lastore, 1) := by decide +kernel
theorem dX10_press_250 : decode cX10_press 250 = .ok (.aload_n 0, 1) := by decide +kernel
theorem dX10_press_251 : decode cX10_press 251 = .ok (.getfield 71, 3) := by decide +kernel
theorem dX10_press_254 : decode cX10_press 254 = .ok (.iconst 1, 1) := by decide +kernel
theorem dX10_press_255 : decode cX10_press 255 = .ok (.dup2, 1) := by decide +kernel
theorem dX10_press_256 : decode cX10_press 256 = .ok (.laload, 1) := by decide +kernel
theorem dX10_press_257 : decode cX10_press 257 = .ok (.aload_n 0, 1) := by decide +kernel
theorem dX10_press_258 : decode cX10_press 258 = .ok (.getfield 189, 3) := by decide +kernel
theorem dX10_press_261 : decode cX10_press 261 = .ok (.i2l, 1) := by decide +kernel
theorem dX10_press_262 : decode cX10_press 262 = .ok (.ladd, 1) := by decide +kernel
theorem dX10_press_263 : decode cX10_press 263 = .ok (.lastore, 1) := by decide +kernel
theorem dX10_press_264 : decode cX10_press 264 = .ok (.aload_n 0, 1) := by decide +kernel
theorem dX10_press_265 : decode cX10_press 265 = .ok (.getfield 71, 3) := by decide +kernel
theorem dX10_press_268 : decode cX10_press 268 = .ok (.iconst 2, 1) := by decide +kernel
theorem dX10_press_269 : decode cX10_press 269 = .ok (.dup2, 1) := by decide +kernel
theorem dX10_press_270 : decode cX10_press 270 = .ok (.laload, 1) := by decide +kernel
theorem dX10_press_271 : decode cX10_press 271 = .ok (.aload_n 0, 1) := by decide +kernel
theorem dX10_press_272 : decode cX10_press 272 = .ok (.getfield 192, 3) := by decide +kernel
theorem dX10_press_275 : decode cX10_press 275 = .ok (.i2l, 1) := by decide +kernel
theorem dX10_press_276 : decode cX10_press 276 = .ok (.ladd, 1) := by decide +kernel
theorem dX10_press_277 : decode cX10_press 277 = .ok (.lastore, 1) := by decide +kernel
theorem dX10_press_278 : decode cX10_press 278 = .ok (.aload_n 0, 1) := by decide +kernel
theorem dX10_press_279 : decode cX10_press 279 = .ok (.getfield 71, 3) := by decide +kernel
theorem dX10_press_282 : decode cX10_press 282 = .ok (.iconst 3, 1) := by decide +kernel
theorem dX10_press_283 : decode cX10_press 283 = .ok (.dup2, 1) := by decide +kernel
theorem dX10_press_284 : decode cX10_press 284 = .ok (.laload, 1) := by decide +kernel
theorem dX10_press_285 : decode cX10_press 285 = .ok (.aload_n 0, 1) := by decide +kernel
theorem dX10_press_286 : decode cX10_press 286 = .ok (.getfield 171, 3) := by decide +kernel
theorem dX10_press_289 : decode cX10_press 289 = .ok (.i2l, 1) := by decide +kernel
theorem dX10_press_290 : decode cX10_press 290 = .ok (.ladd, 1) := by decide +kernel
theorem dX10_press_291 : decode cX10_press 291 = .ok (.lastore, 1) := by decide +kernel
theorem dX10_press_292 : decode cX10_press 292 = .ok (.aload_n 0, 1) := by decide +kernel
theorem dX10_press_293 : decode cX10_press 293 = .ok (.getfield 71, 3) := by decide +kernel
theorem dX10_press_296 : decode cX10_press 296 = .ok (.iconst 4, 1) := by decide +kernel
theorem dX10_press_297 : decode cX10_press 297 = .ok (.dup2, 1) := by decide +kernel
theorem dX10_press_298 : decode cX10_press 298 = .ok (.laload, 1) := by decide +kernel
theorem dX10_press_299 : decode cX10_press 299 = .ok (.aload_n 0, 1) := by decide +kernel
theorem dX10_press_300 : decode cX10_press 300 = .ok (.getfield 195, 3) := by decide +kernel
theorem dX10_press_303 : decode cX10_press 303 = .ok (.aload_n 0, 1) := by decide +kernel
theorem dX10_press_304 : decode cX10_press 304 = .ok (.getfield 171, 3) := by decide +kernel
theorem dX10_press_307 : decode cX10_press 307 = .ok (.isub, 1) := by decide +kernel
theorem dX10_press_308 : decode cX10_press 308 = .ok (.i2l, 1) := by decide +kernel
theorem dX10_press_309 : decode cX10_press 309 = .ok (.ladd, 1) := by decide +kernel
theorem dX10_press_310 : decode cX10_press 310 = .ok (.lastore, 1) := by decide +kernel
theorem dX10_press_311 : decode cX10_press 311 = .ok (.aload_n 0, 1) := by decide +kernel
theorem dX10_press_312 : decode cX10_press 312 = .ok (.getfield 71, 3) := by decide +kernel
theorem dX10_press_315 : decode cX10_press 315 = .ok (.iconst 5, 1) := by decide +kernel
theorem dX10_press_316 : decode cX10_press 316 = .ok (.dup2, 1) := by decide +kernel
theorem dX10_press_317 : decode cX10_press 317 = .ok (.laload, 1) := by decide +kernel
theorem dX10_press_318 : decode cX10_press 318 = .ok (.aload_n 0, 1) := by decide +kernel
theorem dX10_press_319 : decode cX10_press 319 = .ok (.getfield 183, 3) := by decide +kernel
theorem dX10_press_322 : decode cX10_press 322 = .ok (.i2l, 1) := by decide +kernel
theorem dX10_press_323 : decode cX10_press 323 = .ok (.ladd, 1) := by decide +kernel
theorem dX10_press_324 : decode cX10_press 324 = .ok (.lastore, 1) := by decide +kernel
theorem dX10_press_325 : decode cX10_press 325 = .ok (.aload_n 0, 1) := by decide +kernel
theorem dX10_press_326 : decode cX10_press 326 = .ok (.getfield 71, 3) := by decide +kernel
theorem dX10_press_329 : decode cX10_press 329 = .ok (.bipush 6, 2) := by decide +kernel
theorem dX10_press_331 : decode cX10_press 331 = .ok (.dup2, 1) := by decide +kernel
theorem dX10_press_332 : decode cX10_press 332 = .ok (.laload, 1) := by decide +kernel
theorem dX10_press_333 : decode cX10_press 333 = .ok (.iload_n 2, 1) := by decide +kernel
theorem dX10_press_334 : decode cX10_press 334 = .ok (.i2l, 1) := by decide +kernel
theorem dX10_press_335 : decode cX10_press 335 = .ok (.ladd, 1) := by decide +kernel
theorem dX10_press_336 : decode cX10_press 336 = .ok (.lastore, 1) := by decide +kernel
theorem dX10_press_337 : decode cX10_press 337 = .ok (.aload_n 0, 1) := by decide +kernel
theorem dX10_press_338 : decode cX10_press 338 = .ok (.getfield 31, 3) := by decide +kernel
theorem dX10_press_341 : decode cX10_press 341 = .ok (.iload_n 1, 1) := by decide +kernel
theorem dX10_press_342 : decode cX10_press 342 = .ok (.dup2, 1) := by decide +kernel
theorem dX10_press_343 : decode cX10_press 343 = .ok (.iaload, 1) := by decide +kernel
theorem dX10_press_344 : decode cX10_press 344 = .ok (.iconst 1, 1) := by decide +kernel
theorem dX10_press_345 : decode cX10_press 345 = .ok (.iadd, 1) := by decide +kernel
theorem dX10_press_346 : decode cX10_press 346 = .ok (.iastore, 1) := by decide +kernel
theorem dX10_press_347 : decode cX10_press 347 = .ok (.aload_n 0, 1) := by decide +kernel
theorem dX10_press_348 : decode cX10_press 348 = .ok (.getfield 34, 3) := by decide +kernel
theorem dX10_press_351 : decode cX10_press 351 = .ok (.iload_n 1, 1) := by decide +kernel
theorem dX10_press_352 : decode cX10_press 352 = .ok (.dup2, 1) := by decide +kernel
theorem dX10_press_353 : decode cX10_press 353 = .ok (.iaload, 1) := by decide +kernel
theorem dX10_press_354 : decode cX10_press 354 = .ok (.iconst 1, 1) := by decide +kernel
theorem dX10_press_355 : decode cX10_press 355 = .ok (.iadd, 1) := by decide +kernel
theorem dX10_press_356 : decode cX10_press 356 = .ok (.iastore, 1) := by decide +kernel
theorem dX10_press_357 : decode cX10_press 357 = .ok (.aload_n 0, 1) := by decide +kernel
theorem dX10_press_358 : decode cX10_press 358 = .ok (.iload_n 1, 1) := by decide +kernel
theorem dX10_press_359 : decode cX10_press 359 = .ok (.putfield 64, 3) := by decide +kernel
theorem dX10_press_362 : decode cX10_press 362 = .ok (.aload_n 0, 1) := by decide +kernel
theorem dX10_press_363 : decode cX10_press 363 = .ok (.aload_n 0, 1) := by decide +kernel
theorem dX10_press_364 : decode cX10_press 364 = .ok (.getfield 159, 3) := by decide +kernel
theorem dX10_press_367 : decode cX10_press 367 = .ok (.putfield 68, 3) := by decide +kernel
theorem dX10_press_370 : decode cX10_press 370 = .ok (.aload_n 0, 1) := by decide +kernel
theorem dX10_press_371 : decode cX10_press 371 = .ok (.dup, 1) := by decide +kernel
theorem dX10_press_372 : decode cX10_press 372 = .ok (.getfield 159, 3) := by decide +kernel
theorem dX10_press_375 : decode cX10_press 375 = .ok (.iconst 1, 1) := by decide +kernel
theorem dX10_press_376 : decode cX10_press 376 = .ok (.iadd, 1) := by decide +kernel
theorem dX10_press_377 : decode cX10_press 377 = .ok (.putfield 159, 3) := by decide +kernel
theorem dX10_press_380 : decode cX10_press 380 = .ok (.aload_n 0, 1) := by decide +kernel
theorem dX10_press_381 : decode cX10_press 381 = .ok (.getfield 171, 3) := by decide +kernel
theorem dX10_press_384 : decode cX10_press 384 = .ok (.ireturn, 1) := by decide +kernel
theorem dX10_isBar_0 : decode cX10_isBar 0 = .ok (.iload_n 1, 1) := by decide +kernel
theorem dX10_isBar_1 : decode cX10_isBar 1 = .ok (.i2l, 1) := by decide +kernel
theorem dX10_isBar_2 : decode cX10_isBar 2 = .ok (.lconst 0, 1) := by decide +kernel
theorem dX10_isBar_3 : decode cX10_isBar 3 = .ok (.aload_n 0, 1) := by decide +kernel
theorem dX10_isBar_4 : decode cX10_isBar 4 = .ok (.getfield 206, 3) := by decide +kernel
theorem dX10_isBar_7 : decode cX10_isBar 7 = .ok (.iconst 1, 1) := by decide +kernel
theorem dX10_isBar_8 : decode cX10_isBar 8 = .ok (.isub, 1) := by decide +kernel
theorem dX10_isBar_9 : decode cX10_isBar 9 = .ok (.i2l, 1) := by decide +kernel
theorem dX10_isBar_10 : decode cX10_isBar 10 = .ok (.invokestatic 131, 3) := by decide +kernel
theorem dX10_isBar_13 : decode cX10_isBar 13 = .ok (.ireturn, 1) := by decide +kernel
theorem dX10_bar_0 : decode cX10_bar 0 = .ok (.aload_n 0, 1) := by decide +kernel
theorem dX10_bar_1 : decode cX10_bar 1 = .ok (.iload_n 1, 1) := by decide +kernel
theorem dX10_bar_2 : decode cX10_bar 2 = .ok (.invokevirtual 213, 3) := by decide +kernel
theorem dX10_bar_5 : decode cX10_bar 5 = .ok (.ifCond .ne 6, 3) := by decide +kernel
theorem dX10_bar_8 : decode cX10_bar 8 = .ok (.bipush (-2), 2) := by decide +kernel
theorem dX10_bar_10 : decode cX10_bar 10 = .ok (.ireturn, 1) := by decide +kernel
theorem dX10_bar_11 : decode cX10_bar 11 = .ok (.iload_n 2, 1) := by decide +kernel
theorem dX10_bar_12 : decode cX10_bar 12 = .ok (.tableswitch 93 0 6 #[44, 51, 58, 65, 72, 79, 86], 44) := by decide +kernel
theorem dX10_bar_56 : decode cX10_bar 56 = .ok (.aload_n 0, 1) := by decide +kernel
theorem dX10_bar_57 : decode cX10_bar 57 = .ok (.getfield 40, 3) := by decide +kernel
theorem dX10_bar_60 : decode cX10_bar 60 = .ok (.iload_n 1, 1) := by decide +kernel
theorem dX10_bar_61 : decode cX10_bar 61 = .ok (.iaload, 1) := by decide +kernel
theorem dX10_bar_62 : decode cX10_bar 62 = .ok (.ireturn, 1) := by decide +kernel
theorem dX10_bar_63 : decode cX10_bar 63 = .ok (.aload_n 0, 1) := by decide +kernel
theorem dX10_bar_64 : decode cX10_bar 64 = .ok (.getfield 43, 3) := by decide +kernel
theorem dX10_bar_67 : decode cX10_bar 67 = .ok (.iload_n 1, 1) := by decide +kernel
theorem dX10_bar_68 : decode cX10_bar 68 = .ok (.iaload, 1) := by decide +kernel
theorem dX10_bar_69 : decode cX10_bar 69 = .ok (.ireturn, 1) := by decide +kernel
theorem dX10_bar_70 : decode cX10_bar 70 = .ok (.aload_n 0, 1) := by decide +kernel
theorem dX10_bar_71 : decode cX10_bar 71 = .ok (.getfield 46, 3) := by decide +kernel
theorem dX10_bar_74 : decode cX10_bar 74 = .ok (.iload_n 1, 1) := by decide +kernel
theorem dX10_bar_75 : decode cX10_bar 75 = .ok (.iaload, 1) := by decide +kernel
theorem dX10_bar_76 : decode cX10_bar 76 = .ok (.ireturn, 1) := by decide +kernel
theorem dX10_bar_77 : decode cX10_bar 77 = .ok (.aload_n 0, 1) := by decide +kernel
theorem dX10_bar_78 : decode cX10_bar 78 = .ok (.getfield 49, 3) := by decide +kernel
theorem dX10_bar_81 : decode cX10_bar 81 = .ok (.iload_n 1, 1) := by decide +kernel
theorem dX10_bar_82 : decode cX10_bar 82 = .ok (.iaload, 1) := by decide +kernel
theorem dX10_bar_83 : decode cX10_bar 83 = .ok (.ireturn, 1) := by decide +kernel
theorem dX10_bar_84 : decode cX10_bar 84 = .ok (.aload_n 0, 1) := by decide +kernel
theorem dX10_bar_85 : decode cX10_bar 85 = .ok (.getfield 52, 3) := by decide +kernel
theorem dX10_bar_88 : decode cX10_bar 88 = .ok (.iload_n 1, 1) := by decide +kernel
theorem dX10_bar_89 : decode cX10_bar 89 = .ok (.iaload, 1) := by decide +kernel
theorem dX10_bar_90 : decode cX10_bar 90 = .ok (.ireturn, 1) := by decide +kernel
theorem dX10_bar_91 : decode cX10_bar 91 = .ok (.aload_n 0, 1) := by decide +kernel
theorem dX10_bar_92 : decode cX10_bar 92 = .ok (.getfield 55, 3) := by decide +kernel
theorem dX10_bar_95 : decode cX10_bar 95 = .ok (.iload_n 1, 1) := by decide +kernel
theorem dX10_bar_96 : decode cX10_bar 96 = .ok (.iaload, 1) := by decide +kernel
theorem dX10_bar_97 : decode cX10_bar 97 = .ok (.ireturn, 1) := by decide +kernel
theorem dX10_bar_98 : decode cX10_bar 98 = .ok (.aload_n 0, 1) := by decide +kernel
theorem dX10_bar_99 : decode cX10_bar 99 = .ok (.getfield 58, 3) := by decide +kernel
theorem dX10_bar_102 : decode cX10_bar 102 = .ok (.iload_n 1, 1) := by decide +kernel
theorem dX10_bar_103 : decode cX10_bar 103 = .ok (.iaload, 1) := by decide +kernel
theorem dX10_bar_104 : decode cX10_bar 104 = .ok (.ireturn, 1) := by decide +kernel
theorem dX10_bar_105 : decode cX10_bar 105 = .ok (.bipush (-2), 2) := by decide +kernel
theorem dX10_bar_107 : decode cX10_bar 107 = .ok (.ireturn, 1) := by decide +kernel
theorem dX10_order_0 : decode cX10_order 0 = .ok (.aload_n 0, 1) := by decide +kernel
theorem dX10_order_1 : decode cX10_order 1 = .ok (.iload_n 1, 1) := by decide +kernel
theorem dX10_order_2 : decode cX10_order 2 = .ok (.invokevirtual 150, 3) := by decide +kernel
theorem dX10_order_5 : decode cX10_order 5 = .ok (.ifCond .eq 29, 3) := by decide +kernel
theorem dX10_order_8 : decode cX10_order 8 = .ok (.iload_n 2, 1) := by decide +kernel
theorem dX10_order_9 : decode cX10_order 9 = .ok (.i2l, 1) := by decide +kernel
theorem dX10_order_10 : decode cX10_order 10 = .ok (.ldc2_w 146, 3) := by decide +kernel
theorem dX10_order_13 : decode cX10_order 13 = .ok (.ldc2_w 216, 3) := by decide +kernel
theorem dX10_order_16 : decode cX10_order 16 = .ok (.invokestatic 131, 3) := by decide +kernel
theorem dX10_order_19 : decode cX10_order 19 = .ok (.ifCond .eq 15, 3) := by decide +kernel
theorem dX10_order_22 : decode cX10_order 22 = .ok (.iload_n 3, 1) := by decide +kernel
theorem dX10_order_23 : decode cX10_order 23 = .ok (.i2l, 1) := by decide +kernel
theorem dX10_order_24 : decode cX10_order 24 = .ok (.lconst 0, 1) := by decide +kernel
theorem dX10_order_25 : decode cX10_order 25 = .ok (.ldc2_w 218, 3) := by decide +kernel
theorem dX10_order_28 : decode cX10_order 28 = .ok (.invokestatic 131, 3) := by decide +kernel
theorem dX10_order_31 : decode cX10_order 31 = .ok (.ifCond .ne 6, 3) := by decide +kernel
theorem dX10_order_34 : decode cX10_order 34 = .ok (.bipush (-2), 2) := by decide +kernel
theorem dX10_order_36 : decode cX10_order 36 = .ok (.ireturn, 1) := by decide +kernel
theorem dX10_order_37 : decode cX10_order 37 = .ok (.aload_n 0, 1) := by decide +kernel
theorem dX10_order_38 : decode cX10_order 38 = .ok (.getfield 75, 3) := by decide +kernel
theorem dX10_order_41 : decode cX10_order 41 = .ok (.iload_n 1, 1) := by decide +kernel
theorem dX10_order_42 : decode cX10_order 42 = .ok (.iaload, 1) := by decide +kernel
theorem dX10_order_43 : decode cX10_order 43 = .ok (.iconst 3, 1) := by decide +kernel
theorem dX10_order_44 : decode cX10_order 44 = .ok (.if_icmp .ne 6, 3) := by decide +kernel
theorem dX10_order_47 : decode cX10_order 47 = .ok (.bipush (-4), 2) := by decide +kernel
theorem dX10_order_49 : decode cX10_order 49 = .ok (.ireturn, 1) := by decide +kernel
theorem dX10_order_50 : decode cX10_order 50 = .ok (.aload_n 0, 1) := by decide +kernel
theorem dX10_order_51 : decode cX10_order 51 = .ok (.getfield 78, 3) := by decide +kernel
theorem dX10_order_54 : decode cX10_order 54 = .ok (.iconst 3, 1) := by decide +kernel
theorem dX10_order_55 : decode cX10_order 55 = .ok (.iload_n 1, 1) := by decide +kernel
theorem dX10_order_56 : decode cX10_order 56 = .ok (.imul, 1) := by decide +kernel
theorem dX10_order_57 : decode cX10_order 57 = .ok (.aload_n 0, 1) := by decide +kernel
theorem dX10_order_58 : decode cX10_order 58 = .ok (.getfield 75, 3) := by decide +kernel
theorem dX10_order_61 : decode cX10_order 61 = .ok (.iload_n 1, 1) := by decide +kernel
theorem dX10_order_62 : decode cX10_order 62 = .ok (.iaload, 1) := by decide +kernel
theorem dX10_order_63 : decode cX10_order 63 = .ok (.iadd, 1) := by decide +kernel
theorem dX10_order_64 : decode cX10_order 64 = .ok (.iload_n 2, 1) := by decide +kernel
theorem dX10_order_65 : decode cX10_order 65 = .ok (.iastore, 1) := by decide +kernel
theorem dX10_order_66 : decode cX10_order 66 = .ok (.aload_n 0, 1) := by decide +kernel
theorem dX10_order_67 : decode cX10_order 67 = .ok (.getfield 81, 3) := by decide +kernel
theorem dX10_order_70 : decode cX10_order 70 = .ok (.iconst 3, 1) := by decide +kernel
theorem dX10_order_71 : decode cX10_order 71 = .ok (.iload_n 1, 1) := by decide +kernel
theorem dX10_order_72 : decode cX10_order 72 = .ok (.imul, 1) := by decide +kernel
theorem dX10_order_73 : decode cX10_order 73 = .ok (.aload_n 0, 1) := by decide +kernel
theorem dX10_order_74 : decode cX10_order 74 = .ok (.getfield 75, 3) := by decide +kernel
theorem dX10_order_77 : decode cX10_order 77 = .ok (.iload_n 1, 1) := by decide +kernel
theorem dX10_order_78 : decode cX10_order 78 = .ok (.iaload, 1) := by decide +kernel
theorem dX10_order_79 : decode cX10_order 79 = .ok (.iadd, 1) := by decide +kernel
theorem dX10_order_80 : decode cX10_order 80 = .ok (.iload_n 3, 1) := by decide +kernel
theorem dX10_order_81 : decode cX10_order 81 = .ok (.iastore, 1) := by decide +kernel
theorem dX10_order_82 : decode cX10_order 82 = .ok (.aload_n 0, 1) := by decide +kernel
theorem dX10_order_83 : decode cX10_order 83 = .ok (.getfield 75, 3) := by decide +kernel
theorem dX10_order_86 : decode cX10_order 86 = .ok (.iload_n 1, 1) := by decide +kernel
theorem dX10_order_87 : decode cX10_order 87 = .ok (.dup2, 1) := by decide +kernel
theorem dX10_order_88 : decode cX10_order 88 = .ok (.iaload, 1) := by decide +kernel
theorem dX10_order_89 : decode cX10_order 89 = .ok (.iconst 1, 1) := by decide +kernel
theorem dX10_order_90 : decode cX10_order 90 = .ok (.iadd, 1) := by decide +kernel
theorem dX10_order_91 : decode cX10_order 91 = .ok (.iastore, 1) := by decide +kernel
theorem dX10_order_92 : decode cX10_order 92 = .ok (.aload_n 0, 1) := by decide +kernel
theorem dX10_order_93 : decode cX10_order 93 = .ok (.getfield 75, 3) := by decide +kernel
theorem dX10_order_96 : decode cX10_order 96 = .ok (.iload_n 1, 1) := by decide +kernel
theorem dX10_order_97 : decode cX10_order 97 = .ok (.iaload, 1) := by decide +kernel
theorem dX10_order_98 : decode cX10_order 98 = .ok (.iconst 1, 1) := by decide +kernel
theorem dX10_order_99 : decode cX10_order 99 = .ok (.isub, 1) := by decide +kernel
theorem dX10_order_100 : decode cX10_order 100 = .ok (.ireturn, 1) := by decide +kernel
theorem dX10_wanted_0 : decode cX10_wanted 0 = .ok (.aload_n 0, 1) := by decide +kernel
theorem dX10_wanted_1 : decode cX10_wanted 1 = .ok (.iload_n 1, 1) := by decide +kernel
theorem dX10_wanted_2 : decode cX10_wanted 2 = .ok (.invokevirtual 150, 3) := by decide +kernel
theorem dX10_wanted_5 : decode cX10_wanted 5 = .ok (.ifCond .eq 34, 3) := by decide +kernel
theorem dX10_wanted_8 : decode cX10_wanted 8 = .ok (.iload_n 2, 1) := by decide +kernel
theorem dX10_wanted_9 : decode cX10_wanted 9 = .ok (.i2l, 1) := by decide +kernel
theorem dX10_wanted_10 : decode cX10_wanted 10 = .ok (.lconst 0, 1) := by decide +kernel
theorem dX10_wanted_11 : decode cX10_wanted 11 = .ok (.aload_n 0, 1) := by decide +kernel
theorem dX10_wanted_12 : decode cX10_wanted 12 = .ok (.getfield 75, 3) := by decide +kernel
theorem dX10_wanted_15 : decode cX10_wanted 15 = .ok (.iload_n 1, 1) := by decide +kernel
theorem dX10_wanted_16 : decode cX10_wanted 16 = .ok (.iaload, 1) := by decide +kernel
theorem dX10_wanted_17 : decode cX10_wanted 17 = .ok (.iconst 1, 1) := by decide +kernel
theorem dX10_wanted_18 : decode cX10_wanted 18 = .ok (.isub, 1) := by decide +kernel
theorem dX10_wanted_19 : decode cX10_wanted 19 = .ok (.i2l, 1) := by decide +kernel
theorem dX10_wanted_20 : decode cX10_wanted 20 = .ok (.invokestatic 131, 3) := by decide +kernel
theorem dX10_wanted_23 : decode cX10_wanted 23 = .ok (.ifCond .eq 16, 3) := by decide +kernel
theorem dX10_wanted_26 : decode cX10_wanted 26 = .ok (.aload_n 0, 1) := by decide +kernel
theorem dX10_wanted_27 : decode cX10_wanted 27 = .ok (.getfield 81, 3) := by decide +kernel
theorem dX10_wanted_30 : decode cX10_wanted 30 = .ok (.iconst 3, 1) := by decide +kernel
theorem dX10_wanted_31 : decode cX10_wanted 31 = .ok (.iload_n 1, 1) := by decide +kernel
theorem dX10_wanted_32 : decode cX10_wanted 32 = .ok (.imul, 1) := by decide +kernel
theorem dX10_wanted_33 : decode cX10_wanted 33 = .ok (.iload_n 2, 1) := by decide +kernel
theorem dX10_wanted_34 : decode cX10_wanted 34 = .ok (.iadd, 1) := by decide +kernel
theorem dX10_wanted_35 : decode cX10_wanted 35 = .ok (.iaload, 1) := by decide +kernel
theorem dX10_wanted_36 : decode cX10_wanted 36 = .ok (.goto 5, 3) := by decide +kernel
theorem dX10_wanted_39 : decode cX10_wanted 39 = .ok (.bipush (-2), 2) := by decide +kernel
theorem dX10_wanted_41 : decode cX10_wanted 41 = .ok (.ireturn, 1) := by decide +kernel
theorem dX10_pattern_0 : decode cX10_pattern 0 = .ok (.aload_n 0, 1) := by decide +kernel
theorem dX10_pattern_1 : decode cX10_pattern 1 = .ok (.iload_n 1, 1) := by decide +kernel
theorem dX10_pattern_2 : decode cX10_pattern 2 = .ok (.invokevirtual 150, 3) := by decide +kernel
theorem dX10_pattern_5 : decode cX10_pattern 5 = .ok (.ifCond .eq 27, 3) := by decide +kernel
theorem dX10_pattern_8 : decode cX10_pattern 8 = .ok (.iload_n 2, 1) := by decide +kernel
theorem dX10_pattern_9 : decode cX10_pattern 9 = .ok (.i2l, 1) := by decide +kernel
theorem dX10_pattern_10 : decode cX10_pattern 10 = .ok (.lconst 0, 1) := by decide +kernel
theorem dX10_pattern_11 : decode cX10_pattern 11 = .ok (.ldc2_w 220, 3) := by decide +kernel
theorem dX10_pattern_14 : decode cX10_pattern 14 = .ok (.invokestatic 131, 3) := by decide +kernel
theorem dX10_pattern_17 : decode cX10_pattern 17 = .ok (.ifCond .eq 15, 3) := by decide +kernel
theorem dX10_pattern_20 : decode cX10_pattern 20 = .ok (.iload_n 3, 1) := by decide +kernel
theorem dX10_pattern_21 : decode cX10_pattern 21 = .ok (.i2l, 1) := by decide +kernel
theorem dX10_pattern_22 : decode cX10_pattern 22 = .ok (.lconst 0, 1) := by decide +kernel
theorem dX10_pattern_23 : decode cX10_pattern 23 = .ok (.ldc2_w 144, 3) := by decide +kernel
theorem dX10_pattern_26 : decode cX10_pattern 26 = .ok (.invokestatic 131, 3) := by decide +kernel
theorem dX10_pattern_29 : decode cX10_pattern 29 = .ok (.ifCond .ne 6, 3) := by decide +kernel
theorem dX10_pattern_32 : decode cX10_pattern 32 = .ok (.bipush (-2), 2) := by decide +kernel
theorem dX10_pattern_34 : decode cX10_pattern 34 = .ok (.ireturn, 1) := by decide +kernel
theorem dX10_pattern_35 : decode cX10_pattern 35 = .ok (.aload_n 0, 1) := by decide +kernel
theorem dX10_pattern_36 : decode cX10_pattern 36 = .ok (.iload_n 1, 1) := by decide +kernel
theorem dX10_pattern_37 : decode cX10_pattern 37 = .ok (.iload_n 2, 1) := by decide +kernel
theorem dX10_pattern_38 : decode cX10_pattern 38 = .ok (.invokevirtual 198, 3) := by decide +kernel
theorem dX10_pattern_41 : decode cX10_pattern 41 = .ok (.iload_n 3, 1) := by decide +kernel
theorem dX10_pattern_42 : decode cX10_pattern 42 = .ok (.iconst 3, 1) := by decide +kernel
theorem dX10_pattern_43 : decode cX10_pattern 43 = .ok (.if_icmp .ne 10, 3) := by decide +kernel
theorem dX10_pattern_46 : decode cX10_pattern 46 = .ok (.aload_n 0, 1) := by decide +kernel
theorem dX10_pattern_47 : decode cX10_pattern 47 = .ok (.getfield 171, 3) := by decide +kernel
theorem dX10_pattern_50 : decode cX10_pattern 50 = .ok (.goto 9, 3) := by decide +kernel
theorem dX10_pattern_53 : decode cX10_pattern 53 = .ok (.aload_n 0, 1) := by decide +kernel
theorem dX10_pattern_54 : decode cX10_pattern 54 = .ok (.getfield 84, 3) := by decide +kernel
theorem dX10_pattern_57 : decode cX10_pattern 57 = .ok (.iload_n 3, 1) := by decide +kernel
theorem dX10_pattern_58 : decode cX10_pattern 58 = .ok (.iaload, 1) := by decide +kernel
theorem dX10_pattern_59 : decode cX10_pattern 59 = .ok (.ireturn, 1) := by decide +kernel
theorem dX10_account_0 : decode cX10_account 0 = .ok (.iload_n 1, 1) := by decide +kernel
theorem dX10_account_1 : decode cX10_account 1 = .ok (.i2l, 1) := by decide +kernel
theorem dX10_account_2 : decode cX10_account 2 = .ok (.lconst 0, 1) := by decide +kernel
theorem dX10_account_3 : decode cX10_account 3 = .ok (.ldc2_w 222, 3) := by decide +kernel
theorem dX10_account_6 : decode cX10_account 6 = .ok (.invokestatic 131, 3) := by decide +kernel
theorem dX10_account_9 : decode cX10_account 9 = .ok (.ifCond .eq 13, 3) := by decide +kernel
theorem dX10_account_12 : decode cX10_account 12 = .ok (.aload_n 0, 1) := by decide +kernel
theorem dX10_account_13 : decode cX10_account 13 = .ok (.getfield 71, 3) := by decide +kernel
theorem dX10_account_16 : decode cX10_account 16 = .ok (.iload_n 1, 1) := by decide +kernel
theorem dX10_account_17 : decode cX10_account 17 = .ok (.laload, 1) := by decide +kernel
theorem dX10_account_18 : decode cX10_account 18 = .ok (.l2i, 1) := by decide +kernel
theorem dX10_account_19 : decode cX10_account 19 = .ok (.goto 5, 3) := by decide +kernel
theorem dX10_account_22 : decode cX10_account 22 = .ok (.bipush (-2), 2) := by decide +kernel
theorem dX10_account_24 : decode cX10_account 24 = .ok (.ireturn, 1) := by decide +kernel
theorem dX10_stock_0 : decode cX10_stock 0 = .ok (.iload_n 1, 1) := by decide +kernel
theorem dX10_stock_1 : decode cX10_stock 1 = .ok (.i2l, 1) := by decide +kernel
theorem dX10_stock_2 : decode cX10_stock 2 = .ok (.ldc2_w 202, 3) := by decide +kernel
theorem dX10_stock_5 : decode cX10_stock 5 = .ok (.ldc2_w 204, 3) := by decide +kernel
theorem dX10_stock_8 : decode cX10_stock 8 = .ok (.invokestatic 131, 3) := by decide +kernel
theorem dX10_stock_11 : decode cX10_stock 11 = .ok (.ifCond .ne 6, 3) := by decide +kernel
theorem dX10_stock_14 : decode cX10_stock 14 = .ok (.bipush (-2), 2) := by decide +kernel
theorem dX10_stock_16 : decode cX10_stock 16 = .ok (.ireturn, 1) := by decide +kernel
theorem dX10_stock_17 : decode cX10_stock 17 = .ok (.aload_n 0, 1) := by decide +kernel
theorem dX10_stock_18 : decode cX10_stock 18 = .ok (.getfield 224, 3) := by decide +kernel
theorem dX10_stock_21 : decode cX10_stock 21 = .ok (.bipush 6, 2) := by decide +kernel
theorem dX10_stock_23 : decode cX10_stock 23 = .ok (.if_icmp .ne 6, 3) := by decide +kernel
theorem dX10_stock_26 : decode cX10_stock 26 = .ok (.bipush (-4), 2) := by decide +kernel
theorem dX10_stock_28 : decode cX10_stock 28 = .ok (.ireturn, 1) := by decide +kernel
theorem dX10_stock_29 : decode cX10_stock 29 = .ok (.aload_n 0, 1) := by decide +kernel
theorem dX10_stock_30 : decode cX10_stock 30 = .ok (.getfield 87, 3) := by decide +kernel
theorem dX10_stock_33 : decode cX10_stock 33 = .ok (.aload_n 0, 1) := by decide +kernel
theorem dX10_stock_34 : decode cX10_stock 34 = .ok (.getfield 224, 3) := by decide +kernel
theorem dX10_stock_37 : decode cX10_stock 37 = .ok (.iload_n 1, 1) := by decide +kernel
theorem dX10_stock_38 : decode cX10_stock 38 = .ok (.iastore, 1) := by decide +kernel
theorem dX10_stock_39 : decode cX10_stock 39 = .ok (.aload_n 0, 1) := by decide +kernel
theorem dX10_stock_40 : decode cX10_stock 40 = .ok (.dup, 1) := by decide +kernel
theorem dX10_stock_41 : decode cX10_stock 41 = .ok (.getfield 224, 3) := by decide +kernel
theorem dX10_stock_44 : decode cX10_stock 44 = .ok (.iconst 1, 1) := by decide +kernel
theorem dX10_stock_45 : decode cX10_stock 45 = .ok (.iadd, 1) := by decide +kernel
theorem dX10_stock_46 : decode cX10_stock 46 = .ok (.putfield 224, 3) := by decide +kernel
theorem dX10_stock_49 : decode cX10_stock 49 = .ok (.aload_n 0, 1) := by decide +kernel
theorem dX10_stock_50 : decode cX10_stock 50 = .ok (.getfield 224, 3) := by decide +kernel
theorem dX10_stock_53 : decode cX10_stock 53 = .ok (.ireturn, 1) := by decide +kernel
theorem dX10_best_0 : decode cX10_best 0 = .ok (.aload_n 0, 1) := by decide +kernel
theorem dX10_best_1 : decode cX10_best 1 = .ok (.iload_n 1, 1) := by decide +kernel
theorem dX10_best_2 : decode cX10_best 2 = .ok (.invokevirtual 156, 3) := by decide +kernel
theorem dX10_best_5 : decode cX10_best 5 = .ok (.ifCond .ne 6, 3) := by decide +kernel
theorem dX10_best_8 : decode cX10_best 8 = .ok (.bipush (-2), 2) := by decide +kernel
theorem dX10_best_10 : decode cX10_best 10 = .ok (.ireturn, 1) := by decide +kernel
theorem dX10_best_11 : decode cX10_best 11 = .ok (.iconst (-1), 1) := by decide +kernel
theorem dX10_best_12 : decode cX10_best 12 = .ok (.istore_n 3, 1) := by decide +kernel
theorem dX10_best_13 : decode cX10_best 13 = .ok (.iconst 0, 1) := by decide +kernel
theorem dX10_best_14 : decode cX10_best 14 = .ok (.istore 4, 2) := by decide +kernel
theorem dX10_best_16 : decode cX10_best 16 = .ok (.iconst 0, 1) := by decide +kernel
theorem dX10_best_17 : decode cX10_best 17 = .ok (.istore 5, 2) := by decide +kernel
theorem dX10_best_19 : decode cX10_best 19 = .ok (.iload 5, 2) := by decide +kernel
theorem dX10_best_21 : decode cX10_best 21 = .ok (.aload_n 0, 1) := by decide +kernel
theorem dX10_best_22 : decode cX10_best 22 = .ok (.getfield 224, 3) := by decide +kernel
theorem dX10_best_25 : decode cX10_best 25 = .ok (.if_icmp .ge 117, 3) := by decide +kernel
theorem dX10_best_28 : decode cX10_best 28 = .ok (.aload_n 0, 1) := by decide +kernel
theorem dX10_best_29 : decode cX10_best 29 = .ok (.aload_n 0, 1) := by decide +kernel
theorem dX10_best_30 : decode cX10_best 30 = .ok (.getfield 25, 3) := by decide +kernel
theorem dX10_best_33 : decode cX10_best 33 = .ok (.iload_n 1, 1) := by decide +kernel
theorem dX10_best_34 : decode cX10_best 34 = .ok (.iaload, 1) := by decide +kernel
theorem dX10_best_35 : decode cX10_best 35 = .ok (.aload_n 0, 1) := by decide +kernel
theorem dX10_best_36 : decode cX10_best 36 = .ok (.getfield 87, 3) := by decide +kernel
theorem dX10_best_39 : decode cX10_best 39 = .ok (.iload 5, 2) := by decide +kernel
theorem dX10_best_41 : decode cX10_best 41 = .ok (.iaload, 1) := by decide +kernel
theorem dX10_best_42 : decode cX10_best 42 = .ok (.iload_n 2, 1) := by decide +kernel
theorem dX10_best_43 : decode cX10_best 43 = .ok (.invokevirtual 209, 3) := by decide +kernel
theorem dX10_best_46 : decode cX10_best 46 = .ok (.aload_n 0, 1) := by decide +kernel
theorem dX10_best_47 : decode cX10_best 47 = .ok (.getfield 171, 3) := by decide +kernel
theorem dX10_best_50 : decode cX10_best 50 = .ok (.ifCond .le 86, 3) := by decide +kernel
theorem dX10_best_53 : decode cX10_best 53 = .ok (.iload_n 3, 1) := by decide +kernel
theorem dX10_best_54 : decode cX10_best 54 = .ok (.iconst (-1), 1) := by decide +kernel
theorem dX10_best_55 : decode cX10_best 55 = .ok (.if_icmp .ne 7, 3) := by decide +kernel
theorem dX10_best_58 : decode cX10_best 58 = .ok (.lconst 1, 1) := by decide +kernel
theorem dX10_best_59 : decode cX10_best 59 = .ok (.goto 11, 3) := by decide +kernel
theorem dX10_best_62 : decode cX10_best 62 = .ok (.aload_n 0, 1) := by decide +kernel
theorem dX10_best_63 : decode cX10_best 63 = .ok (.getfield 171, 3) := by decide +kernel
theorem dX10_best_66 : decode cX10_best 66 = .ok (.i2l, 1) := by decide +kernel
theorem dX10_best_67 : decode cX10_best 67 = .ok (.iload_n 3, 1) := by decide +kernel
theorem dX10_best_68 : decode cX10_best 68 = .ok (.i2l, 1) := by decide +kernel
theorem dX10_best_69 : decode cX10_best 69 = .ok (.lmul, 1) := by decide +kernel
theorem dX10_best_70 : decode cX10_best 70 = .ok (.lstore 6, 2) := by decide +kernel
theorem dX10_best_72 : decode cX10_best 72 = .ok (.iload_n 3, 1) := by decide +kernel
theorem dX10_best_73 : decode cX10_best 73 = .ok (.iconst (-1), 1) := by decide +kernel
theorem dX10_best_74 : decode cX10_best 74 = .ok (.if_icmp .ne 7, 3) := by decide +kernel
theorem dX10_best_77 : decode cX10_best 77 = .ok (.lconst 0, 1) := by decide +kernel
theorem dX10_best_78 : decode cX10_best 78 = .ok (.goto 15, 3) := by decide +kernel
theorem dX10_best_81 : decode cX10_best 81 = .ok (.iload 4, 2) := by decide +kernel
theorem dX10_best_83 : decode cX10_best 83 = .ok (.i2l, 1) := by decide +kernel
theorem dX10_best_84 : decode cX10_best 84 = .ok (.aload_n 0, 1) := by decide +kernel
theorem dX10_best_85 : decode cX10_best 85 = .ok (.getfield 87, 3) := by decide +kernel
theorem dX10_best_88 : decode cX10_best 88 = .ok (.iload 5, 2) := by decide +kernel
theorem dX10_best_90 : decode cX10_best 90 = .ok (.iaload, 1) := by decide +kernel
theorem dX10_best_91 : decode cX10_best 91 = .ok (.i2l, 1) := by decide +kernel
theorem dX10_best_92 : decode cX10_best 92 = .ok (.lmul, 1) := by decide +kernel
theorem dX10_best_93 : decode cX10_best 93 = .ok (.lstore 8, 2) := by decide +kernel
theorem dX10_best_95 : decode cX10_best 95 = .ok (.lload 6, 2) := by decide +kernel
theorem dX10_best_97 : decode cX10_best 97 = .ok (.lload 8, 2) := by decide +kernel
theorem dX10_best_99 : decode cX10_best 99 = .ok (.lcmp, 1) := by decide +kernel
theorem dX10_best_100 : decode cX10_best 100 = .ok (.ifCond .gt 22, 3) := by decide +kernel
theorem dX10_best_103 : decode cX10_best 103 = .ok (.lload 6, 2) := by decide +kernel
theorem dX10_best_105 : decode cX10_best 105 = .ok (.lload 8, 2) := by decide +kernel
theorem dX10_best_107 : decode cX10_best 107 = .ok (.lcmp, 1) := by decide +kernel
theorem dX10_best_108 : decode cX10_best 108 = .ok (.ifCond .ne 28, 3) := by decide +kernel
theorem dX10_best_111 : decode cX10_best 111 = .ok (.aload_n 0, 1) := by decide +kernel
theorem dX10_best_112 : decode cX10_best 112 = .ok (.getfield 87, 3) := by decide +kernel
theorem dX10_best_115 : decode cX10_best 115 = .ok (.iload 5, 2) := by decide +kernel
theorem dX10_best_117 : decode cX10_best 117 = .ok (.iaload, 1) := by decide +kernel
theorem dX10_best_118 : decode cX10_best 118 = .ok (.iload_n 3, 1) := by decide +kernel
theorem dX10_best_119 : decode cX10_best 119 = .ok (.if_icmp .ge 17, 3) := by decide +kernel
theorem dX10_best_122 : decode cX10_best 122 = .ok (.aload_n 0, 1) := by decide +kernel
theorem dX10_best_123 : decode cX10_best 123 = .ok (.getfield 87, 3) := by decide +kernel
theorem dX10_best_126 : decode cX10_best 126 = .ok (.iload 5, 2) := by decide +kernel
theorem dX10_best_128 : decode cX10_best 128 = .ok (.iaload, 1) := by decide +kernel
theorem dX10_best_129 : decode cX10_best 129 = .ok (.istore_n 3, 1) := by decide +kernel
theorem dX10_best_130 : decode cX10_best 130 = .ok (.aload_n 0, 1) := by decide +kernel
theorem dX10_best_131 : decode cX10_best 131 = .ok (.getfield 171, 3) := by decide +kernel
theorem dX10_best_134 : decode cX10_best 134 = .ok (.istore 4, 2) := by decide +kernel
theorem dX10_best_136 : decode cX10_best 136 = .ok (.iinc 5 1, 3) := by decide +kernel
theorem dX10_best_139 : decode cX10_best 139 = .ok (.goto (-120), 3) := by decide +kernel
theorem dX10_best_142 : decode cX10_best 142 = .ok (.iload_n 3, 1) := by decide +kernel
theorem dX10_best_143 : decode cX10_best 143 = .ok (.ireturn, 1) := by decide +kernel
theorem dX10_job_0 : decode cX10_job 0 = .ok (.aload_n 0, 1) := by decide +kernel
theorem dX10_job_1 : decode cX10_job 1 = .ok (.iload_n 1, 1) := by decide +kernel
theorem dX10_job_2 : decode cX10_job 2 = .ok (.invokevirtual 150, 3) := by decide +kernel
theorem dX10_job_5 : decode cX10_job 5 = .ok (.ifCond .eq 27, 3) := by decide +kernel
theorem dX10_job_8 : decode cX10_job 8 = .ok (.iload_n 2, 1) := by decide +kernel
theorem dX10_job_9 : decode cX10_job 9 = .ok (.i2l, 1) := by decide +kernel
theorem dX10_job_10 : decode cX10_job 10 = .ok (.lconst 1, 1) := by decide +kernel
theorem dX10_job_11 : decode cX10_job 11 = .ok (.ldc2_w 154, 3) := by decide +kernel
theorem dX10_job_14 : decode cX10_job 14 = .ok (.invokestatic 131, 3) := by decide +kernel
theorem dX10_job_17 : decode cX10_job 17 = .ok (.ifCond .eq 15, 3) := by decide +kernel
theorem dX10_job_20 : decode cX10_job 20 = .ok (.iload_n 3, 1) := by decide +kernel
theorem dX10_job_21 : decode cX10_job 21 = .ok (.i2l, 1) := by decide +kernel
theorem dX10_job_22 : decode cX10_job 22 = .ok (.lconst 0, 1) := by decide +kernel
theorem dX10_job_23 : decode cX10_job 23 = .ok (.ldc2_w 181, 3) := by decide +kernel
theorem dX10_job_26 : decode cX10_job 26 = .ok (.invokestatic 131, 3) := by decide +kernel
theorem dX10_job_29 : decode cX10_job 29 = .ok (.ifCond .ne 6, 3) := by decide +kernel
theorem dX10_job_32 : decode cX10_job 32 = .ok (.bipush (-2), 2) := by decide +kernel
theorem dX10_job_34 : decode cX10_job 34 = .ok (.ireturn, 1) := by decide +kernel
theorem dX10_job_35 : decode cX10_job 35 = .ok (.aload_n 0, 1) := by decide +kernel
theorem dX10_job_36 : decode cX10_job 36 = .ok (.getfield 227, 3) := by decide +kernel
theorem dX10_job_39 : decode cX10_job 39 = .ok (.bipush 7, 2) := by decide +kernel
theorem dX10_job_41 : decode cX10_job 41 = .ok (.if_icmp .ne 6, 3) := by decide +kernel
theorem dX10_job_44 : decode cX10_job 44 = .ok (.bipush (-4), 2) := by decide +kernel
theorem dX10_job_46 : decode cX10_job 46 = .ok (.ireturn, 1) := by decide +kernel
theorem dX10_job_47 : decode cX10_job 47 = .ok (.aload_n 0, 1) := by decide +kernel
theorem dX10_job_48 : decode cX10_job 48 = .ok (.getfield 90, 3) := by decide +kernel
theorem dX10_job_51 : decode cX10_job 51 = .ok (.aload_n 0, 1) := by decide +kernel
theorem dX10_job_52 : decode cX10_job 52 = .ok (.getfield 227, 3) := by decide +kernel
theorem dX10_job_55 : decode cX10_job 55 = .ok (.iload_n 1, 1) := by decide +kernel
theorem dX10_job_56 : decode cX10_job 56 = .ok (.iastore, 1) := by decide +kernel
theorem dX10_job_57 : decode cX10_job 57 = .ok (.aload_n 0, 1) := by decide +kernel
theorem dX10_job_58 : decode cX10_job 58 = .ok (.getfield 93, 3) := by decide +kernel
theorem dX10_job_61 : decode cX10_job 61 = .ok (.aload_n 0, 1) := by decide +kernel
theorem dX10_job_62 : decode cX10_job 62 = .ok (.getfield 227, 3) := by decide +kernel
theorem dX10_job_65 : decode cX10_job 65 = .ok (.iload_n 2, 1) := by decide +kernel
theorem dX10_job_66 : decode cX10_job 66 = .ok (.iastore, 1) := by decide +kernel
theorem dX10_job_67 : decode cX10_job 67 = .ok (.aload_n 0, 1) := by decide +kernel
theorem dX10_job_68 : decode cX10_job 68 = .ok (.getfield 96, 3) := by decide +kernel
theorem dX10_job_71 : decode cX10_job 71 = .ok (.aload_n 0, 1) := by decide +kernel
theorem dX10_job_72 : decode cX10_job 72 = .ok (.getfield 227, 3) := by decide +kernel
theorem dX10_job_75 : decode cX10_job 75 = .ok (.iload_n 3, 1) := by decide +kernel
theorem dX10_job_76 : decode cX10_job 76 = .ok (.iastore, 1) := by decide +kernel
theorem dX10_job_77 : decode cX10_job 77 = .ok (.aload_n 0, 1) := by decide +kernel
theorem dX10_job_78 : decode cX10_job 78 = .ok (.dup, 1) := by decide +kernel
theorem dX10_job_79 : decode cX10_job 79 = .ok (.getfield 227, 3) := by decide +kernel
theorem dX10_job_82 : decode cX10_job 82 = .ok (.iconst 1, 1) := by decide +kernel
theorem dX10_job_83 : decode cX10_job 83 = .ok (.iadd, 1) := by decide +kernel
theorem dX10_job_84 : decode cX10_job 84 = .ok (.putfield 227, 3) := by decide +kernel
theorem dX10_job_87 : decode cX10_job 87 = .ok (.aload_n 0, 1) := by decide +kernel
theorem dX10_job_88 : decode cX10_job 88 = .ok (.getfield 227, 3) := by decide +kernel
theorem dX10_job_91 : decode cX10_job 91 = .ok (.iconst 1, 1) := by decide +kernel
theorem dX10_job_92 : decode cX10_job 92 = .ok (.isub, 1) := by decide +kernel
theorem dX10_job_93 : decode cX10_job 93 = .ok (.ireturn, 1) := by decide +kernel
theorem dX10_change_0 : decode cX10_change 0 = .ok (.iload_n 1, 1) := by decide +kernel
theorem dX10_change_1 : decode cX10_change 1 = .ok (.i2l, 1) := by decide +kernel
theorem dX10_change_2 : decode cX10_change 2 = .ok (.lconst 0, 1) := by decide +kernel
theorem dX10_change_3 : decode cX10_change 3 = .ok (.ldc2_w 169, 3) := by decide +kernel
theorem dX10_change_6 : decode cX10_change 6 = .ok (.invokestatic 131, 3) := by decide +kernel
theorem dX10_change_9 : decode cX10_change 9 = .ok (.ifCond .ne 6, 3) := by decide +kernel
theorem dX10_change_12 : decode cX10_change 12 = .ok (.bipush (-2), 2) := by decide +kernel
theorem dX10_change_14 : decode cX10_change 14 = .ok (.ireturn, 1) := by decide +kernel
theorem dX10_change_15 : decode cX10_change 15 = .ok (.aload_n 0, 1) := by decide +kernel
theorem dX10_change_16 : decode cX10_change 16 = .ok (.getfield 99, 3) := by decide +kernel
theorem dX10_change_19 : decode cX10_change 19 = .ok (.istore_n 2, 1) := by decide +kernel
theorem dX10_change_20 : decode cX10_change 20 = .ok (.aload_n 0, 1) := by decide +kernel
