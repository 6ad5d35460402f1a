theorem dX9_get_62 : decode cX9_get 62 = .ok (.iadd, 1) := by decide +kernel
theorem dX9_get_63 : decode cX9_get 63 = .ok (.iaload, 1) := by decide +kernel
theorem dX9_get_64 : decode cX9_get 64 = .ok (.ireturn, 1) := by decide +kernel
theorem dX9_copy_0 : decode cX9_copy 0 = .ok (.iload_n 1, 1) := by decide +kernel
theorem dX9_copy_1 : decode cX9_copy 1 = .ok (.invokestatic 280, 3) := by decide +kernel
theorem dX9_copy_4 : decode cX9_copy 4 = .ok (.ifCond .eq 10, 3) := by decide +kernel
theorem dX9_copy_7 : decode cX9_copy 7 = .ok (.iload_n 3, 1) := by decide +kernel
theorem dX9_copy_8 : decode cX9_copy 8 = .ok (.invokestatic 280, 3) := by decide +kernel
theorem dX9_copy_11 : decode cX9_copy 11 = .ok (.ifCond .ne 6, 3) := by decide +kernel
theorem dX9_copy_14 : decode cX9_copy 14 = .ok (.bipush (-2), 2) := by decide +kernel
theorem dX9_copy_16 : decode cX9_copy 16 = .ok (.ireturn, 1) := by decide +kernel
theorem dX9_copy_17 : decode cX9_copy 17 = .ok (.aload_n 0, 1) := by decide +kernel
theorem dX9_copy_18 : decode cX9_copy 18 = .ok (.getfield 75, 3) := by decide +kernel
theorem dX9_copy_21 : decode cX9_copy 21 = .ok (.iload_n 1, 1) := by decide +kernel
theorem dX9_copy_22 : decode cX9_copy 22 = .ok (.iload_n 2, 1) := by decide +kernel
theorem dX9_copy_23 : decode cX9_copy 23 = .ok (.iload_n 3, 1) := by decide +kernel
theorem dX9_copy_24 : decode cX9_copy 24 = .ok (.iload 4, 2) := by decide +kernel
theorem dX9_copy_26 : decode cX9_copy 26 = .ok (.iload 5, 2) := by decide +kernel
theorem dX9_copy_28 : decode cX9_copy 28 = .ok (.invokevirtual 306, 3) := by decide +kernel
theorem dX9_copy_31 : decode cX9_copy 31 = .ok (.ireturn, 1) := by decide +kernel
theorem dX9_count_0 : decode cX9_count 0 = .ok (.iload_n 1, 1) := by decide +kernel
theorem dX9_count_1 : decode cX9_count 1 = .ok (.tableswitch 105 0 7 #[47, 55, 63, 68, 76, 84, 89, 97], 47) := by decide +kernel
theorem dX9_count_48 : decode cX9_count 48 = .ok (.aload_n 0, 1) := by decide +kernel
theorem dX9_count_49 : decode cX9_count 49 = .ok (.getfield 10, 3) := by decide +kernel
theorem dX9_count_52 : decode cX9_count 52 = .ok (.getfield 310, 3) := by decide +kernel
theorem dX9_count_55 : decode cX9_count 55 = .ok (.ireturn, 1) := by decide +kernel
theorem dX9_count_56 : decode cX9_count 56 = .ok (.aload_n 0, 1) := by decide +kernel
theorem dX9_count_57 : decode cX9_count 57 = .ok (.getfield 26, 3) := by decide +kernel
theorem dX9_count_60 : decode cX9_count 60 = .ok (.getfield 311, 3) := by decide +kernel
theorem dX9_count_63 : decode cX9_count 63 = .ok (.ireturn, 1) := by decide +kernel
theorem dX9_count_64 : decode cX9_count 64 = .ok (.aload_n 0, 1) := by decide +kernel
theorem dX9_count_65 : decode cX9_count 65 = .ok (.getfield 79, 3) := by decide +kernel
theorem dX9_count_68 : decode cX9_count 68 = .ok (.ireturn, 1) := by decide +kernel
theorem dX9_count_69 : decode cX9_count 69 = .ok (.aload_n 0, 1) := by decide +kernel
theorem dX9_count_70 : decode cX9_count 70 = .ok (.getfield 51, 3) := by decide +kernel
theorem dX9_count_73 : decode cX9_count 73 = .ok (.getfield 140, 3) := by decide +kernel
theorem dX9_count_76 : decode cX9_count 76 = .ok (.ireturn, 1) := by decide +kernel
theorem dX9_count_77 : decode cX9_count 77 = .ok (.aload_n 0, 1) := by decide +kernel
theorem dX9_count_78 : decode cX9_count 78 = .ok (.getfield 68, 3) := by decide +kernel
theorem dX9_count_81 : decode cX9_count 81 = .ok (.getfield 248, 3) := by decide +kernel
theorem dX9_count_84 : decode cX9_count 84 = .ok (.ireturn, 1) := by decide +kernel
theorem dX9_count_85 : decode cX9_count 85 = .ok (.aload_n 0, 1) := by decide +kernel
theorem dX9_count_86 : decode cX9_count 86 = .ok (.getfield 90, 3) := by decide +kernel
theorem dX9_count_89 : decode cX9_count 89 = .ok (.ireturn, 1) := by decide +kernel
theorem dX9_count_90 : decode cX9_count 90 = .ok (.aload_n 0, 1) := by decide +kernel
theorem dX9_count_91 : decode cX9_count 91 = .ok (.getfield 75, 3) := by decide +kernel
theorem dX9_count_94 : decode cX9_count 94 = .ok (.getfield 312, 3) := by decide +kernel
theorem dX9_count_97 : decode cX9_count 97 = .ok (.ireturn, 1) := by decide +kernel
theorem dX9_count_98 : decode cX9_count 98 = .ok (.aload_n 0, 1) := by decide +kernel
theorem dX9_count_99 : decode cX9_count 99 = .ok (.getfield 51, 3) := by decide +kernel
theorem dX9_count_102 : decode cX9_count 102 = .ok (.invokevirtual 315, 3) := by decide +kernel
theorem dX9_count_105 : decode cX9_count 105 = .ok (.ireturn, 1) := by decide +kernel
theorem dX9_count_106 : decode cX9_count 106 = .ok (.bipush (-2), 2) := by decide +kernel
theorem dX9_count_108 : decode cX9_count 108 = .ok (.ireturn, 1) := by decide +kernel
theorem dX9_digest_0 : decode cX9_digest 0 = .ok (.ldc2_w 318, 3) := by decide +kernel
theorem dX9_digest_3 : decode cX9_digest 3 = .ok (.lstore_n 1, 1) := by decide +kernel
theorem dX9_digest_4 : decode cX9_digest 4 = .ok (.iconst 0, 1) := by decide +kernel
theorem dX9_digest_5 : decode cX9_digest 5 = .ok (.istore_n 3, 1) := by decide +kernel
theorem dX9_digest_6 : decode cX9_digest 6 = .ok (.iload_n 3, 1) := by decide +kernel
theorem dX9_digest_7 : decode cX9_digest 7 = .ok (.iconst 5, 1) := by decide +kernel
theorem dX9_digest_8 : decode cX9_digest 8 = .ok (.if_icmp .gt 22, 3) := by decide +kernel
theorem dX9_digest_11 : decode cX9_digest 11 = .ok (.ldc2_w 320, 3) := by decide +kernel
theorem dX9_digest_14 : decode cX9_digest 14 = .ok (.lload_n 1, 1) := by decide +kernel
theorem dX9_digest_15 : decode cX9_digest 15 = .ok (.lmul, 1) := by decide +kernel
theorem dX9_digest_16 : decode cX9_digest 16 = .ok (.aload_n 0, 1) := by decide +kernel
theorem dX9_digest_17 : decode cX9_digest 17 = .ok (.iload_n 3, 1) := by decide +kernel
theorem dX9_digest_18 : decode cX9_digest 18 = .ok (.invokevirtual 322, 3) := by decide +kernel
theorem dX9_digest_21 : decode cX9_digest 21 = .ok (.i2l, 1) := by decide +kernel
theorem dX9_digest_22 : decode cX9_digest 22 = .ok (.ladd, 1) := by decide +kernel
theorem dX9_digest_23 : decode cX9_digest 23 = .ok (.lstore_n 1, 1) := by decide +kernel
theorem dX9_digest_24 : decode cX9_digest 24 = .ok (.iinc 3 1, 3) := by decide +kernel
theorem dX9_digest_27 : decode cX9_digest 27 = .ok (.goto (-21), 3) := by decide +kernel
theorem dX9_digest_30 : decode cX9_digest 30 = .ok (.ldc2_w 320, 3) := by decide +kernel
theorem dX9_digest_33 : decode cX9_digest 33 = .ok (.lload_n 1, 1) := by decide +kernel
theorem dX9_digest_34 : decode cX9_digest 34 = .ok (.lmul, 1) := by decide +kernel
theorem dX9_digest_35 : decode cX9_digest 35 = .ok (.aload_n 0, 1) := by decide +kernel
theorem dX9_digest_36 : decode cX9_digest 36 = .ok (.bipush 7, 2) := by decide +kernel
theorem dX9_digest_38 : decode cX9_digest 38 = .ok (.invokevirtual 322, 3) := by decide +kernel
theorem dX9_digest_41 : decode cX9_digest 41 = .ok (.i2l, 1) := by decide +kernel
theorem dX9_digest_42 : decode cX9_digest 42 = .ok (.ladd, 1) := by decide +kernel
theorem dX9_digest_43 : decode cX9_digest 43 = .ok (.lstore_n 1, 1) := by decide +kernel
theorem dX9_digest_44 : decode cX9_digest 44 = .ok (.iconst 0, 1) := by decide +kernel
theorem dX9_digest_45 : decode cX9_digest 45 = .ok (.istore_n 3, 1) := by decide +kernel
theorem dX9_digest_46 : decode cX9_digest 46 = .ok (.iload_n 3, 1) := by decide +kernel
theorem dX9_digest_47 : decode cX9_digest 47 = .ok (.aload_n 0, 1) := by decide +kernel
theorem dX9_digest_48 : decode cX9_digest 48 = .ok (.getfield 26, 3) := by decide +kernel
theorem dX9_digest_51 : decode cX9_digest 51 = .ok (.getfield 311, 3) := by decide +kernel
theorem dX9_digest_54 : decode cX9_digest 54 = .ok (.if_icmp .ge 39, 3) := by decide +kernel
theorem dX9_digest_57 : decode cX9_digest 57 = .ok (.iconst 2, 1) := by decide +kernel
theorem dX9_digest_58 : decode cX9_digest 58 = .ok (.istore 4, 2) := by decide +kernel
theorem dX9_digest_60 : decode cX9_digest 60 = .ok (.iload 4, 2) := by decide +kernel
theorem dX9_digest_62 : decode cX9_digest 62 = .ok (.iconst 4, 1) := by decide +kernel
theorem dX9_digest_63 : decode cX9_digest 63 = .ok (.if_icmp .gt 24, 3) := by decide +kernel
theorem dX9_digest_66 : decode cX9_digest 66 = .ok (.ldc2_w 320, 3) := by decide +kernel
theorem dX9_digest_69 : decode cX9_digest 69 = .ok (.lload_n 1, 1) := by decide +kernel
theorem dX9_digest_70 : decode cX9_digest 70 = .ok (.lmul, 1) := by decide +kernel
theorem dX9_digest_71 : decode cX9_digest 71 = .ok (.aload_n 0, 1) := by decide +kernel
theorem dX9_digest_72 : decode cX9_digest 72 = .ok (.iload_n 3, 1) := by decide +kernel
theorem dX9_digest_73 : decode cX9_digest 73 = .ok (.iload 4, 2) := by decide +kernel
theorem dX9_digest_75 : decode cX9_digest 75 = .ok (.invokevirtual 325, 3) := by decide +kernel
theorem dX9_digest_78 : decode cX9_digest 78 = .ok (.i2l, 1) := by decide +kernel
theorem dX9_digest_79 : decode cX9_digest 79 = .ok (.ladd, 1) := by decide +kernel
theorem dX9_digest_80 : decode cX9_digest 80 = .ok (.lstore_n 1, 1) := by decide +kernel
theorem dX9_digest_81 : decode cX9_digest 81 = .ok (.iinc 4 1, 3) := by decide +kernel
theorem dX9_digest_84 : decode cX9_digest 84 = .ok (.goto (-24), 3) := by decide +kernel
theorem dX9_digest_87 : decode cX9_digest 87 = .ok (.iinc 3 1, 3) := by decide +kernel
theorem dX9_digest_90 : decode cX9_digest 90 = .ok (.goto (-44), 3) := by decide +kernel
theorem dX9_digest_93 : decode cX9_digest 93 = .ok (.iconst 0, 1) := by decide +kernel
theorem dX9_digest_94 : decode cX9_digest 94 = .ok (.istore_n 3, 1) := by decide +kernel
theorem dX9_digest_95 : decode cX9_digest 95 = .ok (.iload_n 3, 1) := by decide +kernel
theorem dX9_digest_96 : decode cX9_digest 96 = .ok (.aload_n 0, 1) := by decide +kernel
theorem dX9_digest_97 : decode cX9_digest 97 = .ok (.getfield 51, 3) := by decide +kernel
theorem dX9_digest_100 : decode cX9_digest 100 = .ok (.getfield 140, 3) := by decide +kernel
theorem dX9_digest_103 : decode cX9_digest 103 = .ok (.if_icmp .ge 40, 3) := by decide +kernel
theorem dX9_digest_106 : decode cX9_digest 106 = .ok (.iconst 3, 1) := by decide +kernel
theorem dX9_digest_107 : decode cX9_digest 107 = .ok (.istore 4, 2) := by decide +kernel
theorem dX9_digest_109 : decode cX9_digest 109 = .ok (.iload 4, 2) := by decide +kernel
theorem dX9_digest_111 : decode cX9_digest 111 = .ok (.bipush 6, 2) := by decide +kernel
theorem dX9_digest_113 : decode cX9_digest 113 = .ok (.if_icmp .gt 24, 3) := by decide +kernel
theorem dX9_digest_116 : decode cX9_digest 116 = .ok (.ldc2_w 320, 3) := by decide +kernel
theorem dX9_digest_119 : decode cX9_digest 119 = .ok (.lload_n 1, 1) := by decide +kernel
theorem dX9_digest_120 : decode cX9_digest 120 = .ok (.lmul, 1) := by decide +kernel
theorem dX9_digest_121 : decode cX9_digest 121 = .ok (.aload_n 0, 1) := by decide +kernel
theorem dX9_digest_122 : decode cX9_digest 122 = .ok (.iload_n 3, 1) := by decide +kernel
theorem dX9_digest_123 : decode cX9_digest 123 = .ok (.iload 4, 2) := by decide +kernel
theorem dX9_digest_125 : decode cX9_digest 125 = .ok (.invokevirtual 328, 3) := by decide +kernel
theorem dX9_digest_128 : decode cX9_digest 128 = .ok (.i2l, 1) := by decide +kernel
theorem dX9_digest_129 : decode cX9_digest 129 = .ok (.ladd, 1) := by decide +kernel
theorem dX9_digest_130 : decode cX9_digest 130 = .ok (.lstore_n 1, 1) := by decide +kernel
theorem dX9_digest_131 : decode cX9_digest 131 = .ok (.iinc 4 1, 3) := by decide +kernel
theorem dX9_digest_134 : decode cX9_digest 134 = .ok (.goto (-25), 3) := by decide +kernel
theorem dX9_digest_137 : decode cX9_digest 137 = .ok (.iinc 3 1, 3) := by decide +kernel
theorem dX9_digest_140 : decode cX9_digest 140 = .ok (.goto (-45), 3) := by decide +kernel
theorem dX9_digest_143 : decode cX9_digest 143 = .ok (.iconst 0, 1) := by decide +kernel
theorem dX9_digest_144 : decode cX9_digest 144 = .ok (.istore_n 3, 1) := by decide +kernel
theorem dX9_digest_145 : decode cX9_digest 145 = .ok (.iload_n 3, 1) := by decide +kernel
theorem dX9_digest_146 : decode cX9_digest 146 = .ok (.bipush 6, 2) := by decide +kernel
theorem dX9_digest_148 : decode cX9_digest 148 = .ok (.if_icmp .gt 22, 3) := by decide +kernel
theorem dX9_digest_151 : decode cX9_digest 151 = .ok (.ldc2_w 320, 3) := by decide +kernel
theorem dX9_digest_154 : decode cX9_digest 154 = .ok (.lload_n 1, 1) := by decide +kernel
theorem dX9_digest_155 : decode cX9_digest 155 = .ok (.lmul, 1) := by decide +kernel
theorem dX9_digest_156 : decode cX9_digest 156 = .ok (.aload_n 0, 1) := by decide +kernel
theorem dX9_digest_157 : decode cX9_digest 157 = .ok (.iload_n 3, 1) := by decide +kernel
theorem dX9_digest_158 : decode cX9_digest 158 = .ok (.invokevirtual 331, 3) := by decide +kernel
theorem dX9_digest_161 : decode cX9_digest 161 = .ok (.i2l, 1) := by decide +kernel
theorem dX9_digest_162 : decode cX9_digest 162 = .ok (.ladd, 1) := by decide +kernel
theorem dX9_digest_163 : decode cX9_digest 163 = .ok (.lstore_n 1, 1) := by decide +kernel
theorem dX9_digest_164 : decode cX9_digest 164 = .ok (.iinc 3 1, 3) := by decide +kernel
theorem dX9_digest_167 : decode cX9_digest 167 = .ok (.goto (-22), 3) := by decide +kernel
theorem dX9_digest_170 : decode cX9_digest 170 = .ok (.iconst 0, 1) := by decide +kernel
theorem dX9_digest_171 : decode cX9_digest 171 = .ok (.istore_n 3, 1) := by decide +kernel
theorem dX9_digest_172 : decode cX9_digest 172 = .ok (.iload_n 3, 1) := by decide +kernel
theorem dX9_digest_173 : decode cX9_digest 173 = .ok (.aload_n 0, 1) := by decide +kernel
theorem dX9_digest_174 : decode cX9_digest 174 = .ok (.getfield 10, 3) := by decide +kernel
theorem dX9_digest_177 : decode cX9_digest 177 = .ok (.getfield 310, 3) := by decide +kernel
theorem dX9_digest_180 : decode cX9_digest 180 = .ok (.if_icmp .ge 47, 3) := by decide +kernel
theorem dX9_digest_183 : decode cX9_digest 183 = .ok (.iconst 0, 1) := by decide +kernel
theorem dX9_digest_184 : decode cX9_digest 184 = .ok (.istore 4, 2) := by decide +kernel
theorem dX9_digest_186 : decode cX9_digest 186 = .ok (.iload 4, 2) := by decide +kernel
theorem dX9_digest_188 : decode cX9_digest 188 = .ok (.aload_n 0, 1) := by decide +kernel
theorem dX9_digest_189 : decode cX9_digest 189 = .ok (.getfield 19, 3) := by decide +kernel
theorem dX9_digest_192 : decode cX9_digest 192 = .ok (.getfield 201, 3) := by decide +kernel
theorem dX9_digest_195 : decode cX9_digest 195 = .ok (.iload_n 3, 1) := by decide +kernel
theorem dX9_digest_196 : decode cX9_digest 196 = .ok (.iaload, 1) := by decide +kernel
theorem dX9_digest_197 : decode cX9_digest 197 = .ok (.if_icmp .ge 24, 3) := by decide +kernel
theorem dX9_digest_200 : decode cX9_digest 200 = .ok (.ldc2_w 320, 3) := by decide +kernel
theorem dX9_digest_203 : decode cX9_digest 203 = .ok (.lload_n 1, 1) := by decide +kernel
theorem dX9_digest_204 : decode cX9_digest 204 = .ok (.lmul, 1) := by decide +kernel
theorem dX9_digest_205 : decode cX9_digest 205 = .ok (.aload_n 0, 1) := by decide +kernel
theorem dX9_digest_206 : decode cX9_digest 206 = .ok (.iload_n 3, 1) := by decide +kernel
theorem dX9_digest_207 : decode cX9_digest 207 = .ok (.iload 4, 2) := by decide +kernel
theorem dX9_digest_209 : decode cX9_digest 209 = .ok (.invokevirtual 334, 3) := by decide +kernel
theorem dX9_digest_212 : decode cX9_digest 212 = .ok (.i2l, 1) := by decide +kernel
theorem dX9_digest_213 : decode cX9_digest 213 = .ok (.ladd, 1) := by decide +kernel
theorem dX9_digest_214 : decode cX9_digest 214 = .ok (.lstore_n 1, 1) := by decide +kernel
theorem dX9_digest_215 : decode cX9_digest 215 = .ok (.iinc 4 1, 3) := by decide +kernel
theorem dX9_digest_218 : decode cX9_digest 218 = .ok (.goto (-32), 3) := by decide +kernel
theorem dX9_digest_221 : decode cX9_digest 221 = .ok (.iinc 3 1, 3) := by decide +kernel
theorem dX9_digest_224 : decode cX9_digest 224 = .ok (.goto (-52), 3) := by decide +kernel
theorem dX9_digest_227 : decode cX9_digest 227 = .ok (.lload_n 1, 1) := by decide +kernel
theorem dX9_digest_228 : decode cX9_digest 228 = .ok (.lreturn, 1) := by decide +kernel
theorem dX9_within_0 : decode cX9_within 0 = .ok (.iload_n 0, 1) := by decide +kernel
theorem dX9_within_1 : decode cX9_within 1 = .ok (.iload_n 1, 1) := by decide +kernel
theorem dX9_within_2 : decode cX9_within 2 = .ok (.if_icmp .lt 12, 3) := by decide +kernel
theorem dX9_within_5 : decode cX9_within 5 = .ok (.iload_n 0, 1) := by decide +kernel
theorem dX9_within_6 : decode cX9_within 6 = .ok (.iload_n 2, 1) := by decide +kernel
theorem dX9_within_7 : decode cX9_within 7 = .ok (.if_icmp .gt 7, 3) := by decide +kernel
theorem dX9_within_10 : decode cX9_within 10 = .ok (.iconst 1, 1) := by decide +kernel
theorem dX9_within_11 : decode cX9_within 11 = .ok (.goto 4, 3) := by decide +kernel
theorem dX9_within_14 : decode cX9_within 14 = .ok (.iconst 0, 1) := by decide +kernel
theorem dX9_within_15 : decode cX9_within 15 = .ok (.ireturn, 1) := by decide +kernel
theorem dX9_isSheet_0 : decode cX9_isSheet 0 = .ok (.iload_n 0, 1) := by decide +kernel
theorem dX9_isSheet_1 : decode cX9_isSheet 1 = .ok (.iconst 0, 1) := by decide +kernel
theorem dX9_isSheet_2 : decode cX9_isSheet 2 = .ok (.iconst 3, 1) := by decide +kernel
theorem dX9_isSheet_3 : decode cX9_isSheet 3 = .ok (.invokestatic 93, 3) := by decide +kernel
theorem dX9_isSheet_6 : decode cX9_isSheet 6 = .ok (.ireturn, 1) := by decide +kernel
theorem dX9_isForm_0 : decode cX9_isForm 0 = .ok (.iload_n 0, 1) := by decide +kernel
theorem dX9_isForm_1 : decode cX9_isForm 1 = .ok (.iconst 0, 1) := by decide +kernel
theorem dX9_isForm_2 : decode cX9_isForm 2 = .ok (.iconst 2, 1) := by decide +kernel
theorem dX9_isForm_3 : decode cX9_isForm 3 = .ok (.invokestatic 93, 3) := by decide +kernel
theorem dX9_isForm_6 : decode cX9_isForm 6 = .ok (.ireturn, 1) := by decide +kernel
theorem dX9_foresee_0 : decode cX9_foresee 0 = .ok (.aload_n 0, 1) := by decide +kernel
theorem dX9_foresee_1 : decode cX9_foresee 1 = .ok (.getfield 37, 3) := by decide +kernel
theorem dX9_foresee_4 : decode cX9_foresee 4 = .ok (.aload_n 0, 1) := by decide +kernel
theorem dX9_foresee_5 : decode cX9_foresee 5 = .ok (.getfield 30, 3) := by decide +kernel
theorem dX9_foresee_8 : decode cX9_foresee 8 = .ok (.iload_n 2, 1) := by decide +kernel
theorem dX9_foresee_9 : decode cX9_foresee 9 = .ok (.aload_n 0, 1) := by decide +kernel
theorem dX9_foresee_10 : decode cX9_foresee 10 = .ok (.getfield 10, 3) := by decide +kernel
theorem dX9_foresee_13 : decode cX9_foresee 13 = .ok (.getfield 336, 3) := by decide +kernel
theorem dX9_foresee_16 : decode cX9_foresee 16 = .ok (.iload_n 1, 1) := by decide +kernel
theorem dX9_foresee_17 : decode cX9_foresee 17 = .ok (.iaload, 1) := by decide +kernel
theorem dX9_foresee_18 : decode cX9_foresee 18 = .ok (.iload_n 3, 1) := by decide +kernel
theorem dX9_foresee_19 : decode cX9_foresee 19 = .ok (.invokevirtual 339, 3) := by decide +kernel
theorem dX9_foresee_22 : decode cX9_foresee 22 = .ok (.aload_n 0, 1) := by decide +kernel
theorem dX9_foresee_23 : decode cX9_foresee 23 = .ok (.getfield 44, 3) := by decide +kernel
theorem dX9_foresee_26 : decode cX9_foresee 26 = .ok (.aload_n 0, 1) := by decide +kernel
theorem dX9_foresee_27 : decode cX9_foresee 27 = .ok (.getfield 19, 3) := by decide +kernel
theorem dX9_foresee_30 : decode cX9_foresee 30 = .ok (.iload_n 1, 1) := by decide +kernel
theorem dX9_foresee_31 : decode cX9_foresee 31 = .ok (.aload_n 0, 1) := by decide +kernel
theorem dX9_foresee_32 : decode cX9_foresee 32 = .ok (.getfield 37, 3) := by decide +kernel
theorem dX9_foresee_35 : decode cX9_foresee 35 = .ok (.getfield 343, 3) := by decide +kernel
theorem dX9_foresee_38 : decode cX9_foresee 38 = .ok (.aload_n 0, 1) := by decide +kernel
theorem dX9_foresee_39 : decode cX9_foresee 39 = .ok (.getfield 30, 3) := by decide +kernel
theorem dX9_foresee_42 : decode cX9_foresee 42 = .ok (.iconst 4, 1) := by decide +kernel
theorem dX9_foresee_43 : decode cX9_foresee 43 = .ok (.iaload, 1) := by decide +kernel
theorem dX9_foresee_44 : decode cX9_foresee 44 = .ok (.invokevirtual 207, 3) := by decide +kernel
theorem dX9_foresee_47 : decode cX9_foresee 47 = .ok (.aload_n 0, 1) := by decide +kernel
theorem dX9_foresee_48 : decode cX9_foresee 48 = .ok (.getfield 37, 3) := by decide +kernel
theorem dX9_foresee_51 : decode cX9_foresee 51 = .ok (.aload_n 0, 1) := by decide +kernel
theorem dX9_foresee_52 : decode cX9_foresee 52 = .ok (.getfield 44, 3) := by decide +kernel
theorem dX9_foresee_55 : decode cX9_foresee 55 = .ok (.getfield 211, 3) := by decide +kernel
theorem dX9_foresee_58 : decode cX9_foresee 58 = .ok (.invokevirtual 346, 3) := by decide +kernel
theorem dX9_foresee_61 : decode cX9_foresee 61 = .ok (.return_, 1) := by decide +kernel
theorem dX9_paysMore_0 : decode cX9_paysMore 0 = .ok (.iload_n 0, 1) := by decide +kernel
theorem dX9_paysMore_1 : decode cX9_paysMore 1 = .ok (.ifCond .gt 5, 3) := by decide +kernel
theorem dX9_paysMore_4 : decode cX9_paysMore 4 = .ok (.iconst 0, 1) := by decide +kernel
theorem dX9_paysMore_5 : decode cX9_paysMore 5 = .ok (.ireturn, 1) := by decide +kernel
theorem dX9_paysMore_6 : decode cX9_paysMore 6 = .ok (.iload_n 3, 1) := by decide +kernel
theorem dX9_paysMore_7 : decode cX9_paysMore 7 = .ok (.iconst (-1), 1) := by decide +kernel
theorem dX9_paysMore_8 : decode cX9_paysMore 8 = .ok (.if_icmp .ne 5, 3) := by decide +kernel
theorem dX9_paysMore_11 : decode cX9_paysMore 11 = .ok (.iconst 1, 1) := by decide +kernel
theorem dX9_paysMore_12 : decode cX9_paysMore 12 = .ok (.ireturn, 1) := by decide +kernel
theorem dX9_paysMore_13 : decode cX9_paysMore 13 = .ok (.iload_n 0, 1) := by decide +kernel
theorem dX9_paysMore_14 : decode cX9_paysMore 14 = .ok (.i2l, 1) := by decide +kernel
theorem dX9_paysMore_15 : decode cX9_paysMore 15 = .ok (.iload_n 3, 1) := by decide +kernel
theorem dX9_paysMore_16 : decode cX9_paysMore 16 = .ok (.i2l, 1) := by decide +kernel
theorem dX9_paysMore_17 : decode cX9_paysMore 17 = .ok (.lmul, 1) := by decide +kernel
theorem dX9_paysMore_18 : decode cX9_paysMore 18 = .ok (.lstore 4, 2) := by decide +kernel
theorem dX9_paysMore_20 : decode cX9_paysMore 20 = .ok (.iload_n 2, 1) := by decide +kernel
theorem dX9_paysMore_21 : decode cX9_paysMore 21 = .ok (.i2l, 1) := by decide +kernel
theorem dX9_paysMore_22 : decode cX9_paysMore 22 = .ok (.iload_n 1, 1) := by decide +kernel
theorem dX9_paysMore_23 : decode cX9_paysMore 23 = .ok (.i2l, 1) := by decide +kernel
theorem dX9_paysMore_24 : decode cX9_paysMore 24 = .ok (.lmul, 1) := by decide +kernel
theorem dX9_paysMore_25 : decode cX9_paysMore 25 = .ok (.lstore 6, 2) := by decide +kernel
theorem dX9_paysMore_27 : decode cX9_paysMore 27 = .ok (.lload 4, 2) := by decide +kernel
theorem dX9_paysMore_29 : decode cX9_paysMore 29 = .ok (.lload 6, 2) := by decide +kernel
theorem dX9_paysMore_31 : decode cX9_paysMore 31 = .ok (.lcmp, 1) := by decide +kernel
theorem dX9_paysMore_32 : decode cX9_paysMore 32 = .ok (.ifCond .gt 16, 3) := by decide +kernel
theorem dX9_paysMore_35 : decode cX9_paysMore 35 = .ok (.lload 4, 2) := by decide +kernel
theorem dX9_paysMore_37 : decode cX9_paysMore 37 = .ok (.lload 6, 2) := by decide +kernel
theorem dX9_paysMore_39 : decode cX9_paysMore 39 = .ok (.lcmp, 1) := by decide +kernel
theorem dX9_paysMore_40 : decode cX9_paysMore 40 = .ok (.ifCond .ne 12, 3) := by decide +kernel
theorem dX9_paysMore_43 : decode cX9_paysMore 43 = .ok (.iload_n 1, 1) := by decide +kernel
theorem dX9_paysMore_44 : decode cX9_paysMore 44 = .ok (.iload_n 3, 1) := by decide +kernel
theorem dX9_paysMore_45 : decode cX9_paysMore 45 = .ok (.if_icmp .ge 7, 3) := by decide +kernel
theorem dX9_paysMore_48 : decode cX9_paysMore 48 = .ok (.iconst 1, 1) := by decide +kernel
theorem dX9_paysMore_49 : decode cX9_paysMore 49 = .ok (.goto 4, 3) := by decide +kernel
theorem dX9_paysMore_52 : decode cX9_paysMore 52 = .ok (.iconst 0, 1) := by decide +kernel
theorem dX9_paysMore_53 : decode cX9_paysMore 53 = .ok (.ireturn, 1) := by decide +kernel
theorem dX10_init_0 : decode cX10_init 0 = .ok (.aload_n 0, 1) := by decide +kernel
theorem dX10_init_1 : decode cX10_init 1 = .ok (.invokespecial 1, 3) := by decide +kernel
theorem dX10_init_4 : decode cX10_init 4 = .ok (.aload_n 0, 1) := by decide +kernel
theorem dX10_init_5 : decode cX10_init 5 = .ok (.bipush 6, 2) := by decide +kernel
theorem dX10_init_7 : decode cX10_init 7 = .ok (.newarray .int, 2) := by decide +kernel
theorem dX10_init_9 : decode cX10_init 9 = .ok (.putfield 7, 3) := by decide +kernel
theorem dX10_init_12 : decode cX10_init 12 = .ok (.aload_n 0, 1) := by decide +kernel
theorem dX10_init_13 : decode cX10_init 13 = .ok (.bipush 8, 2) := by decide +kernel
theorem dX10_init_15 : decode cX10_init 15 = .ok (.newarray .int, 2) := by decide +kernel
theorem dX10_init_17 : decode cX10_init 17 = .ok (.putfield 13, 3) := by decide +kernel
theorem dX10_init_20 : decode cX10_init 20 = .ok (.aload_n 0, 1) := by decide +kernel
theorem dX10_init_21 : decode cX10_init 21 = .ok (.bipush 8, 2) := by decide +kernel
theorem dX10_init_23 : decode cX10_init 23 = .ok (.newarray .int, 2) := by decide +kernel
theorem dX10_init_25 : decode cX10_init 25 = .ok (.putfield 16, 3) := by decide +kernel
theorem dX10_init_28 : decode cX10_init 28 = .ok (.aload_n 0, 1) := by decide +kernel
theorem dX10_init_29 : decode cX10_init 29 = .ok (.bipush 8, 2) := by decide +kernel
theorem dX10_init_31 : decode cX10_init 31 = .ok (.newarray .int, 2) := by decide +kernel
theorem dX10_init_33 : decode cX10_init 33 = .ok (.putfield 19, 3) := by decide +kernel
theorem dX10_init_36 : decode cX10_init 36 = .ok (.aload_n 0, 1) := by decide +kernel
theorem dX10_init_37 : decode cX10_init 37 = .ok (.bipush 8, 2) := by decide +kernel
theorem dX10_init_39 : decode cX10_init 39 = .ok (.newarray .int, 2) := by decide +kernel
theorem dX10_init_41 : decode cX10_init 41 = .ok (.putfield 22, 3) := by decide +kernel
theorem dX10_init_44 : decode cX10_init 44 = .ok (.aload_n 0, 1) := by decide +kernel
theorem dX10_init_45 : decode cX10_init 45 = .ok (.bipush 12, 2) := by decide +kernel
theorem dX10_init_47 : decode cX10_init 47 = .ok (.newarray .int, 2) := by decide +kernel
theorem dX10_init_49 : decode cX10_init 49 = .ok (.putfield 25, 3) := by decide +kernel
theorem dX10_init_52 : decode cX10_init 52 = .ok (.aload_n 0, 1) := by decide +kernel
theorem dX10_init_53 : decode cX10_init 53 = .ok (.bipush 12, 2) := by decide +kernel
theorem dX10_init_55 : decode cX10_init 55 = .ok (.newarray .int, 2) := by decide +kernel
theorem dX10_init_57 : decode cX10_init 57 = .ok (.putfield 28, 3) := by decide +kernel
theorem dX10_init_60 : decode cX10_init 60 = .ok (.aload_n 0, 1) := by decide +kernel
theorem dX10_init_61 : decode cX10_init 61 = .ok (.bipush 12, 2) := by decide +kernel
theorem dX10_init_63 : decode cX10_init 63 = .ok (.newarray .int, 2) := by decide +kernel
theorem dX10_init_65 : decode cX10_init 65 = .ok (.putfield 31, 3) := by decide +kernel
theorem dX10_init_68 : decode cX10_init 68 = .ok (.aload_n 0, 1) := by decide +kernel
theorem dX10_init_69 : decode cX10_init 69 = .ok (.bipush 12, 2) := by decide +kernel
theorem dX10_init_71 : decode cX10_init 71 = .ok (.newarray .int, 2) := by decide +kernel
theorem dX10_init_73 : decode cX10_init 73 = .ok (.putfield 34, 3) := by decide +kernel
theorem dX10_init_76 : decode cX10_init 76 = .ok (.aload_n 0, 1) := by decide +kernel
theorem dX10_init_77 : decode cX10_init 77 = .ok (.bipush 12, 2) := by decide +kernel
theorem dX10_init_79 : decode cX10_init 79 = .ok (.newarray .int, 2) := by decide +kernel
theorem dX10_init_81 : decode cX10_init 81 = .ok (.putfield 37, 3) := by decide +kernel
theorem dX10_init_84 : decode cX10_init 84 = .ok (.aload_n 0, 1) := by decide +kernel
theorem dX10_init_85 : decode cX10_init 85 = .ok (.sipush 200, 3) := by decide +kernel
theorem dX10_init_88 : decode cX10_init 88 = .ok (.newarray .int, 2) := by decide +kernel
theorem dX10_init_90 : decode cX10_init 90 = .ok (.putfield 40, 3) := by decide +kernel
theorem dX10_init_93 : decode cX10_init 93 = .ok (.aload_n 0, 1) := by decide +kernel
theorem dX10_init_94 : decode cX10_init 94 = .ok (.sipush 200, 3) := by decide +kernel
theorem dX10_init_97 : decode cX10_init 97 = .ok (.newarray .int, 2) := by decide +kernel
theorem dX10_init_99 : decode cX10_init 99 = .ok (.putfield 43, 3) := by decide +kernel
theorem dX10_init_102 : decode cX10_init 102 = .ok (.aload_n 0, 1) := by decide +kernel
theorem dX10_init_103 : decode cX10_init 103 = .ok (.sipush 200, 3) := by decide +kernel
theorem dX10_init_106 : decode cX10_init 106 = .ok (.newarray .int, 2) := by decide +kernel
theorem dX10_init_108 : decode cX10_init 108 = .ok (.putfield 46, 3) := by decide +kernel
theorem dX10_init_111 : decode cX10_init 111 = .ok (.aload_n 0, 1) := by decide +kernel
theorem dX10_init_112 : decode cX10_init 112 = .ok (.sipush 200, 3) := by decide +kernel
theorem dX10_init_115 : decode cX10_init 115 = .ok (.newarray .int, 2) := by decide +kernel
theorem dX10_init_117 : decode cX10_init 117 = .ok (.putfield 49, 3) := by decide +kernel
theorem dX10_init_120 : decode cX10_init 120 = .ok (.aload_n 0, 1) := by decide +kernel
theorem dX10_init_121 : decode cX10_init 121 = .ok (.sipush 200, 3) := by decide +kernel
theorem dX10_init_124 : decode cX10_init 124 = .ok (.newarray .int, 2) := by decide +kernel
theorem dX10_init_126 : decode cX10_init 126 = .ok (.putfield 52, 3) := by decide +kernel
theorem dX10_init_129 : decode cX10_init 129 = .ok (.aload_n 0, 1) := by decide +kernel
theorem dX10_init_130 : decode cX10_init 130 = .ok (.sipush 200, 3) := by decide +kernel
theorem dX10_init_133 : decode cX10_init 133 = .ok (.newarray .int, 2) := by decide +kernel
theorem dX10_init_135 : decode cX10_init 135 = .ok (.putfield 55, 3) := by decide +kernel
theorem dX10_init_138 : decode cX10_init 138 = .ok (.aload_n 0, 1) := by decide +kernel
theorem dX10_init_139 : decode cX10_init 139 = .ok (.sipush 200, 3) := by decide +kernel
theorem dX10_init_142 : decode cX10_init 142 = .ok (.newarray .int, 2) := by decide +kernel
theorem dX10_init_144 : decode cX10_init 144 = .ok (.putfield 58, 3) := by decide +kernel
theorem dX10_init_147 : decode cX10_init 147 = .ok (.aload_n 0, 1) := by decide +kernel
theorem dX10_init_148 : decode cX10_init 148 = .ok (.sipush 200, 3) := by decide +kernel
theorem dX10_init_151 : decode cX10_init 151 = .ok (.newarray .int, 2) := by decide +kernel
theorem dX10_init_153 : decode cX10_init 153 = .ok (.putfield 61, 3) := by decide +kernel
theorem dX10_init_156 : decode cX10_init 156 = .ok (.aload_n 0, 1) := by decide +kernel
theorem dX10_init_157 : decode cX10_init 157 = .ok (.iconst (-1), 1) := by decide +kernel
theorem dX10_init_158 : decode cX10_init 158 = .ok (.putfield 64, 3) := by decide +kernel
theorem dX10_init_161 : decode cX10_init 161 = .ok (.aload_n 0, 1) := by decide +kernel
theorem dX10_init_162 : decode cX10_init 162 = .ok (.iconst (-1), 1) := by decide +kernel
theorem dX10_init_163 : decode cX10_init 163 = .ok (.putfield 68, 3) := by decide +kernel
theorem dX10_init_166 : decode cX10_init 166 = .ok (.aload_n 0, 1) := by decide +kernel
theorem dX10_init_167 : decode cX10_init 167 = .ok (.bipush 7, 2) := by decide +kernel
theorem dX10_init_169 : decode cX10_init 169 = .ok (.newarray .long, 2) := by decide +kernel
theorem dX10_init_171 : decode cX10_init 171 = .ok (.putfield 71, 3) := by decide +kernel
theorem dX10_init_174 : decode cX10_init 174 = .ok (.aload_n 0, 1) := by decide +kernel
theorem dX10_init_175 : decode cX10_init 175 = .ok (.bipush 8, 2) := by decide +kernel
theorem dX10_init_177 : decode cX10_init 177 = .ok (.newarray .int, 2) := by decide +kernel
theorem dX10_init_179 : decode cX10_init 179 = .ok (.putfield 75, 3) := by decide +kernel
theorem dX10_init_182 : decode cX10_init 182 = .ok (.aload_n 0, 1) := by decide +kernel
theorem dX10_init_183 : decode cX10_init 183 = .ok (.bipush 24, 2) := by decide +kernel
theorem dX10_init_185 : decode cX10_init 185 = .ok (.newarray .int, 2) := by decide +kernel
theorem dX10_init_187 : decode cX10_init 187 = .ok (.putfield 78, 3) := by decide +kernel
theorem dX10_init_190 : decode cX10_init 190 = .ok (.aload_n 0, 1) := by decide +kernel
theorem dX10_init_191 : decode cX10_init 191 = .ok (.bipush 24, 2) := by decide +kernel
theorem dX10_init_193 : decode cX10_init 193 = .ok (.newarray .int, 2) := by decide +kernel
theorem dX10_init_195 : decode cX10_init 195 = .ok (.putfield 81, 3) := by decide +kernel
theorem dX10_init_198 : decode cX10_init 198 = .ok (.aload_n 0, 1) := by decide +kernel
theorem dX10_init_199 : decode cX10_init 199 = .ok (.iconst 3, 1) := by decide +kernel
theorem dX10_init_200 : decode cX10_init 200 = .ok (.newarray .int, 2) := by decide +kernel
theorem dX10_init_202 : decode cX10_init 202 = .ok (.putfield 84, 3) := by decide +kernel
theorem dX10_init_205 : decode cX10_init 205 = .ok (.aload_n 0, 1) := by decide +kernel
theorem dX10_init_206 : decode cX10_init 206 = .ok (.bipush 6, 2) := by decide +kernel
theorem dX10_init_208 : decode cX10_init 208 = .ok (.newarray .int, 2) := by decide +kernel
theorem dX10_init_210 : decode cX10_init 210 = .ok (.putfield 87, 3) := by decide +kernel
theorem dX10_init_213 : decode cX10_init 213 = .ok (.aload_n 0, 1) := by decide +kernel
theorem dX10_init_214 : decode cX10_init 214 = .ok (.bipush 7, 2) := by decide +kernel
theorem dX10_init_216 : decode cX10_init 216 = .ok (.newarray .int, 2) := by decide +kernel
theorem dX10_init_218 : decode cX10_init 218 = .ok (.putfield 90, 3) := by decide +kernel
theorem dX10_init_221 : decode cX10_init 221 = .ok (.aload_n 0, 1) := by decide +kernel
theorem dX10_init_222 : decode cX10_init 222 = .ok (.bipush 7, 2) := by decide +kernel
theorem dX10_init_224 : decode cX10_init 224 = .ok (.newarray .int, 2) := by decide +kernel
theorem dX10_init_226 : decode cX10_init 226 = .ok (.putfield 93, 3) := by decide +kernel
theorem dX10_init_229 : decode cX10_init 229 = .ok (.aload_n 0, 1) := by decide +kernel
theorem dX10_init_230 : decode cX10_init 230 = .ok (.bipush 7, 2) := by decide +kernel
theorem dX10_init_232 : decode cX10_init 232 = .ok (.newarray .int, 2) := by decide +kernel
theorem dX10_init_234 : decode cX10_init 234 = .ok (.putfield 96, 3) := by decide +kernel
theorem dX10_init_237 : decode cX10_init 237 = .ok (.aload_n 0, 1) := by decide +kernel
theorem dX10_init_238 : decode cX10_init 238 = .ok (.iconst 2, 1) := by decide +kernel
theorem dX10_init_239 : decode cX10_init 239 = .ok (.putfield 99, 3) := by decide +kernel
theorem dX10_init_242 : decode cX10_init 242 = .ok (.aload_n 0, 1) := by decide +kernel
theorem dX10_init_243 : decode cX10_init 243 = .ok (.bipush 7, 2) := by decide +kernel
theorem dX10_init_245 : decode cX10_init 245 = .ok (.newarray .int, 2) := by decide +kernel
theorem dX10_init_247 : decode cX10_init 247 = .ok (.putfield 102, 3) := by decide +kernel
theorem dX10_init_250 : decode cX10_init 250 = .ok (.aload_n 0, 1) := by decide +kernel
theorem dX10_init_251 : decode cX10_init 251 = .ok (.bipush 7, 2) := by decide +kernel
theorem dX10_init_253 : decode cX10_init 253 = .ok (.newarray .int, 2) := by decide +kernel
theorem dX10_init_255 : decode cX10_init 255 = .ok (.putfield 105, 3) := by decide +kernel
theorem dX10_init_258 : decode cX10_init 258 = .ok (.aload_n 0, 1) := by decide +kernel
theorem dX10_init_259 : decode cX10_init 259 = .ok (.ldc 108, 2) := by decide +kernel
theorem dX10_init_261 : decode cX10_init 261 = .ok (.putfield 109, 3) := by decide +kernel
theorem dX10_init_264 : decode cX10_init 264 = .ok (.aload_n 0, 1) := by decide +kernel
theorem dX10_init_265 : decode cX10_init 265 = .ok (.sipush 200, 3) := by decide +kernel
theorem dX10_init_268 : decode cX10_init 268 = .ok (.newarray .boolean, 2) := by decide +kernel
theorem dX10_init_270 : decode cX10_init 270 = .ok (.putfield 112, 3) := by decide +kernel
theorem dX10_init_273 : decode cX10_init 273 = .ok (.aload_n 0, 1) := by decide +kernel
theorem dX10_init_274 : decode cX10_init 274 = .ok (.iconst 4, 1) := by decide +kernel
theorem dX10_init_275 : decode cX10_init 275 = .ok (.newarray .int, 2) := by decide +kernel
theorem dX10_init_277 : decode cX10_init 277 = .ok (.putfield 116, 3) := by decide +kernel
theorem dX10_init_280 : decode cX10_init 280 = .ok (.aload_n 0, 1) := by decide +kernel
theorem dX10_init_281 : decode cX10_init 281 = .ok (.iconst 4, 1) := by decide +kernel
theorem dX10_init_282 : decode cX10_init 282 = .ok (.newarray .int, 2) := by decide +kernel
theorem dX10_init_284 : decode cX10_init 284 = .ok (.putfield 119, 3) := by decide +kernel
theorem dX10_init_287 : decode cX10_init 287 = .ok (.aload_n 0, 1) := by decide +kernel
theorem dX10_init_288 : decode cX10_init 288 = .ok (.sipush 800, 3) := by decide +kernel
theorem dX10_init_291 : decode cX10_init 291 = .ok (.newarray .int, 2) := by decide +kernel
theorem dX10_init_293 : decode cX10_init 293 = .ok (.putfield 122, 3) := by decide +kernel
theorem dX10_init_296 : decode cX10_init 296 = .ok (.aload_n 0, 1) := by decide +kernel
theorem dX10_init_297 : decode cX10_init 297 = .ok (.sipush 200, 3) := by decide +kernel
theorem dX10_init_300 : decode cX10_init 300 = .ok (.newarray .int, 2) := by decide +kernel
theorem dX10_init_302 : decode cX10_init 302 = .ok (.putfield 125, 3) := by decide +kernel
theorem dX10_init_305 : decode cX10_init 305 = .ok (.aload_n 0, 1) := by decide +kernel
theorem dX10_init_306 : decode cX10_init 306 = .ok (.getfield 7, 3) := by decide +kernel
theorem dX10_init_309 : decode cX10_init 309 = .ok (.iconst 0, 1) := by decide +kernel
theorem dX10_init_310 : decode cX10_init 310 = .ok (.bipush 20, 2) := by decide +kernel
theorem dX10_init_312 : decode cX10_init 312 = .ok (.iastore, 1) := by decide +kernel
theorem dX10_init_313 : decode cX10_init 313 = .ok (.aload_n 0, 1) := by decide +kernel
theorem dX10_init_314 : decode cX10_init 314 = .ok (.getfield 7, 3) := by decide +kernel
theorem dX10_init_317 : decode cX10_init 317 = .ok (.iconst 1, 1) := by decide +kernel
theorem dX10_init_318 : decode cX10_init 318 = .ok (.sipush 500, 3) := by decide +kernel
theorem dX10_init_321 : decode cX10_init 321 = .ok (.iastore, 1) := by decide +kernel
theorem dX10_init_322 : decode cX10_init 322 = .ok (.aload_n 0, 1) := by decide +kernel
theorem dX10_init_323 : decode cX10_init 323 = .ok (.getfield 7, 3) := by decide +kernel
theorem dX10_init_326 : decode cX10_init 326 = .ok (.iconst 2, 1) := by decide +kernel
theorem dX10_init_327 : decode cX10_init 327 = .ok (.sipush 300, 3) := by decide +kernel
theorem dX10_init_330 : decode cX10_init 330 = .ok (.iastore, 1) := by decide +kernel
theorem dX10_init_331 : decode cX10_init 331 = .ok (.aload_n 0, 1) := by decide +kernel
theorem dX10_init_332 : decode cX10_init 332 = .ok (.getfield 7, 3) := by decide +kernel
theorem dX10_init_335 : decode cX10_init 335 = .ok (.iconst 3, 1) := by decide +kernel
theorem dX10_init_336 : decode cX10_init 336 = .ok (.sipush 400, 3) := by decide +kernel
theorem dX10_init_339 : decode cX10_init 339 = .ok (.iastore, 1) := by decide +kernel
theorem dX10_init_340 : decode cX10_init 340 = .ok (.aload_n 0, 1) := by decide +kernel
theorem dX10_init_341 : decode cX10_init 341 = .ok (.getfield 7, 3) := by decide +kernel
theorem dX10_init_344 : decode cX10_init 344 = .ok (.iconst 4, 1) := by decide +kernel
theorem dX10_init_345 : decode cX10_init 345 = .ok (.iconst 5, 1) := by decide +kernel
theorem dX10_init_346 : decode cX10_init 346 = .ok (.iastore, 1) := by decide +kernel
theorem dX10_init_347 : decode cX10_init 347 = .ok (.aload_n 0, 1) := by decide +kernel
theorem dX10_init_348 : decode cX10_init 348 = .ok (.getfield 7, 3) := by decide +kernel
theorem dX10_init_351 : decode cX10_init 351 = .ok (.iconst 5, 1) := by decide +kernel
theorem dX10_init_352 : decode cX10_init 352 = .ok (.iconst 5, 1) := by decide +kernel
theorem dX10_init_353 : decode cX10_init 353 = .ok (.iastore, 1) := by decide +kernel
theorem dX10_init_354 : decode cX10_init 354 = .ok (.iconst 0, 1) := by decide +kernel
theorem dX10_init_355 : decode cX10_init 355 = .ok (.istore_n 1, 1) := by decide +kernel
theorem dX10_init_356 : decode cX10_init 356 = .ok (.iload_n 1, 1) := by decide +kernel
theorem dX10_init_357 : decode cX10_init 357 = .ok (.iconst 4, 1) := by decide +kernel
theorem dX10_init_358 : decode cX10_init 358 = .ok (.if_icmp .ge 16, 3) := by decide +kernel
theorem dX10_init_361 : decode cX10_init 361 = .ok (.aload_n 0, 1) := by decide +kernel
theorem dX10_init_362 : decode cX10_init 362 = .ok (.getfield 116, 3) := by decide +kernel
theorem dX10_init_365 : decode cX10_init 365 = .ok (.iload_n 1, 1) := by decide +kernel
theorem dX10_init_366 : decode cX10_init 366 = .ok (.iconst (-1), 1) := by decide +kernel
theorem dX10_init_367 : decode cX10_init 367 = .ok (.iastore, 1) := by decide +kernel
theorem dX10_init_368 : decode cX10_init 368 = .ok (.iinc 1 1, 3) := by decide +kernel
theorem dX10_init_371 : decode cX10_init 371 = .ok (.goto (-15), 3) := by decide +kernel
theorem dX10_init_374 : decode cX10_init 374 = .ok (.return_, 1) := by decide +kernel
theorem dX10_in_0 : decode cX10_in 0 = .ok (.lload_n 0, 1) := by decide +kernel
theorem dX10_in_1 : decode cX10_in 1 = .ok (.lload_n 2, 1) := by decide +kernel
theorem dX10_in_2 : decode cX10_in 2 = .ok (.lcmp, 1) := by decide +kernel
theorem dX10_in_3 : decode cX10_in 3 = .ok (.ifCond .lt 14, 3) := by decide +kernel
theorem dX10_in_6 : decode cX10_in 6 = .ok (.lload_n 0, 1) := by decide +kernel
theorem dX10_in_7 : decode cX10_in 7 = .ok (.lload 4, 2) := by decide +kernel
theorem dX10_in_9 : decode cX10_in 9 = .ok (.lcmp, 1) := by decide +kernel
theorem dX10_in_10 : decode cX10_in 10 = .ok (.ifCond .gt 7, 3) := by decide +kernel
theorem dX10_in_13 : decode cX10_in 13 = .ok (.iconst 1, 1) := by decide +kernel
theorem dX10_in_14 : decode cX10_in 14 = .ok (.goto 4, 3) := by decide +kernel
theorem dX10_in_17 : decode cX10_in 17 = .ok (.iconst 0, 1) := by decide +kernel
theorem dX10_in_18 : decode cX10_in 18 = .ok (.ireturn, 1) := by decide +kernel
theorem dX10_isProfile_0 : decode cX10_isProfile 0 = .ok (.iload_n 1, 1) := by decide +kernel
theorem dX10_isProfile_1 : decode cX10_isProfile 1 = .ok (.i2l, 1) := by decide +kernel
theorem dX10_isProfile_2 : decode cX10_isProfile 2 = .ok (.lconst 0, 1) := by decide +kernel
theorem dX10_isProfile_3 : decode cX10_isProfile 3 = .ok (.aload_n 0, 1) := by decide +kernel
theorem dX10_isProfile_4 : decode cX10_isProfile 4 = .ok (.getfield 128, 3) := by decide +kernel
theorem dX10_isProfile_7 : decode cX10_isProfile 7 = .ok (.iconst 1, 1) := by decide +kernel
theorem dX10_isProfile_8 : decode cX10_isProfile 8 = .ok (.isub, 1) := by decide +kernel
theorem dX10_isProfile_9 : decode cX10_isProfile 9 = .ok (.i2l, 1) := by decide +kernel
theorem dX10_isProfile_10 : decode cX10_isProfile 10 = .ok (.invokestatic 131, 3) := by decide +kernel
theorem dX10_isProfile_13 : decode cX10_isProfile 13 = .ok (.ireturn, 1) := by decide +kernel
theorem dX10_isDie_0 : decode cX10_isDie 0 = .ok (.iload_n 1, 1) := by decide +kernel
theorem dX10_isDie_1 : decode cX10_isDie 1 = .ok (.i2l, 1) := by decide +kernel
theorem dX10_isDie_2 : decode cX10_isDie 2 = .ok (.lconst 0, 1) := by decide +kernel
theorem dX10_isDie_3 : decode cX10_isDie 3 = .ok (.aload_n 0, 1) := by decide +kernel
theorem dX10_isDie_4 : decode cX10_isDie 4 = .ok (.getfield 135, 3) := by decide +kernel
theorem dX10_isDie_7 : decode cX10_isDie 7 = .ok (.iconst 1, 1) := by decide +kernel
theorem dX10_isDie_8 : decode cX10_isDie 8 = .ok (.isub, 1) := by decide +kernel
theorem dX10_isDie_9 : decode cX10_isDie 9 = .ok (.i2l, 1) := by decide +kernel
theorem dX10_isDie_10 : decode cX10_isDie 10 = .ok (.invokestatic 131, 3) := by decide +kernel
theorem dX10_isDie_13 : decode cX10_isDie 13 = .ok (.ireturn, 1) := by decide +kernel
theorem dX10_profile_0 : decode cX10_profile 0 = .ok (.iload_n 1, 1) := by decide +kernel
theorem dX10_profile_1 : decode cX10_profile 1 = .ok (.i2l, 1) := by decide +kernel
theorem dX10_profile_2 : decode cX10_profile 2 = .ok (.lconst 0, 1) := by decide +kernel
theorem dX10_profile_3 : decode cX10_profile 3 = .ok (.ldc2_w 138, 3) := by decide +kernel
theorem dX10_profile_6 : decode cX10_profile 6 = .ok (.invokestatic 131, 3) := by decide +kernel
theorem dX10_profile_9 : decode cX10_profile 9 = .ok (.ifCond .eq 44, 3) := by decide +kernel
theorem dX10_profile_12 : decode cX10_profile 12 = .ok (.iload_n 2, 1) := by decide +kernel
theorem dX10_profile_13 : decode cX10_profile 13 = .ok (.i2l, 1) := by decide +kernel
theorem dX10_profile_14 : decode cX10_profile 14 = .ok (.ldc2_w 140, 3) := by decide +kernel
theorem dX10_profile_17 : decode cX10_profile 17 = .ok (.ldc2_w 142, 3) := by decide +kernel
theorem dX10_profile_20 : decode cX10_profile 20 = .ok (.invokestatic 131, 3) := by decide +kernel
theorem dX10_profile_23 : decode cX10_profile 23 = .ok (.ifCond .eq 30, 3) := by decide +kernel
theorem dX10_profile_26 : decode cX10_profile 26 = .ok (.iload_n 3, 1) := by decide +kernel
theorem dX10_profile_27 : decode cX10_profile 27 = .ok (.i2l, 1) := by decide +kernel
theorem dX10_profile_28 : decode cX10_profile 28 = .ok (.lconst 0, 1) := by decide +kernel
theorem dX10_profile_29 : decode cX10_profile 29 = .ok (.ldc2_w 144, 3) := by decide +kernel
theorem dX10_profile_32 : decode cX10_profile 32 = .ok (.invokestatic 131, 3) := by decide +kernel
theorem dX10_profile_35 : decode cX10_profile 35 = .ok (.ifCond .eq 18, 3) := by decide +kernel
theorem dX10_profile_38 : decode cX10_profile 38 = .ok (.iload 4, 2) := by decide +kernel
theorem dX10_profile_40 : decode cX10_profile 40 = .ok (.i2l, 1) := by decide +kernel
theorem dX10_profile_41 : decode cX10_profile 41 = .ok (.ldc2_w 146, 3) := by decide +kernel
theorem dX10_profile_44 : decode cX10_profile 44 = .ok (.ldc2_w 148, 3) := by decide +kernel
theorem dX10_profile_47 : decode cX10_profile 47 = .ok (.invokestatic 131, 3) := by decide +kernel
theorem dX10_profile_50 : decode cX10_profile 50 = .ok (.ifCond .ne 6, 3) := by decide +kernel
theorem dX10_profile_53 : decode cX10_profile 53 = .ok (.bipush (-2), 2) := by decide +kernel
theorem dX10_profile_55 : decode cX10_profile 55 = .ok (.ireturn, 1) := by decide +kernel
theorem dX10_profile_56 : decode cX10_profile 56 = .ok (.aload_n 0, 1) := by decide +kernel
theorem dX10_profile_57 : decode cX10_profile 57 = .ok (.getfield 128, 3) := by decide +kernel
theorem dX10_profile_60 : decode cX10_profile 60 = .ok (.bipush 8, 2) := by decide +kernel
theorem dX10_profile_62 : decode cX10_profile 62 = .ok (.if_icmp .ne 6, 3) := by decide +kernel
theorem dX10_profile_65 : decode cX10_profile 65 = .ok (.bipush (-4), 2) := by decide +kernel
theorem dX10_profile_67 : decode cX10_profile 67 = .ok (.ireturn, 1) := by decide +kernel
theorem dX10_profile_68 : decode cX10_profile 68 = .ok (.aload_n 0, 1) := by decide +kernel
theorem dX10_profile_69 : decode cX10_profile 69 = .ok (.getfield 13, 3) := by decide +kernel
theorem dX10_profile_72 : decode cX10_profile 72 = .ok (.aload_n 0, 1) := by decide +kernel
theorem dX10_profile_73 : decode cX10_profile 73 = .ok (.getfield 128, 3) := by decide +kernel
theorem dX10_profile_76 : decode cX10_profile 76 = .ok (.iload_n 1, 1) := by decide +kernel
theorem dX10_profile_77 : decode cX10_profile 77 = .ok (.iastore, 1) := by decide +kernel
theorem dX10_profile_78 : decode cX10_profile 78 = .ok (.aload_n 0, 1) := by decide +kernel
theorem dX10_profile_79 : decode cX10_profile 79 = .ok (.getfield 16, 3) := by decide +kernel
theorem dX10_profile_82 : decode cX10_profile 82 = .ok (.aload_n 0, 1) := by decide +kernel
theorem dX10_profile_83 : decode cX10_profile 83 = .ok (.getfield 128, 3) := by decide +kernel
theorem dX10_profile_86 : decode cX10_profile 86 = .ok (.iload_n 2, 1) := by decide +kernel
theorem dX10_profile_87 : decode cX10_profile 87 = .ok (.iastore, 1) := by decide +kernel
theorem dX10_profile_88 : decode cX10_profile 88 = .ok (.aload_n 0, 1) := by decide +kernel
theorem dX10_profile_89 : decode cX10_profile 89 = .ok (.getfield 19, 3) := by decide +kernel
theorem dX10_profile_92 : decode cX10_profile 92 = .ok (.aload_n 0, 1) := by decide +kernel
theorem dX10_profile_93 : decode cX10_profile 93 = .ok (.getfield 128, 3) := by decide +kernel
theorem dX10_profile_96 : decode cX10_profile 96 = .ok (.iload_n 3, 1) := by decide +kernel
theorem dX10_profile_97 : decode cX10_profile 97 = .ok (.iastore, 1) := by decide +kernel
theorem dX10_profile_98 : decode cX10_profile 98 = .ok (.aload_n 0, 1) := by decide +kernel
theorem dX10_profile_99 : decode cX10_profile 99 = .ok (.getfield 22, 3) := by decide +kernel
theorem dX10_profile_102 : decode cX10_profile 102 = .ok (.aload_n 0, 1) := by decide +kernel
theorem dX10_profile_103 : decode cX10_profile 103 = .ok (.getfield 128, 3) := by decide +kernel
theorem dX10_profile_106 : decode cX10_profile 106 = .ok (.iload 4, 2) := by decide +kernel
theorem dX10_profile_108 : decode cX10_profile 108 = .ok (.iastore, 1) := by decide +kernel
theorem dX10_profile_109 : decode cX10_profile 109 = .ok (.aload_n 0, 1) := by decide +kernel
theorem dX10_profile_110 : decode cX10_profile 110 = .ok (.getfield 75, 3) := by decide +kernel
theorem dX10_profile_113 : decode cX10_profile 113 = .ok (.aload_n 0, 1) := by decide +kernel
theorem dX10_profile_114 : decode cX10_profile 114 = .ok (.getfield 128, 3) := by decide +kernel
theorem dX10_profile_117 : decode cX10_profile 117 = .ok (.iconst 0, 1) := by decide +kernel
theorem dX10_profile_118 : decode cX10_profile 118 = .ok (.iastore, 1) := by decide +kernel
theorem dX10_profile_119 : decode cX10_profile 119 = .ok (.aload_n 0, 1) := by decide +kernel
theorem dX10_profile_120 : decode cX10_profile 120 = .ok (.dup, 1) := by decide +kernel
theorem dX10_profile_121 : decode cX10_profile 121 = .ok (.getfield 128, 3) := by decide +kernel
theorem dX10_profile_124 : decode cX10_profile 124 = .ok (.iconst 1, 1) := by decide +kernel
theorem dX10_profile_125 : decode cX10_profile 125 = .ok (.iadd, 1) := by decide +kernel
theorem dX10_profile_126 : decode cX10_profile 126 = .ok (.putfield 128, 3) := by decide +kernel
theorem dX10_profile_129 : decode cX10_profile 129 = .ok (.aload_n 0, 1) := by decide +kernel
theorem dX10_profile_130 : decode cX10_profile 130 = .ok (.getfield 128, 3) := by decide +kernel
theorem dX10_profile_133 : decode cX10_profile 133 = .ok (.iconst 1, 1) := by decide +kernel
theorem dX10_profile_134 : decode cX10_profile 134 = .ok (.isub, 1) := by decide +kernel
theorem dX10_profile_135 : decode cX10_profile 135 = .ok (.ireturn, 1) := by decide +kernel
theorem dX10_die_0 : decode cX10_die 0 = .ok (.aload_n 0, 1) := by decide +kernel
theorem dX10_die_1 : decode cX10_die 1 = .ok (.iload_n 1, 1) := by decide +kernel
theorem dX10_die_2 : decode cX10_die 2 = .ok (.invokevirtual 150, 3) := by decide +kernel
theorem dX10_die_5 : decode cX10_die 5 = .ok (.ifCond .eq 15, 3) := by decide +kernel
theorem dX10_die_8 : decode cX10_die 8 = .ok (.iload_n 2, 1) := by decide +kernel
theorem dX10_die_9 : decode cX10_die 9 = .ok (.i2l, 1) := by decide +kernel
theorem dX10_die_10 : decode cX10_die 10 = .ok (.lconst 1, 1) := by decide +kernel
theorem dX10_die_11 : decode cX10_die 11 = .ok (.ldc2_w 154, 3) := by decide +kernel
theorem dX10_die_14 : decode cX10_die 14 = .ok (.invokestatic 131, 3) := by decide +kernel
theorem dX10_die_17 : decode cX10_die 17 = .ok (.ifCond .ne 6, 3) := by decide +kernel
theorem dX10_die_20 : decode cX10_die 20 = .ok (.bipush (-2), 2) := by decide +kernel
theorem dX10_die_22 : decode cX10_die 22 = .ok (.ireturn, 1) := by decide +kernel
theorem dX10_die_23 : decode cX10_die 23 = .ok (.aload_n 0, 1) := by decide +kernel
theorem dX10_die_24 : decode cX10_die 24 = .ok (.getfield 135, 3) := by decide +kernel
theorem dX10_die_27 : decode cX10_die 27 = .ok (.bipush 12, 2) := by decide +kernel
theorem dX10_die_29 : decode cX10_die 29 = .ok (.if_icmp .ne 6, 3) := by decide +kernel
theorem dX10_die_32 : decode cX10_die 32 = .ok (.bipush (-4), 2) := by decide +kernel
theorem dX10_die_34 : decode cX10_die 34 = .ok (.ireturn, 1) := by decide +kernel
theorem dX10_die_35 : decode cX10_die 35 = .ok (.aload_n 0, 1) := by decide +kernel
theorem dX10_die_36 : decode cX10_die 36 = .ok (.getfield 25, 3) := by decide +kernel
theorem dX10_die_39 : decode cX10_die 39 = .ok (.aload_n 0, 1) := by decide +kernel
theorem dX10_die_40 : decode cX10_die 40 = .ok (.getfield 135, 3) := by decide +kernel
theorem dX10_die_43 : decode cX10_die 43 = .ok (.iload_n 1, 1) := by decide +kernel
theorem dX10_die_44 : decode cX10_die 44 = .ok (.iastore, 1) := by decide +kernel
theorem dX10_die_45 : decode cX10_die 45 = .ok (.aload_n 0, 1) := by decide +kernel
theorem dX10_die_46 : decode cX10_die 46 = .ok (.getfield 28, 3) := by decide +kernel
theorem dX10_die_49 : decode cX10_die 49 = .ok (.aload_n 0, 1) := by decide +kernel
theorem dX10_die_50 : decode cX10_die 50 = .ok (.getfield 135, 3) := by decide +kernel
theorem dX10_die_53 : decode cX10_die 53 = .ok (.iload_n 2, 1) := by decide +kernel
theorem dX10_die_54 : decode cX10_die 54 = .ok (.iastore, 1) := by decide +kernel
theorem dX10_die_55 : decode cX10_die 55 = .ok (.aload_n 0, 1) := by decide +kernel
theorem dX10_die_56 : decode cX10_die 56 = .ok (.getfield 31, 3) := by decide +kernel
theorem dX10_die_59 : decode cX10_die 59 = .ok (.aload_n 0, 1) := by decide +kernel
theorem dX10_die_60 : decode cX10_die 60 = .ok (.getfield 135, 3) := by decide +kernel
theorem dX10_die_63 : decode cX10_die 63 = .ok (.iconst 0, 1) := by decide +kernel
theorem dX10_die_64 : decode cX10_die 64 = .ok (.iastore, 1) := by decide +kernel
theorem dX10_die_65 : decode cX10_die 65 = .ok (.aload_n 0, 1) := by decide +kernel
theorem dX10_die_66 : decode cX10_die 66 = .ok (.getfield 34, 3) := by decide +kernel
theorem dX10_die_69 : decode cX10_die 69 = .ok (.aload_n 0, 1) := by decide +kernel
theorem dX10_die_70 : decode cX10_die 70 = .ok (.getfield 135, 3) := by decide +kernel
theorem dX10_die_73 : decode cX10_die 73 = .ok (.iconst 0, 1) := by decide +kernel
theorem dX10_die_74 : decode cX10_die 74 = .ok (.iastore, 1) := by decide +kernel
theorem dX10_die_75 : decode cX10_die 75 = .ok (.aload_n 0, 1) := by decide +kernel
theorem dX10_die_76 : decode cX10_die 76 = .ok (.getfield 37, 3) := by decide +kernel
theorem dX10_die_79 : decode cX10_die 79 = .ok (.aload_n 0, 1) := by decide +kernel
theorem dX10_die_80 : decode cX10_die 80 = .ok (.getfield 135, 3) := by decide +kernel
theorem dX10_die_83 : decode cX10_die 83 = .ok (.iconst (-1), 1) := by decide +kernel
theorem dX10_die_84 : decode cX10_die 84 = .ok (.iastore, 1) := by decide +kernel
theorem dX10_die_85 : decode cX10_die 85 = .ok (.aload_n 0, 1) := by decide +kernel
theorem dX10_die_86 : decode cX10_die 86 = .ok (.dup, 1) := by decide +kernel
theorem dX10_die_87 : decode cX10_die 87 = .ok (.getfield 135, 3) := by decide +kernel
theorem dX10_die_90 : decode cX10_die 90 = .ok (.iconst 1, 1) := by decide +kernel
theorem dX10_die_91 : decode cX10_die 91 = .ok (.iadd, 1) := by decide +kernel
theorem dX10_die_92 : decode cX10_die 92 = .ok (.putfield 135, 3) := by decide +kernel
theorem dX10_die_95 : decode cX10_die 95 = .ok (.aload_n 0, 1) := by decide +kernel
theorem dX10_die_96 : decode cX10_die 96 = .ok (.getfield 135, 3) := by decide +kernel
theorem dX10_die_99 : decode cX10_die 99 = .ok (.iconst 1, 1) := by decide +kernel
theorem dX10_die_100 : decode cX10_die 100 = .ok (.isub, 1) := by decide +kernel
theorem dX10_die_101 : decode cX10_die 101 = .ok (.ireturn, 1) := by decide +kernel
theorem dX10_warm_0 : decode cX10_warm 0 = .ok (.aload_n 0, 1) := by decide +kernel
theorem dX10_warm_1 : decode cX10_warm 1 = .ok (.iload_n 1, 1) := by decide +kernel
theorem dX10_warm_2 : decode cX10_warm 2 = .ok (.invokevirtual 156, 3) := by decide +kernel
theorem dX10_warm_5 : decode cX10_warm 5 = .ok (.ifCond .ne 6, 3) := by decide +kernel
theorem dX10_warm_8 : decode cX10_warm 8 = .ok (.bipush (-2), 2) := by decide +kernel
theorem dX10_warm_10 : decode cX10_warm 10 = .ok (.ireturn, 1) := by decide +kernel
theorem dX10_warm_11 : decode cX10_warm 11 = .ok (.aload_n 0, 1) := by decide +kernel
theorem dX10_warm_12 : decode cX10_warm 12 = .ok (.getfield 37, 3) := by decide +kernel
theorem dX10_warm_15 : decode cX10_warm 15 = .ok (.iload_n 1, 1) := by decide +kernel
theorem dX10_warm_16 : decode cX10_warm 16 = .ok (.iaload, 1) := by decide +kernel
theorem dX10_warm_17 : decode cX10_warm 17 = .ok (.iconst (-1), 1) := by decide +kernel
theorem dX10_warm_18 : decode cX10_warm 18 = .ok (.if_icmp .eq 6, 3) := by decide +kernel
theorem dX10_warm_21 : decode cX10_warm 21 = .ok (.bipush (-3), 2) := by decide +kernel
theorem dX10_warm_23 : decode cX10_warm 23 = .ok (.ireturn, 1) := by decide +kernel
theorem dX10_warm_24 : decode cX10_warm 24 = .ok (.aload_n 0, 1) := by decide +kernel
theorem dX10_warm_25 : decode cX10_warm 25 = .ok (.getfield 37, 3) := by decide +kernel
theorem dX10_warm_28 : decode cX10_warm 28 = .ok (.iload_n 1, 1) := by decide +kernel
theorem dX10_warm_29 : decode cX10_warm 29 = .ok (.aload_n 0, 1) := by decide +kernel
theorem dX10_warm_30 : decode cX10_warm 30 = .ok (.getfield 159, 3) := by decide +kernel
theorem dX10_warm_33 : decode cX10_warm 33 = .ok (.iastore, 1) := by decide +kernel
theorem dX10_warm_34 : decode cX10_warm 34 = .ok (.iconst 1, 1) := by decide +kernel
theorem dX10_warm_35 : decode cX10_warm 35 = .ok (.ireturn, 1) := by decide +kernel
theorem dX10_cool_0 : decode cX10_cool 0 = .ok (.aload_n 0, 1) := by decide +kernel
theorem dX10_cool_1 : decode cX10_cool 1 = .ok (.iload_n 1, 1) := by decide +kernel
theorem dX10_cool_2 : decode cX10_cool 2 = .ok (.invokevirtual 156, 3) := by decide +kernel
theorem dX10_cool_5 : decode cX10_cool 5 = .ok (.ifCond .ne 6, 3) := by decide +kernel
theorem dX10_cool_8 : decode cX10_cool 8 = .ok (.bipush (-2), 2) := by decide +kernel
theorem dX10_cool_10 : decode cX10_cool 10 = .ok (.ireturn, 1) := by decide +kernel
theorem dX10_cool_11 : decode cX10_cool 11 = .ok (.aload_n 0, 1) := by decide +kernel
theorem dX10_cool_12 : decode cX10_cool 12 = .ok (.getfield 37, 3) := by decide +kernel
theorem dX10_cool_15 : decode cX10_cool 15 = .ok (.iload_n 1, 1) := by decide +kernel
theorem dX10_cool_16 : decode cX10_cool 16 = .ok (.iaload, 1) := by decide +kernel
theorem dX10_cool_17 : decode cX10_cool 17 = .ok (.iconst (-1), 1) := by decide +kernel
theorem dX10_cool_18 : decode cX10_cool 18 = .ok (.if_icmp .ne 6, 3) := by decide +kernel
theorem dX10_cool_21 : decode cX10_cool 21 = .ok (.bipush (-3), 2) := by decide +kernel
theorem dX10_cool_23 : decode cX10_cool 23 = .ok (.ireturn, 1) := by decide +kernel
theorem dX10_cool_24 : decode cX10_cool 24 = .ok (.aload_n 0, 1) := by decide +kernel
theorem dX10_cool_25 : decode cX10_cool 25 = .ok (.getfield 159, 3) := by decide +kernel
theorem dX10_cool_28 : decode cX10_cool 28 = .ok (.aload_n 0, 1) := by decide +kernel
theorem dX10_cool_29 : decode cX10_cool 29 = .ok (.getfield 37, 3) := by decide +kernel
theorem dX10_cool_32 : decode cX10_cool 32 = .ok (.iload_n 1, 1) := by decide +kernel
theorem dX10_cool_33 : decode cX10_cool 33 = .ok (.iaload, 1) := by decide +kernel
theorem dX10_cool_34 : decode cX10_cool 34 = .ok (.isub, 1) := by decide +kernel
theorem dX10_cool_35 : decode cX10_cool 35 = .ok (.istore_n 2, 1) := by decide +kernel
theorem dX10_cool_36 : decode cX10_cool 36 = .ok (.aload_n 0, 1) := by decide +kernel
theorem dX10_cool_37 : decode cX10_cool 37 = .ok (.getfield 37, 3) := by decide +kernel
theorem dX10_cool_40 : decode cX10_cool 40 = .ok (.iload_n 1, 1) := by decide +kernel
theorem dX10_cool_41 : decode cX10_cool 41 = .ok (.iconst (-1), 1) := by decide +kernel
theorem dX10_cool_42 : decode cX10_cool 42 = .ok (.iastore, 1) := by decide +kernel
theorem dX10_cool_43 : decode cX10_cool 43 = .ok (.iload_n 2, 1) := by decide +kernel
theorem dX10_cool_44 : decode cX10_cool 44 = .ok (.ireturn, 1) := by decide +kernel
theorem dX10_nitride_0 : decode cX10_nitride 0 = .ok (.aload_n 0, 1) := by decide +kernel
theorem dX10_nitride_1 : decode cX10_nitride 1 = .ok (.iload_n 1, 1) := by decide +kernel
theorem dX10_nitride_2 : decode cX10_nitride 2 = .ok (.invokevirtual 156, 3) := by decide +kernel
theorem dX10_nitride_5 : decode cX10_nitride 5 = .ok (.ifCond .ne 6, 3) := by decide +kernel
theorem dX10_nitride_8 : decode cX10_nitride 8 = .ok (.bipush (-2), 2) := by decide +kernel
theorem dX10_nitride_10 : decode cX10_nitride 10 = .ok (.ireturn, 1) := by decide +kernel
theorem dX10_nitride_11 : decode cX10_nitride 11 = .ok (.aload_n 0, 1) := by decide +kernel
theorem dX10_nitride_12 : decode cX10_nitride 12 = .ok (.getfield 37, 3) := by decide +kernel
theorem dX10_nitride_15 : decode cX10_nitride 15 = .ok (.iload_n 1, 1) := by decide +kernel
theorem dX10_nitride_16 : decode cX10_nitride 16 = .ok (.iaload, 1) := by decide +kernel
theorem dX10_nitride_17 : decode cX10_nitride 17 = .ok (.iconst (-1), 1) := by decide +kernel
theorem dX10_nitride_18 : decode cX10_nitride 18 = .ok (.if_icmp .eq 6, 3) := by decide +kernel
theorem dX10_nitride_21 : decode cX10_nitride 21 = .ok (.bipush (-3), 2) := by decide +kernel
theorem dX10_nitride_23 : decode cX10_nitride 23 = .ok (.ireturn, 1) := by decide +kernel
theorem dX10_nitride_24 : decode cX10_nitride 24 = .ok (.aload_n 0, 1) := by decide +kernel
theorem dX10_nitride_25 : decode cX10_nitride 25 = .ok (.getfield 31, 3) := by decide +kernel
theorem dX10_nitride_28 : decode cX10_nitride 28 = .ok (.iload_n 1, 1) := by decide +kernel
theorem dX10_nitride_29 : decode cX10_nitride 29 = .ok (.iaload, 1) := by decide +kernel
theorem dX10_nitride_30 : decode cX10_nitride 30 = .ok (.istore_n 2, 1) := by decide +kernel
theorem dX10_nitride_31 : decode cX10_nitride 31 = .ok (.aload_n 0, 1) := by decide +kernel
theorem dX10_nitride_32 : decode cX10_nitride 32 = .ok (.getfield 31, 3) := by decide +kernel
theorem dX10_nitride_35 : decode cX10_nitride 35 = .ok (.iload_n 1, 1) := by decide +kernel
theorem dX10_nitride_36 : decode cX10_nitride 36 = .ok (.iconst 0, 1) := by decide +kernel
theorem dX10_nitride_37 : decode cX10_nitride 37 = .ok (.iastore, 1) := by decide +kernel
theorem dX10_nitride_38 : decode cX10_nitride 38 = .ok (.iload_n 2, 1) := by decide +kernel
theorem dX10_nitride_39 : decode cX10_nitride 39 = .ok (.ireturn, 1) := by decide +kernel
theorem dX10_mayPress_0 : decode cX10_mayPress 0 = .ok (.aload_n 0, 1) := by decide +kernel
theorem dX10_mayPress_1 : decode cX10_mayPress 1 = .ok (.getfield 37, 3) := by decide +kernel
theorem dX10_mayPress_4 : decode cX10_mayPress 4 = .ok (.iload_n 1, 1) := by decide +kernel
theorem dX10_mayPress_5 : decode cX10_mayPress 5 = .ok (.iaload, 1) := by decide +kernel
theorem dX10_mayPress_6 : decode cX10_mayPress 6 = .ok (.iconst (-1), 1) := by decide +kernel
theorem dX10_mayPress_7 : decode cX10_mayPress 7 = .ok (.if_icmp .eq 46, 3) := by decide +kernel
theorem dX10_mayPress_10 : decode cX10_mayPress 10 = .ok (.aload_n 0, 1) := by decide +kernel
theorem dX10_mayPress_11 : decode cX10_mayPress 11 = .ok (.getfield 159, 3) := by decide +kernel
theorem dX10_mayPress_14 : decode cX10_mayPress 14 = .ok (.aload_n 0, 1) := by decide +kernel
theorem dX10_mayPress_15 : decode cX10_mayPress 15 = .ok (.getfield 37, 3) := by decide +kernel
theorem dX10_mayPress_18 : decode cX10_mayPress 18 = .ok (.iload_n 1, 1) := by decide +kernel
theorem dX10_mayPress_19 : decode cX10_mayPress 19 = .ok (.iaload, 1) := by decide +kernel
theorem dX10_mayPress_20 : decode cX10_mayPress 20 = .ok (.isub, 1) := by decide +kernel
theorem dX10_mayPress_21 : decode cX10_mayPress 21 = .ok (.i2l, 1) := by decide +kernel
theorem dX10_mayPress_22 : decode cX10_mayPress 22 = .ok (.ldc2_w 144, 3) := by decide +kernel
theorem dX10_mayPress_25 : decode cX10_mayPress 25 = .ok (.ldc2_w 162, 3) := by decide +kernel
theorem dX10_mayPress_28 : decode cX10_mayPress 28 = .ok (.invokestatic 131, 3) := by decide +kernel
theorem dX10_mayPress_31 : decode cX10_mayPress 31 = .ok (.ifCond .eq 22, 3) := by decide +kernel
theorem dX10_mayPress_34 : decode cX10_mayPress 34 = .ok (.aload_n 0, 1) := by decide +kernel
theorem dX10_mayPress_35 : decode cX10_mayPress 35 = .ok (.getfield 31, 3) := by decide +kernel
theorem dX10_mayPress_38 : decode cX10_mayPress 38 = .ok (.iload_n 1, 1) := by decide +kernel
theorem dX10_mayPress_39 : decode cX10_mayPress 39 = .ok (.iaload, 1) := by decide +kernel
theorem dX10_mayPress_40 : decode cX10_mayPress 40 = .ok (.aload_n 0, 1) := by decide +kernel
theorem dX10_mayPress_41 : decode cX10_mayPress 41 = .ok (.getfield 28, 3) := by decide +kernel
theorem dX10_mayPress_44 : decode cX10_mayPress 44 = .ok (.iload_n 1, 1) := by decide +kernel
theorem dX10_mayPress_45 : decode cX10_mayPress 45 = .ok (.iaload, 1) := by decide +kernel
theorem dX10_mayPress_46 : decode cX10_mayPress 46 = .ok (.if_icmp .ge 7, 3) := by decide +kernel
theorem dX10_mayPress_49 : decode cX10_mayPress 49 = .ok (.iconst 1, 1) := by decide +kernel
theorem dX10_mayPress_50 : decode cX10_mayPress 50 = .ok (.goto 4, 3) := by decide +kernel
theorem dX10_mayPress_53 : decode cX10_mayPress 53 = .ok (.iconst 0, 1) := by decide +kernel
theorem dX10_mayPress_54 : decode cX10_mayPress 54 = .ok (.ireturn, 1) := by decide +kernel
theorem dX10_about_0 : decode cX10_about 0 = .ok (.aload_n 0, 1) := by decide +kernel
theorem dX10_about_1 : decode cX10_about 1 = .ok (.iload_n 1, 1) := by decide +kernel
theorem dX10_about_2 : decode cX10_about 2 = .ok (.invokevirtual 156, 3) := by decide +kernel
theorem dX10_about_5 : decode cX10_about 5 = .ok (.ifCond .ne 6, 3) := by decide +kernel
theorem dX10_about_8 : decode cX10_about 8 = .ok (.bipush (-2), 2) := by decide +kernel
theorem dX10_about_10 : decode cX10_about 10 = .ok (.ireturn, 1) := by decide +kernel
theorem dX10_about_11 : decode cX10_about 11 = .ok (.iload_n 2, 1) := by decide +kernel
theorem dX10_about_12 : decode cX10_about 12 = .ok (.tableswitch 108 0 5 #[40, 47, 54, 61, 87, 101], 40) := by decide +kernel
theorem dX10_about_52 : decode cX10_about 52 = .ok (.aload_n 0, 1) := by decide +kernel
theorem dX10_about_53 : decode cX10_about 53 = .ok (.getfield 25, 3) := by decide +kernel
theorem dX10_about_56 : decode cX10_about 56 = .ok (.iload_n 1, 1) := by decide +kernel
theorem dX10_about_57 : decode cX10_about 57 = .ok (.iaload, 1) := by decide +kernel
theorem dX10_about_58 : decode cX10_about 58 = .ok (.ireturn, 1) := by decide +kernel
theorem dX10_about_59 : decode cX10_about 59 = .ok (.aload_n 0, 1) := by decide +kernel
theorem dX10_about_60 : decode cX10_about 60 = .ok (.getfield 28, 3) := by decide +kernel
theorem dX10_about_63 : decode cX10_about 63 = .ok (.iload_n 1, 1) := by decide +kernel
theorem dX10_about_64 : decode cX10_about 64 = .ok (.iaload, 1) := by decide +kernel
theorem dX10_about_65 : decode cX10_about 65 = .ok (.ireturn, 1) := by decide +kernel
theorem dX10_about_66 : decode cX10_about 66 = .ok (.aload_n 0, 1) := by decide +kernel
theorem dX10_about_67 : decode cX10_about 67 = .ok (.getfield 31, 3) := by decide +kernel
theorem dX10_about_70 : decode cX10_about 70 = .ok (.iload_n 1, 1) := by decide +kernel
theorem dX10_about_71 : decode cX10_about 71 = .ok (.iaload, 1) := by decide +kernel
theorem dX10_about_72 : decode cX10_about 72 = .ok (.ireturn, 1) := by decide +kernel
theorem dX10_about_73 : decode cX10_about 73 = .ok (.aload_n 0, 1) := by decide +kernel
theorem dX10_about_74 : decode cX10_about 74 = .ok (.getfield 37, 3) := by decide +kernel
theorem dX10_about_77 : decode cX10_about 77 = .ok (.iload_n 1, 1) := by decide +kernel
theorem dX10_about_78 : decode cX10_about 78 = .ok (.iaload, 1) := by decide +kernel
theorem dX10_about_79 : decode cX10_about 79 = .ok (.iconst (-1), 1) := by decide +kernel
theorem dX10_about_80 : decode cX10_about 80 = .ok (.if_icmp .ne 7, 3) := by decide +kernel
theorem dX10_about_83 : decode cX10_about 83 = .ok (.iconst (-1), 1) := by decide +kernel
theorem dX10_about_84 : decode cX10_about 84 = .ok (.goto 14, 3) := by decide +kernel
theorem dX10_about_87 : decode cX10_about 87 = .ok (.aload_n 0, 1) := by decide +kernel
theorem dX10_about_88 : decode cX10_about 88 = .ok (.getfield 159, 3) := by decide +kernel
theorem dX10_about_91 : decode cX10_about 91 = .ok (.aload_n 0, 1) := by decide +kernel
theorem dX10_about_92 : decode cX10_about 92 = .ok (.getfield 37, 3) := by decide +kernel
theorem dX10_about_95 : decode cX10_about 95 = .ok (.iload_n 1, 1) := by decide +kernel
theorem dX10_about_96 : decode cX10_about 96 = .ok (.iaload, 1) := by decide +kernel
theorem dX10_about_97 : decode cX10_about 97 = .ok (.isub, 1) := by decide +kernel
theorem dX10_about_98 : decode cX10_about 98 = .ok (.ireturn, 1) := by decide +kernel
theorem dX10_about_99 : decode cX10_about 99 = .ok (.aload_n 0, 1) := by decide +kernel
theorem dX10_about_100 : decode cX10_about 100 = .ok (.iload_n 1, 1) := by decide +kernel
theorem dX10_about_101 : decode cX10_about 101 = .ok (.invokevirtual 164, 3) := by decide +kernel
theorem dX10_about_104 : decode cX10_about 104 = .ok (.ifCond .eq 7, 3) := by decide +kernel
theorem dX10_about_107 : decode cX10_about 107 = .ok (.iconst 1, 1) := by decide +kernel
theorem dX10_about_108 : decode cX10_about 108 = .ok (.goto 4, 3) := by decide +kernel
theorem dX10_about_111 : decode cX10_about 111 = .ok (.iconst 0, 1) := by decide +kernel
theorem dX10_about_112 : decode cX10_about 112 = .ok (.ireturn, 1) := by decide +kernel
theorem dX10_about_113 : decode cX10_about 113 = .ok (.aload_n 0, 1) := by decide +kernel
theorem dX10_about_114 : decode cX10_about 114 = .ok (.getfield 34, 3) := by decide +kernel
theorem dX10_about_117 : decode cX10_about 117 = .ok (.iload_n 1, 1) := by decide +kernel
theorem dX10_about_118 : decode cX10_about 118 = .ok (.iaload, 1) := by decide +kernel
theorem dX10_about_119 : decode cX10_about 119 = .ok (.ireturn, 1) := by decide +kernel
theorem dX10_about_120 : decode cX10_about 120 = .ok (.bipush (-2), 2) := by decide +kernel
theorem dX10_about_122 : decode cX10_about 122 = .ok (.ireturn, 1) := by decide +kernel
theorem dX10_ready_0 : decode cX10_ready 0 = .ok (.aload_n 0, 1) := by decide +kernel
theorem dX10_ready_1 : decode cX10_ready 1 = .ok (.iload_n 1, 1) := by decide +kernel
theorem dX10_ready_2 : decode cX10_ready 2 = .ok (.invokevirtual 150, 3) := by decide +kernel
theorem dX10_ready_5 : decode cX10_ready 5 = .ok (.ifCond .ne 6, 3) := by decide +kernel
theorem dX10_ready_8 : decode cX10_ready 8 = .ok (.bipush (-2), 2) := by decide +kernel
theorem dX10_ready_10 : decode cX10_ready 10 = .ok (.ireturn, 1) := by decide +kernel
theorem dX10_ready_11 : decode cX10_ready 11 = .ok (.iconst (-1), 1) := by decide +kernel
theorem dX10_ready_12 : decode cX10_ready 12 = .ok (.istore_n 2, 1) := by decide +kernel
theorem dX10_ready_13 : decode cX10_ready 13 = .ok (.iconst 0, 1) := by decide +kernel
theorem dX10_ready_14 : decode cX10_ready 14 = .ok (.istore_n 3, 1) := by decide +kernel
theorem dX10_ready_15 : decode cX10_ready 15 = .ok (.iload_n 3, 1) := by decide +kernel
theorem dX10_ready_16 : decode cX10_ready 16 = .ok (.aload_n 0, 1) := by decide +kernel
theorem dX10_ready_17 : decode cX10_ready 17 = .ok (.getfield 135, 3) := by decide +kernel
theorem dX10_ready_20 : decode cX10_ready 20 = .ok (.if_icmp .ge 49, 3) := by decide +kernel
theorem dX10_ready_23 : decode cX10_ready 23 = .ok (.aload_n 0, 1) := by decide +kernel
theorem dX10_ready_24 : decode cX10_ready 24 = .ok (.getfield 25, 3) := by decide +kernel
theorem dX10_ready_27 : decode cX10_ready 27 = .ok (.iload_n 3, 1) := by decide +kernel
theorem dX10_ready_28 : decode cX10_ready 28 = .ok (.iaload, 1) := by decide +kernel
theorem dX10_ready_29 : decode cX10_ready 29 = .ok (.iload_n 1, 1) := by decide +kernel
theorem dX10_ready_30 : decode cX10_ready 30 = .ok (.if_icmp .ne 33, 3) := by decide +kernel
theorem dX10_ready_33 : decode cX10_ready 33 = .ok (.aload_n 0, 1) := by decide +kernel
theorem dX10_ready_34 : decode cX10_ready 34 = .ok (.iload_n 3, 1) := by decide +kernel
theorem dX10_ready_35 : decode cX10_ready 35 = .ok (.invokevirtual 164, 3) := by decide +kernel
theorem dX10_ready_38 : decode cX10_ready 38 = .ok (.ifCond .eq 25, 3) := by decide +kernel
theorem dX10_ready_41 : decode cX10_ready 41 = .ok (.iload_n 2, 1) := by decide +kernel
theorem dX10_ready_42 : decode cX10_ready 42 = .ok (.iconst (-1), 1) := by decide +kernel
theorem dX10_ready_43 : decode cX10_ready 43 = .ok (.if_icmp .eq 18, 3) := by decide +kernel
theorem dX10_ready_46 : decode cX10_ready 46 = .ok (.aload_n 0, 1) := by decide +kernel
theorem dX10_ready_47 : decode cX10_ready 47 = .ok (.getfield 31, 3) := by decide +kernel
theorem dX10_ready_50 : decode cX10_ready 50 = .ok (.iload_n 3, 1) := by decide +kernel
theorem dX10_ready_51 : decode cX10_ready 51 = .ok (.iaload, 1) := by decide +kernel
theorem dX10_ready_52 : decode cX10_ready 52 = .ok (.aload_n 0, 1) := by decide +kernel
theorem dX10_ready_53 : decode cX10_ready 53 = .ok (.getfield 31, 3) := by decide +kernel
theorem dX10_ready_56 : decode cX10_ready 56 = .ok (.iload_n 2, 1) := by decide +kernel
theorem dX10_ready_57 : decode cX10_ready 57 = .ok (.iaload, 1) := by decide +kernel
theorem dX10_ready_58 : decode cX10_ready 58 = .ok (.if_icmp .ge 5, 3) := by decide +kernel
theorem dX10_ready_61 : decode cX10_ready 61 = .ok (.iload_n 3, 1) := by decide +kernel
theorem dX10_ready_62 : decode cX10_ready 62 = .ok (.istore_n 2, 1) := by decide +kernel
theorem dX10_ready_63 : decode cX10_ready 63 = .ok (.iinc 3 1, 3) := by decide +kernel
theorem dX10_ready_66 : decode cX10_ready 66 = .ok (.goto (-51), 3) := by decide +kernel
theorem dX10_ready_69 : decode cX10_ready 69 = .ok (.iload_n 2, 1) := by decide +kernel
theorem dX10_ready_70 : decode cX10_ready 70 = .ok (.ireturn, 1) := by decide +kernel
theorem dX10_pass_0 : decode cX10_pass 0 = .ok (.iload_n 1, 1) := by decide +kernel
theorem dX10_pass_1 : decode cX10_pass 1 = .ok (.i2l, 1) := by decide +kernel
theorem dX10_pass_2 : decode cX10_pass 2 = .ok (.lconst 1, 1) := by decide +kernel
theorem dX10_pass_3 : decode cX10_pass 3 = .ok (.ldc2_w 146, 3) := by decide +kernel
theorem dX10_pass_6 : decode cX10_pass 6 = .ok (.invokestatic 131, 3) := by decide +kernel
theorem dX10_pass_9 : decode cX10_pass 9 = .ok (.ifCond .ne 6, 3) := by decide +kernel
theorem dX10_pass_12 : decode cX10_pass 12 = .ok (.bipush (-2), 2) := by decide +kernel
theorem dX10_pass_14 : decode cX10_pass 14 = .ok (.ireturn, 1) := by decide +kernel
theorem dX10_pass_15 : decode cX10_pass 15 = .ok (.aload_n 0, 1) := by decide +kernel
theorem dX10_pass_16 : decode cX10_pass 16 = .ok (.dup, 1) := by decide +kernel
theorem dX10_pass_17 : decode cX10_pass 17 = .ok (.getfield 159, 3) := by decide +kernel
theorem dX10_pass_20 : decode cX10_pass 20 = .ok (.iload_n 1, 1) := by decide +kernel
theorem dX10_pass_21 : decode cX10_pass 21 = .ok (.iadd, 1) := by decide +kernel
theorem dX10_pass_22 : decode cX10_pass 22 = .ok (.putfield 159, 3) := by decide +kernel
theorem dX10_pass_25 : decode cX10_pass 25 = .ok (.aload_n 0, 1) := by decide +kernel
theorem dX10_pass_26 : decode cX10_pass 26 = .ok (.getfield 159, 3) := by decide +kernel
theorem dX10_pass_29 : decode cX10_pass 29 = .ok (.ireturn, 1) := by decide +kernel
theorem dX10_law_0 : decode cX10_law 0 = .ok (.iload_n 1, 1) := by decide +kernel
theorem dX10_law_1 : decode cX10_law 1 = .ok (.i2l, 1) := by decide +kernel
theorem dX10_law_2 : decode cX10_law 2 = .ok (.lconst 0, 1) := by decide +kernel
theorem dX10_law_3 : decode cX10_law 3 = .ok (.ldc2_w 140, 3) := by decide +kernel
theorem dX10_law_6 : decode cX10_law 6 = .ok (.invokestatic 131, 3) := by decide +kernel
theorem dX10_law_9 : decode cX10_law 9 = .ok (.ifCond .eq 36, 3) := by decide +kernel
theorem dX10_law_12 : decode cX10_law 12 = .ok (.iload_n 2, 1) := by decide +kernel
theorem dX10_law_13 : decode cX10_law 13 = .ok (.i2l, 1) := by decide +kernel
theorem dX10_law_14 : decode cX10_law 14 = .ok (.lconst 0, 1) := by decide +kernel
theorem dX10_law_15 : decode cX10_law 15 = .ok (.iload_n 1, 1) := by decide +kernel
theorem dX10_law_16 : decode cX10_law 16 = .ok (.ifCond .ne 9, 3) := by decide +kernel
theorem dX10_law_19 : decode cX10_law 19 = .ok (.ldc2_w 146, 3) := by decide +kernel
theorem dX10_law_22 : decode cX10_law 22 = .ok (.goto 17, 3) := by decide +kernel
theorem dX10_law_25 : decode cX10_law 25 = .ok (.iload_n 1, 1) := by decide +kernel
theorem dX10_law_26 : decode cX10_law 26 = .ok (.iconst 4, 1) := by decide +kernel
theorem dX10_law_27 : decode cX10_law 27 = .ok (.if_icmp .ge 9, 3) := by decide +kernel
theorem dX10_law_30 : decode cX10_law 30 = .ok (.ldc2_w 167, 3) := by decide +kernel
theorem dX10_law_33 : decode cX10_law 33 = .ok (.goto 6, 3) := by decide +kernel
theorem dX10_law_36 : decode cX10_law 36 = .ok (.ldc2_w 169, 3) := by decide +kernel
theorem dX10_law_39 : decode cX10_law 39 = .ok (.invokestatic 131, 3) := by decide +kernel
theorem dX10_law_42 : decode cX10_law 42 = .ok (.ifCond .ne 6, 3) := by decide +kernel
theorem dX10_law_45 : decode cX10_law 45 = .ok (.bipush (-2), 2) := by decide +kernel
theorem dX10_law_47 : decode cX10_law 47 = .ok (.ireturn, 1) := by decide +kernel
theorem dX10_law_48 : decode cX10_law 48 = .ok (.aload_n 0, 1) := by decide +kernel
theorem dX10_law_49 : decode cX10_law 49 = .ok (.getfield 7, 3) := by decide +kernel
theorem dX10_law_52 : decode cX10_law 52 = .ok (.iload_n 1, 1) := by decide +kernel
theorem dX10_law_53 : decode cX10_law 53 = .ok (.iaload, 1) := by decide +kernel
theorem dX10_law_54 : decode cX10_law 54 = .ok (.istore_n 3, 1) := by decide +kernel
theorem dX10_law_55 : decode cX10_law 55 = .ok (.aload_n 0, 1) := by decide +kernel
theorem dX10_law_56 : decode cX10_law 56 = .ok (.getfield 7, 3) := by decide +kernel
theorem dX10_law_59 : decode cX10_law 59 = .ok (.iload_n 1, 1) := by decide +kernel
theorem dX10_law_60 : decode cX10_law 60 = .ok (.iload_n 2, 1) := by decide +kernel
theorem dX10_law_61 : decode cX10_law 61 = .ok (.iastore, 1) := by decide +kernel
theorem dX10_law_62 : decode cX10_law 62 = .ok (.iload_n 3, 1) := by decide +kernel
theorem dX10_law_63 : decode cX10_law 63 = .ok (.ireturn, 1) := by decide +kernel
theorem dX10_most_0 : decode cX10_most 0 = .ok (.iload_n 2, 1) := by decide +kernel
theorem dX10_most_1 : decode cX10_most 1 = .ok (.aload_n 0, 1) := by decide +kernel
theorem dX10_most_2 : decode cX10_most 2 = .ok (.getfield 75, 3) := by decide +kernel
theorem dX10_most_5 : decode cX10_most 5 = .ok (.iload_n 1, 1) := by decide +kernel
theorem dX10_most_6 : decode cX10_most 6 = .ok (.iaload, 1) := by decide +kernel
theorem dX10_most_7 : decode cX10_most 7 = .ok (.if_icmp .lt 5, 3) := by decide +kernel
theorem dX10_most_10 : decode cX10_most 10 = .ok (.iconst 0, 1) := by decide +kernel
theorem dX10_most_11 : decode cX10_most 11 = .ok (.ireturn, 1) := by decide +kernel
theorem dX10_most_12 : decode cX10_most 12 = .ok (.aload_n 0, 1) := by decide +kernel
theorem dX10_most_13 : decode cX10_most 13 = .ok (.getfield 81, 3) := by decide +kernel
theorem dX10_most_16 : decode cX10_most 16 = .ok (.iconst 3, 1) := by decide +kernel
theorem dX10_most_17 : decode cX10_most 17 = .ok (.iload_n 1, 1) := by decide +kernel
theorem dX10_most_18 : decode cX10_most 18 = .ok (.imul, 1) := by decide +kernel
theorem dX10_most_19 : decode cX10_most 19 = .ok (.iload_n 2, 1) := by decide +kernel
theorem dX10_most_20 : decode cX10_most 20 = .ok (.iadd, 1) := by decide +kernel
theorem dX10_most_21 : decode cX10_most 21 = .ok (.iaload, 1) := by decide +kernel
theorem dX10_most_22 : decode cX10_most 22 = .ok (.bipush 60, 2) := by decide +kernel
theorem dX10_most_24 : decode cX10_most 24 = .ok (.if_icmp .le 8, 3) := by decide +kernel
