theorem dX10_change_21 : decode cX10_change 21 = .ok (.iload_n 1, 1) := by decide +kernel
theorem dX10_change_22 : decode cX10_change 22 = .ok (.putfield 99, 3) := by decide +kernel
theorem dX10_change_25 : decode cX10_change 25 = .ok (.iload_n 2, 1) := by decide +kernel
theorem dX10_change_26 : decode cX10_change 26 = .ok (.ireturn, 1) := by decide +kernel
theorem dX10_nextRow_0 : decode cX10_nextRow 0 = .ok (.aload_n 0, 1) := by decide +kernel
theorem dX10_nextRow_1 : decode cX10_nextRow 1 = .ok (.getfield 227, 3) := by decide +kernel
theorem dX10_nextRow_4 : decode cX10_nextRow 4 = .ok (.iconst 2, 1) := by decide +kernel
theorem dX10_nextRow_5 : decode cX10_nextRow 5 = .ok (.isub, 1) := by decide +kernel
theorem dX10_nextRow_6 : decode cX10_nextRow 6 = .ok (.istore_n 1, 1) := by decide +kernel
theorem dX10_nextRow_7 : decode cX10_nextRow 7 = .ok (.iload_n 1, 1) := by decide +kernel
theorem dX10_nextRow_8 : decode cX10_nextRow 8 = .ok (.ifCond .lt 26, 3) := by decide +kernel
theorem dX10_nextRow_11 : decode cX10_nextRow 11 = .ok (.aload_n 0, 1) := by decide +kernel
theorem dX10_nextRow_12 : decode cX10_nextRow 12 = .ok (.getfield 102, 3) := by decide +kernel
theorem dX10_nextRow_15 : decode cX10_nextRow 15 = .ok (.iload_n 1, 1) := by decide +kernel
theorem dX10_nextRow_16 : decode cX10_nextRow 16 = .ok (.iaload, 1) := by decide +kernel
theorem dX10_nextRow_17 : decode cX10_nextRow 17 = .ok (.aload_n 0, 1) := by decide +kernel
theorem dX10_nextRow_18 : decode cX10_nextRow 18 = .ok (.getfield 102, 3) := by decide +kernel
theorem dX10_nextRow_21 : decode cX10_nextRow 21 = .ok (.iload_n 1, 1) := by decide +kernel
theorem dX10_nextRow_22 : decode cX10_nextRow 22 = .ok (.iconst 1, 1) := by decide +kernel
theorem dX10_nextRow_23 : decode cX10_nextRow 23 = .ok (.iadd, 1) := by decide +kernel
theorem dX10_nextRow_24 : decode cX10_nextRow 24 = .ok (.iaload, 1) := by decide +kernel
theorem dX10_nextRow_25 : decode cX10_nextRow 25 = .ok (.if_icmp .le 9, 3) := by decide +kernel
theorem dX10_nextRow_28 : decode cX10_nextRow 28 = .ok (.iinc 1 (-1), 3) := by decide +kernel
theorem dX10_nextRow_31 : decode cX10_nextRow 31 = .ok (.goto (-24), 3) := by decide +kernel
theorem dX10_nextRow_34 : decode cX10_nextRow 34 = .ok (.iload_n 1, 1) := by decide +kernel
theorem dX10_nextRow_35 : decode cX10_nextRow 35 = .ok (.ifCond .ge 5, 3) := by decide +kernel
theorem dX10_nextRow_38 : decode cX10_nextRow 38 = .ok (.iconst 0, 1) := by decide +kernel
theorem dX10_nextRow_39 : decode cX10_nextRow 39 = .ok (.ireturn, 1) := by decide +kernel
theorem dX10_nextRow_40 : decode cX10_nextRow 40 = .ok (.aload_n 0, 1) := by decide +kernel
theorem dX10_nextRow_41 : decode cX10_nextRow 41 = .ok (.getfield 227, 3) := by decide +kernel
theorem dX10_nextRow_44 : decode cX10_nextRow 44 = .ok (.iconst 1, 1) := by decide +kernel
theorem dX10_nextRow_45 : decode cX10_nextRow 45 = .ok (.isub, 1) := by decide +kernel
theorem dX10_nextRow_46 : decode cX10_nextRow 46 = .ok (.istore_n 2, 1) := by decide +kernel
theorem dX10_nextRow_47 : decode cX10_nextRow 47 = .ok (.aload_n 0, 1) := by decide +kernel
theorem dX10_nextRow_48 : decode cX10_nextRow 48 = .ok (.getfield 102, 3) := by decide +kernel
theorem dX10_nextRow_51 : decode cX10_nextRow 51 = .ok (.iload_n 2, 1) := by decide +kernel
theorem dX10_nextRow_52 : decode cX10_nextRow 52 = .ok (.iaload, 1) := by decide +kernel
theorem dX10_nextRow_53 : decode cX10_nextRow 53 = .ok (.aload_n 0, 1) := by decide +kernel
theorem dX10_nextRow_54 : decode cX10_nextRow 54 = .ok (.getfield 102, 3) := by decide +kernel
theorem dX10_nextRow_57 : decode cX10_nextRow 57 = .ok (.iload_n 1, 1) := by decide +kernel
theorem dX10_nextRow_58 : decode cX10_nextRow 58 = .ok (.iaload, 1) := by decide +kernel
theorem dX10_nextRow_59 : decode cX10_nextRow 59 = .ok (.if_icmp .ge 9, 3) := by decide +kernel
theorem dX10_nextRow_62 : decode cX10_nextRow 62 = .ok (.iinc 2 (-1), 3) := by decide +kernel
theorem dX10_nextRow_65 : decode cX10_nextRow 65 = .ok (.goto (-18), 3) := by decide +kernel
theorem dX10_nextRow_68 : decode cX10_nextRow 68 = .ok (.aload_n 0, 1) := by decide +kernel
theorem dX10_nextRow_69 : decode cX10_nextRow 69 = .ok (.getfield 102, 3) := by decide +kernel
theorem dX10_nextRow_72 : decode cX10_nextRow 72 = .ok (.iload_n 1, 1) := by decide +kernel
theorem dX10_nextRow_73 : decode cX10_nextRow 73 = .ok (.iaload, 1) := by decide +kernel
theorem dX10_nextRow_74 : decode cX10_nextRow 74 = .ok (.istore_n 3, 1) := by decide +kernel
theorem dX10_nextRow_75 : decode cX10_nextRow 75 = .ok (.aload_n 0, 1) := by decide +kernel
theorem dX10_nextRow_76 : decode cX10_nextRow 76 = .ok (.getfield 102, 3) := by decide +kernel
theorem dX10_nextRow_79 : decode cX10_nextRow 79 = .ok (.iload_n 1, 1) := by decide +kernel
theorem dX10_nextRow_80 : decode cX10_nextRow 80 = .ok (.aload_n 0, 1) := by decide +kernel
theorem dX10_nextRow_81 : decode cX10_nextRow 81 = .ok (.getfield 102, 3) := by decide +kernel
theorem dX10_nextRow_84 : decode cX10_nextRow 84 = .ok (.iload_n 2, 1) := by decide +kernel
theorem dX10_nextRow_85 : decode cX10_nextRow 85 = .ok (.iaload, 1) := by decide +kernel
theorem dX10_nextRow_86 : decode cX10_nextRow 86 = .ok (.iastore, 1) := by decide +kernel
theorem dX10_nextRow_87 : decode cX10_nextRow 87 = .ok (.aload_n 0, 1) := by decide +kernel
theorem dX10_nextRow_88 : decode cX10_nextRow 88 = .ok (.getfield 102, 3) := by decide +kernel
theorem dX10_nextRow_91 : decode cX10_nextRow 91 = .ok (.iload_n 2, 1) := by decide +kernel
theorem dX10_nextRow_92 : decode cX10_nextRow 92 = .ok (.iload_n 3, 1) := by decide +kernel
theorem dX10_nextRow_93 : decode cX10_nextRow 93 = .ok (.iastore, 1) := by decide +kernel
theorem dX10_nextRow_94 : decode cX10_nextRow 94 = .ok (.iload_n 1, 1) := by decide +kernel
theorem dX10_nextRow_95 : decode cX10_nextRow 95 = .ok (.iconst 1, 1) := by decide +kernel
theorem dX10_nextRow_96 : decode cX10_nextRow 96 = .ok (.iadd, 1) := by decide +kernel
theorem dX10_nextRow_97 : decode cX10_nextRow 97 = .ok (.istore 4, 2) := by decide +kernel
theorem dX10_nextRow_99 : decode cX10_nextRow 99 = .ok (.aload_n 0, 1) := by decide +kernel
theorem dX10_nextRow_100 : decode cX10_nextRow 100 = .ok (.getfield 227, 3) := by decide +kernel
theorem dX10_nextRow_103 : decode cX10_nextRow 103 = .ok (.iconst 1, 1) := by decide +kernel
theorem dX10_nextRow_104 : decode cX10_nextRow 104 = .ok (.isub, 1) := by decide +kernel
theorem dX10_nextRow_105 : decode cX10_nextRow 105 = .ok (.istore 5, 2) := by decide +kernel
theorem dX10_nextRow_107 : decode cX10_nextRow 107 = .ok (.iload 4, 2) := by decide +kernel
theorem dX10_nextRow_109 : decode cX10_nextRow 109 = .ok (.iload 5, 2) := by decide +kernel
theorem dX10_nextRow_111 : decode cX10_nextRow 111 = .ok (.if_icmp .ge 42, 3) := by decide +kernel
theorem dX10_nextRow_114 : decode cX10_nextRow 114 = .ok (.aload_n 0, 1) := by decide +kernel
theorem dX10_nextRow_115 : decode cX10_nextRow 115 = .ok (.getfield 102, 3) := by decide +kernel
theorem dX10_nextRow_118 : decode cX10_nextRow 118 = .ok (.iload 4, 2) := by decide +kernel
theorem dX10_nextRow_120 : decode cX10_nextRow 120 = .ok (.iaload, 1) := by decide +kernel
theorem dX10_nextRow_121 : decode cX10_nextRow 121 = .ok (.istore_n 3, 1) := by decide +kernel
theorem dX10_nextRow_122 : decode cX10_nextRow 122 = .ok (.aload_n 0, 1) := by decide +kernel
theorem dX10_nextRow_123 : decode cX10_nextRow 123 = .ok (.getfield 102, 3) := by decide +kernel
theorem dX10_nextRow_126 : decode cX10_nextRow 126 = .ok (.iload 4, 2) := by decide +kernel
theorem dX10_nextRow_128 : decode cX10_nextRow 128 = .ok (.aload_n 0, 1) := by decide +kernel
theorem dX10_nextRow_129 : decode cX10_nextRow 129 = .ok (.getfield 102, 3) := by decide +kernel
theorem dX10_nextRow_132 : decode cX10_nextRow 132 = .ok (.iload 5, 2) := by decide +kernel
theorem dX10_nextRow_134 : decode cX10_nextRow 134 = .ok (.iaload, 1) := by decide +kernel
theorem dX10_nextRow_135 : decode cX10_nextRow 135 = .ok (.iastore, 1) := by decide +kernel
theorem dX10_nextRow_136 : decode cX10_nextRow 136 = .ok (.aload_n 0, 1) := by decide +kernel
theorem dX10_nextRow_137 : decode cX10_nextRow 137 = .ok (.getfield 102, 3) := by decide +kernel
theorem dX10_nextRow_140 : decode cX10_nextRow 140 = .ok (.iload 5, 2) := by decide +kernel
theorem dX10_nextRow_142 : decode cX10_nextRow 142 = .ok (.iload_n 3, 1) := by decide +kernel
theorem dX10_nextRow_143 : decode cX10_nextRow 143 = .ok (.iastore, 1) := by decide +kernel
theorem dX10_nextRow_144 : decode cX10_nextRow 144 = .ok (.iinc 4 1, 3) := by decide +kernel
theorem dX10_nextRow_147 : decode cX10_nextRow 147 = .ok (.iinc 5 (-1), 3) := by decide +kernel
theorem dX10_nextRow_150 : decode cX10_nextRow 150 = .ok (.goto (-43), 3) := by decide +kernel
theorem dX10_nextRow_153 : decode cX10_nextRow 153 = .ok (.iconst 1, 1) := by decide +kernel
theorem dX10_nextRow_154 : decode cX10_nextRow 154 = .ok (.ireturn, 1) := by decide +kernel
theorem dX10_findOrder_0 : decode cX10_findOrder 0 = .ok (.iconst 0, 1) := by decide +kernel
theorem dX10_findOrder_1 : decode cX10_findOrder 1 = .ok (.istore_n 1, 1) := by decide +kernel
theorem dX10_findOrder_2 : decode cX10_findOrder 2 = .ok (.iload_n 1, 1) := by decide +kernel
theorem dX10_findOrder_3 : decode cX10_findOrder 3 = .ok (.aload_n 0, 1) := by decide +kernel
theorem dX10_findOrder_4 : decode cX10_findOrder 4 = .ok (.getfield 227, 3) := by decide +kernel
theorem dX10_findOrder_7 : decode cX10_findOrder 7 = .ok (.if_icmp .ge 16, 3) := by decide +kernel
theorem dX10_findOrder_10 : decode cX10_findOrder 10 = .ok (.aload_n 0, 1) := by decide +kernel
theorem dX10_findOrder_11 : decode cX10_findOrder 11 = .ok (.getfield 102, 3) := by decide +kernel
theorem dX10_findOrder_14 : decode cX10_findOrder 14 = .ok (.iload_n 1, 1) := by decide +kernel
theorem dX10_findOrder_15 : decode cX10_findOrder 15 = .ok (.iload_n 1, 1) := by decide +kernel
theorem dX10_findOrder_16 : decode cX10_findOrder 16 = .ok (.iastore, 1) := by decide +kernel
theorem dX10_findOrder_17 : decode cX10_findOrder 17 = .ok (.iinc 1 1, 3) := by decide +kernel
theorem dX10_findOrder_20 : decode cX10_findOrder 20 = .ok (.goto (-18), 3) := by decide +kernel
theorem dX10_findOrder_23 : decode cX10_findOrder 23 = .ok (.iconst (-1), 1) := by decide +kernel
theorem dX10_findOrder_24 : decode cX10_findOrder 24 = .ok (.istore_n 1, 1) := by decide +kernel
theorem dX10_findOrder_25 : decode cX10_findOrder 25 = .ok (.iconst 0, 1) := by decide +kernel
theorem dX10_findOrder_26 : decode cX10_findOrder 26 = .ok (.istore_n 2, 1) := by decide +kernel
theorem dX10_findOrder_27 : decode cX10_findOrder 27 = .ok (.aload_n 0, 1) := by decide +kernel
theorem dX10_findOrder_28 : decode cX10_findOrder 28 = .ok (.getfield 227, 3) := by decide +kernel
theorem dX10_findOrder_31 : decode cX10_findOrder 31 = .ok (.ifCond .le 7, 3) := by decide +kernel
theorem dX10_findOrder_34 : decode cX10_findOrder 34 = .ok (.iconst 1, 1) := by decide +kernel
theorem dX10_findOrder_35 : decode cX10_findOrder 35 = .ok (.goto 4, 3) := by decide +kernel
theorem dX10_findOrder_38 : decode cX10_findOrder 38 = .ok (.iconst 0, 1) := by decide +kernel
theorem dX10_findOrder_39 : decode cX10_findOrder 39 = .ok (.istore_n 3, 1) := by decide +kernel
theorem dX10_findOrder_40 : decode cX10_findOrder 40 = .ok (.iload_n 3, 1) := by decide +kernel
theorem dX10_findOrder_41 : decode cX10_findOrder 41 = .ok (.ifCond .eq 196, 3) := by decide +kernel
theorem dX10_findOrder_44 : decode cX10_findOrder 44 = .ok (.iconst 0, 1) := by decide +kernel
theorem dX10_findOrder_45 : decode cX10_findOrder 45 = .ok (.istore 4, 2) := by decide +kernel
theorem dX10_findOrder_47 : decode cX10_findOrder 47 = .ok (.iconst 0, 1) := by decide +kernel
theorem dX10_findOrder_48 : decode cX10_findOrder 48 = .ok (.istore 5, 2) := by decide +kernel
theorem dX10_findOrder_50 : decode cX10_findOrder 50 = .ok (.iconst 0, 1) := by decide +kernel
theorem dX10_findOrder_51 : decode cX10_findOrder 51 = .ok (.istore 6, 2) := by decide +kernel
theorem dX10_findOrder_53 : decode cX10_findOrder 53 = .ok (.iload 6, 2) := by decide +kernel
theorem dX10_findOrder_55 : decode cX10_findOrder 55 = .ok (.aload_n 0, 1) := by decide +kernel
theorem dX10_findOrder_56 : decode cX10_findOrder 56 = .ok (.getfield 227, 3) := by decide +kernel
theorem dX10_findOrder_59 : decode cX10_findOrder 59 = .ok (.if_icmp .ge 109, 3) := by decide +kernel
theorem dX10_findOrder_62 : decode cX10_findOrder 62 = .ok (.aload_n 0, 1) := by decide +kernel
theorem dX10_findOrder_63 : decode cX10_findOrder 63 = .ok (.getfield 102, 3) := by decide +kernel
theorem dX10_findOrder_66 : decode cX10_findOrder 66 = .ok (.iload 6, 2) := by decide +kernel
theorem dX10_findOrder_68 : decode cX10_findOrder 68 = .ok (.iaload, 1) := by decide +kernel
theorem dX10_findOrder_69 : decode cX10_findOrder 69 = .ok (.istore 7, 2) := by decide +kernel
theorem dX10_findOrder_71 : decode cX10_findOrder 71 = .ok (.iload 6, 2) := by decide +kernel
theorem dX10_findOrder_73 : decode cX10_findOrder 73 = .ok (.ifCond .le 46, 3) := by decide +kernel
theorem dX10_findOrder_76 : decode cX10_findOrder 76 = .ok (.aload_n 0, 1) := by decide +kernel
theorem dX10_findOrder_77 : decode cX10_findOrder 77 = .ok (.getfield 13, 3) := by decide +kernel
theorem dX10_findOrder_80 : decode cX10_findOrder 80 = .ok (.aload_n 0, 1) := by decide +kernel
theorem dX10_findOrder_81 : decode cX10_findOrder 81 = .ok (.getfield 90, 3) := by decide +kernel
theorem dX10_findOrder_84 : decode cX10_findOrder 84 = .ok (.iload 7, 2) := by decide +kernel
theorem dX10_findOrder_86 : decode cX10_findOrder 86 = .ok (.iaload, 1) := by decide +kernel
theorem dX10_findOrder_87 : decode cX10_findOrder 87 = .ok (.iaload, 1) := by decide +kernel
theorem dX10_findOrder_88 : decode cX10_findOrder 88 = .ok (.aload_n 0, 1) := by decide +kernel
theorem dX10_findOrder_89 : decode cX10_findOrder 89 = .ok (.getfield 13, 3) := by decide +kernel
theorem dX10_findOrder_92 : decode cX10_findOrder 92 = .ok (.aload_n 0, 1) := by decide +kernel
theorem dX10_findOrder_93 : decode cX10_findOrder 93 = .ok (.getfield 90, 3) := by decide +kernel
theorem dX10_findOrder_96 : decode cX10_findOrder 96 = .ok (.aload_n 0, 1) := by decide +kernel
theorem dX10_findOrder_97 : decode cX10_findOrder 97 = .ok (.getfield 102, 3) := by decide +kernel
theorem dX10_findOrder_100 : decode cX10_findOrder 100 = .ok (.iload 6, 2) := by decide +kernel
theorem dX10_findOrder_102 : decode cX10_findOrder 102 = .ok (.iconst 1, 1) := by decide +kernel
theorem dX10_findOrder_103 : decode cX10_findOrder 103 = .ok (.isub, 1) := by decide +kernel
theorem dX10_findOrder_104 : decode cX10_findOrder 104 = .ok (.iaload, 1) := by decide +kernel
theorem dX10_findOrder_105 : decode cX10_findOrder 105 = .ok (.iaload, 1) := by decide +kernel
theorem dX10_findOrder_106 : decode cX10_findOrder 106 = .ok (.iaload, 1) := by decide +kernel
theorem dX10_findOrder_107 : decode cX10_findOrder 107 = .ok (.if_icmp .eq 12, 3) := by decide +kernel
theorem dX10_findOrder_110 : decode cX10_findOrder 110 = .ok (.iload 4, 2) := by decide +kernel
theorem dX10_findOrder_112 : decode cX10_findOrder 112 = .ok (.aload_n 0, 1) := by decide +kernel
theorem dX10_findOrder_113 : decode cX10_findOrder 113 = .ok (.getfield 99, 3) := by decide +kernel
theorem dX10_findOrder_116 : decode cX10_findOrder 116 = .ok (.iadd, 1) := by decide +kernel
theorem dX10_findOrder_117 : decode cX10_findOrder 117 = .ok (.istore 4, 2) := by decide +kernel
theorem dX10_findOrder_119 : decode cX10_findOrder 119 = .ok (.iload 4, 2) := by decide +kernel
theorem dX10_findOrder_121 : decode cX10_findOrder 121 = .ok (.aload_n 0, 1) := by decide +kernel
theorem dX10_findOrder_122 : decode cX10_findOrder 122 = .ok (.getfield 93, 3) := by decide +kernel
theorem dX10_findOrder_125 : decode cX10_findOrder 125 = .ok (.iload 7, 2) := by decide +kernel
theorem dX10_findOrder_127 : decode cX10_findOrder 127 = .ok (.iaload, 1) := by decide +kernel
theorem dX10_findOrder_128 : decode cX10_findOrder 128 = .ok (.iadd, 1) := by decide +kernel
theorem dX10_findOrder_129 : decode cX10_findOrder 129 = .ok (.istore 4, 2) := by decide +kernel
theorem dX10_findOrder_131 : decode cX10_findOrder 131 = .ok (.iload 5, 2) := by decide +kernel
theorem dX10_findOrder_133 : decode cX10_findOrder 133 = .ok (.iload 4, 2) := by decide +kernel
theorem dX10_findOrder_135 : decode cX10_findOrder 135 = .ok (.aload_n 0, 1) := by decide +kernel
theorem dX10_findOrder_136 : decode cX10_findOrder 136 = .ok (.getfield 96, 3) := by decide +kernel
theorem dX10_findOrder_139 : decode cX10_findOrder 139 = .ok (.iload 7, 2) := by decide +kernel
theorem dX10_findOrder_141 : decode cX10_findOrder 141 = .ok (.iaload, 1) := by decide +kernel
theorem dX10_findOrder_142 : decode cX10_findOrder 142 = .ok (.if_icmp .le 16, 3) := by decide +kernel
theorem dX10_findOrder_145 : decode cX10_findOrder 145 = .ok (.iload 4, 2) := by decide +kernel
theorem dX10_findOrder_147 : decode cX10_findOrder 147 = .ok (.aload_n 0, 1) := by decide +kernel
theorem dX10_findOrder_148 : decode cX10_findOrder 148 = .ok (.getfield 96, 3) := by decide +kernel
theorem dX10_findOrder_151 : decode cX10_findOrder 151 = .ok (.iload 7, 2) := by decide +kernel
theorem dX10_findOrder_153 : decode cX10_findOrder 153 = .ok (.iaload, 1) := by decide +kernel
theorem dX10_findOrder_154 : decode cX10_findOrder 154 = .ok (.isub, 1) := by decide +kernel
theorem dX10_findOrder_155 : decode cX10_findOrder 155 = .ok (.goto 4, 3) := by decide +kernel
theorem dX10_findOrder_158 : decode cX10_findOrder 158 = .ok (.iconst 0, 1) := by decide +kernel
theorem dX10_findOrder_159 : decode cX10_findOrder 159 = .ok (.iadd, 1) := by decide +kernel
theorem dX10_findOrder_160 : decode cX10_findOrder 160 = .ok (.istore 5, 2) := by decide +kernel
theorem dX10_findOrder_162 : decode cX10_findOrder 162 = .ok (.iinc 6 1, 3) := by decide +kernel
theorem dX10_findOrder_165 : decode cX10_findOrder 165 = .ok (.goto (-112), 3) := by decide +kernel
theorem dX10_findOrder_168 : decode cX10_findOrder 168 = .ok (.iload_n 1, 1) := by decide +kernel
theorem dX10_findOrder_169 : decode cX10_findOrder 169 = .ok (.iconst (-1), 1) := by decide +kernel
theorem dX10_findOrder_170 : decode cX10_findOrder 170 = .ok (.if_icmp .eq 21, 3) := by decide +kernel
theorem dX10_findOrder_173 : decode cX10_findOrder 173 = .ok (.iload 5, 2) := by decide +kernel
theorem dX10_findOrder_175 : decode cX10_findOrder 175 = .ok (.iload_n 1, 1) := by decide +kernel
theorem dX10_findOrder_176 : decode cX10_findOrder 176 = .ok (.if_icmp .lt 15, 3) := by decide +kernel
theorem dX10_findOrder_179 : decode cX10_findOrder 179 = .ok (.iload 5, 2) := by decide +kernel
theorem dX10_findOrder_181 : decode cX10_findOrder 181 = .ok (.iload_n 1, 1) := by decide +kernel
theorem dX10_findOrder_182 : decode cX10_findOrder 182 = .ok (.if_icmp .ne 47, 3) := by decide +kernel
theorem dX10_findOrder_185 : decode cX10_findOrder 185 = .ok (.iload 4, 2) := by decide +kernel
theorem dX10_findOrder_187 : decode cX10_findOrder 187 = .ok (.iload_n 2, 1) := by decide +kernel
theorem dX10_findOrder_188 : decode cX10_findOrder 188 = .ok (.if_icmp .ge 41, 3) := by decide +kernel
theorem dX10_findOrder_191 : decode cX10_findOrder 191 = .ok (.iload 5, 2) := by decide +kernel
theorem dX10_findOrder_193 : decode cX10_findOrder 193 = .ok (.istore_n 1, 1) := by decide +kernel
theorem dX10_findOrder_194 : decode cX10_findOrder 194 = .ok (.iload 4, 2) := by decide +kernel
theorem dX10_findOrder_196 : decode cX10_findOrder 196 = .ok (.istore_n 2, 1) := by decide +kernel
theorem dX10_findOrder_197 : decode cX10_findOrder 197 = .ok (.iconst 0, 1) := by decide +kernel
theorem dX10_findOrder_198 : decode cX10_findOrder 198 = .ok (.istore 6, 2) := by decide +kernel
theorem dX10_findOrder_200 : decode cX10_findOrder 200 = .ok (.iload 6, 2) := by decide +kernel
theorem dX10_findOrder_202 : decode cX10_findOrder 202 = .ok (.aload_n 0, 1) := by decide +kernel
theorem dX10_findOrder_203 : decode cX10_findOrder 203 = .ok (.getfield 227, 3) := by decide +kernel
theorem dX10_findOrder_206 : decode cX10_findOrder 206 = .ok (.if_icmp .ge 23, 3) := by decide +kernel
theorem dX10_findOrder_209 : decode cX10_findOrder 209 = .ok (.aload_n 0, 1) := by decide +kernel
theorem dX10_findOrder_210 : decode cX10_findOrder 210 = .ok (.getfield 105, 3) := by decide +kernel
theorem dX10_findOrder_213 : decode cX10_findOrder 213 = .ok (.iload 6, 2) := by decide +kernel
theorem dX10_findOrder_215 : decode cX10_findOrder 215 = .ok (.aload_n 0, 1) := by decide +kernel
theorem dX10_findOrder_216 : decode cX10_findOrder 216 = .ok (.getfield 102, 3) := by decide +kernel
theorem dX10_findOrder_219 : decode cX10_findOrder 219 = .ok (.iload 6, 2) := by decide +kernel
theorem dX10_findOrder_221 : decode cX10_findOrder 221 = .ok (.iaload, 1) := by decide +kernel
theorem dX10_findOrder_222 : decode cX10_findOrder 222 = .ok (.iastore, 1) := by decide +kernel
theorem dX10_findOrder_223 : decode cX10_findOrder 223 = .ok (.iinc 6 1, 3) := by decide +kernel
theorem dX10_findOrder_226 : decode cX10_findOrder 226 = .ok (.goto (-26), 3) := by decide +kernel
theorem dX10_findOrder_229 : decode cX10_findOrder 229 = .ok (.aload_n 0, 1) := by decide +kernel
theorem dX10_findOrder_230 : decode cX10_findOrder 230 = .ok (.invokevirtual 230, 3) := by decide +kernel
theorem dX10_findOrder_233 : decode cX10_findOrder 233 = .ok (.istore_n 3, 1) := by decide +kernel
theorem dX10_findOrder_234 : decode cX10_findOrder 234 = .ok (.goto (-194), 3) := by decide +kernel
theorem dX10_findOrder_237 : decode cX10_findOrder 237 = .ok (.iload_n 1, 1) := by decide +kernel
theorem dX10_findOrder_238 : decode cX10_findOrder 238 = .ok (.iconst (-1), 1) := by decide +kernel
theorem dX10_findOrder_239 : decode cX10_findOrder 239 = .ok (.if_icmp .ne 7, 3) := by decide +kernel
theorem dX10_findOrder_242 : decode cX10_findOrder 242 = .ok (.iconst 0, 1) := by decide +kernel
theorem dX10_findOrder_243 : decode cX10_findOrder 243 = .ok (.goto 4, 3) := by decide +kernel
theorem dX10_findOrder_246 : decode cX10_findOrder 246 = .ok (.iload_n 1, 1) := by decide +kernel
theorem dX10_findOrder_247 : decode cX10_findOrder 247 = .ok (.ireturn, 1) := by decide +kernel
theorem dX10_late_0 : decode cX10_late 0 = .ok (.aload_n 0, 1) := by decide +kernel
theorem dX10_late_1 : decode cX10_late 1 = .ok (.invokevirtual 234, 3) := by decide +kernel
theorem dX10_late_4 : decode cX10_late 4 = .ok (.ireturn, 1) := by decide +kernel
theorem dX10_planned_0 : decode cX10_planned 0 = .ok (.iload_n 1, 1) := by decide +kernel
theorem dX10_planned_1 : decode cX10_planned 1 = .ok (.i2l, 1) := by decide +kernel
theorem dX10_planned_2 : decode cX10_planned 2 = .ok (.lconst 0, 1) := by decide +kernel
theorem dX10_planned_3 : decode cX10_planned 3 = .ok (.aload_n 0, 1) := by decide +kernel
theorem dX10_planned_4 : decode cX10_planned 4 = .ok (.getfield 227, 3) := by decide +kernel
theorem dX10_planned_7 : decode cX10_planned 7 = .ok (.iconst 1, 1) := by decide +kernel
theorem dX10_planned_8 : decode cX10_planned 8 = .ok (.isub, 1) := by decide +kernel
theorem dX10_planned_9 : decode cX10_planned 9 = .ok (.i2l, 1) := by decide +kernel
theorem dX10_planned_10 : decode cX10_planned 10 = .ok (.invokestatic 131, 3) := by decide +kernel
theorem dX10_planned_13 : decode cX10_planned 13 = .ok (.ifCond .ne 6, 3) := by decide +kernel
theorem dX10_planned_16 : decode cX10_planned 16 = .ok (.bipush (-2), 2) := by decide +kernel
theorem dX10_planned_18 : decode cX10_planned 18 = .ok (.ireturn, 1) := by decide +kernel
theorem dX10_planned_19 : decode cX10_planned 19 = .ok (.aload_n 0, 1) := by decide +kernel
theorem dX10_planned_20 : decode cX10_planned 20 = .ok (.invokevirtual 234, 3) := by decide +kernel
theorem dX10_planned_23 : decode cX10_planned 23 = .ok (.istore_n 2, 1) := by decide +kernel
theorem dX10_planned_24 : decode cX10_planned 24 = .ok (.aload_n 0, 1) := by decide +kernel
theorem dX10_planned_25 : decode cX10_planned 25 = .ok (.getfield 105, 3) := by decide +kernel
theorem dX10_planned_28 : decode cX10_planned 28 = .ok (.iload_n 1, 1) := by decide +kernel
theorem dX10_planned_29 : decode cX10_planned 29 = .ok (.iaload, 1) := by decide +kernel
theorem dX10_planned_30 : decode cX10_planned 30 = .ok (.ireturn, 1) := by decide +kernel
theorem dX10_room_0 : decode cX10_room 0 = .ok (.iload_n 1, 1) := by decide +kernel
theorem dX10_room_1 : decode cX10_room 1 = .ok (.i2l, 1) := by decide +kernel
theorem dX10_room_2 : decode cX10_room 2 = .ok (.ldc2_w 181, 3) := by decide +kernel
theorem dX10_room_5 : decode cX10_room 5 = .ok (.ldc2_w 238, 3) := by decide +kernel
theorem dX10_room_8 : decode cX10_room 8 = .ok (.invokestatic 131, 3) := by decide +kernel
theorem dX10_room_11 : decode cX10_room 11 = .ok (.ifCond .ne 6, 3) := by decide +kernel
theorem dX10_room_14 : decode cX10_room 14 = .ok (.bipush (-2), 2) := by decide +kernel
theorem dX10_room_16 : decode cX10_room 16 = .ok (.ireturn, 1) := by decide +kernel
theorem dX10_room_17 : decode cX10_room 17 = .ok (.aload_n 0, 1) := by decide +kernel
theorem dX10_room_18 : decode cX10_room 18 = .ok (.getfield 109, 3) := by decide +kernel
theorem dX10_room_21 : decode cX10_room 21 = .ok (.istore_n 2, 1) := by decide +kernel
theorem dX10_room_22 : decode cX10_room 22 = .ok (.aload_n 0, 1) := by decide +kernel
theorem dX10_room_23 : decode cX10_room 23 = .ok (.iload_n 1, 1) := by decide +kernel
theorem dX10_room_24 : decode cX10_room 24 = .ok (.putfield 109, 3) := by decide +kernel
theorem dX10_room_27 : decode cX10_room 27 = .ok (.iload_n 2, 1) := by decide +kernel
theorem dX10_room_28 : decode cX10_room 28 = .ok (.ireturn, 1) := by decide +kernel
theorem dX10_waits_0 : decode cX10_waits 0 = .ok (.aload_n 0, 1) := by decide +kernel
theorem dX10_waits_1 : decode cX10_waits 1 = .ok (.getfield 58, 3) := by decide +kernel
theorem dX10_waits_4 : decode cX10_waits 4 = .ok (.iload_n 1, 1) := by decide +kernel
theorem dX10_waits_5 : decode cX10_waits 5 = .ok (.iaload, 1) := by decide +kernel
theorem dX10_waits_6 : decode cX10_waits 6 = .ok (.iconst (-1), 1) := by decide +kernel
theorem dX10_waits_7 : decode cX10_waits 7 = .ok (.if_icmp .ne 25, 3) := by decide +kernel
theorem dX10_waits_10 : decode cX10_waits 10 = .ok (.aload_n 0, 1) := by decide +kernel
theorem dX10_waits_11 : decode cX10_waits 11 = .ok (.getfield 49, 3) := by decide +kernel
theorem dX10_waits_14 : decode cX10_waits 14 = .ok (.iload_n 1, 1) := by decide +kernel
theorem dX10_waits_15 : decode cX10_waits 15 = .ok (.iaload, 1) := by decide +kernel
theorem dX10_waits_16 : decode cX10_waits 16 = .ok (.ifCond .le 16, 3) := by decide +kernel
theorem dX10_waits_19 : decode cX10_waits 19 = .ok (.aload_n 0, 1) := by decide +kernel
theorem dX10_waits_20 : decode cX10_waits 20 = .ok (.getfield 112, 3) := by decide +kernel
theorem dX10_waits_23 : decode cX10_waits 23 = .ok (.iload_n 1, 1) := by decide +kernel
theorem dX10_waits_24 : decode cX10_waits 24 = .ok (.baload, 1) := by decide +kernel
theorem dX10_waits_25 : decode cX10_waits 25 = .ok (.ifCond .ne 7, 3) := by decide +kernel
theorem dX10_waits_28 : decode cX10_waits 28 = .ok (.iconst 1, 1) := by decide +kernel
theorem dX10_waits_29 : decode cX10_waits 29 = .ok (.goto 4, 3) := by decide +kernel
theorem dX10_waits_32 : decode cX10_waits 32 = .ok (.iconst 0, 1) := by decide +kernel
theorem dX10_waits_33 : decode cX10_waits 33 = .ok (.ireturn, 1) := by decide +kernel
theorem dX10_noneGone_0 : decode cX10_noneGone 0 = .ok (.iconst 0, 1) := by decide +kernel
theorem dX10_noneGone_1 : decode cX10_noneGone 1 = .ok (.istore_n 1, 1) := by decide +kernel
theorem dX10_noneGone_2 : decode cX10_noneGone 2 = .ok (.iload_n 1, 1) := by decide +kernel
theorem dX10_noneGone_3 : decode cX10_noneGone 3 = .ok (.sipush 200, 3) := by decide +kernel
theorem dX10_noneGone_6 : decode cX10_noneGone 6 = .ok (.if_icmp .ge 16, 3) := by decide +kernel
theorem dX10_noneGone_9 : decode cX10_noneGone 9 = .ok (.aload_n 0, 1) := by decide +kernel
theorem dX10_noneGone_10 : decode cX10_noneGone 10 = .ok (.getfield 112, 3) := by decide +kernel
theorem dX10_noneGone_13 : decode cX10_noneGone 13 = .ok (.iload_n 1, 1) := by decide +kernel
theorem dX10_noneGone_14 : decode cX10_noneGone 14 = .ok (.iconst 0, 1) := by decide +kernel
theorem dX10_noneGone_15 : decode cX10_noneGone 15 = .ok (.bastore, 1) := by decide +kernel
theorem dX10_noneGone_16 : decode cX10_noneGone 16 = .ok (.iinc 1 1, 3) := by decide +kernel
theorem dX10_noneGone_19 : decode cX10_noneGone 19 = .ok (.goto (-17), 3) := by decide +kernel
theorem dX10_noneGone_22 : decode cX10_noneGone 22 = .ok (.return_, 1) := by decide +kernel
theorem dX10_takes_0 : decode cX10_takes 0 = .ok (.iconst (-1), 1) := by decide +kernel
theorem dX10_takes_1 : decode cX10_takes 1 = .ok (.istore_n 1, 1) := by decide +kernel
theorem dX10_takes_2 : decode cX10_takes 2 = .ok (.iconst 0, 1) := by decide +kernel
theorem dX10_takes_3 : decode cX10_takes 3 = .ok (.istore_n 2, 1) := by decide +kernel
theorem dX10_takes_4 : decode cX10_takes 4 = .ok (.iload_n 2, 1) := by decide +kernel
theorem dX10_takes_5 : decode cX10_takes 5 = .ok (.aload_n 0, 1) := by decide +kernel
theorem dX10_takes_6 : decode cX10_takes 6 = .ok (.getfield 206, 3) := by decide +kernel
theorem dX10_takes_9 : decode cX10_takes 9 = .ok (.if_icmp .ge 28, 3) := by decide +kernel
theorem dX10_takes_12 : decode cX10_takes 12 = .ok (.iload_n 1, 1) := by decide +kernel
theorem dX10_takes_13 : decode cX10_takes 13 = .ok (.iconst (-1), 1) := by decide +kernel
theorem dX10_takes_14 : decode cX10_takes 14 = .ok (.if_icmp .ne 23, 3) := by decide +kernel
theorem dX10_takes_17 : decode cX10_takes 17 = .ok (.aload_n 0, 1) := by decide +kernel
theorem dX10_takes_18 : decode cX10_takes 18 = .ok (.iload_n 2, 1) := by decide +kernel
theorem dX10_takes_19 : decode cX10_takes 19 = .ok (.invokevirtual 240, 3) := by decide +kernel
theorem dX10_takes_22 : decode cX10_takes 22 = .ok (.ifCond .eq 7, 3) := by decide +kernel
theorem dX10_takes_25 : decode cX10_takes 25 = .ok (.iload_n 2, 1) := by decide +kernel
theorem dX10_takes_26 : decode cX10_takes 26 = .ok (.goto 4, 3) := by decide +kernel
theorem dX10_takes_29 : decode cX10_takes 29 = .ok (.iconst (-1), 1) := by decide +kernel
theorem dX10_takes_30 : decode cX10_takes 30 = .ok (.istore_n 1, 1) := by decide +kernel
theorem dX10_takes_31 : decode cX10_takes 31 = .ok (.iinc 2 1, 3) := by decide +kernel
theorem dX10_takes_34 : decode cX10_takes 34 = .ok (.goto (-30), 3) := by decide +kernel
theorem dX10_takes_37 : decode cX10_takes 37 = .ok (.iload_n 1, 1) := by decide +kernel
theorem dX10_takes_38 : decode cX10_takes 38 = .ok (.iconst (-1), 1) := by decide +kernel
theorem dX10_takes_39 : decode cX10_takes 39 = .ok (.if_icmp .ne 5, 3) := by decide +kernel
theorem dX10_takes_42 : decode cX10_takes 42 = .ok (.iconst 0, 1) := by decide +kernel
theorem dX10_takes_43 : decode cX10_takes 43 = .ok (.ireturn, 1) := by decide +kernel
theorem dX10_takes_44 : decode cX10_takes 44 = .ok (.iconst 0, 1) := by decide +kernel
theorem dX10_takes_45 : decode cX10_takes 45 = .ok (.istore_n 2, 1) := by decide +kernel
theorem dX10_takes_46 : decode cX10_takes 46 = .ok (.iconst 0, 1) := by decide +kernel
theorem dX10_takes_47 : decode cX10_takes 47 = .ok (.istore_n 3, 1) := by decide +kernel
theorem dX10_takes_48 : decode cX10_takes 48 = .ok (.iconst 1, 1) := by decide +kernel
theorem dX10_takes_49 : decode cX10_takes 49 = .ok (.istore 4, 2) := by decide +kernel
theorem dX10_takes_51 : decode cX10_takes 51 = .ok (.iload_n 1, 1) := by decide +kernel
theorem dX10_takes_52 : decode cX10_takes 52 = .ok (.istore 5, 2) := by decide +kernel
theorem dX10_takes_54 : decode cX10_takes 54 = .ok (.iload 5, 2) := by decide +kernel
theorem dX10_takes_56 : decode cX10_takes 56 = .ok (.aload_n 0, 1) := by decide +kernel
theorem dX10_takes_57 : decode cX10_takes 57 = .ok (.getfield 206, 3) := by decide +kernel
theorem dX10_takes_60 : decode cX10_takes 60 = .ok (.if_icmp .ge 112, 3) := by decide +kernel
theorem dX10_takes_63 : decode cX10_takes 63 = .ok (.iload 4, 2) := by decide +kernel
theorem dX10_takes_65 : decode cX10_takes 65 = .ok (.ifCond .eq 107, 3) := by decide +kernel
theorem dX10_takes_68 : decode cX10_takes 68 = .ok (.aload_n 0, 1) := by decide +kernel
theorem dX10_takes_69 : decode cX10_takes 69 = .ok (.iload 5, 2) := by decide +kernel
theorem dX10_takes_71 : decode cX10_takes 71 = .ok (.invokevirtual 240, 3) := by decide +kernel
theorem dX10_takes_74 : decode cX10_takes 74 = .ok (.ifCond .eq 92, 3) := by decide +kernel
theorem dX10_takes_77 : decode cX10_takes 77 = .ok (.aload_n 0, 1) := by decide +kernel
theorem dX10_takes_78 : decode cX10_takes 78 = .ok (.getfield 19, 3) := by decide +kernel
theorem dX10_takes_81 : decode cX10_takes 81 = .ok (.aload_n 0, 1) := by decide +kernel
theorem dX10_takes_82 : decode cX10_takes 82 = .ok (.getfield 25, 3) := by decide +kernel
theorem dX10_takes_85 : decode cX10_takes 85 = .ok (.aload_n 0, 1) := by decide +kernel
theorem dX10_takes_86 : decode cX10_takes 86 = .ok (.getfield 40, 3) := by decide +kernel
theorem dX10_takes_89 : decode cX10_takes 89 = .ok (.iload 5, 2) := by decide +kernel
theorem dX10_takes_91 : decode cX10_takes 91 = .ok (.iaload, 1) := by decide +kernel
theorem dX10_takes_92 : decode cX10_takes 92 = .ok (.iaload, 1) := by decide +kernel
theorem dX10_takes_93 : decode cX10_takes 93 = .ok (.iaload, 1) := by decide +kernel
theorem dX10_takes_94 : decode cX10_takes 94 = .ok (.aload_n 0, 1) := by decide +kernel
theorem dX10_takes_95 : decode cX10_takes 95 = .ok (.getfield 19, 3) := by decide +kernel
theorem dX10_takes_98 : decode cX10_takes 98 = .ok (.aload_n 0, 1) := by decide +kernel
theorem dX10_takes_99 : decode cX10_takes 99 = .ok (.getfield 25, 3) := by decide +kernel
theorem dX10_takes_102 : decode cX10_takes 102 = .ok (.aload_n 0, 1) := by decide +kernel
theorem dX10_takes_103 : decode cX10_takes 103 = .ok (.getfield 40, 3) := by decide +kernel
theorem dX10_takes_106 : decode cX10_takes 106 = .ok (.iload_n 1, 1) := by decide +kernel
theorem dX10_takes_107 : decode cX10_takes 107 = .ok (.iaload, 1) := by decide +kernel
theorem dX10_takes_108 : decode cX10_takes 108 = .ok (.iaload, 1) := by decide +kernel
theorem dX10_takes_109 : decode cX10_takes 109 = .ok (.iaload, 1) := by decide +kernel
theorem dX10_takes_110 : decode cX10_takes 110 = .ok (.if_icmp .ne 56, 3) := by decide +kernel
theorem dX10_takes_113 : decode cX10_takes 113 = .ok (.iload_n 2, 1) := by decide +kernel
theorem dX10_takes_114 : decode cX10_takes 114 = .ok (.ifCond .eq 19, 3) := by decide +kernel
theorem dX10_takes_117 : decode cX10_takes 117 = .ok (.iload_n 3, 1) := by decide +kernel
theorem dX10_takes_118 : decode cX10_takes 118 = .ok (.aload_n 0, 1) := by decide +kernel
theorem dX10_takes_119 : decode cX10_takes 119 = .ok (.getfield 49, 3) := by decide +kernel
theorem dX10_takes_122 : decode cX10_takes 122 = .ok (.iload 5, 2) := by decide +kernel
theorem dX10_takes_124 : decode cX10_takes 124 = .ok (.iaload, 1) := by decide +kernel
theorem dX10_takes_125 : decode cX10_takes 125 = .ok (.iadd, 1) := by decide +kernel
theorem dX10_takes_126 : decode cX10_takes 126 = .ok (.aload_n 0, 1) := by decide +kernel
theorem dX10_takes_127 : decode cX10_takes 127 = .ok (.getfield 109, 3) := by decide +kernel
theorem dX10_takes_130 : decode cX10_takes 130 = .ok (.if_icmp .gt 7, 3) := by decide +kernel
theorem dX10_takes_133 : decode cX10_takes 133 = .ok (.iconst 1, 1) := by decide +kernel
theorem dX10_takes_134 : decode cX10_takes 134 = .ok (.goto 4, 3) := by decide +kernel
theorem dX10_takes_137 : decode cX10_takes 137 = .ok (.iconst 0, 1) := by decide +kernel
theorem dX10_takes_138 : decode cX10_takes 138 = .ok (.istore 4, 2) := by decide +kernel
theorem dX10_takes_140 : decode cX10_takes 140 = .ok (.iload 4, 2) := by decide +kernel
theorem dX10_takes_142 : decode cX10_takes 142 = .ok (.ifCond .eq 24, 3) := by decide +kernel
theorem dX10_takes_145 : decode cX10_takes 145 = .ok (.aload_n 0, 1) := by decide +kernel
theorem dX10_takes_146 : decode cX10_takes 146 = .ok (.getfield 112, 3) := by decide +kernel
theorem dX10_takes_149 : decode cX10_takes 149 = .ok (.iload 5, 2) := by decide +kernel
theorem dX10_takes_151 : decode cX10_takes 151 = .ok (.iconst 1, 1) := by decide +kernel
theorem dX10_takes_152 : decode cX10_takes 152 = .ok (.bastore, 1) := by decide +kernel
theorem dX10_takes_153 : decode cX10_takes 153 = .ok (.iload_n 3, 1) := by decide +kernel
theorem dX10_takes_154 : decode cX10_takes 154 = .ok (.aload_n 0, 1) := by decide +kernel
theorem dX10_takes_155 : decode cX10_takes 155 = .ok (.getfield 49, 3) := by decide +kernel
theorem dX10_takes_158 : decode cX10_takes 158 = .ok (.iload 5, 2) := by decide +kernel
theorem dX10_takes_160 : decode cX10_takes 160 = .ok (.iaload, 1) := by decide +kernel
theorem dX10_takes_161 : decode cX10_takes 161 = .ok (.iadd, 1) := by decide +kernel
theorem dX10_takes_162 : decode cX10_takes 162 = .ok (.istore_n 3, 1) := by decide +kernel
theorem dX10_takes_163 : decode cX10_takes 163 = .ok (.iinc 2 1, 3) := by decide +kernel
theorem dX10_takes_166 : decode cX10_takes 166 = .ok (.iinc 5 1, 3) := by decide +kernel
theorem dX10_takes_169 : decode cX10_takes 169 = .ok (.goto (-115), 3) := by decide +kernel
theorem dX10_takes_172 : decode cX10_takes 172 = .ok (.iload_n 2, 1) := by decide +kernel
theorem dX10_takes_173 : decode cX10_takes 173 = .ok (.ireturn, 1) := by decide +kernel
theorem dX10_age_0 : decode cX10_age 0 = .ok (.aload_n 0, 1) := by decide +kernel
theorem dX10_age_1 : decode cX10_age 1 = .ok (.invokevirtual 243, 3) := by decide +kernel
theorem dX10_age_4 : decode cX10_age 4 = .ok (.aload_n 0, 1) := by decide +kernel
theorem dX10_age_5 : decode cX10_age 5 = .ok (.invokevirtual 246, 3) := by decide +kernel
theorem dX10_age_8 : decode cX10_age 8 = .ok (.istore_n 1, 1) := by decide +kernel
theorem dX10_age_9 : decode cX10_age 9 = .ok (.iload_n 1, 1) := by decide +kernel
theorem dX10_age_10 : decode cX10_age 10 = .ok (.ifCond .ne 6, 3) := by decide +kernel
theorem dX10_age_13 : decode cX10_age 13 = .ok (.bipush (-3), 2) := by decide +kernel
theorem dX10_age_15 : decode cX10_age 15 = .ok (.ireturn, 1) := by decide +kernel
theorem dX10_age_16 : decode cX10_age 16 = .ok (.iconst 0, 1) := by decide +kernel
theorem dX10_age_17 : decode cX10_age 17 = .ok (.istore_n 2, 1) := by decide +kernel
theorem dX10_age_18 : decode cX10_age 18 = .ok (.iload_n 2, 1) := by decide +kernel
theorem dX10_age_19 : decode cX10_age 19 = .ok (.aload_n 0, 1) := by decide +kernel
theorem dX10_age_20 : decode cX10_age 20 = .ok (.getfield 206, 3) := by decide +kernel
theorem dX10_age_23 : decode cX10_age 23 = .ok (.if_icmp .ge 37, 3) := by decide +kernel
theorem dX10_age_26 : decode cX10_age 26 = .ok (.aload_n 0, 1) := by decide +kernel
theorem dX10_age_27 : decode cX10_age 27 = .ok (.getfield 58, 3) := by decide +kernel
theorem dX10_age_30 : decode cX10_age 30 = .ok (.iload_n 2, 1) := by decide +kernel
theorem dX10_age_31 : decode cX10_age 31 = .ok (.aload_n 0, 1) := by decide +kernel
theorem dX10_age_32 : decode cX10_age 32 = .ok (.getfield 112, 3) := by decide +kernel
theorem dX10_age_35 : decode cX10_age 35 = .ok (.iload_n 2, 1) := by decide +kernel
theorem dX10_age_36 : decode cX10_age 36 = .ok (.baload, 1) := by decide +kernel
theorem dX10_age_37 : decode cX10_age 37 = .ok (.ifCond .eq 10, 3) := by decide +kernel
theorem dX10_age_40 : decode cX10_age 40 = .ok (.aload_n 0, 1) := by decide +kernel
theorem dX10_age_41 : decode cX10_age 41 = .ok (.getfield 249, 3) := by decide +kernel
theorem dX10_age_44 : decode cX10_age 44 = .ok (.goto 9, 3) := by decide +kernel
theorem dX10_age_47 : decode cX10_age 47 = .ok (.aload_n 0, 1) := by decide +kernel
theorem dX10_age_48 : decode cX10_age 48 = .ok (.getfield 58, 3) := by decide +kernel
theorem dX10_age_51 : decode cX10_age 51 = .ok (.iload_n 2, 1) := by decide +kernel
theorem dX10_age_52 : decode cX10_age 52 = .ok (.iaload, 1) := by decide +kernel
theorem dX10_age_53 : decode cX10_age 53 = .ok (.iastore, 1) := by decide +kernel
theorem dX10_age_54 : decode cX10_age 54 = .ok (.iinc 2 1, 3) := by decide +kernel
theorem dX10_age_57 : decode cX10_age 57 = .ok (.goto (-39), 3) := by decide +kernel
theorem dX10_age_60 : decode cX10_age 60 = .ok (.aload_n 0, 1) := by decide +kernel
theorem dX10_age_61 : decode cX10_age 61 = .ok (.dup, 1) := by decide +kernel
theorem dX10_age_62 : decode cX10_age 62 = .ok (.getfield 249, 3) := by decide +kernel
theorem dX10_age_65 : decode cX10_age 65 = .ok (.iconst 1, 1) := by decide +kernel
theorem dX10_age_66 : decode cX10_age 66 = .ok (.iadd, 1) := by decide +kernel
theorem dX10_age_67 : decode cX10_age 67 = .ok (.putfield 249, 3) := by decide +kernel
theorem dX10_age_70 : decode cX10_age 70 = .ok (.iload_n 1, 1) := by decide +kernel
theorem dX10_age_71 : decode cX10_age 71 = .ok (.ireturn, 1) := by decide +kernel
theorem dX10_batches_0 : decode cX10_batches 0 = .ok (.aload_n 0, 1) := by decide +kernel
theorem dX10_batches_1 : decode cX10_batches 1 = .ok (.invokevirtual 243, 3) := by decide +kernel
theorem dX10_batches_4 : decode cX10_batches 4 = .ok (.iconst 0, 1) := by decide +kernel
theorem dX10_batches_5 : decode cX10_batches 5 = .ok (.istore_n 1, 1) := by decide +kernel
theorem dX10_batches_6 : decode cX10_batches 6 = .ok (.aload_n 0, 1) := by decide +kernel
theorem dX10_batches_7 : decode cX10_batches 7 = .ok (.invokevirtual 246, 3) := by decide +kernel
theorem dX10_batches_10 : decode cX10_batches 10 = .ok (.ifCond .le 9, 3) := by decide +kernel
theorem dX10_batches_13 : decode cX10_batches 13 = .ok (.iinc 1 1, 3) := by decide +kernel
theorem dX10_batches_16 : decode cX10_batches 16 = .ok (.goto (-10), 3) := by decide +kernel
theorem dX10_batches_19 : decode cX10_batches 19 = .ok (.iload_n 1, 1) := by decide +kernel
theorem dX10_batches_20 : decode cX10_batches 20 = .ok (.ireturn, 1) := by decide +kernel
theorem dX10_sample_0 : decode cX10_sample 0 = .ok (.aload_n 0, 1) := by decide +kernel
theorem dX10_sample_1 : decode cX10_sample 1 = .ok (.iload_n 1, 1) := by decide +kernel
theorem dX10_sample_2 : decode cX10_sample 2 = .ok (.invokevirtual 213, 3) := by decide +kernel
theorem dX10_sample_5 : decode cX10_sample 5 = .ok (.ifCond .ne 6, 3) := by decide +kernel
theorem dX10_sample_8 : decode cX10_sample 8 = .ok (.bipush (-2), 2) := by decide +kernel
theorem dX10_sample_10 : decode cX10_sample 10 = .ok (.ireturn, 1) := by decide +kernel
theorem dX10_sample_11 : decode cX10_sample 11 = .ok (.aload_n 0, 1) := by decide +kernel
theorem dX10_sample_12 : decode cX10_sample 12 = .ok (.getfield 61, 3) := by decide +kernel
theorem dX10_sample_15 : decode cX10_sample 15 = .ok (.iload_n 1, 1) := by decide +kernel
theorem dX10_sample_16 : decode cX10_sample 16 = .ok (.iload_n 2, 1) := by decide +kernel
theorem dX10_sample_17 : decode cX10_sample 17 = .ok (.ifCond .eq 7, 3) := by decide +kernel
theorem dX10_sample_20 : decode cX10_sample 20 = .ok (.iconst 1, 1) := by decide +kernel
theorem dX10_sample_21 : decode cX10_sample 21 = .ok (.goto 4, 3) := by decide +kernel
theorem dX10_sample_24 : decode cX10_sample 24 = .ok (.iconst 0, 1) := by decide +kernel
theorem dX10_sample_25 : decode cX10_sample 25 = .ok (.iastore, 1) := by decide +kernel
theorem dX10_sample_26 : decode cX10_sample 26 = .ok (.iconst 1, 1) := by decide +kernel
theorem dX10_sample_27 : decode cX10_sample 27 = .ok (.ireturn, 1) := by decide +kernel
theorem dX10_isSuspect_0 : decode cX10_isSuspect 0 = .ok (.aload_n 0, 1) := by decide +kernel
theorem dX10_isSuspect_1 : decode cX10_isSuspect 1 = .ok (.getfield 61, 3) := by decide +kernel
theorem dX10_isSuspect_4 : decode cX10_isSuspect 4 = .ok (.iload_n 1, 1) := by decide +kernel
theorem dX10_isSuspect_5 : decode cX10_isSuspect 5 = .ok (.iaload, 1) := by decide +kernel
theorem dX10_isSuspect_6 : decode cX10_isSuspect 6 = .ok (.iconst 1, 1) := by decide +kernel
theorem dX10_isSuspect_7 : decode cX10_isSuspect 7 = .ok (.if_icmp .ne 5, 3) := by decide +kernel
theorem dX10_isSuspect_10 : decode cX10_isSuspect 10 = .ok (.iconst 0, 1) := by decide +kernel
theorem dX10_isSuspect_11 : decode cX10_isSuspect 11 = .ok (.ireturn, 1) := by decide +kernel
theorem dX10_isSuspect_12 : decode cX10_isSuspect 12 = .ok (.aload_n 0, 1) := by decide +kernel
theorem dX10_isSuspect_13 : decode cX10_isSuspect 13 = .ok (.getfield 61, 3) := by decide +kernel
theorem dX10_isSuspect_16 : decode cX10_isSuspect 16 = .ok (.iload_n 1, 1) := by decide +kernel
theorem dX10_isSuspect_17 : decode cX10_isSuspect 17 = .ok (.iaload, 1) := by decide +kernel
theorem dX10_isSuspect_18 : decode cX10_isSuspect 18 = .ok (.ifCond .ne 7, 3) := by decide +kernel
theorem dX10_isSuspect_21 : decode cX10_isSuspect 21 = .ok (.iconst 1, 1) := by decide +kernel
theorem dX10_isSuspect_22 : decode cX10_isSuspect 22 = .ok (.goto 4, 3) := by decide +kernel
theorem dX10_isSuspect_25 : decode cX10_isSuspect 25 = .ok (.iconst 0, 1) := by decide +kernel
theorem dX10_isSuspect_26 : decode cX10_isSuspect 26 = .ok (.istore_n 2, 1) := by decide +kernel
theorem dX10_isSuspect_27 : decode cX10_isSuspect 27 = .ok (.iconst (-1), 1) := by decide +kernel
theorem dX10_isSuspect_28 : decode cX10_isSuspect 28 = .ok (.istore_n 3, 1) := by decide +kernel
theorem dX10_isSuspect_29 : decode cX10_isSuspect 29 = .ok (.iload_n 3, 1) := by decide +kernel
theorem dX10_isSuspect_30 : decode cX10_isSuspect 30 = .ok (.iconst 2, 1) := by decide +kernel
theorem dX10_isSuspect_31 : decode cX10_isSuspect 31 = .ok (.if_icmp .ge 99, 3) := by decide +kernel
theorem dX10_isSuspect_34 : decode cX10_isSuspect 34 = .ok (.iconst 0, 1) := by decide +kernel
theorem dX10_isSuspect_35 : decode cX10_isSuspect 35 = .ok (.istore 4, 2) := by decide +kernel
theorem dX10_isSuspect_37 : decode cX10_isSuspect 37 = .ok (.iload_n 1, 1) := by decide +kernel
theorem dX10_isSuspect_38 : decode cX10_isSuspect 38 = .ok (.iload_n 3, 1) := by decide +kernel
theorem dX10_isSuspect_39 : decode cX10_isSuspect 39 = .ok (.iadd, 1) := by decide +kernel
theorem dX10_isSuspect_40 : decode cX10_isSuspect 40 = .ok (.istore 5, 2) := by decide +kernel
theorem dX10_isSuspect_42 : decode cX10_isSuspect 42 = .ok (.iload 5, 2) := by decide +kernel
theorem dX10_isSuspect_44 : decode cX10_isSuspect 44 = .ok (.ifCond .lt 80, 3) := by decide +kernel
theorem dX10_isSuspect_47 : decode cX10_isSuspect 47 = .ok (.iload 5, 2) := by decide +kernel
theorem dX10_isSuspect_49 : decode cX10_isSuspect 49 = .ok (.aload_n 0, 1) := by decide +kernel
theorem dX10_isSuspect_50 : decode cX10_isSuspect 50 = .ok (.getfield 206, 3) := by decide +kernel
theorem dX10_isSuspect_53 : decode cX10_isSuspect 53 = .ok (.if_icmp .ge 71, 3) := by decide +kernel
theorem dX10_isSuspect_56 : decode cX10_isSuspect 56 = .ok (.iload 4, 2) := by decide +kernel
theorem dX10_isSuspect_58 : decode cX10_isSuspect 58 = .ok (.ifCond .ne 66, 3) := by decide +kernel
theorem dX10_isSuspect_61 : decode cX10_isSuspect 61 = .ok (.aload_n 0, 1) := by decide +kernel
theorem dX10_isSuspect_62 : decode cX10_isSuspect 62 = .ok (.getfield 40, 3) := by decide +kernel
theorem dX10_isSuspect_65 : decode cX10_isSuspect 65 = .ok (.iload 5, 2) := by decide +kernel
theorem dX10_isSuspect_67 : decode cX10_isSuspect 67 = .ok (.iaload, 1) := by decide +kernel
theorem dX10_isSuspect_68 : decode cX10_isSuspect 68 = .ok (.aload_n 0, 1) := by decide +kernel
theorem dX10_isSuspect_69 : decode cX10_isSuspect 69 = .ok (.getfield 40, 3) := by decide +kernel
theorem dX10_isSuspect_72 : decode cX10_isSuspect 72 = .ok (.iload_n 1, 1) := by decide +kernel
theorem dX10_isSuspect_73 : decode cX10_isSuspect 73 = .ok (.iaload, 1) := by decide +kernel
theorem dX10_isSuspect_74 : decode cX10_isSuspect 74 = .ok (.if_icmp .ne 41, 3) := by decide +kernel
theorem dX10_isSuspect_77 : decode cX10_isSuspect 77 = .ok (.aload_n 0, 1) := by decide +kernel
theorem dX10_isSuspect_78 : decode cX10_isSuspect 78 = .ok (.getfield 61, 3) := by decide +kernel
theorem dX10_isSuspect_81 : decode cX10_isSuspect 81 = .ok (.iload 5, 2) := by decide +kernel
theorem dX10_isSuspect_83 : decode cX10_isSuspect 83 = .ok (.iaload, 1) := by decide +kernel
theorem dX10_isSuspect_84 : decode cX10_isSuspect 84 = .ok (.iconst 1, 1) := by decide +kernel
theorem dX10_isSuspect_85 : decode cX10_isSuspect 85 = .ok (.if_icmp .ne 7, 3) := by decide +kernel
theorem dX10_isSuspect_88 : decode cX10_isSuspect 88 = .ok (.iconst 1, 1) := by decide +kernel
theorem dX10_isSuspect_89 : decode cX10_isSuspect 89 = .ok (.goto 4, 3) := by decide +kernel
theorem dX10_isSuspect_92 : decode cX10_isSuspect 92 = .ok (.iconst 0, 1) := by decide +kernel
theorem dX10_isSuspect_93 : decode cX10_isSuspect 93 = .ok (.istore 4, 2) := by decide +kernel
theorem dX10_isSuspect_95 : decode cX10_isSuspect 95 = .ok (.iload_n 2, 1) := by decide +kernel
theorem dX10_isSuspect_96 : decode cX10_isSuspect 96 = .ok (.ifCond .ne 13, 3) := by decide +kernel
theorem dX10_isSuspect_99 : decode cX10_isSuspect 99 = .ok (.aload_n 0, 1) := by decide +kernel
theorem dX10_isSuspect_100 : decode cX10_isSuspect 100 = .ok (.getfield 61, 3) := by decide +kernel
theorem dX10_isSuspect_103 : decode cX10_isSuspect 103 = .ok (.iload 5, 2) := by decide +kernel
theorem dX10_isSuspect_105 : decode cX10_isSuspect 105 = .ok (.iaload, 1) := by decide +kernel
theorem dX10_isSuspect_106 : decode cX10_isSuspect 106 = .ok (.ifCond .ne 7, 3) := by decide +kernel
theorem dX10_isSuspect_109 : decode cX10_isSuspect 109 = .ok (.iconst 1, 1) := by decide +kernel
theorem dX10_isSuspect_110 : decode cX10_isSuspect 110 = .ok (.goto 4, 3) := by decide +kernel
theorem dX10_isSuspect_113 : decode cX10_isSuspect 113 = .ok (.iconst 0, 1) := by decide +kernel
theorem dX10_isSuspect_114 : decode cX10_isSuspect 114 = .ok (.istore_n 2, 1) := by decide +kernel
theorem dX10_isSuspect_115 : decode cX10_isSuspect 115 = .ok (.iload 5, 2) := by decide +kernel
theorem dX10_isSuspect_117 : decode cX10_isSuspect 117 = .ok (.iload_n 3, 1) := by decide +kernel
theorem dX10_isSuspect_118 : decode cX10_isSuspect 118 = .ok (.iadd, 1) := by decide +kernel
theorem dX10_isSuspect_119 : decode cX10_isSuspect 119 = .ok (.istore 5, 2) := by decide +kernel
theorem dX10_isSuspect_121 : decode cX10_isSuspect 121 = .ok (.goto (-79), 3) := by decide +kernel
theorem dX10_isSuspect_124 : decode cX10_isSuspect 124 = .ok (.iinc 3 2, 3) := by decide +kernel
theorem dX10_isSuspect_127 : decode cX10_isSuspect 127 = .ok (.goto (-98), 3) := by decide +kernel
theorem dX10_isSuspect_130 : decode cX10_isSuspect 130 = .ok (.iload_n 2, 1) := by decide +kernel
theorem dX10_isSuspect_131 : decode cX10_isSuspect 131 = .ok (.ireturn, 1) := by decide +kernel
theorem dX10_suspect_0 : decode cX10_suspect 0 = .ok (.aload_n 0, 1) := by decide +kernel
theorem dX10_suspect_1 : decode cX10_suspect 1 = .ok (.iload_n 1, 1) := by decide +kernel
theorem dX10_suspect_2 : decode cX10_suspect 2 = .ok (.invokevirtual 213, 3) := by decide +kernel
theorem dX10_suspect_5 : decode cX10_suspect 5 = .ok (.ifCond .ne 8, 3) := by decide +kernel
theorem dX10_suspect_8 : decode cX10_suspect 8 = .ok (.bipush (-2), 2) := by decide +kernel
theorem dX10_suspect_10 : decode cX10_suspect 10 = .ok (.goto 16, 3) := by decide +kernel
theorem dX10_suspect_13 : decode cX10_suspect 13 = .ok (.aload_n 0, 1) := by decide +kernel
theorem dX10_suspect_14 : decode cX10_suspect 14 = .ok (.iload_n 1, 1) := by decide +kernel
theorem dX10_suspect_15 : decode cX10_suspect 15 = .ok (.invokevirtual 252, 3) := by decide +kernel
theorem dX10_suspect_18 : decode cX10_suspect 18 = .ok (.ifCond .eq 7, 3) := by decide +kernel
theorem dX10_suspect_21 : decode cX10_suspect 21 = .ok (.iconst 1, 1) := by decide +kernel
theorem dX10_suspect_22 : decode cX10_suspect 22 = .ok (.goto 4, 3) := by decide +kernel
theorem dX10_suspect_25 : decode cX10_suspect 25 = .ok (.iconst 0, 1) := by decide +kernel
theorem dX10_suspect_26 : decode cX10_suspect 26 = .ok (.ireturn, 1) := by decide +kernel
theorem dX10_held_0 : decode cX10_held 0 = .ok (.iconst 0, 1) := by decide +kernel
theorem dX10_held_1 : decode cX10_held 1 = .ok (.istore_n 1, 1) := by decide +kernel
theorem dX10_held_2 : decode cX10_held 2 = .ok (.iconst 0, 1) := by decide +kernel
theorem dX10_held_3 : decode cX10_held 3 = .ok (.istore_n 2, 1) := by decide +kernel
theorem dX10_held_4 : decode cX10_held 4 = .ok (.iload_n 2, 1) := by decide +kernel
theorem dX10_held_5 : decode cX10_held 5 = .ok (.aload_n 0, 1) := by decide +kernel
theorem dX10_held_6 : decode cX10_held 6 = .ok (.getfield 206, 3) := by decide +kernel
theorem dX10_held_9 : decode cX10_held 9 = .ok (.if_icmp .ge 30, 3) := by decide +kernel
theorem dX10_held_12 : decode cX10_held 12 = .ok (.iload_n 1, 1) := by decide +kernel
theorem dX10_held_13 : decode cX10_held 13 = .ok (.aload_n 0, 1) := by decide +kernel
theorem dX10_held_14 : decode cX10_held 14 = .ok (.iload_n 2, 1) := by decide +kernel
theorem dX10_held_15 : decode cX10_held 15 = .ok (.invokevirtual 252, 3) := by decide +kernel
theorem dX10_held_18 : decode cX10_held 18 = .ok (.ifCond .eq 12, 3) := by decide +kernel
theorem dX10_held_21 : decode cX10_held 21 = .ok (.aload_n 0, 1) := by decide +kernel
theorem dX10_held_22 : decode cX10_held 22 = .ok (.getfield 49, 3) := by decide +kernel
theorem dX10_held_25 : decode cX10_held 25 = .ok (.iload_n 2, 1) := by decide +kernel
theorem dX10_held_26 : decode cX10_held 26 = .ok (.iaload, 1) := by decide +kernel
theorem dX10_held_27 : decode cX10_held 27 = .ok (.goto 4, 3) := by decide +kernel
theorem dX10_held_30 : decode cX10_held 30 = .ok (.iconst 0, 1) := by decide +kernel
theorem dX10_held_31 : decode cX10_held 31 = .ok (.iadd, 1) := by decide +kernel
theorem dX10_held_32 : decode cX10_held 32 = .ok (.istore_n 1, 1) := by decide +kernel
theorem dX10_held_33 : decode cX10_held 33 = .ok (.iinc 2 1, 3) := by decide +kernel
theorem dX10_held_36 : decode cX10_held 36 = .ok (.goto (-32), 3) := by decide +kernel
theorem dX10_held_39 : decode cX10_held 39 = .ok (.iload_n 1, 1) := by decide +kernel
theorem dX10_held_40 : decode cX10_held 40 = .ok (.ireturn, 1) := by decide +kernel
theorem dX10_drift_0 : decode cX10_drift 0 = .ok (.aload_n 0, 1) := by decide +kernel
theorem dX10_drift_1 : decode cX10_drift 1 = .ok (.iload_n 1, 1) := by decide +kernel
theorem dX10_drift_2 : decode cX10_drift 2 = .ok (.invokevirtual 213, 3) := by decide +kernel
theorem dX10_drift_5 : decode cX10_drift 5 = .ok (.ifCond .eq 16, 3) := by decide +kernel
theorem dX10_drift_8 : decode cX10_drift 8 = .ok (.aload_n 0, 1) := by decide +kernel
theorem dX10_drift_9 : decode cX10_drift 9 = .ok (.iload_n 2, 1) := by decide +kernel
theorem dX10_drift_10 : decode cX10_drift 10 = .ok (.invokevirtual 213, 3) := by decide +kernel
theorem dX10_drift_13 : decode cX10_drift 13 = .ok (.ifCond .eq 8, 3) := by decide +kernel
theorem dX10_drift_16 : decode cX10_drift 16 = .ok (.iload_n 1, 1) := by decide +kernel
theorem dX10_drift_17 : decode cX10_drift 17 = .ok (.iload_n 2, 1) := by decide +kernel
theorem dX10_drift_18 : decode cX10_drift 18 = .ok (.if_icmp .le 6, 3) := by decide +kernel
theorem dX10_drift_21 : decode cX10_drift 21 = .ok (.ldc 255, 2) := by decide +kernel
theorem dX10_drift_23 : decode cX10_drift 23 = .ok (.ireturn, 1) := by decide +kernel
theorem dX10_drift_24 : decode cX10_drift 24 = .ok (.iconst 0, 1) := by decide +kernel
theorem dX10_drift_25 : decode cX10_drift 25 = .ok (.istore_n 3, 1) := by decide +kernel
theorem dX10_drift_26 : decode cX10_drift 26 = .ok (.iconst 0, 1) := by decide +kernel
theorem dX10_drift_27 : decode cX10_drift 27 = .ok (.istore 4, 2) := by decide +kernel
theorem dX10_drift_29 : decode cX10_drift 29 = .ok (.iload_n 1, 1) := by decide +kernel
theorem dX10_drift_30 : decode cX10_drift 30 = .ok (.istore 5, 2) := by decide +kernel
theorem dX10_drift_32 : decode cX10_drift 32 = .ok (.iload 5, 2) := by decide +kernel
theorem dX10_drift_34 : decode cX10_drift 34 = .ok (.iload_n 2, 1) := by decide +kernel
theorem dX10_drift_35 : decode cX10_drift 35 = .ok (.if_icmp .gt 81, 3) := by decide +kernel
theorem dX10_drift_38 : decode cX10_drift 38 = .ok (.aload_n 0, 1) := by decide +kernel
theorem dX10_drift_39 : decode cX10_drift 39 = .ok (.getfield 116, 3) := by decide +kernel
theorem dX10_drift_42 : decode cX10_drift 42 = .ok (.iconst 0, 1) := by decide +kernel
theorem dX10_drift_43 : decode cX10_drift 43 = .ok (.iaload, 1) := by decide +kernel
theorem dX10_drift_44 : decode cX10_drift 44 = .ok (.ifCond .lt 14, 3) := by decide +kernel
theorem dX10_drift_47 : decode cX10_drift 47 = .ok (.iload 5, 2) := by decide +kernel
theorem dX10_drift_49 : decode cX10_drift 49 = .ok (.aload_n 0, 1) := by decide +kernel
theorem dX10_drift_50 : decode cX10_drift 50 = .ok (.getfield 119, 3) := by decide +kernel
theorem dX10_drift_53 : decode cX10_drift 53 = .ok (.iconst 0, 1) := by decide +kernel
theorem dX10_drift_54 : decode cX10_drift 54 = .ok (.iaload, 1) := by decide +kernel
theorem dX10_drift_55 : decode cX10_drift 55 = .ok (.if_icmp .lt 7, 3) := by decide +kernel
theorem dX10_drift_58 : decode cX10_drift 58 = .ok (.iconst (-1), 1) := by decide +kernel
theorem dX10_drift_59 : decode cX10_drift 59 = .ok (.goto 10, 3) := by decide +kernel
theorem dX10_drift_62 : decode cX10_drift 62 = .ok (.aload_n 0, 1) := by decide +kernel
theorem dX10_drift_63 : decode cX10_drift 63 = .ok (.getfield 122, 3) := by decide +kernel
theorem dX10_drift_66 : decode cX10_drift 66 = .ok (.iload 5, 2) := by decide +kernel
theorem dX10_drift_68 : decode cX10_drift 68 = .ok (.iaload, 1) := by decide +kernel
theorem dX10_drift_69 : decode cX10_drift 69 = .ok (.istore 6, 2) := by decide +kernel
theorem dX10_drift_71 : decode cX10_drift 71 = .ok (.iload 6, 2) := by decide +kernel
theorem dX10_drift_73 : decode cX10_drift 73 = .ok (.i2l, 1) := by decide +kernel
theorem dX10_drift_74 : decode cX10_drift 74 = .ok (.lconst 1, 1) := by decide +kernel
theorem dX10_drift_75 : decode cX10_drift 75 = .ok (.ldc2_w 256, 3) := by decide +kernel
theorem dX10_drift_78 : decode cX10_drift 78 = .ok (.invokestatic 131, 3) := by decide +kernel
theorem dX10_drift_81 : decode cX10_drift 81 = .ok (.ifCond .eq 29, 3) := by decide +kernel
theorem dX10_drift_84 : decode cX10_drift 84 = .ok (.iload_n 3, 1) := by decide +kernel
theorem dX10_drift_85 : decode cX10_drift 85 = .ok (.iload 6, 2) := by decide +kernel
theorem dX10_drift_87 : decode cX10_drift 87 = .ok (.aload_n 0, 1) := by decide +kernel
theorem dX10_drift_88 : decode cX10_drift 88 = .ok (.getfield 22, 3) := by decide +kernel
theorem dX10_drift_91 : decode cX10_drift 91 = .ok (.aload_n 0, 1) := by decide +kernel
theorem dX10_drift_92 : decode cX10_drift 92 = .ok (.getfield 25, 3) := by decide +kernel
theorem dX10_drift_95 : decode cX10_drift 95 = .ok (.aload_n 0, 1) := by decide +kernel
theorem dX10_drift_96 : decode cX10_drift 96 = .ok (.getfield 40, 3) := by decide +kernel
theorem dX10_drift_99 : decode cX10_drift 99 = .ok (.iload 5, 2) := by decide +kernel
theorem dX10_drift_101 : decode cX10_drift 101 = .ok (.iaload, 1) := by decide +kernel
theorem dX10_drift_102 : decode cX10_drift 102 = .ok (.iaload, 1) := by decide +kernel
theorem dX10_drift_103 : decode cX10_drift 103 = .ok (.iaload, 1) := by decide +kernel
theorem dX10_drift_104 : decode cX10_drift 104 = .ok (.isub, 1) := by decide +kernel
theorem dX10_drift_105 : decode cX10_drift 105 = .ok (.iadd, 1) := by decide +kernel
theorem dX10_drift_106 : decode cX10_drift 106 = .ok (.istore_n 3, 1) := by decide +kernel
theorem dX10_drift_107 : decode cX10_drift 107 = .ok (.iinc 4 1, 3) := by decide +kernel
theorem dX10_drift_110 : decode cX10_drift 110 = .ok (.iinc 5 1, 3) := by decide +kernel
theorem dX10_drift_113 : decode cX10_drift 113 = .ok (.goto (-81), 3) := by decide +kernel
theorem dX10_drift_116 : decode cX10_drift 116 = .ok (.iload 4, 2) := by decide +kernel
theorem dX10_drift_118 : decode cX10_drift 118 = .ok (.ifCond .ne 7, 3) := by decide +kernel
theorem dX10_drift_121 : decode cX10_drift 121 = .ok (.ldc_w 258, 3) := by decide +kernel
theorem dX10_drift_124 : decode cX10_drift 124 = .ok (.ireturn, 1) := by decide +kernel
theorem dX10_drift_125 : decode cX10_drift 125 = .ok (.iload_n 3, 1) := by decide +kernel
theorem dX10_drift_126 : decode cX10_drift 126 = .ok (.iload 4, 2) := by decide +kernel
theorem dX10_drift_128 : decode cX10_drift 128 = .ok (.idiv, 1) := by decide +kernel
theorem dX10_drift_129 : decode cX10_drift 129 = .ok (.istore 5, 2) := by decide +kernel
theorem dX10_drift_131 : decode cX10_drift 131 = .ok (.iload 5, 2) := by decide +kernel
theorem dX10_drift_133 : decode cX10_drift 133 = .ok (.iload 4, 2) := by decide +kernel
theorem dX10_drift_135 : decode cX10_drift 135 = .ok (.imul, 1) := by decide +kernel
theorem dX10_drift_136 : decode cX10_drift 136 = .ok (.iload_n 3, 1) := by decide +kernel
theorem dX10_drift_137 : decode cX10_drift 137 = .ok (.if_icmp .le 10, 3) := by decide +kernel
theorem dX10_drift_140 : decode cX10_drift 140 = .ok (.iload 5, 2) := by decide +kernel
theorem dX10_drift_142 : decode cX10_drift 142 = .ok (.iconst 1, 1) := by decide +kernel
theorem dX10_drift_143 : decode cX10_drift 143 = .ok (.isub, 1) := by decide +kernel
theorem dX10_drift_144 : decode cX10_drift 144 = .ok (.goto 5, 3) := by decide +kernel
theorem dX10_drift_147 : decode cX10_drift 147 = .ok (.iload 5, 2) := by decide +kernel
theorem dX10_drift_149 : decode cX10_drift 149 = .ok (.ireturn, 1) := by decide +kernel
theorem dX10_met_0 : decode cX10_met 0 = .ok (.aload_n 0, 1) := by decide +kernel
theorem dX10_met_1 : decode cX10_met 1 = .ok (.iload_n 1, 1) := by decide +kernel
theorem dX10_met_2 : decode cX10_met 2 = .ok (.putfield 259, 3) := by decide +kernel
theorem dX10_met_5 : decode cX10_met 5 = .ok (.bipush (-10), 2) := by decide +kernel
theorem dX10_met_7 : decode cX10_met 7 = .ok (.iload_n 1, 1) := by decide +kernel
theorem dX10_met_8 : decode cX10_met 8 = .ok (.isub, 1) := by decide +kernel
theorem dX10_met_9 : decode cX10_met 9 = .ok (.ireturn, 1) := by decide +kernel
theorem dX10_isSheet_0 : decode cX10_isSheet 0 = .ok (.iload_n 0, 1) := by decide +kernel
theorem dX10_isSheet_1 : decode cX10_isSheet 1 = .ok (.i2l, 1) := by decide +kernel
theorem dX10_isSheet_2 : decode cX10_isSheet 2 = .ok (.lconst 0, 1) := by decide +kernel
theorem dX10_isSheet_3 : decode cX10_isSheet 3 = .ok (.ldc2_w 144, 3) := by decide +kernel
theorem dX10_isSheet_6 : decode cX10_isSheet 6 = .ok (.invokestatic 131, 3) := by decide +kernel
theorem dX10_isSheet_9 : decode cX10_isSheet 9 = .ok (.ireturn, 1) := by decide +kernel
theorem dX10_sheet_0 : decode cX10_sheet 0 = .ok (.iload_n 1, 1) := by decide +kernel
theorem dX10_sheet_1 : decode cX10_sheet 1 = .ok (.invokestatic 262, 3) := by decide +kernel
theorem dX10_sheet_4 : decode cX10_sheet 4 = .ok (.ifCond .eq 22, 3) := by decide +kernel
theorem dX10_sheet_7 : decode cX10_sheet 7 = .ok (.iload_n 2, 1) := by decide +kernel
theorem dX10_sheet_8 : decode cX10_sheet 8 = .ok (.i2l, 1) := by decide +kernel
theorem dX10_sheet_9 : decode cX10_sheet 9 = .ok (.lconst 0, 1) := by decide +kernel
theorem dX10_sheet_10 : decode cX10_sheet 10 = .ok (.ldc2_w 138, 3) := by decide +kernel
theorem dX10_sheet_13 : decode cX10_sheet 13 = .ok (.invokestatic 131, 3) := by decide +kernel
theorem dX10_sheet_16 : decode cX10_sheet 16 = .ok (.ifCond .eq 10, 3) := by decide +kernel
theorem dX10_sheet_19 : decode cX10_sheet 19 = .ok (.iload_n 3, 1) := by decide +kernel
theorem dX10_sheet_20 : decode cX10_sheet 20 = .ok (.sipush 200, 3) := by decide +kernel
theorem dX10_sheet_23 : decode cX10_sheet 23 = .ok (.if_icmp .le 6, 3) := by decide +kernel
theorem dX10_sheet_26 : decode cX10_sheet 26 = .ok (.bipush (-2), 2) := by decide +kernel
theorem dX10_sheet_28 : decode cX10_sheet 28 = .ok (.ireturn, 1) := by decide +kernel
theorem dX10_sheet_29 : decode cX10_sheet 29 = .ok (.iload_n 3, 1) := by decide +kernel
theorem dX10_sheet_30 : decode cX10_sheet 30 = .ok (.ifCond .ge 9, 3) := by decide +kernel
theorem dX10_sheet_33 : decode cX10_sheet 33 = .ok (.aload_n 0, 1) := by decide +kernel
theorem dX10_sheet_34 : decode cX10_sheet 34 = .ok (.iconst 5, 1) := by decide +kernel
theorem dX10_sheet_35 : decode cX10_sheet 35 = .ok (.invokevirtual 265, 3) := by decide +kernel
theorem dX10_sheet_38 : decode cX10_sheet 38 = .ok (.ireturn, 1) := by decide +kernel
theorem dX10_sheet_39 : decode cX10_sheet 39 = .ok (.aload_n 0, 1) := by decide +kernel
theorem dX10_sheet_40 : decode cX10_sheet 40 = .ok (.getfield 116, 3) := by decide +kernel
theorem dX10_sheet_43 : decode cX10_sheet 43 = .ok (.iload_n 1, 1) := by decide +kernel
theorem dX10_sheet_44 : decode cX10_sheet 44 = .ok (.iload_n 2, 1) := by decide +kernel
theorem dX10_sheet_45 : decode cX10_sheet 45 = .ok (.iastore, 1) := by decide +kernel
theorem dX10_sheet_46 : decode cX10_sheet 46 = .ok (.aload_n 0, 1) := by decide +kernel
theorem dX10_sheet_47 : decode cX10_sheet 47 = .ok (.getfield 119, 3) := by decide +kernel
theorem dX10_sheet_50 : decode cX10_sheet 50 = .ok (.iload_n 1, 1) := by decide +kernel
theorem dX10_sheet_51 : decode cX10_sheet 51 = .ok (.iload_n 3, 1) := by decide +kernel
theorem dX10_sheet_52 : decode cX10_sheet 52 = .ok (.iastore, 1) := by decide +kernel
theorem dX10_sheet_53 : decode cX10_sheet 53 = .ok (.iconst 0, 1) := by decide +kernel
theorem dX10_sheet_54 : decode cX10_sheet 54 = .ok (.istore 4, 2) := by decide +kernel
theorem dX10_sheet_56 : decode cX10_sheet 56 = .ok (.iload 4, 2) := by decide +kernel
theorem dX10_sheet_58 : decode cX10_sheet 58 = .ok (.iload_n 3, 1) := by decide +kernel
theorem dX10_sheet_59 : decode cX10_sheet 59 = .ok (.if_icmp .ge 23, 3) := by decide +kernel
theorem dX10_sheet_62 : decode cX10_sheet 62 = .ok (.aload_n 0, 1) := by decide +kernel
theorem dX10_sheet_63 : decode cX10_sheet 63 = .ok (.getfield 122, 3) := by decide +kernel
theorem dX10_sheet_66 : decode cX10_sheet 66 = .ok (.sipush 200, 3) := by decide +kernel
theorem dX10_sheet_69 : decode cX10_sheet 69 = .ok (.iload_n 1, 1) := by decide +kernel
theorem dX10_sheet_70 : decode cX10_sheet 70 = .ok (.imul, 1) := by decide +kernel
theorem dX10_sheet_71 : decode cX10_sheet 71 = .ok (.iload 4, 2) := by decide +kernel
theorem dX10_sheet_73 : decode cX10_sheet 73 = .ok (.iadd, 1) := by decide +kernel
theorem dX10_sheet_74 : decode cX10_sheet 74 = .ok (.iconst 0, 1) := by decide +kernel
theorem dX10_sheet_75 : decode cX10_sheet 75 = .ok (.iastore, 1) := by decide +kernel
theorem dX10_sheet_76 : decode cX10_sheet 76 = .ok (.iinc 4 1, 3) := by decide +kernel
theorem dX10_sheet_79 : decode cX10_sheet 79 = .ok (.goto (-23), 3) := by decide +kernel
theorem dX10_sheet_82 : decode cX10_sheet 82 = .ok (.iload_n 3, 1) := by decide +kernel
theorem dX10_sheet_83 : decode cX10_sheet 83 = .ok (.ireturn, 1) := by decide +kernel
theorem dX10_lose_0 : decode cX10_lose 0 = .ok (.iload_n 1, 1) := by decide +kernel
theorem dX10_lose_1 : decode cX10_lose 1 = .ok (.invokestatic 262, 3) := by decide +kernel
theorem dX10_lose_4 : decode cX10_lose 4 = .ok (.ifCond .ne 6, 3) := by decide +kernel
theorem dX10_lose_7 : decode cX10_lose 7 = .ok (.bipush (-2), 2) := by decide +kernel
theorem dX10_lose_9 : decode cX10_lose 9 = .ok (.ireturn, 1) := by decide +kernel
theorem dX10_lose_10 : decode cX10_lose 10 = .ok (.aload_n 0, 1) := by decide +kernel
theorem dX10_lose_11 : decode cX10_lose 11 = .ok (.getfield 116, 3) := by decide +kernel
theorem dX10_lose_14 : decode cX10_lose 14 = .ok (.iload_n 1, 1) := by decide +kernel
theorem dX10_lose_15 : decode cX10_lose 15 = .ok (.iaload, 1) := by decide +kernel
theorem dX10_lose_16 : decode cX10_lose 16 = .ok (.ifCond .ge 9, 3) := by decide +kernel
theorem dX10_lose_19 : decode cX10_lose 19 = .ok (.aload_n 0, 1) := by decide +kernel
theorem dX10_lose_20 : decode cX10_lose 20 = .ok (.iconst 1, 1) := by decide +kernel
theorem dX10_lose_21 : decode cX10_lose 21 = .ok (.invokevirtual 265, 3) := by decide +kernel
theorem dX10_lose_24 : decode cX10_lose 24 = .ok (.ireturn, 1) := by decide +kernel
theorem dX10_lose_25 : decode cX10_lose 25 = .ok (.aload_n 0, 1) := by decide +kernel
theorem dX10_lose_26 : decode cX10_lose 26 = .ok (.getfield 116, 3) := by decide +kernel
theorem dX10_lose_29 : decode cX10_lose 29 = .ok (.iload_n 1, 1) := by decide +kernel
theorem dX10_lose_30 : decode cX10_lose 30 = .ok (.iconst (-1), 1) := by decide +kernel
theorem dX10_lose_31 : decode cX10_lose 31 = .ok (.iastore, 1) := by decide +kernel
theorem dX10_lose_32 : decode cX10_lose 32 = .ok (.aload_n 0, 1) := by decide +kernel
theorem dX10_lose_33 : decode cX10_lose 33 = .ok (.getfield 119, 3) := by decide +kernel
theorem dX10_lose_36 : decode cX10_lose 36 = .ok (.iload_n 1, 1) := by decide +kernel
theorem dX10_lose_37 : decode cX10_lose 37 = .ok (.iaload, 1) := by decide +kernel
theorem dX10_lose_38 : decode cX10_lose 38 = .ok (.ireturn, 1) := by decide +kernel
theorem dX10_lacks_0 : decode cX10_lacks 0 = .ok (.aload_n 0, 1) := by decide +kernel
theorem dX10_lacks_1 : decode cX10_lacks 1 = .ok (.getfield 116, 3) := by decide +kernel
theorem dX10_lacks_4 : decode cX10_lacks 4 = .ok (.iload_n 1, 1) := by decide +kernel
theorem dX10_lacks_5 : decode cX10_lacks 5 = .ok (.iaload, 1) := by decide +kernel
theorem dX10_lacks_6 : decode cX10_lacks 6 = .ok (.ifCond .ge 9, 3) := by decide +kernel
theorem dX10_lacks_9 : decode cX10_lacks 9 = .ok (.aload_n 0, 1) := by decide +kernel
theorem dX10_lacks_10 : decode cX10_lacks 10 = .ok (.iconst 1, 1) := by decide +kernel
theorem dX10_lacks_11 : decode cX10_lacks 11 = .ok (.invokevirtual 265, 3) := by decide +kernel
theorem dX10_lacks_14 : decode cX10_lacks 14 = .ok (.ireturn, 1) := by decide +kernel
theorem dX10_lacks_15 : decode cX10_lacks 15 = .ok (.aload_n 0, 1) := by decide +kernel
theorem dX10_lacks_16 : decode cX10_lacks 16 = .ok (.getfield 116, 3) := by decide +kernel
theorem dX10_lacks_19 : decode cX10_lacks 19 = .ok (.iload_n 1, 1) := by decide +kernel
theorem dX10_lacks_20 : decode cX10_lacks 20 = .ok (.iaload, 1) := by decide +kernel
theorem dX10_lacks_21 : decode cX10_lacks 21 = .ok (.iload_n 2, 1) := by decide +kernel
theorem dX10_lacks_22 : decode cX10_lacks 22 = .ok (.if_icmp .eq 9, 3) := by decide +kernel
theorem dX10_lacks_25 : decode cX10_lacks 25 = .ok (.aload_n 0, 1) := by decide +kernel
theorem dX10_lacks_26 : decode cX10_lacks 26 = .ok (.iconst 3, 1) := by decide +kernel
theorem dX10_lacks_27 : decode cX10_lacks 27 = .ok (.invokevirtual 265, 3) := by decide +kernel
theorem dX10_lacks_30 : decode cX10_lacks 30 = .ok (.ireturn, 1) := by decide +kernel
theorem dX10_lacks_31 : decode cX10_lacks 31 = .ok (.iload_n 3, 1) := by decide +kernel
theorem dX10_lacks_32 : decode cX10_lacks 32 = .ok (.i2l, 1) := by decide +kernel
theorem dX10_lacks_33 : decode cX10_lacks 33 = .ok (.lconst 0, 1) := by decide +kernel
theorem dX10_lacks_34 : decode cX10_lacks 34 = .ok (.aload_n 0, 1) := by decide +kernel
theorem dX10_lacks_35 : decode cX10_lacks 35 = .ok (.getfield 119, 3) := by decide +kernel
theorem dX10_lacks_38 : decode cX10_lacks 38 = .ok (.iload_n 1, 1) := by decide +kernel
theorem dX10_lacks_39 : decode cX10_lacks 39 = .ok (.iaload, 1) := by decide +kernel
theorem dX10_lacks_40 : decode cX10_lacks 40 = .ok (.iconst 1, 1) := by decide +kernel
theorem dX10_lacks_41 : decode cX10_lacks 41 = .ok (.isub, 1) := by decide +kernel
theorem dX10_lacks_42 : decode cX10_lacks 42 = .ok (.i2l, 1) := by decide +kernel
theorem dX10_lacks_43 : decode cX10_lacks 43 = .ok (.invokestatic 131, 3) := by decide +kernel
theorem dX10_lacks_46 : decode cX10_lacks 46 = .ok (.ifCond .eq 7, 3) := by decide +kernel
theorem dX10_lacks_49 : decode cX10_lacks 49 = .ok (.iconst 0, 1) := by decide +kernel
theorem dX10_lacks_50 : decode cX10_lacks 50 = .ok (.goto 8, 3) := by decide +kernel
theorem dX10_lacks_53 : decode cX10_lacks 53 = .ok (.aload_n 0, 1) := by decide +kernel
theorem dX10_lacks_54 : decode cX10_lacks 54 = .ok (.iconst 2, 1) := by decide +kernel
theorem dX10_lacks_55 : decode cX10_lacks 55 = .ok (.invokevirtual 265, 3) := by decide +kernel
theorem dX10_lacks_58 : decode cX10_lacks 58 = .ok (.ireturn, 1) := by decide +kernel
theorem dX10_put_0 : decode cX10_put 0 = .ok (.iload_n 1, 1) := by decide +kernel
theorem dX10_put_1 : decode cX10_put 1 = .ok (.invokestatic 262, 3) := by decide +kernel
theorem dX10_put_4 : decode cX10_put 4 = .ok (.ifCond .eq 15, 3) := by decide +kernel
theorem dX10_put_7 : decode cX10_put 7 = .ok (.iload_n 2, 1) := by decide +kernel
theorem dX10_put_8 : decode cX10_put 8 = .ok (.i2l, 1) := by decide +kernel
theorem dX10_put_9 : decode cX10_put 9 = .ok (.lconst 0, 1) := by decide +kernel
theorem dX10_put_10 : decode cX10_put 10 = .ok (.ldc2_w 138, 3) := by decide +kernel
theorem dX10_put_13 : decode cX10_put 13 = .ok (.invokestatic 131, 3) := by decide +kernel
theorem dX10_put_16 : decode cX10_put 16 = .ok (.ifCond .ne 6, 3) := by decide +kernel
theorem dX10_put_19 : decode cX10_put 19 = .ok (.bipush (-2), 2) := by decide +kernel
theorem dX10_put_21 : decode cX10_put 21 = .ok (.ireturn, 1) := by decide +kernel
theorem dX10_put_22 : decode cX10_put 22 = .ok (.aload_n 0, 1) := by decide +kernel
theorem dX10_put_23 : decode cX10_put 23 = .ok (.iload_n 1, 1) := by decide +kernel
theorem dX10_put_24 : decode cX10_put 24 = .ok (.iload_n 2, 1) := by decide +kernel
theorem dX10_put_25 : decode cX10_put 25 = .ok (.iload_n 3, 1) := by decide +kernel
theorem dX10_put_26 : decode cX10_put 26 = .ok (.invokevirtual 269, 3) := by decide +kernel
theorem dX10_put_29 : decode cX10_put 29 = .ok (.istore 5, 2) := by decide +kernel
theorem dX10_put_31 : decode cX10_put 31 = .ok (.iload 5, 2) := by decide +kernel
theorem dX10_put_33 : decode cX10_put 33 = .ok (.ifCond .eq 6, 3) := by decide +kernel
theorem dX10_put_36 : decode cX10_put 36 = .ok (.iload 5, 2) := by decide +kernel
theorem dX10_put_38 : decode cX10_put 38 = .ok (.ireturn, 1) := by decide +kernel
theorem dX10_put_39 : decode cX10_put 39 = .ok (.aload_n 0, 1) := by decide +kernel
theorem dX10_put_40 : decode cX10_put 40 = .ok (.getfield 122, 3) := by decide +kernel
theorem dX10_put_43 : decode cX10_put 43 = .ok (.sipush 200, 3) := by decide +kernel
theorem dX10_put_46 : decode cX10_put 46 = .ok (.iload_n 1, 1) := by decide +kernel
theorem dX10_put_47 : decode cX10_put 47 = .ok (.imul, 1) := by decide +kernel
theorem dX10_put_48 : decode cX10_put 48 = .ok (.iload_n 3, 1) := by decide +kernel
theorem dX10_put_49 : decode cX10_put 49 = .ok (.iadd, 1) := by decide +kernel
theorem dX10_put_50 : decode cX10_put 50 = .ok (.iload_n 2, 1) := by decide +kernel
theorem dX10_put_51 : decode cX10_put 51 = .ok (.ifCond .ne 9, 3) := by decide +kernel
theorem dX10_put_54 : decode cX10_put 54 = .ok (.iload 4, 2) := by decide +kernel
theorem dX10_put_56 : decode cX10_put 56 = .ok (.i2b, 1) := by decide +kernel
theorem dX10_put_57 : decode cX10_put 57 = .ok (.goto 16, 3) := by decide +kernel
theorem dX10_put_60 : decode cX10_put 60 = .ok (.iload_n 2, 1) := by decide +kernel
theorem dX10_put_61 : decode cX10_put 61 = .ok (.iconst 1, 1) := by decide +kernel
theorem dX10_put_62 : decode cX10_put 62 = .ok (.if_icmp .ne 9, 3) := by decide +kernel
theorem dX10_put_65 : decode cX10_put 65 = .ok (.iload 4, 2) := by decide +kernel
theorem dX10_put_67 : decode cX10_put 67 = .ok (.i2s, 1) := by decide +kernel
theorem dX10_put_68 : decode cX10_put 68 = .ok (.goto 5, 3) := by decide +kernel
theorem dX10_put_71 : decode cX10_put 71 = .ok (.iload 4, 2) := by decide +kernel
theorem dX10_put_73 : decode cX10_put 73 = .ok (.iastore, 1) := by decide +kernel
theorem dX10_put_74 : decode cX10_put 74 = .ok (.iconst 1, 1) := by decide +kernel
theorem dX10_put_75 : decode cX10_put 75 = .ok (.ireturn, 1) := by decide +kernel
theorem dX10_get_0 : decode cX10_get 0 = .ok (.iload_n 1, 1) := by decide +kernel
theorem dX10_get_1 : decode cX10_get 1 = .ok (.invokestatic 262, 3) := by decide +kernel
theorem dX10_get_4 : decode cX10_get 4 = .ok (.ifCond .eq 25, 3) := by decide +kernel
theorem dX10_get_7 : decode cX10_get 7 = .ok (.iload_n 2, 1) := by decide +kernel
theorem dX10_get_8 : decode cX10_get 8 = .ok (.i2l, 1) := by decide +kernel
theorem dX10_get_9 : decode cX10_get 9 = .ok (.lconst 0, 1) := by decide +kernel
theorem dX10_get_10 : decode cX10_get 10 = .ok (.ldc2_w 138, 3) := by decide +kernel
theorem dX10_get_13 : decode cX10_get 13 = .ok (.invokestatic 131, 3) := by decide +kernel
theorem dX10_get_16 : decode cX10_get 16 = .ok (.ifCond .eq 13, 3) := by decide +kernel
theorem dX10_get_19 : decode cX10_get 19 = .ok (.aload_n 0, 1) := by decide +kernel
theorem dX10_get_20 : decode cX10_get 20 = .ok (.iload_n 1, 1) := by decide +kernel
theorem dX10_get_21 : decode cX10_get 21 = .ok (.iload_n 2, 1) := by decide +kernel
theorem dX10_get_22 : decode cX10_get 22 = .ok (.iload_n 3, 1) := by decide +kernel
theorem dX10_get_23 : decode cX10_get 23 = .ok (.invokevirtual 269, 3) := by decide +kernel
theorem dX10_get_26 : decode cX10_get 26 = .ok (.ifCond .eq 7, 3) := by decide +kernel
theorem dX10_get_29 : decode cX10_get 29 = .ok (.ldc_w 273, 3) := by decide +kernel
theorem dX10_get_32 : decode cX10_get 32 = .ok (.ireturn, 1) := by decide +kernel
theorem dX10_get_33 : decode cX10_get 33 = .ok (.aload_n 0, 1) := by decide +kernel
theorem dX10_get_34 : decode cX10_get 34 = .ok (.getfield 122, 3) := by decide +kernel
theorem dX10_get_37 : decode cX10_get 37 = .ok (.sipush 200, 3) := by decide +kernel
theorem dX10_get_40 : decode cX10_get 40 = .ok (.iload_n 1, 1) := by decide +kernel
theorem dX10_get_41 : decode cX10_get 41 = .ok (.imul, 1) := by decide +kernel
theorem dX10_get_42 : decode cX10_get 42 = .ok (.iload_n 3, 1) := by decide +kernel
theorem dX10_get_43 : decode cX10_get 43 = .ok (.iadd, 1) := by decide +kernel
theorem dX10_get_44 : decode cX10_get 44 = .ok (.iaload, 1) := by decide +kernel
theorem dX10_get_45 : decode cX10_get 45 = .ok (.ireturn, 1) := by decide +kernel
theorem dX10_copy_0 : decode cX10_copy 0 = .ok (.iload_n 1, 1) := by decide +kernel
theorem dX10_copy_1 : decode cX10_copy 1 = .ok (.invokestatic 262, 3) := by decide +kernel
theorem dX10_copy_4 : decode cX10_copy 4 = .ok (.ifCond .eq 10, 3) := by decide +kernel
theorem dX10_copy_7 : decode cX10_copy 7 = .ok (.iload_n 3, 1) := by decide +kernel
theorem dX10_copy_8 : decode cX10_copy 8 = .ok (.invokestatic 262, 3) := by decide +kernel
theorem dX10_copy_11 : decode cX10_copy 11 = .ok (.ifCond .ne 6, 3) := by decide +kernel
theorem dX10_copy_14 : decode cX10_copy 14 = .ok (.bipush (-2), 2) := by decide +kernel
theorem dX10_copy_16 : decode cX10_copy 16 = .ok (.ireturn, 1) := by decide +kernel
theorem dX10_copy_17 : decode cX10_copy 17 = .ok (.aload_n 0, 1) := by decide +kernel
theorem dX10_copy_18 : decode cX10_copy 18 = .ok (.getfield 116, 3) := by decide +kernel
theorem dX10_copy_21 : decode cX10_copy 21 = .ok (.iload_n 1, 1) := by decide +kernel
theorem dX10_copy_22 : decode cX10_copy 22 = .ok (.iaload, 1) := by decide +kernel
theorem dX10_copy_23 : decode cX10_copy 23 = .ok (.ifCond .lt 12, 3) := by decide +kernel
theorem dX10_copy_26 : decode cX10_copy 26 = .ok (.aload_n 0, 1) := by decide +kernel
theorem dX10_copy_27 : decode cX10_copy 27 = .ok (.getfield 116, 3) := by decide +kernel
theorem dX10_copy_30 : decode cX10_copy 30 = .ok (.iload_n 3, 1) := by decide +kernel
theorem dX10_copy_31 : decode cX10_copy 31 = .ok (.iaload, 1) := by decide +kernel
theorem dX10_copy_32 : decode cX10_copy 32 = .ok (.ifCond .ge 9, 3) := by decide +kernel
theorem dX10_copy_35 : decode cX10_copy 35 = .ok (.aload_n 0, 1) := by decide +kernel
theorem dX10_copy_36 : decode cX10_copy 36 = .ok (.iconst 1, 1) := by decide +kernel
theorem dX10_copy_37 : decode cX10_copy 37 = .ok (.invokevirtual 265, 3) := by decide +kernel
theorem dX10_copy_40 : decode cX10_copy 40 = .ok (.ireturn, 1) := by decide +kernel
theorem dX10_copy_41 : decode cX10_copy 41 = .ok (.aload_n 0, 1) := by decide +kernel
theorem dX10_copy_42 : decode cX10_copy 42 = .ok (.getfield 116, 3) := by decide +kernel
theorem dX10_copy_45 : decode cX10_copy 45 = .ok (.iload_n 1, 1) := by decide +kernel
theorem dX10_copy_46 : decode cX10_copy 46 = .ok (.iaload, 1) := by decide +kernel
theorem dX10_copy_47 : decode cX10_copy 47 = .ok (.aload_n 0, 1) := by decide +kernel
theorem dX10_copy_48 : decode cX10_copy 48 = .ok (.getfield 116, 3) := by decide +kernel
theorem dX10_copy_51 : decode cX10_copy 51 = .ok (.iload_n 3, 1) := by decide +kernel
theorem dX10_copy_52 : decode cX10_copy 52 = .ok (.iaload, 1) := by decide +kernel
theorem dX10_copy_53 : decode cX10_copy 53 = .ok (.if_icmp .eq 9, 3) := by decide +kernel
theorem dX10_copy_56 : decode cX10_copy 56 = .ok (.aload_n 0, 1) := by decide +kernel
theorem dX10_copy_57 : decode cX10_copy 57 = .ok (.iconst 4, 1) := by decide +kernel
theorem dX10_copy_58 : decode cX10_copy 58 = .ok (.invokevirtual 265, 3) := by decide +kernel
theorem dX10_copy_61 : decode cX10_copy 61 = .ok (.ireturn, 1) := by decide +kernel
theorem dX10_copy_62 : decode cX10_copy 62 = .ok (.iload_n 2, 1) := by decide +kernel
theorem dX10_copy_63 : decode cX10_copy 63 = .ok (.ifCond .lt 48, 3) := by decide +kernel
theorem dX10_copy_66 : decode cX10_copy 66 = .ok (.iload 4, 2) := by decide +kernel
