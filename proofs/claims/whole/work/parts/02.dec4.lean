theorem dX11_wordOf_84 : decode cX11_wordOf 84 = .ok (.bipush 97, 2) := by decide +kernel
theorem dX11_wordOf_86 : decode cX11_wordOf 86 = .ok (.bipush 121, 2) := by decide +kernel
theorem dX11_wordOf_88 : decode cX11_wordOf 88 = .ok (.iconst 0, 1) := by decide +kernel
theorem dX11_wordOf_89 : decode cX11_wordOf 89 = .ok (.iconst 0, 1) := by decide +kernel
theorem dX11_wordOf_90 : decode cX11_wordOf 90 = .ok (.invokevirtual 166, 3) := by decide +kernel
theorem dX11_wordOf_93 : decode cX11_wordOf 93 = .ok (.ifCond .eq 5, 3) := by decide +kernel
theorem dX11_wordOf_96 : decode cX11_wordOf 96 = .ok (.iconst 5, 1) := by decide +kernel
theorem dX11_wordOf_97 : decode cX11_wordOf 97 = .ok (.ireturn, 1) := by decide +kernel
theorem dX11_wordOf_98 : decode cX11_wordOf 98 = .ok (.aload_n 0, 1) := by decide +kernel
theorem dX11_wordOf_99 : decode cX11_wordOf 99 = .ok (.iload_n 1, 1) := by decide +kernel
theorem dX11_wordOf_100 : decode cX11_wordOf 100 = .ok (.iload_n 2, 1) := by decide +kernel
theorem dX11_wordOf_101 : decode cX11_wordOf 101 = .ok (.bipush 111, 2) := by decide +kernel
theorem dX11_wordOf_103 : decode cX11_wordOf 103 = .ok (.bipush 114, 2) := by decide +kernel
theorem dX11_wordOf_105 : decode cX11_wordOf 105 = .ok (.iconst 0, 1) := by decide +kernel
theorem dX11_wordOf_106 : decode cX11_wordOf 106 = .ok (.iconst 0, 1) := by decide +kernel
theorem dX11_wordOf_107 : decode cX11_wordOf 107 = .ok (.iconst 0, 1) := by decide +kernel
theorem dX11_wordOf_108 : decode cX11_wordOf 108 = .ok (.invokevirtual 166, 3) := by decide +kernel
theorem dX11_wordOf_111 : decode cX11_wordOf 111 = .ok (.ifCond .eq 6, 3) := by decide +kernel
theorem dX11_wordOf_114 : decode cX11_wordOf 114 = .ok (.bipush 6, 2) := by decide +kernel
theorem dX11_wordOf_116 : decode cX11_wordOf 116 = .ok (.ireturn, 1) := by decide +kernel
theorem dX11_wordOf_117 : decode cX11_wordOf 117 = .ok (.aload_n 0, 1) := by decide +kernel
theorem dX11_wordOf_118 : decode cX11_wordOf 118 = .ok (.iload_n 1, 1) := by decide +kernel
theorem dX11_wordOf_119 : decode cX11_wordOf 119 = .ok (.iload_n 2, 1) := by decide +kernel
theorem dX11_wordOf_120 : decode cX11_wordOf 120 = .ok (.bipush 97, 2) := by decide +kernel
theorem dX11_wordOf_122 : decode cX11_wordOf 122 = .ok (.bipush 110, 2) := by decide +kernel
theorem dX11_wordOf_124 : decode cX11_wordOf 124 = .ok (.bipush 100, 2) := by decide +kernel
theorem dX11_wordOf_126 : decode cX11_wordOf 126 = .ok (.iconst 0, 1) := by decide +kernel
theorem dX11_wordOf_127 : decode cX11_wordOf 127 = .ok (.iconst 0, 1) := by decide +kernel
theorem dX11_wordOf_128 : decode cX11_wordOf 128 = .ok (.invokevirtual 166, 3) := by decide +kernel
theorem dX11_wordOf_131 : decode cX11_wordOf 131 = .ok (.ifCond .eq 6, 3) := by decide +kernel
theorem dX11_wordOf_134 : decode cX11_wordOf 134 = .ok (.bipush 7, 2) := by decide +kernel
theorem dX11_wordOf_136 : decode cX11_wordOf 136 = .ok (.ireturn, 1) := by decide +kernel
theorem dX11_wordOf_137 : decode cX11_wordOf 137 = .ok (.aload_n 0, 1) := by decide +kernel
theorem dX11_wordOf_138 : decode cX11_wordOf 138 = .ok (.iload_n 1, 1) := by decide +kernel
theorem dX11_wordOf_139 : decode cX11_wordOf 139 = .ok (.iload_n 2, 1) := by decide +kernel
theorem dX11_wordOf_140 : decode cX11_wordOf 140 = .ok (.bipush 110, 2) := by decide +kernel
theorem dX11_wordOf_142 : decode cX11_wordOf 142 = .ok (.bipush 111, 2) := by decide +kernel
theorem dX11_wordOf_144 : decode cX11_wordOf 144 = .ok (.bipush 116, 2) := by decide +kernel
theorem dX11_wordOf_146 : decode cX11_wordOf 146 = .ok (.iconst 0, 1) := by decide +kernel
theorem dX11_wordOf_147 : decode cX11_wordOf 147 = .ok (.iconst 0, 1) := by decide +kernel
theorem dX11_wordOf_148 : decode cX11_wordOf 148 = .ok (.invokevirtual 166, 3) := by decide +kernel
theorem dX11_wordOf_151 : decode cX11_wordOf 151 = .ok (.ifCond .eq 6, 3) := by decide +kernel
theorem dX11_wordOf_154 : decode cX11_wordOf 154 = .ok (.bipush 8, 2) := by decide +kernel
theorem dX11_wordOf_156 : decode cX11_wordOf 156 = .ok (.ireturn, 1) := by decide +kernel
theorem dX11_wordOf_157 : decode cX11_wordOf 157 = .ok (.aload_n 0, 1) := by decide +kernel
theorem dX11_wordOf_158 : decode cX11_wordOf 158 = .ok (.iload_n 1, 1) := by decide +kernel
theorem dX11_wordOf_159 : decode cX11_wordOf 159 = .ok (.iload_n 2, 1) := by decide +kernel
theorem dX11_wordOf_160 : decode cX11_wordOf 160 = .ok (.bipush 108, 2) := by decide +kernel
theorem dX11_wordOf_162 : decode cX11_wordOf 162 = .ok (.bipush 111, 2) := by decide +kernel
theorem dX11_wordOf_164 : decode cX11_wordOf 164 = .ok (.bipush 102, 2) := by decide +kernel
theorem dX11_wordOf_166 : decode cX11_wordOf 166 = .ok (.bipush 116, 2) := by decide +kernel
theorem dX11_wordOf_168 : decode cX11_wordOf 168 = .ok (.iconst 0, 1) := by decide +kernel
theorem dX11_wordOf_169 : decode cX11_wordOf 169 = .ok (.invokevirtual 166, 3) := by decide +kernel
theorem dX11_wordOf_172 : decode cX11_wordOf 172 = .ok (.ifCond .eq 6, 3) := by decide +kernel
theorem dX11_wordOf_175 : decode cX11_wordOf 175 = .ok (.bipush 9, 2) := by decide +kernel
theorem dX11_wordOf_177 : decode cX11_wordOf 177 = .ok (.ireturn, 1) := by decide +kernel
theorem dX11_wordOf_178 : decode cX11_wordOf 178 = .ok (.aload_n 0, 1) := by decide +kernel
theorem dX11_wordOf_179 : decode cX11_wordOf 179 = .ok (.iload_n 1, 1) := by decide +kernel
theorem dX11_wordOf_180 : decode cX11_wordOf 180 = .ok (.iload_n 2, 1) := by decide +kernel
theorem dX11_wordOf_181 : decode cX11_wordOf 181 = .ok (.bipush 121, 2) := by decide +kernel
theorem dX11_wordOf_183 : decode cX11_wordOf 183 = .ok (.bipush 101, 2) := by decide +kernel
theorem dX11_wordOf_185 : decode cX11_wordOf 185 = .ok (.bipush 97, 2) := by decide +kernel
theorem dX11_wordOf_187 : decode cX11_wordOf 187 = .ok (.bipush 114, 2) := by decide +kernel
theorem dX11_wordOf_189 : decode cX11_wordOf 189 = .ok (.iconst 0, 1) := by decide +kernel
theorem dX11_wordOf_190 : decode cX11_wordOf 190 = .ok (.invokevirtual 166, 3) := by decide +kernel
theorem dX11_wordOf_193 : decode cX11_wordOf 193 = .ok (.ifCond .eq 6, 3) := by decide +kernel
theorem dX11_wordOf_196 : decode cX11_wordOf 196 = .ok (.bipush 10, 2) := by decide +kernel
theorem dX11_wordOf_198 : decode cX11_wordOf 198 = .ok (.ireturn, 1) := by decide +kernel
theorem dX11_wordOf_199 : decode cX11_wordOf 199 = .ok (.aload_n 0, 1) := by decide +kernel
theorem dX11_wordOf_200 : decode cX11_wordOf 200 = .ok (.iload_n 1, 1) := by decide +kernel
theorem dX11_wordOf_201 : decode cX11_wordOf 201 = .ok (.iload_n 2, 1) := by decide +kernel
theorem dX11_wordOf_202 : decode cX11_wordOf 202 = .ok (.bipush 115, 2) := by decide +kernel
theorem dX11_wordOf_204 : decode cX11_wordOf 204 = .ok (.bipush 101, 2) := by decide +kernel
theorem dX11_wordOf_206 : decode cX11_wordOf 206 = .ok (.bipush 120, 2) := by decide +kernel
theorem dX11_wordOf_208 : decode cX11_wordOf 208 = .ok (.iconst 0, 1) := by decide +kernel
theorem dX11_wordOf_209 : decode cX11_wordOf 209 = .ok (.iconst 0, 1) := by decide +kernel
theorem dX11_wordOf_210 : decode cX11_wordOf 210 = .ok (.invokevirtual 166, 3) := by decide +kernel
theorem dX11_wordOf_213 : decode cX11_wordOf 213 = .ok (.ifCond .eq 6, 3) := by decide +kernel
theorem dX11_wordOf_216 : decode cX11_wordOf 216 = .ok (.bipush 11, 2) := by decide +kernel
theorem dX11_wordOf_218 : decode cX11_wordOf 218 = .ok (.ireturn, 1) := by decide +kernel
theorem dX11_wordOf_219 : decode cX11_wordOf 219 = .ok (.aload_n 0, 1) := by decide +kernel
theorem dX11_wordOf_220 : decode cX11_wordOf 220 = .ok (.iload_n 1, 1) := by decide +kernel
theorem dX11_wordOf_221 : decode cX11_wordOf 221 = .ok (.iload_n 2, 1) := by decide +kernel
theorem dX11_wordOf_222 : decode cX11_wordOf 222 = .ok (.bipush 114, 2) := by decide +kernel
theorem dX11_wordOf_224 : decode cX11_wordOf 224 = .ok (.bipush 105, 2) := by decide +kernel
theorem dX11_wordOf_226 : decode cX11_wordOf 226 = .ok (.bipush 110, 2) := by decide +kernel
theorem dX11_wordOf_228 : decode cX11_wordOf 228 = .ok (.bipush 103, 2) := by decide +kernel
theorem dX11_wordOf_230 : decode cX11_wordOf 230 = .ok (.iconst 0, 1) := by decide +kernel
theorem dX11_wordOf_231 : decode cX11_wordOf 231 = .ok (.invokevirtual 166, 3) := by decide +kernel
theorem dX11_wordOf_234 : decode cX11_wordOf 234 = .ok (.ifCond .eq 8, 3) := by decide +kernel
theorem dX11_wordOf_237 : decode cX11_wordOf 237 = .ok (.bipush 12, 2) := by decide +kernel
theorem dX11_wordOf_239 : decode cX11_wordOf 239 = .ok (.goto 4, 3) := by decide +kernel
theorem dX11_wordOf_242 : decode cX11_wordOf 242 = .ok (.iconst (-1), 1) := by decide +kernel
theorem dX11_wordOf_243 : decode cX11_wordOf 243 = .ok (.ireturn, 1) := by decide +kernel
theorem dX11_isSmall_0 : decode cX11_isSmall 0 = .ok (.iload_n 1, 1) := by decide +kernel
theorem dX11_isSmall_1 : decode cX11_isSmall 1 = .ok (.aload_n 0, 1) := by decide +kernel
theorem dX11_isSmall_2 : decode cX11_isSmall 2 = .ok (.getfield 170, 3) := by decide +kernel
theorem dX11_isSmall_5 : decode cX11_isSmall 5 = .ok (.if_icmp .ge 29, 3) := by decide +kernel
theorem dX11_isSmall_8 : decode cX11_isSmall 8 = .ok (.aload_n 0, 1) := by decide +kernel
theorem dX11_isSmall_9 : decode cX11_isSmall 9 = .ok (.getfield 7, 3) := by decide +kernel
theorem dX11_isSmall_12 : decode cX11_isSmall 12 = .ok (.iload_n 1, 1) := by decide +kernel
theorem dX11_isSmall_13 : decode cX11_isSmall 13 = .ok (.iaload, 1) := by decide +kernel
theorem dX11_isSmall_14 : decode cX11_isSmall 14 = .ok (.bipush 97, 2) := by decide +kernel
theorem dX11_isSmall_16 : decode cX11_isSmall 16 = .ok (.if_icmp .lt 18, 3) := by decide +kernel
theorem dX11_isSmall_19 : decode cX11_isSmall 19 = .ok (.aload_n 0, 1) := by decide +kernel
theorem dX11_isSmall_20 : decode cX11_isSmall 20 = .ok (.getfield 7, 3) := by decide +kernel
theorem dX11_isSmall_23 : decode cX11_isSmall 23 = .ok (.iload_n 1, 1) := by decide +kernel
theorem dX11_isSmall_24 : decode cX11_isSmall 24 = .ok (.iaload, 1) := by decide +kernel
theorem dX11_isSmall_25 : decode cX11_isSmall 25 = .ok (.bipush 122, 2) := by decide +kernel
theorem dX11_isSmall_27 : decode cX11_isSmall 27 = .ok (.if_icmp .gt 7, 3) := by decide +kernel
theorem dX11_isSmall_30 : decode cX11_isSmall 30 = .ok (.iconst 1, 1) := by decide +kernel
theorem dX11_isSmall_31 : decode cX11_isSmall 31 = .ok (.goto 4, 3) := by decide +kernel
theorem dX11_isSmall_34 : decode cX11_isSmall 34 = .ok (.iconst 0, 1) := by decide +kernel
theorem dX11_isSmall_35 : decode cX11_isSmall 35 = .ok (.ireturn, 1) := by decide +kernel
theorem dX11_isDigit_0 : decode cX11_isDigit 0 = .ok (.iload_n 1, 1) := by decide +kernel
theorem dX11_isDigit_1 : decode cX11_isDigit 1 = .ok (.aload_n 0, 1) := by decide +kernel
theorem dX11_isDigit_2 : decode cX11_isDigit 2 = .ok (.getfield 170, 3) := by decide +kernel
theorem dX11_isDigit_5 : decode cX11_isDigit 5 = .ok (.if_icmp .ge 29, 3) := by decide +kernel
theorem dX11_isDigit_8 : decode cX11_isDigit 8 = .ok (.aload_n 0, 1) := by decide +kernel
theorem dX11_isDigit_9 : decode cX11_isDigit 9 = .ok (.getfield 7, 3) := by decide +kernel
theorem dX11_isDigit_12 : decode cX11_isDigit 12 = .ok (.iload_n 1, 1) := by decide +kernel
theorem dX11_isDigit_13 : decode cX11_isDigit 13 = .ok (.iaload, 1) := by decide +kernel
theorem dX11_isDigit_14 : decode cX11_isDigit 14 = .ok (.bipush 48, 2) := by decide +kernel
theorem dX11_isDigit_16 : decode cX11_isDigit 16 = .ok (.if_icmp .lt 18, 3) := by decide +kernel
theorem dX11_isDigit_19 : decode cX11_isDigit 19 = .ok (.aload_n 0, 1) := by decide +kernel
theorem dX11_isDigit_20 : decode cX11_isDigit 20 = .ok (.getfield 7, 3) := by decide +kernel
theorem dX11_isDigit_23 : decode cX11_isDigit 23 = .ok (.iload_n 1, 1) := by decide +kernel
theorem dX11_isDigit_24 : decode cX11_isDigit 24 = .ok (.iaload, 1) := by decide +kernel
theorem dX11_isDigit_25 : decode cX11_isDigit 25 = .ok (.bipush 57, 2) := by decide +kernel
theorem dX11_isDigit_27 : decode cX11_isDigit 27 = .ok (.if_icmp .gt 7, 3) := by decide +kernel
theorem dX11_isDigit_30 : decode cX11_isDigit 30 = .ok (.iconst 1, 1) := by decide +kernel
theorem dX11_isDigit_31 : decode cX11_isDigit 31 = .ok (.goto 4, 3) := by decide +kernel
theorem dX11_isDigit_34 : decode cX11_isDigit 34 = .ok (.iconst 0, 1) := by decide +kernel
theorem dX11_isDigit_35 : decode cX11_isDigit 35 = .ok (.ireturn, 1) := by decide +kernel
theorem dX11_take_0 : decode cX11_take 0 = .ok (.aload_n 0, 1) := by decide +kernel
theorem dX11_take_1 : decode cX11_take 1 = .ok (.getfield 173, 3) := by decide +kernel
theorem dX11_take_4 : decode cX11_take 4 = .ok (.aload_n 0, 1) := by decide +kernel
theorem dX11_take_5 : decode cX11_take 5 = .ok (.getfield 170, 3) := by decide +kernel
theorem dX11_take_8 : decode cX11_take 8 = .ok (.if_icmp .ge 44, 3) := by decide +kernel
theorem dX11_take_11 : decode cX11_take 11 = .ok (.aload_n 0, 1) := by decide +kernel
theorem dX11_take_12 : decode cX11_take 12 = .ok (.getfield 7, 3) := by decide +kernel
theorem dX11_take_15 : decode cX11_take 15 = .ok (.aload_n 0, 1) := by decide +kernel
theorem dX11_take_16 : decode cX11_take 16 = .ok (.getfield 173, 3) := by decide +kernel
theorem dX11_take_19 : decode cX11_take 19 = .ok (.iaload, 1) := by decide +kernel
theorem dX11_take_20 : decode cX11_take 20 = .ok (.bipush 10, 2) := by decide +kernel
theorem dX11_take_22 : decode cX11_take 22 = .ok (.if_icmp .eq 17, 3) := by decide +kernel
theorem dX11_take_25 : decode cX11_take 25 = .ok (.aload_n 0, 1) := by decide +kernel
theorem dX11_take_26 : decode cX11_take 26 = .ok (.getfield 7, 3) := by decide +kernel
theorem dX11_take_29 : decode cX11_take 29 = .ok (.aload_n 0, 1) := by decide +kernel
theorem dX11_take_30 : decode cX11_take 30 = .ok (.getfield 173, 3) := by decide +kernel
theorem dX11_take_33 : decode cX11_take 33 = .ok (.iaload, 1) := by decide +kernel
theorem dX11_take_34 : decode cX11_take 34 = .ok (.bipush 32, 2) := by decide +kernel
theorem dX11_take_36 : decode cX11_take 36 = .ok (.if_icmp .ne 16, 3) := by decide +kernel
theorem dX11_take_39 : decode cX11_take 39 = .ok (.aload_n 0, 1) := by decide +kernel
theorem dX11_take_40 : decode cX11_take 40 = .ok (.dup, 1) := by decide +kernel
theorem dX11_take_41 : decode cX11_take 41 = .ok (.getfield 173, 3) := by decide +kernel
theorem dX11_take_44 : decode cX11_take 44 = .ok (.iconst 1, 1) := by decide +kernel
theorem dX11_take_45 : decode cX11_take 45 = .ok (.iadd, 1) := by decide +kernel
theorem dX11_take_46 : decode cX11_take 46 = .ok (.putfield 173, 3) := by decide +kernel
theorem dX11_take_49 : decode cX11_take 49 = .ok (.goto (-49), 3) := by decide +kernel
theorem dX11_take_52 : decode cX11_take 52 = .ok (.aload_n 0, 1) := by decide +kernel
theorem dX11_take_53 : decode cX11_take 53 = .ok (.aload_n 0, 1) := by decide +kernel
theorem dX11_take_54 : decode cX11_take 54 = .ok (.getfield 173, 3) := by decide +kernel
theorem dX11_take_57 : decode cX11_take 57 = .ok (.putfield 176, 3) := by decide +kernel
theorem dX11_take_60 : decode cX11_take 60 = .ok (.aload_n 0, 1) := by decide +kernel
theorem dX11_take_61 : decode cX11_take 61 = .ok (.getfield 173, 3) := by decide +kernel
theorem dX11_take_64 : decode cX11_take 64 = .ok (.aload_n 0, 1) := by decide +kernel
theorem dX11_take_65 : decode cX11_take 65 = .ok (.getfield 170, 3) := by decide +kernel
theorem dX11_take_68 : decode cX11_take 68 = .ok (.if_icmp .ne 10, 3) := by decide +kernel
theorem dX11_take_71 : decode cX11_take 71 = .ok (.aload_n 0, 1) := by decide +kernel
theorem dX11_take_72 : decode cX11_take 72 = .ok (.iconst 0, 1) := by decide +kernel
theorem dX11_take_73 : decode cX11_take 73 = .ok (.putfield 179, 3) := by decide +kernel
theorem dX11_take_76 : decode cX11_take 76 = .ok (.iconst 1, 1) := by decide +kernel
theorem dX11_take_77 : decode cX11_take 77 = .ok (.ireturn, 1) := by decide +kernel
theorem dX11_take_78 : decode cX11_take 78 = .ok (.aload_n 0, 1) := by decide +kernel
theorem dX11_take_79 : decode cX11_take 79 = .ok (.aload_n 0, 1) := by decide +kernel
theorem dX11_take_80 : decode cX11_take 80 = .ok (.getfield 173, 3) := by decide +kernel
theorem dX11_take_83 : decode cX11_take 83 = .ok (.invokevirtual 182, 3) := by decide +kernel
theorem dX11_take_86 : decode cX11_take 86 = .ok (.ifCond .eq 73, 3) := by decide +kernel
theorem dX11_take_89 : decode cX11_take 89 = .ok (.aload_n 0, 1) := by decide +kernel
theorem dX11_take_90 : decode cX11_take 90 = .ok (.aload_n 0, 1) := by decide +kernel
theorem dX11_take_91 : decode cX11_take 91 = .ok (.getfield 173, 3) := by decide +kernel
theorem dX11_take_94 : decode cX11_take 94 = .ok (.invokevirtual 182, 3) := by decide +kernel
theorem dX11_take_97 : decode cX11_take 97 = .ok (.ifCond .eq 16, 3) := by decide +kernel
theorem dX11_take_100 : decode cX11_take 100 = .ok (.aload_n 0, 1) := by decide +kernel
theorem dX11_take_101 : decode cX11_take 101 = .ok (.dup, 1) := by decide +kernel
theorem dX11_take_102 : decode cX11_take 102 = .ok (.getfield 173, 3) := by decide +kernel
theorem dX11_take_105 : decode cX11_take 105 = .ok (.iconst 1, 1) := by decide +kernel
theorem dX11_take_106 : decode cX11_take 106 = .ok (.iadd, 1) := by decide +kernel
theorem dX11_take_107 : decode cX11_take 107 = .ok (.putfield 173, 3) := by decide +kernel
theorem dX11_take_110 : decode cX11_take 110 = .ok (.goto (-21), 3) := by decide +kernel
theorem dX11_take_113 : decode cX11_take 113 = .ok (.aload_n 0, 1) := by decide +kernel
theorem dX11_take_114 : decode cX11_take 114 = .ok (.iconst 1, 1) := by decide +kernel
theorem dX11_take_115 : decode cX11_take 115 = .ok (.putfield 179, 3) := by decide +kernel
theorem dX11_take_118 : decode cX11_take 118 = .ok (.aload_n 0, 1) := by decide +kernel
theorem dX11_take_119 : decode cX11_take 119 = .ok (.aload_n 0, 1) := by decide +kernel
theorem dX11_take_120 : decode cX11_take 120 = .ok (.aload_n 0, 1) := by decide +kernel
theorem dX11_take_121 : decode cX11_take 121 = .ok (.getfield 176, 3) := by decide +kernel
theorem dX11_take_124 : decode cX11_take 124 = .ok (.aload_n 0, 1) := by decide +kernel
theorem dX11_take_125 : decode cX11_take 125 = .ok (.getfield 173, 3) := by decide +kernel
theorem dX11_take_128 : decode cX11_take 128 = .ok (.invokevirtual 186, 3) := by decide +kernel
theorem dX11_take_131 : decode cX11_take 131 = .ok (.putfield 190, 3) := by decide +kernel
theorem dX11_take_134 : decode cX11_take 134 = .ok (.aload_n 0, 1) := by decide +kernel
theorem dX11_take_135 : decode cX11_take 135 = .ok (.getfield 190, 3) := by decide +kernel
theorem dX11_take_138 : decode cX11_take 138 = .ok (.ifCond .gt 15, 3) := by decide +kernel
theorem dX11_take_141 : decode cX11_take 141 = .ok (.aload_n 0, 1) := by decide +kernel
theorem dX11_take_142 : decode cX11_take 142 = .ok (.iconst 1, 1) := by decide +kernel
theorem dX11_take_143 : decode cX11_take 143 = .ok (.aload_n 0, 1) := by decide +kernel
theorem dX11_take_144 : decode cX11_take 144 = .ok (.getfield 176, 3) := by decide +kernel
theorem dX11_take_147 : decode cX11_take 147 = .ok (.invokevirtual 193, 3) := by decide +kernel
theorem dX11_take_150 : decode cX11_take 150 = .ok (.ifCond .eq 7, 3) := by decide +kernel
theorem dX11_take_153 : decode cX11_take 153 = .ok (.iconst 1, 1) := by decide +kernel
theorem dX11_take_154 : decode cX11_take 154 = .ok (.goto 4, 3) := by decide +kernel
theorem dX11_take_157 : decode cX11_take 157 = .ok (.iconst 0, 1) := by decide +kernel
theorem dX11_take_158 : decode cX11_take 158 = .ok (.ireturn, 1) := by decide +kernel
theorem dX11_take_159 : decode cX11_take 159 = .ok (.aload_n 0, 1) := by decide +kernel
theorem dX11_take_160 : decode cX11_take 160 = .ok (.aload_n 0, 1) := by decide +kernel
theorem dX11_take_161 : decode cX11_take 161 = .ok (.getfield 173, 3) := by decide +kernel
theorem dX11_take_164 : decode cX11_take 164 = .ok (.invokevirtual 197, 3) := by decide +kernel
theorem dX11_take_167 : decode cX11_take 167 = .ok (.ifCond .eq 104, 3) := by decide +kernel
theorem dX11_take_170 : decode cX11_take 170 = .ok (.aload_n 0, 1) := by decide +kernel
theorem dX11_take_171 : decode cX11_take 171 = .ok (.iconst 2, 1) := by decide +kernel
theorem dX11_take_172 : decode cX11_take 172 = .ok (.putfield 179, 3) := by decide +kernel
theorem dX11_take_175 : decode cX11_take 175 = .ok (.aload_n 0, 1) := by decide +kernel
theorem dX11_take_176 : decode cX11_take 176 = .ok (.iconst 0, 1) := by decide +kernel
theorem dX11_take_177 : decode cX11_take 177 = .ok (.putfield 190, 3) := by decide +kernel
theorem dX11_take_180 : decode cX11_take 180 = .ok (.aload_n 0, 1) := by decide +kernel
theorem dX11_take_181 : decode cX11_take 181 = .ok (.aload_n 0, 1) := by decide +kernel
theorem dX11_take_182 : decode cX11_take 182 = .ok (.getfield 173, 3) := by decide +kernel
theorem dX11_take_185 : decode cX11_take 185 = .ok (.invokevirtual 197, 3) := by decide +kernel
theorem dX11_take_188 : decode cX11_take 188 = .ok (.ifCond .eq 56, 3) := by decide +kernel
theorem dX11_take_191 : decode cX11_take 191 = .ok (.aload_n 0, 1) := by decide +kernel
theorem dX11_take_192 : decode cX11_take 192 = .ok (.aload_n 0, 1) := by decide +kernel
theorem dX11_take_193 : decode cX11_take 193 = .ok (.getfield 190, 3) := by decide +kernel
theorem dX11_take_196 : decode cX11_take 196 = .ok (.ldc 200, 2) := by decide +kernel
theorem dX11_take_198 : decode cX11_take 198 = .ok (.if_icmp .le 10, 3) := by decide +kernel
theorem dX11_take_201 : decode cX11_take 201 = .ok (.aload_n 0, 1) := by decide +kernel
theorem dX11_take_202 : decode cX11_take 202 = .ok (.getfield 190, 3) := by decide +kernel
theorem dX11_take_205 : decode cX11_take 205 = .ok (.goto 23, 3) := by decide +kernel
theorem dX11_take_208 : decode cX11_take 208 = .ok (.bipush 10, 2) := by decide +kernel
theorem dX11_take_210 : decode cX11_take 210 = .ok (.aload_n 0, 1) := by decide +kernel
theorem dX11_take_211 : decode cX11_take 211 = .ok (.getfield 190, 3) := by decide +kernel
theorem dX11_take_214 : decode cX11_take 214 = .ok (.imul, 1) := by decide +kernel
theorem dX11_take_215 : decode cX11_take 215 = .ok (.aload_n 0, 1) := by decide +kernel
theorem dX11_take_216 : decode cX11_take 216 = .ok (.getfield 7, 3) := by decide +kernel
theorem dX11_take_219 : decode cX11_take 219 = .ok (.aload_n 0, 1) := by decide +kernel
theorem dX11_take_220 : decode cX11_take 220 = .ok (.getfield 173, 3) := by decide +kernel
theorem dX11_take_223 : decode cX11_take 223 = .ok (.iaload, 1) := by decide +kernel
theorem dX11_take_224 : decode cX11_take 224 = .ok (.iadd, 1) := by decide +kernel
theorem dX11_take_225 : decode cX11_take 225 = .ok (.bipush 48, 2) := by decide +kernel
theorem dX11_take_227 : decode cX11_take 227 = .ok (.isub, 1) := by decide +kernel
theorem dX11_take_228 : decode cX11_take 228 = .ok (.putfield 190, 3) := by decide +kernel
theorem dX11_take_231 : decode cX11_take 231 = .ok (.aload_n 0, 1) := by decide +kernel
theorem dX11_take_232 : decode cX11_take 232 = .ok (.dup, 1) := by decide +kernel
theorem dX11_take_233 : decode cX11_take 233 = .ok (.getfield 173, 3) := by decide +kernel
theorem dX11_take_236 : decode cX11_take 236 = .ok (.iconst 1, 1) := by decide +kernel
theorem dX11_take_237 : decode cX11_take 237 = .ok (.iadd, 1) := by decide +kernel
theorem dX11_take_238 : decode cX11_take 238 = .ok (.putfield 173, 3) := by decide +kernel
theorem dX11_take_241 : decode cX11_take 241 = .ok (.goto (-61), 3) := by decide +kernel
theorem dX11_take_244 : decode cX11_take 244 = .ok (.aload_n 0, 1) := by decide +kernel
theorem dX11_take_245 : decode cX11_take 245 = .ok (.getfield 190, 3) := by decide +kernel
theorem dX11_take_248 : decode cX11_take 248 = .ok (.ldc 200, 2) := by decide +kernel
theorem dX11_take_250 : decode cX11_take 250 = .ok (.if_icmp .le 15, 3) := by decide +kernel
theorem dX11_take_253 : decode cX11_take 253 = .ok (.aload_n 0, 1) := by decide +kernel
theorem dX11_take_254 : decode cX11_take 254 = .ok (.iconst 1, 1) := by decide +kernel
theorem dX11_take_255 : decode cX11_take 255 = .ok (.aload_n 0, 1) := by decide +kernel
theorem dX11_take_256 : decode cX11_take 256 = .ok (.getfield 176, 3) := by decide +kernel
theorem dX11_take_259 : decode cX11_take 259 = .ok (.invokevirtual 193, 3) := by decide +kernel
theorem dX11_take_262 : decode cX11_take 262 = .ok (.ifCond .eq 7, 3) := by decide +kernel
theorem dX11_take_265 : decode cX11_take 265 = .ok (.iconst 1, 1) := by decide +kernel
theorem dX11_take_266 : decode cX11_take 266 = .ok (.goto 4, 3) := by decide +kernel
theorem dX11_take_269 : decode cX11_take 269 = .ok (.iconst 0, 1) := by decide +kernel
theorem dX11_take_270 : decode cX11_take 270 = .ok (.ireturn, 1) := by decide +kernel
theorem dX11_take_271 : decode cX11_take 271 = .ok (.aload_n 0, 1) := by decide +kernel
theorem dX11_take_272 : decode cX11_take 272 = .ok (.iconst 3, 1) := by decide +kernel
theorem dX11_take_273 : decode cX11_take 273 = .ok (.putfield 179, 3) := by decide +kernel
theorem dX11_take_276 : decode cX11_take 276 = .ok (.aload_n 0, 1) := by decide +kernel
theorem dX11_take_277 : decode cX11_take 277 = .ok (.aload_n 0, 1) := by decide +kernel
theorem dX11_take_278 : decode cX11_take 278 = .ok (.getfield 7, 3) := by decide +kernel
theorem dX11_take_281 : decode cX11_take 281 = .ok (.aload_n 0, 1) := by decide +kernel
theorem dX11_take_282 : decode cX11_take 282 = .ok (.getfield 173, 3) := by decide +kernel
theorem dX11_take_285 : decode cX11_take 285 = .ok (.iaload, 1) := by decide +kernel
theorem dX11_take_286 : decode cX11_take 286 = .ok (.putfield 190, 3) := by decide +kernel
theorem dX11_take_289 : decode cX11_take 289 = .ok (.aload_n 0, 1) := by decide +kernel
theorem dX11_take_290 : decode cX11_take 290 = .ok (.dup, 1) := by decide +kernel
theorem dX11_take_291 : decode cX11_take 291 = .ok (.getfield 173, 3) := by decide +kernel
theorem dX11_take_294 : decode cX11_take 294 = .ok (.iconst 1, 1) := by decide +kernel
theorem dX11_take_295 : decode cX11_take 295 = .ok (.iadd, 1) := by decide +kernel
theorem dX11_take_296 : decode cX11_take 296 = .ok (.putfield 173, 3) := by decide +kernel
theorem dX11_take_299 : decode cX11_take 299 = .ok (.aload_n 0, 1) := by decide +kernel
theorem dX11_take_300 : decode cX11_take 300 = .ok (.getfield 190, 3) := by decide +kernel
theorem dX11_take_303 : decode cX11_take 303 = .ok (.bipush 123, 2) := by decide +kernel
theorem dX11_take_305 : decode cX11_take 305 = .ok (.if_icmp .eq 66, 3) := by decide +kernel
theorem dX11_take_308 : decode cX11_take 308 = .ok (.aload_n 0, 1) := by decide +kernel
theorem dX11_take_309 : decode cX11_take 309 = .ok (.getfield 190, 3) := by decide +kernel
theorem dX11_take_312 : decode cX11_take 312 = .ok (.bipush 125, 2) := by decide +kernel
theorem dX11_take_314 : decode cX11_take 314 = .ok (.if_icmp .eq 57, 3) := by decide +kernel
theorem dX11_take_317 : decode cX11_take 317 = .ok (.aload_n 0, 1) := by decide +kernel
theorem dX11_take_318 : decode cX11_take 318 = .ok (.getfield 190, 3) := by decide +kernel
theorem dX11_take_321 : decode cX11_take 321 = .ok (.bipush 40, 2) := by decide +kernel
theorem dX11_take_323 : decode cX11_take 323 = .ok (.if_icmp .eq 48, 3) := by decide +kernel
theorem dX11_take_326 : decode cX11_take 326 = .ok (.aload_n 0, 1) := by decide +kernel
theorem dX11_take_327 : decode cX11_take 327 = .ok (.getfield 190, 3) := by decide +kernel
theorem dX11_take_330 : decode cX11_take 330 = .ok (.bipush 41, 2) := by decide +kernel
theorem dX11_take_332 : decode cX11_take 332 = .ok (.if_icmp .eq 39, 3) := by decide +kernel
theorem dX11_take_335 : decode cX11_take 335 = .ok (.aload_n 0, 1) := by decide +kernel
theorem dX11_take_336 : decode cX11_take 336 = .ok (.getfield 190, 3) := by decide +kernel
theorem dX11_take_339 : decode cX11_take 339 = .ok (.bipush 59, 2) := by decide +kernel
theorem dX11_take_341 : decode cX11_take 341 = .ok (.if_icmp .eq 30, 3) := by decide +kernel
theorem dX11_take_344 : decode cX11_take 344 = .ok (.aload_n 0, 1) := by decide +kernel
theorem dX11_take_345 : decode cX11_take 345 = .ok (.getfield 190, 3) := by decide +kernel
theorem dX11_take_348 : decode cX11_take 348 = .ok (.bipush 60, 2) := by decide +kernel
theorem dX11_take_350 : decode cX11_take 350 = .ok (.if_icmp .eq 21, 3) := by decide +kernel
theorem dX11_take_353 : decode cX11_take 353 = .ok (.aload_n 0, 1) := by decide +kernel
theorem dX11_take_354 : decode cX11_take 354 = .ok (.getfield 190, 3) := by decide +kernel
theorem dX11_take_357 : decode cX11_take 357 = .ok (.bipush 62, 2) := by decide +kernel
theorem dX11_take_359 : decode cX11_take 359 = .ok (.if_icmp .eq 12, 3) := by decide +kernel
theorem dX11_take_362 : decode cX11_take 362 = .ok (.aload_n 0, 1) := by decide +kernel
theorem dX11_take_363 : decode cX11_take 363 = .ok (.getfield 190, 3) := by decide +kernel
theorem dX11_take_366 : decode cX11_take 366 = .ok (.bipush 61, 2) := by decide +kernel
theorem dX11_take_368 : decode cX11_take 368 = .ok (.if_icmp .ne 7, 3) := by decide +kernel
theorem dX11_take_371 : decode cX11_take 371 = .ok (.iconst 1, 1) := by decide +kernel
theorem dX11_take_372 : decode cX11_take 372 = .ok (.goto 4, 3) := by decide +kernel
theorem dX11_take_375 : decode cX11_take 375 = .ok (.iconst 0, 1) := by decide +kernel
theorem dX11_take_376 : decode cX11_take 376 = .ok (.istore_n 1, 1) := by decide +kernel
theorem dX11_take_377 : decode cX11_take 377 = .ok (.iload_n 1, 1) := by decide +kernel
theorem dX11_take_378 : decode cX11_take 378 = .ok (.ifCond .ne 15, 3) := by decide +kernel
theorem dX11_take_381 : decode cX11_take 381 = .ok (.aload_n 0, 1) := by decide +kernel
theorem dX11_take_382 : decode cX11_take 382 = .ok (.iconst 1, 1) := by decide +kernel
theorem dX11_take_383 : decode cX11_take 383 = .ok (.aload_n 0, 1) := by decide +kernel
theorem dX11_take_384 : decode cX11_take 384 = .ok (.getfield 176, 3) := by decide +kernel
theorem dX11_take_387 : decode cX11_take 387 = .ok (.invokevirtual 193, 3) := by decide +kernel
theorem dX11_take_390 : decode cX11_take 390 = .ok (.ifCond .eq 7, 3) := by decide +kernel
theorem dX11_take_393 : decode cX11_take 393 = .ok (.iconst 1, 1) := by decide +kernel
theorem dX11_take_394 : decode cX11_take 394 = .ok (.goto 4, 3) := by decide +kernel
theorem dX11_take_397 : decode cX11_take 397 = .ok (.iconst 0, 1) := by decide +kernel
theorem dX11_take_398 : decode cX11_take 398 = .ok (.ireturn, 1) := by decide +kernel
theorem dX11_is_0 : decode cX11_is 0 = .ok (.aload_n 0, 1) := by decide +kernel
theorem dX11_is_1 : decode cX11_is 1 = .ok (.getfield 179, 3) := by decide +kernel
theorem dX11_is_4 : decode cX11_is 4 = .ok (.iload_n 1, 1) := by decide +kernel
theorem dX11_is_5 : decode cX11_is 5 = .ok (.if_icmp .ne 15, 3) := by decide +kernel
theorem dX11_is_8 : decode cX11_is 8 = .ok (.aload_n 0, 1) := by decide +kernel
theorem dX11_is_9 : decode cX11_is 9 = .ok (.getfield 190, 3) := by decide +kernel
theorem dX11_is_12 : decode cX11_is 12 = .ok (.iload_n 2, 1) := by decide +kernel
theorem dX11_is_13 : decode cX11_is 13 = .ok (.if_icmp .ne 7, 3) := by decide +kernel
theorem dX11_is_16 : decode cX11_is 16 = .ok (.iconst 1, 1) := by decide +kernel
theorem dX11_is_17 : decode cX11_is 17 = .ok (.goto 4, 3) := by decide +kernel
theorem dX11_is_20 : decode cX11_is 20 = .ok (.iconst 0, 1) := by decide +kernel
theorem dX11_is_21 : decode cX11_is 21 = .ok (.ireturn, 1) := by decide +kernel
theorem dX11_need_0 : decode cX11_need 0 = .ok (.aload_n 0, 1) := by decide +kernel
theorem dX11_need_1 : decode cX11_need 1 = .ok (.iload_n 1, 1) := by decide +kernel
theorem dX11_need_2 : decode cX11_need 2 = .ok (.iload_n 2, 1) := by decide +kernel
theorem dX11_need_3 : decode cX11_need 3 = .ok (.invokevirtual 201, 3) := by decide +kernel
theorem dX11_need_6 : decode cX11_need 6 = .ok (.ifCond .eq 10, 3) := by decide +kernel
theorem dX11_need_9 : decode cX11_need 9 = .ok (.aload_n 0, 1) := by decide +kernel
theorem dX11_need_10 : decode cX11_need 10 = .ok (.invokevirtual 204, 3) := by decide +kernel
theorem dX11_need_13 : decode cX11_need 13 = .ok (.goto 12, 3) := by decide +kernel
theorem dX11_need_16 : decode cX11_need 16 = .ok (.aload_n 0, 1) := by decide +kernel
theorem dX11_need_17 : decode cX11_need 17 = .ok (.iconst 1, 1) := by decide +kernel
theorem dX11_need_18 : decode cX11_need 18 = .ok (.aload_n 0, 1) := by decide +kernel
theorem dX11_need_19 : decode cX11_need 19 = .ok (.getfield 176, 3) := by decide +kernel
theorem dX11_need_22 : decode cX11_need 22 = .ok (.invokevirtual 193, 3) := by decide +kernel
theorem dX11_need_25 : decode cX11_need 25 = .ok (.ireturn, 1) := by decide +kernel
theorem dX11_emit_0 : decode cX11_emit 0 = .ok (.sipush 800, 3) := by decide +kernel
theorem dX11_emit_3 : decode cX11_emit 3 = .ok (.iload_n 1, 1) := by decide +kernel
theorem dX11_emit_4 : decode cX11_emit 4 = .ok (.imul, 1) := by decide +kernel
theorem dX11_emit_5 : decode cX11_emit 5 = .ok (.aload_n 0, 1) := by decide +kernel
theorem dX11_emit_6 : decode cX11_emit 6 = .ok (.getfield 106, 3) := by decide +kernel
theorem dX11_emit_9 : decode cX11_emit 9 = .ok (.iload_n 1, 1) := by decide +kernel
theorem dX11_emit_10 : decode cX11_emit 10 = .ok (.iaload, 1) := by decide +kernel
theorem dX11_emit_11 : decode cX11_emit 11 = .ok (.iadd, 1) := by decide +kernel
theorem dX11_emit_12 : decode cX11_emit 12 = .ok (.istore 4, 2) := by decide +kernel
theorem dX11_emit_14 : decode cX11_emit 14 = .ok (.aload_n 0, 1) := by decide +kernel
theorem dX11_emit_15 : decode cX11_emit 15 = .ok (.getfield 109, 3) := by decide +kernel
theorem dX11_emit_18 : decode cX11_emit 18 = .ok (.iload 4, 2) := by decide +kernel
theorem dX11_emit_20 : decode cX11_emit 20 = .ok (.iload_n 2, 1) := by decide +kernel
theorem dX11_emit_21 : decode cX11_emit 21 = .ok (.iastore, 1) := by decide +kernel
theorem dX11_emit_22 : decode cX11_emit 22 = .ok (.aload_n 0, 1) := by decide +kernel
theorem dX11_emit_23 : decode cX11_emit 23 = .ok (.getfield 112, 3) := by decide +kernel
theorem dX11_emit_26 : decode cX11_emit 26 = .ok (.iload 4, 2) := by decide +kernel
theorem dX11_emit_28 : decode cX11_emit 28 = .ok (.iload_n 3, 1) := by decide +kernel
theorem dX11_emit_29 : decode cX11_emit 29 = .ok (.iastore, 1) := by decide +kernel
theorem dX11_emit_30 : decode cX11_emit 30 = .ok (.aload_n 0, 1) := by decide +kernel
theorem dX11_emit_31 : decode cX11_emit 31 = .ok (.getfield 106, 3) := by decide +kernel
theorem dX11_emit_34 : decode cX11_emit 34 = .ok (.iload_n 1, 1) := by decide +kernel
theorem dX11_emit_35 : decode cX11_emit 35 = .ok (.dup2, 1) := by decide +kernel
theorem dX11_emit_36 : decode cX11_emit 36 = .ok (.iaload, 1) := by decide +kernel
theorem dX11_emit_37 : decode cX11_emit 37 = .ok (.iconst 1, 1) := by decide +kernel
theorem dX11_emit_38 : decode cX11_emit 38 = .ok (.iadd, 1) := by decide +kernel
theorem dX11_emit_39 : decode cX11_emit 39 = .ok (.iastore, 1) := by decide +kernel
theorem dX11_emit_40 : decode cX11_emit 40 = .ok (.return_, 1) := by decide +kernel
theorem dX11_leave_0 : decode cX11_leave 0 = .ok (.aload_n 0, 1) := by decide +kernel
theorem dX11_leave_1 : decode cX11_leave 1 = .ok (.getfield 208, 3) := by decide +kernel
theorem dX11_leave_4 : decode cX11_leave 4 = .ok (.ifCond .le 46, 3) := by decide +kernel
theorem dX11_leave_7 : decode cX11_leave 7 = .ok (.aload_n 0, 1) := by decide +kernel
theorem dX11_leave_8 : decode cX11_leave 8 = .ok (.getfield 118, 3) := by decide +kernel
theorem dX11_leave_11 : decode cX11_leave 11 = .ok (.aload_n 0, 1) := by decide +kernel
theorem dX11_leave_12 : decode cX11_leave 12 = .ok (.getfield 208, 3) := by decide +kernel
theorem dX11_leave_15 : decode cX11_leave 15 = .ok (.iconst 1, 1) := by decide +kernel
theorem dX11_leave_16 : decode cX11_leave 16 = .ok (.isub, 1) := by decide +kernel
theorem dX11_leave_17 : decode cX11_leave 17 = .ok (.iaload, 1) := by decide +kernel
theorem dX11_leave_18 : decode cX11_leave 18 = .ok (.iload_n 2, 1) := by decide +kernel
theorem dX11_leave_19 : decode cX11_leave 19 = .ok (.if_icmp .lt 31, 3) := by decide +kernel
theorem dX11_leave_22 : decode cX11_leave 22 = .ok (.aload_n 0, 1) := by decide +kernel
theorem dX11_leave_23 : decode cX11_leave 23 = .ok (.dup, 1) := by decide +kernel
theorem dX11_leave_24 : decode cX11_leave 24 = .ok (.getfield 208, 3) := by decide +kernel
theorem dX11_leave_27 : decode cX11_leave 27 = .ok (.iconst 1, 1) := by decide +kernel
theorem dX11_leave_28 : decode cX11_leave 28 = .ok (.isub, 1) := by decide +kernel
theorem dX11_leave_29 : decode cX11_leave 29 = .ok (.putfield 208, 3) := by decide +kernel
theorem dX11_leave_32 : decode cX11_leave 32 = .ok (.aload_n 0, 1) := by decide +kernel
theorem dX11_leave_33 : decode cX11_leave 33 = .ok (.iload_n 1, 1) := by decide +kernel
theorem dX11_leave_34 : decode cX11_leave 34 = .ok (.aload_n 0, 1) := by decide +kernel
theorem dX11_leave_35 : decode cX11_leave 35 = .ok (.getfield 118, 3) := by decide +kernel
theorem dX11_leave_38 : decode cX11_leave 38 = .ok (.aload_n 0, 1) := by decide +kernel
theorem dX11_leave_39 : decode cX11_leave 39 = .ok (.getfield 208, 3) := by decide +kernel
theorem dX11_leave_42 : decode cX11_leave 42 = .ok (.iaload, 1) := by decide +kernel
theorem dX11_leave_43 : decode cX11_leave 43 = .ok (.iconst 0, 1) := by decide +kernel
theorem dX11_leave_44 : decode cX11_leave 44 = .ok (.invokevirtual 211, 3) := by decide +kernel
theorem dX11_leave_47 : decode cX11_leave 47 = .ok (.goto (-47), 3) := by decide +kernel
theorem dX11_leave_50 : decode cX11_leave 50 = .ok (.return_, 1) := by decide +kernel
theorem dX11_condition_0 : decode cX11_condition 0 = .ok (.aload_n 0, 1) := by decide +kernel
theorem dX11_condition_1 : decode cX11_condition 1 = .ok (.getfield 106, 3) := by decide +kernel
theorem dX11_condition_4 : decode cX11_condition 4 = .ok (.iload_n 1, 1) := by decide +kernel
theorem dX11_condition_5 : decode cX11_condition 5 = .ok (.iconst 0, 1) := by decide +kernel
theorem dX11_condition_6 : decode cX11_condition 6 = .ok (.iastore, 1) := by decide +kernel
theorem dX11_condition_7 : decode cX11_condition 7 = .ok (.aload_n 0, 1) := by decide +kernel
theorem dX11_condition_8 : decode cX11_condition 8 = .ok (.iconst 0, 1) := by decide +kernel
theorem dX11_condition_9 : decode cX11_condition 9 = .ok (.putfield 208, 3) := by decide +kernel
theorem dX11_condition_12 : decode cX11_condition 12 = .ok (.iconst 0, 1) := by decide +kernel
theorem dX11_condition_13 : decode cX11_condition 13 = .ok (.istore_n 2, 1) := by decide +kernel
theorem dX11_condition_14 : decode cX11_condition 14 = .ok (.iconst 1, 1) := by decide +kernel
theorem dX11_condition_15 : decode cX11_condition 15 = .ok (.istore_n 3, 1) := by decide +kernel
theorem dX11_condition_16 : decode cX11_condition 16 = .ok (.iconst 1, 1) := by decide +kernel
theorem dX11_condition_17 : decode cX11_condition 17 = .ok (.istore 4, 2) := by decide +kernel
theorem dX11_condition_19 : decode cX11_condition 19 = .ok (.iload 4, 2) := by decide +kernel
theorem dX11_condition_21 : decode cX11_condition 21 = .ok (.ifCond .eq 401, 3) := by decide +kernel
theorem dX11_condition_24 : decode cX11_condition 24 = .ok (.iload_n 3, 1) := by decide +kernel
theorem dX11_condition_25 : decode cX11_condition 25 = .ok (.ifCond .eq 272, 3) := by decide +kernel
theorem dX11_condition_28 : decode cX11_condition 28 = .ok (.aload_n 0, 1) := by decide +kernel
theorem dX11_condition_29 : decode cX11_condition 29 = .ok (.iconst 1, 1) := by decide +kernel
theorem dX11_condition_30 : decode cX11_condition 30 = .ok (.bipush 8, 2) := by decide +kernel
theorem dX11_condition_32 : decode cX11_condition 32 = .ok (.invokevirtual 201, 3) := by decide +kernel
theorem dX11_condition_35 : decode cX11_condition 35 = .ok (.istore 5, 2) := by decide +kernel
theorem dX11_condition_37 : decode cX11_condition 37 = .ok (.iload 5, 2) := by decide +kernel
theorem dX11_condition_39 : decode cX11_condition 39 = .ok (.ifCond .eq 33, 3) := by decide +kernel
theorem dX11_condition_42 : decode cX11_condition 42 = .ok (.aload_n 0, 1) := by decide +kernel
theorem dX11_condition_43 : decode cX11_condition 43 = .ok (.getfield 118, 3) := by decide +kernel
theorem dX11_condition_46 : decode cX11_condition 46 = .ok (.aload_n 0, 1) := by decide +kernel
theorem dX11_condition_47 : decode cX11_condition 47 = .ok (.getfield 208, 3) := by decide +kernel
theorem dX11_condition_50 : decode cX11_condition 50 = .ok (.bipush 8, 2) := by decide +kernel
theorem dX11_condition_52 : decode cX11_condition 52 = .ok (.iastore, 1) := by decide +kernel
theorem dX11_condition_53 : decode cX11_condition 53 = .ok (.aload_n 0, 1) := by decide +kernel
theorem dX11_condition_54 : decode cX11_condition 54 = .ok (.dup, 1) := by decide +kernel
theorem dX11_condition_55 : decode cX11_condition 55 = .ok (.getfield 208, 3) := by decide +kernel
theorem dX11_condition_58 : decode cX11_condition 58 = .ok (.iconst 1, 1) := by decide +kernel
theorem dX11_condition_59 : decode cX11_condition 59 = .ok (.iadd, 1) := by decide +kernel
theorem dX11_condition_60 : decode cX11_condition 60 = .ok (.putfield 208, 3) := by decide +kernel
theorem dX11_condition_63 : decode cX11_condition 63 = .ok (.aload_n 0, 1) := by decide +kernel
theorem dX11_condition_64 : decode cX11_condition 64 = .ok (.invokevirtual 204, 3) := by decide +kernel
theorem dX11_condition_67 : decode cX11_condition 67 = .ok (.ifCond .ne 5, 3) := by decide +kernel
theorem dX11_condition_70 : decode cX11_condition 70 = .ok (.iconst 0, 1) := by decide +kernel
theorem dX11_condition_71 : decode cX11_condition 71 = .ok (.ireturn, 1) := by decide +kernel
theorem dX11_condition_72 : decode cX11_condition 72 = .ok (.aload_n 0, 1) := by decide +kernel
theorem dX11_condition_73 : decode cX11_condition 73 = .ok (.iconst 3, 1) := by decide +kernel
theorem dX11_condition_74 : decode cX11_condition 74 = .ok (.bipush 40, 2) := by decide +kernel
theorem dX11_condition_76 : decode cX11_condition 76 = .ok (.invokevirtual 201, 3) := by decide +kernel
theorem dX11_condition_79 : decode cX11_condition 79 = .ok (.ifCond .eq 51, 3) := by decide +kernel
theorem dX11_condition_82 : decode cX11_condition 82 = .ok (.iload_n 2, 1) := by decide +kernel
theorem dX11_condition_83 : decode cX11_condition 83 = .ok (.bipush 6, 2) := by decide +kernel
theorem dX11_condition_85 : decode cX11_condition 85 = .ok (.if_icmp .ne 13, 3) := by decide +kernel
theorem dX11_condition_88 : decode cX11_condition 88 = .ok (.aload_n 0, 1) := by decide +kernel
theorem dX11_condition_89 : decode cX11_condition 89 = .ok (.iconst 2, 1) := by decide +kernel
theorem dX11_condition_90 : decode cX11_condition 90 = .ok (.aload_n 0, 1) := by decide +kernel
theorem dX11_condition_91 : decode cX11_condition 91 = .ok (.getfield 176, 3) := by decide +kernel
theorem dX11_condition_94 : decode cX11_condition 94 = .ok (.invokevirtual 193, 3) := by decide +kernel
theorem dX11_condition_97 : decode cX11_condition 97 = .ok (.ireturn, 1) := by decide +kernel
theorem dX11_condition_98 : decode cX11_condition 98 = .ok (.iinc 2 1, 3) := by decide +kernel
theorem dX11_condition_101 : decode cX11_condition 101 = .ok (.aload_n 0, 1) := by decide +kernel
theorem dX11_condition_102 : decode cX11_condition 102 = .ok (.getfield 118, 3) := by decide +kernel
theorem dX11_condition_105 : decode cX11_condition 105 = .ok (.aload_n 0, 1) := by decide +kernel
theorem dX11_condition_106 : decode cX11_condition 106 = .ok (.getfield 208, 3) := by decide +kernel
theorem dX11_condition_109 : decode cX11_condition 109 = .ok (.iconst 0, 1) := by decide +kernel
theorem dX11_condition_110 : decode cX11_condition 110 = .ok (.iastore, 1) := by decide +kernel
theorem dX11_condition_111 : decode cX11_condition 111 = .ok (.aload_n 0, 1) := by decide +kernel
theorem dX11_condition_112 : decode cX11_condition 112 = .ok (.dup, 1) := by decide +kernel
theorem dX11_condition_113 : decode cX11_condition 113 = .ok (.getfield 208, 3) := by decide +kernel
theorem dX11_condition_116 : decode cX11_condition 116 = .ok (.iconst 1, 1) := by decide +kernel
theorem dX11_condition_117 : decode cX11_condition 117 = .ok (.iadd, 1) := by decide +kernel
theorem dX11_condition_118 : decode cX11_condition 118 = .ok (.putfield 208, 3) := by decide +kernel
theorem dX11_condition_121 : decode cX11_condition 121 = .ok (.aload_n 0, 1) := by decide +kernel
theorem dX11_condition_122 : decode cX11_condition 122 = .ok (.invokevirtual 204, 3) := by decide +kernel
theorem dX11_condition_125 : decode cX11_condition 125 = .ok (.ifCond .ne 169, 3) := by decide +kernel
theorem dX11_condition_128 : decode cX11_condition 128 = .ok (.iconst 0, 1) := by decide +kernel
theorem dX11_condition_129 : decode cX11_condition 129 = .ok (.ireturn, 1) := by decide +kernel
theorem dX11_condition_130 : decode cX11_condition 130 = .ok (.aload_n 0, 1) := by decide +kernel
theorem dX11_condition_131 : decode cX11_condition 131 = .ok (.getfield 179, 3) := by decide +kernel
theorem dX11_condition_134 : decode cX11_condition 134 = .ok (.iconst 1, 1) := by decide +kernel
theorem dX11_condition_135 : decode cX11_condition 135 = .ok (.if_icmp .ne 12, 3) := by decide +kernel
theorem dX11_condition_138 : decode cX11_condition 138 = .ok (.aload_n 0, 1) := by decide +kernel
theorem dX11_condition_139 : decode cX11_condition 139 = .ok (.getfield 190, 3) := by decide +kernel
theorem dX11_condition_142 : decode cX11_condition 142 = .ok (.bipush 9, 2) := by decide +kernel
theorem dX11_condition_144 : decode cX11_condition 144 = .ok (.if_icmp .ge 13, 3) := by decide +kernel
theorem dX11_condition_147 : decode cX11_condition 147 = .ok (.aload_n 0, 1) := by decide +kernel
theorem dX11_condition_148 : decode cX11_condition 148 = .ok (.iconst 1, 1) := by decide +kernel
theorem dX11_condition_149 : decode cX11_condition 149 = .ok (.aload_n 0, 1) := by decide +kernel
theorem dX11_condition_150 : decode cX11_condition 150 = .ok (.getfield 176, 3) := by decide +kernel
theorem dX11_condition_153 : decode cX11_condition 153 = .ok (.invokevirtual 193, 3) := by decide +kernel
theorem dX11_condition_156 : decode cX11_condition 156 = .ok (.ireturn, 1) := by decide +kernel
theorem dX11_condition_157 : decode cX11_condition 157 = .ok (.aload_n 0, 1) := by decide +kernel
theorem dX11_condition_158 : decode cX11_condition 158 = .ok (.getfield 190, 3) := by decide +kernel
theorem dX11_condition_161 : decode cX11_condition 161 = .ok (.istore 6, 2) := by decide +kernel
theorem dX11_condition_163 : decode cX11_condition 163 = .ok (.aload_n 0, 1) := by decide +kernel
theorem dX11_condition_164 : decode cX11_condition 164 = .ok (.invokevirtual 204, 3) := by decide +kernel
theorem dX11_condition_167 : decode cX11_condition 167 = .ok (.ifCond .ne 5, 3) := by decide +kernel
theorem dX11_condition_170 : decode cX11_condition 170 = .ok (.iconst 0, 1) := by decide +kernel
theorem dX11_condition_171 : decode cX11_condition 171 = .ok (.ireturn, 1) := by decide +kernel
theorem dX11_condition_172 : decode cX11_condition 172 = .ok (.aload_n 0, 1) := by decide +kernel
theorem dX11_condition_173 : decode cX11_condition 173 = .ok (.iconst 3, 1) := by decide +kernel
theorem dX11_condition_174 : decode cX11_condition 174 = .ok (.bipush 60, 2) := by decide +kernel
theorem dX11_condition_176 : decode cX11_condition 176 = .ok (.invokevirtual 201, 3) := by decide +kernel
theorem dX11_condition_179 : decode cX11_condition 179 = .ok (.ifCond .ne 33, 3) := by decide +kernel
theorem dX11_condition_182 : decode cX11_condition 182 = .ok (.aload_n 0, 1) := by decide +kernel
theorem dX11_condition_183 : decode cX11_condition 183 = .ok (.iconst 3, 1) := by decide +kernel
theorem dX11_condition_184 : decode cX11_condition 184 = .ok (.bipush 62, 2) := by decide +kernel
theorem dX11_condition_186 : decode cX11_condition 186 = .ok (.invokevirtual 201, 3) := by decide +kernel
theorem dX11_condition_189 : decode cX11_condition 189 = .ok (.ifCond .ne 23, 3) := by decide +kernel
theorem dX11_condition_192 : decode cX11_condition 192 = .ok (.aload_n 0, 1) := by decide +kernel
theorem dX11_condition_193 : decode cX11_condition 193 = .ok (.iconst 3, 1) := by decide +kernel
theorem dX11_condition_194 : decode cX11_condition 194 = .ok (.bipush 61, 2) := by decide +kernel
theorem dX11_condition_196 : decode cX11_condition 196 = .ok (.invokevirtual 201, 3) := by decide +kernel
theorem dX11_condition_199 : decode cX11_condition 199 = .ok (.ifCond .ne 13, 3) := by decide +kernel
theorem dX11_condition_202 : decode cX11_condition 202 = .ok (.aload_n 0, 1) := by decide +kernel
theorem dX11_condition_203 : decode cX11_condition 203 = .ok (.iconst 1, 1) := by decide +kernel
theorem dX11_condition_204 : decode cX11_condition 204 = .ok (.aload_n 0, 1) := by decide +kernel
theorem dX11_condition_205 : decode cX11_condition 205 = .ok (.getfield 176, 3) := by decide +kernel
theorem dX11_condition_208 : decode cX11_condition 208 = .ok (.invokevirtual 193, 3) := by decide +kernel
theorem dX11_condition_211 : decode cX11_condition 211 = .ok (.ireturn, 1) := by decide +kernel
theorem dX11_condition_212 : decode cX11_condition 212 = .ok (.aload_n 0, 1) := by decide +kernel
theorem dX11_condition_213 : decode cX11_condition 213 = .ok (.getfield 190, 3) := by decide +kernel
theorem dX11_condition_216 : decode cX11_condition 216 = .ok (.istore 7, 2) := by decide +kernel
theorem dX11_condition_218 : decode cX11_condition 218 = .ok (.aload_n 0, 1) := by decide +kernel
theorem dX11_condition_219 : decode cX11_condition 219 = .ok (.invokevirtual 204, 3) := by decide +kernel
theorem dX11_condition_222 : decode cX11_condition 222 = .ok (.ifCond .ne 5, 3) := by decide +kernel
theorem dX11_condition_225 : decode cX11_condition 225 = .ok (.iconst 0, 1) := by decide +kernel
theorem dX11_condition_226 : decode cX11_condition 226 = .ok (.ireturn, 1) := by decide +kernel
theorem dX11_condition_227 : decode cX11_condition 227 = .ok (.aload_n 0, 1) := by decide +kernel
theorem dX11_condition_228 : decode cX11_condition 228 = .ok (.getfield 179, 3) := by decide +kernel
theorem dX11_condition_231 : decode cX11_condition 231 = .ok (.iconst 2, 1) := by decide +kernel
theorem dX11_condition_232 : decode cX11_condition 232 = .ok (.if_icmp .eq 13, 3) := by decide +kernel
theorem dX11_condition_235 : decode cX11_condition 235 = .ok (.aload_n 0, 1) := by decide +kernel
theorem dX11_condition_236 : decode cX11_condition 236 = .ok (.iconst 1, 1) := by decide +kernel
theorem dX11_condition_237 : decode cX11_condition 237 = .ok (.aload_n 0, 1) := by decide +kernel
theorem dX11_condition_238 : decode cX11_condition 238 = .ok (.getfield 176, 3) := by decide +kernel
theorem dX11_condition_241 : decode cX11_condition 241 = .ok (.invokevirtual 193, 3) := by decide +kernel
theorem dX11_condition_244 : decode cX11_condition 244 = .ok (.ireturn, 1) := by decide +kernel
theorem dX11_condition_245 : decode cX11_condition 245 = .ok (.aload_n 0, 1) := by decide +kernel
theorem dX11_condition_246 : decode cX11_condition 246 = .ok (.iload_n 1, 1) := by decide +kernel
theorem dX11_condition_247 : decode cX11_condition 247 = .ok (.bipush 16, 2) := by decide +kernel
theorem dX11_condition_249 : decode cX11_condition 249 = .ok (.iload 6, 2) := by decide +kernel
theorem dX11_condition_251 : decode cX11_condition 251 = .ok (.imul, 1) := by decide +kernel
theorem dX11_condition_252 : decode cX11_condition 252 = .ok (.iload 7, 2) := by decide +kernel
theorem dX11_condition_254 : decode cX11_condition 254 = .ok (.bipush 60, 2) := by decide +kernel
theorem dX11_condition_256 : decode cX11_condition 256 = .ok (.if_icmp .ne 7, 3) := by decide +kernel
theorem dX11_condition_259 : decode cX11_condition 259 = .ok (.iconst 0, 1) := by decide +kernel
theorem dX11_condition_260 : decode cX11_condition 260 = .ok (.goto 15, 3) := by decide +kernel
theorem dX11_condition_263 : decode cX11_condition 263 = .ok (.iload 7, 2) := by decide +kernel
theorem dX11_condition_265 : decode cX11_condition 265 = .ok (.bipush 62, 2) := by decide +kernel
theorem dX11_condition_267 : decode cX11_condition 267 = .ok (.if_icmp .ne 7, 3) := by decide +kernel
theorem dX11_condition_270 : decode cX11_condition 270 = .ok (.iconst 1, 1) := by decide +kernel
theorem dX11_condition_271 : decode cX11_condition 271 = .ok (.goto 4, 3) := by decide +kernel
theorem dX11_condition_274 : decode cX11_condition 274 = .ok (.iconst 2, 1) := by decide +kernel
theorem dX11_condition_275 : decode cX11_condition 275 = .ok (.iadd, 1) := by decide +kernel
theorem dX11_condition_276 : decode cX11_condition 276 = .ok (.aload_n 0, 1) := by decide +kernel
theorem dX11_condition_277 : decode cX11_condition 277 = .ok (.getfield 190, 3) := by decide +kernel
theorem dX11_condition_280 : decode cX11_condition 280 = .ok (.invokevirtual 211, 3) := by decide +kernel
theorem dX11_condition_283 : decode cX11_condition 283 = .ok (.aload_n 0, 1) := by decide +kernel
theorem dX11_condition_284 : decode cX11_condition 284 = .ok (.invokevirtual 204, 3) := by decide +kernel
theorem dX11_condition_287 : decode cX11_condition 287 = .ok (.ifCond .ne 5, 3) := by decide +kernel
theorem dX11_condition_290 : decode cX11_condition 290 = .ok (.iconst 0, 1) := by decide +kernel
theorem dX11_condition_291 : decode cX11_condition 291 = .ok (.ireturn, 1) := by decide +kernel
theorem dX11_condition_292 : decode cX11_condition 292 = .ok (.iconst 0, 1) := by decide +kernel
theorem dX11_condition_293 : decode cX11_condition 293 = .ok (.istore_n 3, 1) := by decide +kernel
theorem dX11_condition_294 : decode cX11_condition 294 = .ok (.goto (-275), 3) := by decide +kernel
theorem dX11_condition_297 : decode cX11_condition 297 = .ok (.aload_n 0, 1) := by decide +kernel
theorem dX11_condition_298 : decode cX11_condition 298 = .ok (.iconst 1, 1) := by decide +kernel
theorem dX11_condition_299 : decode cX11_condition 299 = .ok (.bipush 6, 2) := by decide +kernel
theorem dX11_condition_301 : decode cX11_condition 301 = .ok (.invokevirtual 201, 3) := by decide +kernel
theorem dX11_condition_304 : decode cX11_condition 304 = .ok (.ifCond .ne 13, 3) := by decide +kernel
theorem dX11_condition_307 : decode cX11_condition 307 = .ok (.aload_n 0, 1) := by decide +kernel
theorem dX11_condition_308 : decode cX11_condition 308 = .ok (.iconst 1, 1) := by decide +kernel
theorem dX11_condition_309 : decode cX11_condition 309 = .ok (.bipush 7, 2) := by decide +kernel
theorem dX11_condition_311 : decode cX11_condition 311 = .ok (.invokevirtual 201, 3) := by decide +kernel
theorem dX11_condition_314 : decode cX11_condition 314 = .ok (.ifCond .eq 46, 3) := by decide +kernel
theorem dX11_condition_317 : decode cX11_condition 317 = .ok (.aload_n 0, 1) := by decide +kernel
theorem dX11_condition_318 : decode cX11_condition 318 = .ok (.iload_n 1, 1) := by decide +kernel
theorem dX11_condition_319 : decode cX11_condition 319 = .ok (.aload_n 0, 1) := by decide +kernel
theorem dX11_condition_320 : decode cX11_condition 320 = .ok (.getfield 190, 3) := by decide +kernel
theorem dX11_condition_323 : decode cX11_condition 323 = .ok (.invokevirtual 215, 3) := by decide +kernel
theorem dX11_condition_326 : decode cX11_condition 326 = .ok (.aload_n 0, 1) := by decide +kernel
theorem dX11_condition_327 : decode cX11_condition 327 = .ok (.getfield 118, 3) := by decide +kernel
theorem dX11_condition_330 : decode cX11_condition 330 = .ok (.aload_n 0, 1) := by decide +kernel
theorem dX11_condition_331 : decode cX11_condition 331 = .ok (.getfield 208, 3) := by decide +kernel
theorem dX11_condition_334 : decode cX11_condition 334 = .ok (.aload_n 0, 1) := by decide +kernel
theorem dX11_condition_335 : decode cX11_condition 335 = .ok (.getfield 190, 3) := by decide +kernel
theorem dX11_condition_338 : decode cX11_condition 338 = .ok (.iastore, 1) := by decide +kernel
theorem dX11_condition_339 : decode cX11_condition 339 = .ok (.aload_n 0, 1) := by decide +kernel
theorem dX11_condition_340 : decode cX11_condition 340 = .ok (.dup, 1) := by decide +kernel
theorem dX11_condition_341 : decode cX11_condition 341 = .ok (.getfield 208, 3) := by decide +kernel
theorem dX11_condition_344 : decode cX11_condition 344 = .ok (.iconst 1, 1) := by decide +kernel
theorem dX11_condition_345 : decode cX11_condition 345 = .ok (.iadd, 1) := by decide +kernel
theorem dX11_condition_346 : decode cX11_condition 346 = .ok (.putfield 208, 3) := by decide +kernel
theorem dX11_condition_349 : decode cX11_condition 349 = .ok (.iconst 1, 1) := by decide +kernel
theorem dX11_condition_350 : decode cX11_condition 350 = .ok (.istore_n 3, 1) := by decide +kernel
theorem dX11_condition_351 : decode cX11_condition 351 = .ok (.aload_n 0, 1) := by decide +kernel
theorem dX11_condition_352 : decode cX11_condition 352 = .ok (.invokevirtual 204, 3) := by decide +kernel
theorem dX11_condition_355 : decode cX11_condition 355 = .ok (.ifCond .ne (-336), 3) := by decide +kernel
theorem dX11_condition_358 : decode cX11_condition 358 = .ok (.iconst 0, 1) := by decide +kernel
theorem dX11_condition_359 : decode cX11_condition 359 = .ok (.ireturn, 1) := by decide +kernel
theorem dX11_condition_360 : decode cX11_condition 360 = .ok (.iload_n 2, 1) := by decide +kernel
theorem dX11_condition_361 : decode cX11_condition 361 = .ok (.ifCond .le 41, 3) := by decide +kernel
theorem dX11_condition_364 : decode cX11_condition 364 = .ok (.aload_n 0, 1) := by decide +kernel
theorem dX11_condition_365 : decode cX11_condition 365 = .ok (.iconst 3, 1) := by decide +kernel
theorem dX11_condition_366 : decode cX11_condition 366 = .ok (.bipush 41, 2) := by decide +kernel
theorem dX11_condition_368 : decode cX11_condition 368 = .ok (.invokevirtual 201, 3) := by decide +kernel
theorem dX11_condition_371 : decode cX11_condition 371 = .ok (.ifCond .eq 31, 3) := by decide +kernel
theorem dX11_condition_374 : decode cX11_condition 374 = .ok (.aload_n 0, 1) := by decide +kernel
theorem dX11_condition_375 : decode cX11_condition 375 = .ok (.iload_n 1, 1) := by decide +kernel
theorem dX11_condition_376 : decode cX11_condition 376 = .ok (.iconst 1, 1) := by decide +kernel
theorem dX11_condition_377 : decode cX11_condition 377 = .ok (.invokevirtual 215, 3) := by decide +kernel
theorem dX11_condition_380 : decode cX11_condition 380 = .ok (.aload_n 0, 1) := by decide +kernel
theorem dX11_condition_381 : decode cX11_condition 381 = .ok (.dup, 1) := by decide +kernel
theorem dX11_condition_382 : decode cX11_condition 382 = .ok (.getfield 208, 3) := by decide +kernel
theorem dX11_condition_385 : decode cX11_condition 385 = .ok (.iconst 1, 1) := by decide +kernel
theorem dX11_condition_386 : decode cX11_condition 386 = .ok (.isub, 1) := by decide +kernel
theorem dX11_condition_387 : decode cX11_condition 387 = .ok (.putfield 208, 3) := by decide +kernel
theorem dX11_condition_390 : decode cX11_condition 390 = .ok (.iinc 2 (-1), 3) := by decide +kernel
theorem dX11_condition_393 : decode cX11_condition 393 = .ok (.aload_n 0, 1) := by decide +kernel
theorem dX11_condition_394 : decode cX11_condition 394 = .ok (.invokevirtual 204, 3) := by decide +kernel
theorem dX11_condition_397 : decode cX11_condition 397 = .ok (.ifCond .ne (-378), 3) := by decide +kernel
theorem dX11_condition_400 : decode cX11_condition 400 = .ok (.iconst 0, 1) := by decide +kernel
theorem dX11_condition_401 : decode cX11_condition 401 = .ok (.ireturn, 1) := by decide +kernel
theorem dX11_condition_402 : decode cX11_condition 402 = .ok (.iload_n 2, 1) := by decide +kernel
theorem dX11_condition_403 : decode cX11_condition 403 = .ok (.ifCond .le 13, 3) := by decide +kernel
theorem dX11_condition_406 : decode cX11_condition 406 = .ok (.aload_n 0, 1) := by decide +kernel
theorem dX11_condition_407 : decode cX11_condition 407 = .ok (.iconst 1, 1) := by decide +kernel
theorem dX11_condition_408 : decode cX11_condition 408 = .ok (.aload_n 0, 1) := by decide +kernel
theorem dX11_condition_409 : decode cX11_condition 409 = .ok (.getfield 176, 3) := by decide +kernel
theorem dX11_condition_412 : decode cX11_condition 412 = .ok (.invokevirtual 193, 3) := by decide +kernel
theorem dX11_condition_415 : decode cX11_condition 415 = .ok (.ireturn, 1) := by decide +kernel
theorem dX11_condition_416 : decode cX11_condition 416 = .ok (.iconst 0, 1) := by decide +kernel
theorem dX11_condition_417 : decode cX11_condition 417 = .ok (.istore 4, 2) := by decide +kernel
theorem dX11_condition_419 : decode cX11_condition 419 = .ok (.goto (-400), 3) := by decide +kernel
theorem dX11_condition_422 : decode cX11_condition 422 = .ok (.aload_n 0, 1) := by decide +kernel
theorem dX11_condition_423 : decode cX11_condition 423 = .ok (.iload_n 1, 1) := by decide +kernel
theorem dX11_condition_424 : decode cX11_condition 424 = .ok (.iconst 1, 1) := by decide +kernel
theorem dX11_condition_425 : decode cX11_condition 425 = .ok (.invokevirtual 215, 3) := by decide +kernel
theorem dX11_condition_428 : decode cX11_condition 428 = .ok (.iconst 1, 1) := by decide +kernel
theorem dX11_condition_429 : decode cX11_condition 429 = .ok (.ireturn, 1) := by decide +kernel
theorem dX11_pays_0 : decode cX11_pays 0 = .ok (.aload_n 0, 1) := by decide +kernel
theorem dX11_pays_1 : decode cX11_pays 1 = .ok (.getfield 100, 3) := by decide +kernel
theorem dX11_pays_4 : decode cX11_pays 4 = .ok (.iload_n 1, 1) := by decide +kernel
theorem dX11_pays_5 : decode cX11_pays 5 = .ok (.iconst 0, 1) := by decide +kernel
theorem dX11_pays_6 : decode cX11_pays 6 = .ok (.iastore, 1) := by decide +kernel
theorem dX11_pays_7 : decode cX11_pays 7 = .ok (.iconst 0, 1) := by decide +kernel
theorem dX11_pays_8 : decode cX11_pays 8 = .ok (.istore_n 2, 1) := by decide +kernel
theorem dX11_pays_9 : decode cX11_pays 9 = .ok (.iconst 1, 1) := by decide +kernel
theorem dX11_pays_10 : decode cX11_pays 10 = .ok (.istore_n 3, 1) := by decide +kernel
theorem dX11_pays_11 : decode cX11_pays 11 = .ok (.iload_n 3, 1) := by decide +kernel
theorem dX11_pays_12 : decode cX11_pays 12 = .ok (.ifCond .eq 121, 3) := by decide +kernel
theorem dX11_pays_15 : decode cX11_pays 15 = .ok (.aload_n 0, 1) := by decide +kernel
theorem dX11_pays_16 : decode cX11_pays 16 = .ok (.getfield 179, 3) := by decide +kernel
theorem dX11_pays_19 : decode cX11_pays 19 = .ok (.iconst 2, 1) := by decide +kernel
theorem dX11_pays_20 : decode cX11_pays 20 = .ok (.if_icmp .eq 13, 3) := by decide +kernel
theorem dX11_pays_23 : decode cX11_pays 23 = .ok (.aload_n 0, 1) := by decide +kernel
theorem dX11_pays_24 : decode cX11_pays 24 = .ok (.iconst 1, 1) := by decide +kernel
theorem dX11_pays_25 : decode cX11_pays 25 = .ok (.aload_n 0, 1) := by decide +kernel
theorem dX11_pays_26 : decode cX11_pays 26 = .ok (.getfield 176, 3) := by decide +kernel
theorem dX11_pays_29 : decode cX11_pays 29 = .ok (.invokevirtual 193, 3) := by decide +kernel
theorem dX11_pays_32 : decode cX11_pays 32 = .ok (.ireturn, 1) := by decide +kernel
theorem dX11_pays_33 : decode cX11_pays 33 = .ok (.aload_n 0, 1) := by decide +kernel
theorem dX11_pays_34 : decode cX11_pays 34 = .ok (.getfield 100, 3) := by decide +kernel
theorem dX11_pays_37 : decode cX11_pays 37 = .ok (.iload_n 1, 1) := by decide +kernel
theorem dX11_pays_38 : decode cX11_pays 38 = .ok (.iaload, 1) := by decide +kernel
theorem dX11_pays_39 : decode cX11_pays 39 = .ok (.bipush 8, 2) := by decide +kernel
theorem dX11_pays_41 : decode cX11_pays 41 = .ok (.if_icmp .ne 13, 3) := by decide +kernel
theorem dX11_pays_44 : decode cX11_pays 44 = .ok (.aload_n 0, 1) := by decide +kernel
theorem dX11_pays_45 : decode cX11_pays 45 = .ok (.iconst 2, 1) := by decide +kernel
theorem dX11_pays_46 : decode cX11_pays 46 = .ok (.aload_n 0, 1) := by decide +kernel
theorem dX11_pays_47 : decode cX11_pays 47 = .ok (.getfield 176, 3) := by decide +kernel
theorem dX11_pays_50 : decode cX11_pays 50 = .ok (.invokevirtual 193, 3) := by decide +kernel
theorem dX11_pays_53 : decode cX11_pays 53 = .ok (.ireturn, 1) := by decide +kernel
theorem dX11_pays_54 : decode cX11_pays 54 = .ok (.iload_n 2, 1) := by decide +kernel
theorem dX11_pays_55 : decode cX11_pays 55 = .ok (.aload_n 0, 1) := by decide +kernel
theorem dX11_pays_56 : decode cX11_pays 56 = .ok (.getfield 190, 3) := by decide +kernel
theorem dX11_pays_59 : decode cX11_pays 59 = .ok (.iadd, 1) := by decide +kernel
theorem dX11_pays_60 : decode cX11_pays 60 = .ok (.istore_n 2, 1) := by decide +kernel
theorem dX11_pays_61 : decode cX11_pays 61 = .ok (.iload_n 2, 1) := by decide +kernel
theorem dX11_pays_62 : decode cX11_pays 62 = .ok (.bipush 100, 2) := by decide +kernel
theorem dX11_pays_64 : decode cX11_pays 64 = .ok (.if_icmp .le 13, 3) := by decide +kernel
theorem dX11_pays_67 : decode cX11_pays 67 = .ok (.aload_n 0, 1) := by decide +kernel
theorem dX11_pays_68 : decode cX11_pays 68 = .ok (.iconst 3, 1) := by decide +kernel
theorem dX11_pays_69 : decode cX11_pays 69 = .ok (.aload_n 0, 1) := by decide +kernel
theorem dX11_pays_70 : decode cX11_pays 70 = .ok (.getfield 176, 3) := by decide +kernel
theorem dX11_pays_73 : decode cX11_pays 73 = .ok (.invokevirtual 193, 3) := by decide +kernel
theorem dX11_pays_76 : decode cX11_pays 76 = .ok (.ireturn, 1) := by decide +kernel
theorem dX11_pays_77 : decode cX11_pays 77 = .ok (.aload_n 0, 1) := by decide +kernel
theorem dX11_pays_78 : decode cX11_pays 78 = .ok (.getfield 103, 3) := by decide +kernel
theorem dX11_pays_81 : decode cX11_pays 81 = .ok (.bipush 8, 2) := by decide +kernel
theorem dX11_pays_83 : decode cX11_pays 83 = .ok (.iload_n 1, 1) := by decide +kernel
theorem dX11_pays_84 : decode cX11_pays 84 = .ok (.imul, 1) := by decide +kernel
theorem dX11_pays_85 : decode cX11_pays 85 = .ok (.aload_n 0, 1) := by decide +kernel
theorem dX11_pays_86 : decode cX11_pays 86 = .ok (.getfield 100, 3) := by decide +kernel
theorem dX11_pays_89 : decode cX11_pays 89 = .ok (.iload_n 1, 1) := by decide +kernel
theorem dX11_pays_90 : decode cX11_pays 90 = .ok (.iaload, 1) := by decide +kernel
theorem dX11_pays_91 : decode cX11_pays 91 = .ok (.iadd, 1) := by decide +kernel
theorem dX11_pays_92 : decode cX11_pays 92 = .ok (.aload_n 0, 1) := by decide +kernel
theorem dX11_pays_93 : decode cX11_pays 93 = .ok (.getfield 190, 3) := by decide +kernel
theorem dX11_pays_96 : decode cX11_pays 96 = .ok (.iastore, 1) := by decide +kernel
theorem dX11_pays_97 : decode cX11_pays 97 = .ok (.aload_n 0, 1) := by decide +kernel
theorem dX11_pays_98 : decode cX11_pays 98 = .ok (.getfield 100, 3) := by decide +kernel
theorem dX11_pays_101 : decode cX11_pays 101 = .ok (.iload_n 1, 1) := by decide +kernel
theorem dX11_pays_102 : decode cX11_pays 102 = .ok (.dup2, 1) := by decide +kernel
theorem dX11_pays_103 : decode cX11_pays 103 = .ok (.iaload, 1) := by decide +kernel
theorem dX11_pays_104 : decode cX11_pays 104 = .ok (.iconst 1, 1) := by decide +kernel
theorem dX11_pays_105 : decode cX11_pays 105 = .ok (.iadd, 1) := by decide +kernel
theorem dX11_pays_106 : decode cX11_pays 106 = .ok (.iastore, 1) := by decide +kernel
theorem dX11_pays_107 : decode cX11_pays 107 = .ok (.aload_n 0, 1) := by decide +kernel
theorem dX11_pays_108 : decode cX11_pays 108 = .ok (.invokevirtual 204, 3) := by decide +kernel
theorem dX11_pays_111 : decode cX11_pays 111 = .ok (.ifCond .ne 5, 3) := by decide +kernel
theorem dX11_pays_114 : decode cX11_pays 114 = .ok (.iconst 0, 1) := by decide +kernel
theorem dX11_pays_115 : decode cX11_pays 115 = .ok (.ireturn, 1) := by decide +kernel
theorem dX11_pays_116 : decode cX11_pays 116 = .ok (.aload_n 0, 1) := by decide +kernel
theorem dX11_pays_117 : decode cX11_pays 117 = .ok (.getfield 179, 3) := by decide +kernel
theorem dX11_pays_120 : decode cX11_pays 120 = .ok (.iconst 2, 1) := by decide +kernel
theorem dX11_pays_121 : decode cX11_pays 121 = .ok (.if_icmp .ne 7, 3) := by decide +kernel
theorem dX11_pays_124 : decode cX11_pays 124 = .ok (.iconst 1, 1) := by decide +kernel
theorem dX11_pays_125 : decode cX11_pays 125 = .ok (.goto 4, 3) := by decide +kernel
theorem dX11_pays_128 : decode cX11_pays 128 = .ok (.iconst 0, 1) := by decide +kernel
theorem dX11_pays_129 : decode cX11_pays 129 = .ok (.istore_n 3, 1) := by decide +kernel
theorem dX11_pays_130 : decode cX11_pays 130 = .ok (.goto (-119), 3) := by decide +kernel
theorem dX11_pays_133 : decode cX11_pays 133 = .ok (.iconst 1, 1) := by decide +kernel
theorem dX11_pays_134 : decode cX11_pays 134 = .ok (.ireturn, 1) := by decide +kernel
theorem dX11_item_0 : decode cX11_item 0 = .ok (.aload_n 0, 1) := by decide +kernel
theorem dX11_item_1 : decode cX11_item 1 = .ok (.getfield 179, 3) := by decide +kernel
theorem dX11_item_4 : decode cX11_item 4 = .ok (.iconst 1, 1) := by decide +kernel
theorem dX11_item_5 : decode cX11_item 5 = .ok (.if_icmp .ne 19, 3) := by decide +kernel
theorem dX11_item_8 : decode cX11_item 8 = .ok (.aload_n 0, 1) := by decide +kernel
theorem dX11_item_9 : decode cX11_item 9 = .ok (.getfield 190, 3) := by decide +kernel
theorem dX11_item_12 : decode cX11_item 12 = .ok (.iconst 2, 1) := by decide +kernel
theorem dX11_item_13 : decode cX11_item 13 = .ok (.if_icmp .lt 11, 3) := by decide +kernel
theorem dX11_item_16 : decode cX11_item 16 = .ok (.aload_n 0, 1) := by decide +kernel
theorem dX11_item_17 : decode cX11_item 17 = .ok (.getfield 190, 3) := by decide +kernel
theorem dX11_item_20 : decode cX11_item 20 = .ok (.iconst 5, 1) := by decide +kernel
theorem dX11_item_21 : decode cX11_item 21 = .ok (.if_icmp .le 13, 3) := by decide +kernel
theorem dX11_item_24 : decode cX11_item 24 = .ok (.aload_n 0, 1) := by decide +kernel
theorem dX11_item_25 : decode cX11_item 25 = .ok (.iconst 1, 1) := by decide +kernel
theorem dX11_item_26 : decode cX11_item 26 = .ok (.aload_n 0, 1) := by decide +kernel
theorem dX11_item_27 : decode cX11_item 27 = .ok (.getfield 176, 3) := by decide +kernel
theorem dX11_item_30 : decode cX11_item 30 = .ok (.invokevirtual 193, 3) := by decide +kernel
theorem dX11_item_33 : decode cX11_item 33 = .ok (.ireturn, 1) := by decide +kernel
theorem dX11_item_34 : decode cX11_item 34 = .ok (.aload_n 0, 1) := by decide +kernel
theorem dX11_item_35 : decode cX11_item 35 = .ok (.getfield 190, 3) := by decide +kernel
theorem dX11_item_38 : decode cX11_item 38 = .ok (.istore_n 2, 1) := by decide +kernel
theorem dX11_item_39 : decode cX11_item 39 = .ok (.iload_n 2, 1) := by decide +kernel
theorem dX11_item_40 : decode cX11_item 40 = .ok (.iconst 2, 1) := by decide +kernel
theorem dX11_item_41 : decode cX11_item 41 = .ok (.if_icmp .ne 12, 3) := by decide +kernel
theorem dX11_item_44 : decode cX11_item 44 = .ok (.aload_n 0, 1) := by decide +kernel
theorem dX11_item_45 : decode cX11_item 45 = .ok (.getfield 106, 3) := by decide +kernel
theorem dX11_item_48 : decode cX11_item 48 = .ok (.iload_n 1, 1) := by decide +kernel
theorem dX11_item_49 : decode cX11_item 49 = .ok (.iaload, 1) := by decide +kernel
theorem dX11_item_50 : decode cX11_item 50 = .ok (.goto 37, 3) := by decide +kernel
theorem dX11_item_53 : decode cX11_item 53 = .ok (.iload_n 2, 1) := by decide +kernel
theorem dX11_item_54 : decode cX11_item 54 = .ok (.iconst 3, 1) := by decide +kernel
theorem dX11_item_55 : decode cX11_item 55 = .ok (.if_icmp .ne 12, 3) := by decide +kernel
theorem dX11_item_58 : decode cX11_item 58 = .ok (.aload_n 0, 1) := by decide +kernel
theorem dX11_item_59 : decode cX11_item 59 = .ok (.getfield 94, 3) := by decide +kernel
theorem dX11_item_62 : decode cX11_item 62 = .ok (.iload_n 1, 1) := by decide +kernel
theorem dX11_item_63 : decode cX11_item 63 = .ok (.iaload, 1) := by decide +kernel
theorem dX11_item_64 : decode cX11_item 64 = .ok (.goto 23, 3) := by decide +kernel
theorem dX11_item_67 : decode cX11_item 67 = .ok (.iload_n 2, 1) := by decide +kernel
theorem dX11_item_68 : decode cX11_item 68 = .ok (.iconst 4, 1) := by decide +kernel
theorem dX11_item_69 : decode cX11_item 69 = .ok (.if_icmp .ne 12, 3) := by decide +kernel
theorem dX11_item_72 : decode cX11_item 72 = .ok (.aload_n 0, 1) := by decide +kernel
theorem dX11_item_73 : decode cX11_item 73 = .ok (.getfield 97, 3) := by decide +kernel
theorem dX11_item_76 : decode cX11_item 76 = .ok (.iload_n 1, 1) := by decide +kernel
theorem dX11_item_77 : decode cX11_item 77 = .ok (.iaload, 1) := by decide +kernel
theorem dX11_item_78 : decode cX11_item 78 = .ok (.goto 9, 3) := by decide +kernel
theorem dX11_item_81 : decode cX11_item 81 = .ok (.aload_n 0, 1) := by decide +kernel
theorem dX11_item_82 : decode cX11_item 82 = .ok (.getfield 100, 3) := by decide +kernel
theorem dX11_item_85 : decode cX11_item 85 = .ok (.iload_n 1, 1) := by decide +kernel
theorem dX11_item_86 : decode cX11_item 86 = .ok (.iaload, 1) := by decide +kernel
theorem dX11_item_87 : decode cX11_item 87 = .ok (.istore_n 3, 1) := by decide +kernel
theorem dX11_item_88 : decode cX11_item 88 = .ok (.iload_n 3, 1) := by decide +kernel
theorem dX11_item_89 : decode cX11_item 89 = .ok (.iconst (-1), 1) := by decide +kernel
theorem dX11_item_90 : decode cX11_item 90 = .ok (.if_icmp .eq 13, 3) := by decide +kernel
theorem dX11_item_93 : decode cX11_item 93 = .ok (.aload_n 0, 1) := by decide +kernel
theorem dX11_item_94 : decode cX11_item 94 = .ok (.iconst 3, 1) := by decide +kernel
theorem dX11_item_95 : decode cX11_item 95 = .ok (.aload_n 0, 1) := by decide +kernel
theorem dX11_item_96 : decode cX11_item 96 = .ok (.getfield 176, 3) := by decide +kernel
theorem dX11_item_99 : decode cX11_item 99 = .ok (.invokevirtual 193, 3) := by decide +kernel
theorem dX11_item_102 : decode cX11_item 102 = .ok (.ireturn, 1) := by decide +kernel
theorem dX11_item_103 : decode cX11_item 103 = .ok (.aload_n 0, 1) := by decide +kernel
theorem dX11_item_104 : decode cX11_item 104 = .ok (.invokevirtual 204, 3) := by decide +kernel
theorem dX11_item_107 : decode cX11_item 107 = .ok (.ifCond .ne 5, 3) := by decide +kernel
theorem dX11_item_110 : decode cX11_item 110 = .ok (.iconst 0, 1) := by decide +kernel
theorem dX11_item_111 : decode cX11_item 111 = .ok (.ireturn, 1) := by decide +kernel
theorem dX11_item_112 : decode cX11_item 112 = .ok (.iload_n 2, 1) := by decide +kernel
theorem dX11_item_113 : decode cX11_item 113 = .ok (.iconst 2, 1) := by decide +kernel
theorem dX11_item_114 : decode cX11_item 114 = .ok (.if_icmp .ne 27, 3) := by decide +kernel
theorem dX11_item_117 : decode cX11_item 117 = .ok (.aload_n 0, 1) := by decide +kernel
theorem dX11_item_118 : decode cX11_item 118 = .ok (.iload_n 1, 1) := by decide +kernel
theorem dX11_item_119 : decode cX11_item 119 = .ok (.invokevirtual 219, 3) := by decide +kernel
theorem dX11_item_122 : decode cX11_item 122 = .ok (.ifCond .eq 17, 3) := by decide +kernel
theorem dX11_item_125 : decode cX11_item 125 = .ok (.aload_n 0, 1) := by decide +kernel
theorem dX11_item_126 : decode cX11_item 126 = .ok (.iconst 3, 1) := by decide +kernel
theorem dX11_item_127 : decode cX11_item 127 = .ok (.bipush 59, 2) := by decide +kernel
theorem dX11_item_129 : decode cX11_item 129 = .ok (.invokevirtual 222, 3) := by decide +kernel
theorem dX11_item_132 : decode cX11_item 132 = .ok (.ifCond .eq 7, 3) := by decide +kernel
theorem dX11_item_135 : decode cX11_item 135 = .ok (.iconst 1, 1) := by decide +kernel
theorem dX11_item_136 : decode cX11_item 136 = .ok (.goto 4, 3) := by decide +kernel
theorem dX11_item_139 : decode cX11_item 139 = .ok (.iconst 0, 1) := by decide +kernel
theorem dX11_item_140 : decode cX11_item 140 = .ok (.ireturn, 1) := by decide +kernel
theorem dX11_item_141 : decode cX11_item 141 = .ok (.iload_n 2, 1) := by decide +kernel
theorem dX11_item_142 : decode cX11_item 142 = .ok (.iconst 5, 1) := by decide +kernel
theorem dX11_item_143 : decode cX11_item 143 = .ok (.if_icmp .ne 27, 3) := by decide +kernel
theorem dX11_item_146 : decode cX11_item 146 = .ok (.aload_n 0, 1) := by decide +kernel
theorem dX11_item_147 : decode cX11_item 147 = .ok (.iload_n 1, 1) := by decide +kernel
theorem dX11_item_148 : decode cX11_item 148 = .ok (.invokevirtual 225, 3) := by decide +kernel
theorem dX11_item_151 : decode cX11_item 151 = .ok (.ifCond .eq 17, 3) := by decide +kernel
theorem dX11_item_154 : decode cX11_item 154 = .ok (.aload_n 0, 1) := by decide +kernel
theorem dX11_item_155 : decode cX11_item 155 = .ok (.iconst 3, 1) := by decide +kernel
theorem dX11_item_156 : decode cX11_item 156 = .ok (.bipush 59, 2) := by decide +kernel
theorem dX11_item_158 : decode cX11_item 158 = .ok (.invokevirtual 222, 3) := by decide +kernel
theorem dX11_item_161 : decode cX11_item 161 = .ok (.ifCond .eq 7, 3) := by decide +kernel
theorem dX11_item_164 : decode cX11_item 164 = .ok (.iconst 1, 1) := by decide +kernel
theorem dX11_item_165 : decode cX11_item 165 = .ok (.goto 4, 3) := by decide +kernel
theorem dX11_item_168 : decode cX11_item 168 = .ok (.iconst 0, 1) := by decide +kernel
theorem dX11_item_169 : decode cX11_item 169 = .ok (.ireturn, 1) := by decide +kernel
theorem dX11_item_170 : decode cX11_item 170 = .ok (.aload_n 0, 1) := by decide +kernel
theorem dX11_item_171 : decode cX11_item 171 = .ok (.getfield 179, 3) := by decide +kernel
theorem dX11_item_174 : decode cX11_item 174 = .ok (.iconst 2, 1) := by decide +kernel
theorem dX11_item_175 : decode cX11_item 175 = .ok (.if_icmp .eq 13, 3) := by decide +kernel
theorem dX11_item_178 : decode cX11_item 178 = .ok (.aload_n 0, 1) := by decide +kernel
theorem dX11_item_179 : decode cX11_item 179 = .ok (.iconst 1, 1) := by decide +kernel
theorem dX11_item_180 : decode cX11_item 180 = .ok (.aload_n 0, 1) := by decide +kernel
theorem dX11_item_181 : decode cX11_item 181 = .ok (.getfield 176, 3) := by decide +kernel
theorem dX11_item_184 : decode cX11_item 184 = .ok (.invokevirtual 193, 3) := by decide +kernel
theorem dX11_item_187 : decode cX11_item 187 = .ok (.ireturn, 1) := by decide +kernel
theorem dX11_item_188 : decode cX11_item 188 = .ok (.iload_n 2, 1) := by decide +kernel
theorem dX11_item_189 : decode cX11_item 189 = .ok (.iconst 3, 1) := by decide +kernel
theorem dX11_item_190 : decode cX11_item 190 = .ok (.if_icmp .ne 20, 3) := by decide +kernel
theorem dX11_item_193 : decode cX11_item 193 = .ok (.aload_n 0, 1) := by decide +kernel
theorem dX11_item_194 : decode cX11_item 194 = .ok (.getfield 190, 3) := by decide +kernel
theorem dX11_item_197 : decode cX11_item 197 = .ok (.ifCond .ne 13, 3) := by decide +kernel
theorem dX11_item_200 : decode cX11_item 200 = .ok (.aload_n 0, 1) := by decide +kernel
theorem dX11_item_201 : decode cX11_item 201 = .ok (.iconst 3, 1) := by decide +kernel
theorem dX11_item_202 : decode cX11_item 202 = .ok (.aload_n 0, 1) := by decide +kernel
theorem dX11_item_203 : decode cX11_item 203 = .ok (.getfield 176, 3) := by decide +kernel
theorem dX11_item_206 : decode cX11_item 206 = .ok (.invokevirtual 193, 3) := by decide +kernel
theorem dX11_item_209 : decode cX11_item 209 = .ok (.ireturn, 1) := by decide +kernel
theorem dX11_item_210 : decode cX11_item 210 = .ok (.iload_n 2, 1) := by decide +kernel
theorem dX11_item_211 : decode cX11_item 211 = .ok (.iconst 3, 1) := by decide +kernel
theorem dX11_item_212 : decode cX11_item 212 = .ok (.if_icmp .ne 16, 3) := by decide +kernel
theorem dX11_item_215 : decode cX11_item 215 = .ok (.aload_n 0, 1) := by decide +kernel
theorem dX11_item_216 : decode cX11_item 216 = .ok (.getfield 94, 3) := by decide +kernel
theorem dX11_item_219 : decode cX11_item 219 = .ok (.iload_n 1, 1) := by decide +kernel
theorem dX11_item_220 : decode cX11_item 220 = .ok (.aload_n 0, 1) := by decide +kernel
theorem dX11_item_221 : decode cX11_item 221 = .ok (.getfield 190, 3) := by decide +kernel
theorem dX11_item_224 : decode cX11_item 224 = .ok (.iastore, 1) := by decide +kernel
theorem dX11_item_225 : decode cX11_item 225 = .ok (.goto 13, 3) := by decide +kernel
theorem dX11_item_228 : decode cX11_item 228 = .ok (.aload_n 0, 1) := by decide +kernel
theorem dX11_item_229 : decode cX11_item 229 = .ok (.getfield 97, 3) := by decide +kernel
theorem dX11_item_232 : decode cX11_item 232 = .ok (.iload_n 1, 1) := by decide +kernel
theorem dX11_item_233 : decode cX11_item 233 = .ok (.aload_n 0, 1) := by decide +kernel
theorem dX11_item_234 : decode cX11_item 234 = .ok (.getfield 190, 3) := by decide +kernel
theorem dX11_item_237 : decode cX11_item 237 = .ok (.iastore, 1) := by decide +kernel
theorem dX11_item_238 : decode cX11_item 238 = .ok (.aload_n 0, 1) := by decide +kernel
theorem dX11_item_239 : decode cX11_item 239 = .ok (.invokevirtual 204, 3) := by decide +kernel
theorem dX11_item_242 : decode cX11_item 242 = .ok (.ifCond .eq 17, 3) := by decide +kernel
theorem dX11_item_245 : decode cX11_item 245 = .ok (.aload_n 0, 1) := by decide +kernel
theorem dX11_item_246 : decode cX11_item 246 = .ok (.iconst 3, 1) := by decide +kernel
theorem dX11_item_247 : decode cX11_item 247 = .ok (.bipush 59, 2) := by decide +kernel
theorem dX11_item_249 : decode cX11_item 249 = .ok (.invokevirtual 222, 3) := by decide +kernel
theorem dX11_item_252 : decode cX11_item 252 = .ok (.ifCond .eq 7, 3) := by decide +kernel
theorem dX11_item_255 : decode cX11_item 255 = .ok (.iconst 1, 1) := by decide +kernel
theorem dX11_item_256 : decode cX11_item 256 = .ok (.goto 4, 3) := by decide +kernel
theorem dX11_item_259 : decode cX11_item 259 = .ok (.iconst 0, 1) := by decide +kernel
theorem dX11_item_260 : decode cX11_item 260 = .ok (.ireturn, 1) := by decide +kernel
theorem dX11_text_0 : decode cX11_text 0 = .ok (.aload_n 0, 1) := by decide +kernel
theorem dX11_text_1 : decode cX11_text 1 = .ok (.iconst 0, 1) := by decide +kernel
theorem dX11_text_2 : decode cX11_text 2 = .ok (.putfield 173, 3) := by decide +kernel
theorem dX11_text_5 : decode cX11_text 5 = .ok (.aload_n 0, 1) := by decide +kernel
theorem dX11_text_6 : decode cX11_text 6 = .ok (.iconst 0, 1) := by decide +kernel
theorem dX11_text_7 : decode cX11_text 7 = .ok (.putfield 228, 3) := by decide +kernel
theorem dX11_text_10 : decode cX11_text 10 = .ok (.aload_n 0, 1) := by decide +kernel
theorem dX11_text_11 : decode cX11_text 11 = .ok (.invokevirtual 204, 3) := by decide +kernel
theorem dX11_text_14 : decode cX11_text 14 = .ok (.ifCond .ne 5, 3) := by decide +kernel
theorem dX11_text_17 : decode cX11_text 17 = .ok (.iconst 0, 1) := by decide +kernel
theorem dX11_text_18 : decode cX11_text 18 = .ok (.ireturn, 1) := by decide +kernel
theorem dX11_text_19 : decode cX11_text 19 = .ok (.iconst 1, 1) := by decide +kernel
theorem dX11_text_20 : decode cX11_text 20 = .ok (.istore_n 1, 1) := by decide +kernel
theorem dX11_text_21 : decode cX11_text 21 = .ok (.iload_n 1, 1) := by decide +kernel
theorem dX11_text_22 : decode cX11_text 22 = .ok (.ifCond .eq 159, 3) := by decide +kernel
theorem dX11_text_25 : decode cX11_text 25 = .ok (.aload_n 0, 1) := by decide +kernel
theorem dX11_text_26 : decode cX11_text 26 = .ok (.iconst 1, 1) := by decide +kernel
theorem dX11_text_27 : decode cX11_text 27 = .ok (.iconst 1, 1) := by decide +kernel
theorem dX11_text_28 : decode cX11_text 28 = .ok (.invokevirtual 201, 3) := by decide +kernel
theorem dX11_text_31 : decode cX11_text 31 = .ok (.ifCond .ne 13, 3) := by decide +kernel
theorem dX11_text_34 : decode cX11_text 34 = .ok (.aload_n 0, 1) := by decide +kernel
theorem dX11_text_35 : decode cX11_text 35 = .ok (.iconst 1, 1) := by decide +kernel
theorem dX11_text_36 : decode cX11_text 36 = .ok (.aload_n 0, 1) := by decide +kernel
theorem dX11_text_37 : decode cX11_text 37 = .ok (.getfield 176, 3) := by decide +kernel
theorem dX11_text_40 : decode cX11_text 40 = .ok (.invokevirtual 193, 3) := by decide +kernel
theorem dX11_text_43 : decode cX11_text 43 = .ok (.ireturn, 1) := by decide +kernel
theorem dX11_text_44 : decode cX11_text 44 = .ok (.aload_n 0, 1) := by decide +kernel
theorem dX11_text_45 : decode cX11_text 45 = .ok (.getfield 228, 3) := by decide +kernel
theorem dX11_text_48 : decode cX11_text 48 = .ok (.bipush 6, 2) := by decide +kernel
theorem dX11_text_50 : decode cX11_text 50 = .ok (.if_icmp .ne 13, 3) := by decide +kernel
theorem dX11_text_53 : decode cX11_text 53 = .ok (.aload_n 0, 1) := by decide +kernel
theorem dX11_text_54 : decode cX11_text 54 = .ok (.iconst 2, 1) := by decide +kernel
theorem dX11_text_55 : decode cX11_text 55 = .ok (.aload_n 0, 1) := by decide +kernel
theorem dX11_text_56 : decode cX11_text 56 = .ok (.getfield 176, 3) := by decide +kernel
theorem dX11_text_59 : decode cX11_text 59 = .ok (.invokevirtual 193, 3) := by decide +kernel
theorem dX11_text_62 : decode cX11_text 62 = .ok (.ireturn, 1) := by decide +kernel
theorem dX11_text_63 : decode cX11_text 63 = .ok (.bipush 6, 2) := by decide +kernel
theorem dX11_text_65 : decode cX11_text 65 = .ok (.bipush 6, 2) := by decide +kernel
theorem dX11_text_67 : decode cX11_text 67 = .ok (.aload_n 0, 1) := by decide +kernel
theorem dX11_text_68 : decode cX11_text 68 = .ok (.getfield 231, 3) := by decide +kernel
theorem dX11_text_71 : decode cX11_text 71 = .ok (.imul, 1) := by decide +kernel
theorem dX11_text_72 : decode cX11_text 72 = .ok (.isub, 1) := by decide +kernel
theorem dX11_text_73 : decode cX11_text 73 = .ok (.aload_n 0, 1) := by decide +kernel
theorem dX11_text_74 : decode cX11_text 74 = .ok (.getfield 228, 3) := by decide +kernel
theorem dX11_text_77 : decode cX11_text 77 = .ok (.iadd, 1) := by decide +kernel
theorem dX11_text_78 : decode cX11_text 78 = .ok (.istore_n 2, 1) := by decide +kernel
theorem dX11_text_79 : decode cX11_text 79 = .ok (.aload_n 0, 1) := by decide +kernel
theorem dX11_text_80 : decode cX11_text 80 = .ok (.getfield 94, 3) := by decide +kernel
theorem dX11_text_83 : decode cX11_text 83 = .ok (.iload_n 2, 1) := by decide +kernel
theorem dX11_text_84 : decode cX11_text 84 = .ok (.iconst (-1), 1) := by decide +kernel
theorem dX11_text_85 : decode cX11_text 85 = .ok (.iastore, 1) := by decide +kernel
theorem dX11_text_86 : decode cX11_text 86 = .ok (.aload_n 0, 1) := by decide +kernel
theorem dX11_text_87 : decode cX11_text 87 = .ok (.getfield 97, 3) := by decide +kernel
theorem dX11_text_90 : decode cX11_text 90 = .ok (.iload_n 2, 1) := by decide +kernel
theorem dX11_text_91 : decode cX11_text 91 = .ok (.iconst (-1), 1) := by decide +kernel
theorem dX11_text_92 : decode cX11_text 92 = .ok (.iastore, 1) := by decide +kernel
theorem dX11_text_93 : decode cX11_text 93 = .ok (.aload_n 0, 1) := by decide +kernel
theorem dX11_text_94 : decode cX11_text 94 = .ok (.getfield 100, 3) := by decide +kernel
theorem dX11_text_97 : decode cX11_text 97 = .ok (.iload_n 2, 1) := by decide +kernel
theorem dX11_text_98 : decode cX11_text 98 = .ok (.iconst (-1), 1) := by decide +kernel
theorem dX11_text_99 : decode cX11_text 99 = .ok (.iastore, 1) := by decide +kernel
theorem dX11_text_100 : decode cX11_text 100 = .ok (.aload_n 0, 1) := by decide +kernel
theorem dX11_text_101 : decode cX11_text 101 = .ok (.getfield 106, 3) := by decide +kernel
theorem dX11_text_104 : decode cX11_text 104 = .ok (.iload_n 2, 1) := by decide +kernel
theorem dX11_text_105 : decode cX11_text 105 = .ok (.iconst (-1), 1) := by decide +kernel
theorem dX11_text_106 : decode cX11_text 106 = .ok (.iastore, 1) := by decide +kernel
theorem dX11_text_107 : decode cX11_text 107 = .ok (.aload_n 0, 1) := by decide +kernel
theorem dX11_text_108 : decode cX11_text 108 = .ok (.invokevirtual 204, 3) := by decide +kernel
theorem dX11_text_111 : decode cX11_text 111 = .ok (.ifCond .eq 13, 3) := by decide +kernel
theorem dX11_text_114 : decode cX11_text 114 = .ok (.aload_n 0, 1) := by decide +kernel
theorem dX11_text_115 : decode cX11_text 115 = .ok (.iconst 3, 1) := by decide +kernel
theorem dX11_text_116 : decode cX11_text 116 = .ok (.bipush 123, 2) := by decide +kernel
theorem dX11_text_118 : decode cX11_text 118 = .ok (.invokevirtual 222, 3) := by decide +kernel
theorem dX11_text_121 : decode cX11_text 121 = .ok (.ifCond .ne 5, 3) := by decide +kernel
theorem dX11_text_124 : decode cX11_text 124 = .ok (.iconst 0, 1) := by decide +kernel
theorem dX11_text_125 : decode cX11_text 125 = .ok (.ireturn, 1) := by decide +kernel
theorem dX11_text_126 : decode cX11_text 126 = .ok (.aload_n 0, 1) := by decide +kernel
theorem dX11_text_127 : decode cX11_text 127 = .ok (.iconst 3, 1) := by decide +kernel
theorem dX11_text_128 : decode cX11_text 128 = .ok (.bipush 125, 2) := by decide +kernel
theorem dX11_text_130 : decode cX11_text 130 = .ok (.invokevirtual 201, 3) := by decide +kernel
theorem dX11_text_133 : decode cX11_text 133 = .ok (.ifCond .ne 13, 3) := by decide +kernel
theorem dX11_text_136 : decode cX11_text 136 = .ok (.aload_n 0, 1) := by decide +kernel
theorem dX11_text_137 : decode cX11_text 137 = .ok (.iload_n 2, 1) := by decide +kernel
theorem dX11_text_138 : decode cX11_text 138 = .ok (.invokevirtual 234, 3) := by decide +kernel
theorem dX11_text_141 : decode cX11_text 141 = .ok (.ifCond .ne (-15), 3) := by decide +kernel
theorem dX11_text_144 : decode cX11_text 144 = .ok (.iconst 0, 1) := by decide +kernel
theorem dX11_text_145 : decode cX11_text 145 = .ok (.ireturn, 1) := by decide +kernel
theorem dX11_text_146 : decode cX11_text 146 = .ok (.aload_n 0, 1) := by decide +kernel
theorem dX11_text_147 : decode cX11_text 147 = .ok (.dup, 1) := by decide +kernel
theorem dX11_text_148 : decode cX11_text 148 = .ok (.getfield 228, 3) := by decide +kernel
theorem dX11_text_151 : decode cX11_text 151 = .ok (.iconst 1, 1) := by decide +kernel
theorem dX11_text_152 : decode cX11_text 152 = .ok (.iadd, 1) := by decide +kernel
theorem dX11_text_153 : decode cX11_text 153 = .ok (.putfield 228, 3) := by decide +kernel
theorem dX11_text_156 : decode cX11_text 156 = .ok (.aload_n 0, 1) := by decide +kernel
theorem dX11_text_157 : decode cX11_text 157 = .ok (.invokevirtual 204, 3) := by decide +kernel
theorem dX11_text_160 : decode cX11_text 160 = .ok (.ifCond .ne 5, 3) := by decide +kernel
theorem dX11_text_163 : decode cX11_text 163 = .ok (.iconst 0, 1) := by decide +kernel
theorem dX11_text_164 : decode cX11_text 164 = .ok (.ireturn, 1) := by decide +kernel
theorem dX11_text_165 : decode cX11_text 165 = .ok (.aload_n 0, 1) := by decide +kernel
theorem dX11_text_166 : decode cX11_text 166 = .ok (.getfield 179, 3) := by decide +kernel
theorem dX11_text_169 : decode cX11_text 169 = .ok (.ifCond .eq 7, 3) := by decide +kernel
theorem dX11_text_172 : decode cX11_text 172 = .ok (.iconst 1, 1) := by decide +kernel
theorem dX11_text_173 : decode cX11_text 173 = .ok (.goto 4, 3) := by decide +kernel
theorem dX11_text_176 : decode cX11_text 176 = .ok (.iconst 0, 1) := by decide +kernel
theorem dX11_text_177 : decode cX11_text 177 = .ok (.istore_n 1, 1) := by decide +kernel
theorem dX11_text_178 : decode cX11_text 178 = .ok (.goto (-157), 3) := by decide +kernel
theorem dX11_text_181 : decode cX11_text 181 = .ok (.iconst 1, 1) := by decide +kernel
theorem dX11_text_182 : decode cX11_text 182 = .ok (.ireturn, 1) := by decide +kernel
theorem dX11_lists_0 : decode cX11_lists 0 = .ok (.aload_n 0, 1) := by decide +kernel
theorem dX11_lists_1 : decode cX11_lists 1 = .ok (.iconst 0, 1) := by decide +kernel
theorem dX11_lists_2 : decode cX11_lists 2 = .ok (.putfield 157, 3) := by decide +kernel
theorem dX11_lists_5 : decode cX11_lists 5 = .ok (.iload_n 1, 1) := by decide +kernel
theorem dX11_lists_6 : decode cX11_lists 6 = .ok (.ifCond .lt 11, 3) := by decide +kernel
theorem dX11_lists_9 : decode cX11_lists 9 = .ok (.iload_n 1, 1) := by decide +kernel
theorem dX11_lists_10 : decode cX11_lists 10 = .ok (.aload_n 0, 1) := by decide +kernel
theorem dX11_lists_11 : decode cX11_lists 11 = .ok (.getfield 160, 3) := by decide +kernel
theorem dX11_lists_14 : decode cX11_lists 14 = .ok (.if_icmp .le 6, 3) := by decide +kernel
theorem dX11_lists_17 : decode cX11_lists 17 = .ok (.bipush (-2), 2) := by decide +kernel
theorem dX11_lists_19 : decode cX11_lists 19 = .ok (.ireturn, 1) := by decide +kernel
theorem dX11_lists_20 : decode cX11_lists 20 = .ok (.iconst 0, 1) := by decide +kernel
theorem dX11_lists_21 : decode cX11_lists 21 = .ok (.istore_n 2, 1) := by decide +kernel
theorem dX11_lists_22 : decode cX11_lists 22 = .ok (.iload_n 2, 1) := by decide +kernel
theorem dX11_lists_23 : decode cX11_lists 23 = .ok (.sipush 864, 3) := by decide +kernel
theorem dX11_lists_26 : decode cX11_lists 26 = .ok (.if_icmp .ge 21, 3) := by decide +kernel
theorem dX11_lists_29 : decode cX11_lists 29 = .ok (.aload_n 0, 1) := by decide +kernel
theorem dX11_lists_30 : decode cX11_lists 30 = .ok (.getfield 77, 3) := by decide +kernel
theorem dX11_lists_33 : decode cX11_lists 33 = .ok (.iload_n 2, 1) := by decide +kernel
theorem dX11_lists_34 : decode cX11_lists 34 = .ok (.iaload, 1) := by decide +kernel
theorem dX11_lists_35 : decode cX11_lists 35 = .ok (.ifCond .le 6, 3) := by decide +kernel
theorem dX11_lists_38 : decode cX11_lists 38 = .ok (.bipush (-2), 2) := by decide +kernel
theorem dX11_lists_40 : decode cX11_lists 40 = .ok (.ireturn, 1) := by decide +kernel
theorem dX11_lists_41 : decode cX11_lists 41 = .ok (.iinc 2 1, 3) := by decide +kernel
theorem dX11_lists_44 : decode cX11_lists 44 = .ok (.goto (-22), 3) := by decide +kernel
theorem dX11_lists_47 : decode cX11_lists 47 = .ok (.aload_n 0, 1) := by decide +kernel
theorem dX11_lists_48 : decode cX11_lists 48 = .ok (.iload_n 1, 1) := by decide +kernel
theorem dX11_lists_49 : decode cX11_lists 49 = .ok (.putfield 170, 3) := by decide +kernel
theorem dX11_lists_52 : decode cX11_lists 52 = .ok (.aload_n 0, 1) := by decide +kernel
theorem dX11_lists_53 : decode cX11_lists 53 = .ok (.iconst 0, 1) := by decide +kernel
theorem dX11_lists_54 : decode cX11_lists 54 = .ok (.putfield 160, 3) := by decide +kernel
theorem dX11_lists_57 : decode cX11_lists 57 = .ok (.aload_n 0, 1) := by decide +kernel
theorem dX11_lists_58 : decode cX11_lists 58 = .ok (.iconst 0, 1) := by decide +kernel
theorem dX11_lists_59 : decode cX11_lists 59 = .ok (.putfield 163, 3) := by decide +kernel
theorem dX11_lists_62 : decode cX11_lists 62 = .ok (.aload_n 0, 1) := by decide +kernel
theorem dX11_lists_63 : decode cX11_lists 63 = .ok (.iconst (-1), 1) := by decide +kernel
theorem dX11_lists_64 : decode cX11_lists 64 = .ok (.putfield 115, 3) := by decide +kernel
theorem dX11_lists_67 : decode cX11_lists 67 = .ok (.aload_n 0, 1) := by decide +kernel
theorem dX11_lists_68 : decode cX11_lists 68 = .ok (.invokevirtual 237, 3) := by decide +kernel
theorem dX11_lists_71 : decode cX11_lists 71 = .ok (.ifCond .ne 5, 3) := by decide +kernel
theorem dX11_lists_74 : decode cX11_lists 74 = .ok (.iconst (-1), 1) := by decide +kernel
theorem dX11_lists_75 : decode cX11_lists 75 = .ok (.ireturn, 1) := by decide +kernel
theorem dX11_lists_76 : decode cX11_lists 76 = .ok (.aload_n 0, 1) := by decide +kernel
theorem dX11_lists_77 : decode cX11_lists 77 = .ok (.iconst 1, 1) := by decide +kernel
theorem dX11_lists_78 : decode cX11_lists 78 = .ok (.aload_n 0, 1) := by decide +kernel
theorem dX11_lists_79 : decode cX11_lists 79 = .ok (.getfield 231, 3) := by decide +kernel
theorem dX11_lists_82 : decode cX11_lists 82 = .ok (.isub, 1) := by decide +kernel
theorem dX11_lists_83 : decode cX11_lists 83 = .ok (.putfield 231, 3) := by decide +kernel
theorem dX11_lists_86 : decode cX11_lists 86 = .ok (.aload_n 0, 1) := by decide +kernel
theorem dX11_lists_87 : decode cX11_lists 87 = .ok (.aload_n 0, 1) := by decide +kernel
theorem dX11_lists_88 : decode cX11_lists 88 = .ok (.getfield 228, 3) := by decide +kernel
theorem dX11_lists_91 : decode cX11_lists 91 = .ok (.putfield 90, 3) := by decide +kernel
theorem dX11_lists_94 : decode cX11_lists 94 = .ok (.iconst 0, 1) := by decide +kernel
theorem dX11_lists_95 : decode cX11_lists 95 = .ok (.istore_n 2, 1) := by decide +kernel
theorem dX11_lists_96 : decode cX11_lists 96 = .ok (.iload_n 2, 1) := by decide +kernel
theorem dX11_lists_97 : decode cX11_lists 97 = .ok (.bipush 36, 2) := by decide +kernel
theorem dX11_lists_99 : decode cX11_lists 99 = .ok (.if_icmp .ge 16, 3) := by decide +kernel
theorem dX11_lists_102 : decode cX11_lists 102 = .ok (.aload_n 0, 1) := by decide +kernel
theorem dX11_lists_103 : decode cX11_lists 103 = .ok (.getfield 80, 3) := by decide +kernel
theorem dX11_lists_106 : decode cX11_lists 106 = .ok (.iload_n 2, 1) := by decide +kernel
theorem dX11_lists_107 : decode cX11_lists 107 = .ok (.iconst 0, 1) := by decide +kernel
theorem dX11_lists_108 : decode cX11_lists 108 = .ok (.bastore, 1) := by decide +kernel
theorem dX11_lists_109 : decode cX11_lists 109 = .ok (.iinc 2 1, 3) := by decide +kernel
theorem dX11_lists_112 : decode cX11_lists 112 = .ok (.goto (-16), 3) := by decide +kernel
theorem dX11_lists_115 : decode cX11_lists 115 = .ok (.aload_n 0, 1) := by decide +kernel
theorem dX11_lists_116 : decode cX11_lists 116 = .ok (.getfield 90, 3) := by decide +kernel
theorem dX11_lists_119 : decode cX11_lists 119 = .ok (.ireturn, 1) := by decide +kernel
theorem dX11_fault_0 : decode cX11_fault 0 = .ok (.aload_n 0, 1) := by decide +kernel
theorem dX11_fault_1 : decode cX11_fault 1 = .ok (.iconst 0, 1) := by decide +kernel
theorem dX11_fault_2 : decode cX11_fault 2 = .ok (.putfield 157, 3) := by decide +kernel
theorem dX11_fault_5 : decode cX11_fault 5 = .ok (.iload_n 1, 1) := by decide +kernel
theorem dX11_fault_6 : decode cX11_fault 6 = .ok (.ifCond .ne 10, 3) := by decide +kernel
theorem dX11_fault_9 : decode cX11_fault 9 = .ok (.aload_n 0, 1) := by decide +kernel
theorem dX11_fault_10 : decode cX11_fault 10 = .ok (.getfield 163, 3) := by decide +kernel
theorem dX11_fault_13 : decode cX11_fault 13 = .ok (.goto 16, 3) := by decide +kernel
theorem dX11_fault_16 : decode cX11_fault 16 = .ok (.iload_n 1, 1) := by decide +kernel
theorem dX11_fault_17 : decode cX11_fault 17 = .ok (.iconst 1, 1) := by decide +kernel
theorem dX11_fault_18 : decode cX11_fault 18 = .ok (.if_icmp .ne 10, 3) := by decide +kernel
theorem dX11_fault_21 : decode cX11_fault 21 = .ok (.aload_n 0, 1) := by decide +kernel
theorem dX11_fault_22 : decode cX11_fault 22 = .ok (.getfield 115, 3) := by decide +kernel
theorem dX11_fault_25 : decode cX11_fault 25 = .ok (.goto 4, 3) := by decide +kernel
theorem dX11_fault_28 : decode cX11_fault 28 = .ok (.iconst (-1), 1) := by decide +kernel
theorem dX11_fault_29 : decode cX11_fault 29 = .ok (.ireturn, 1) := by decide +kernel
theorem dX11_isPlace_0 : decode cX11_isPlace 0 = .ok (.iload_n 0, 1) := by decide +kernel
theorem dX11_isPlace_1 : decode cX11_isPlace 1 = .ok (.ifCond .lt 25, 3) := by decide +kernel
theorem dX11_isPlace_4 : decode cX11_isPlace 4 = .ok (.iload_n 0, 1) := by decide +kernel
theorem dX11_isPlace_5 : decode cX11_isPlace 5 = .ok (.sipush 2000, 3) := by decide +kernel
theorem dX11_isPlace_8 : decode cX11_isPlace 8 = .ok (.if_icmp .gt 18, 3) := by decide +kernel
theorem dX11_isPlace_11 : decode cX11_isPlace 11 = .ok (.iload_n 1, 1) := by decide +kernel
theorem dX11_isPlace_12 : decode cX11_isPlace 12 = .ok (.ifCond .lt 14, 3) := by decide +kernel
theorem dX11_isPlace_15 : decode cX11_isPlace 15 = .ok (.iload_n 1, 1) := by decide +kernel
theorem dX11_isPlace_16 : decode cX11_isPlace 16 = .ok (.sipush 2000, 3) := by decide +kernel
theorem dX11_isPlace_19 : decode cX11_isPlace 19 = .ok (.if_icmp .gt 7, 3) := by decide +kernel
theorem dX11_isPlace_22 : decode cX11_isPlace 22 = .ok (.iconst 1, 1) := by decide +kernel
theorem dX11_isPlace_23 : decode cX11_isPlace 23 = .ok (.goto 4, 3) := by decide +kernel
theorem dX11_isPlace_26 : decode cX11_isPlace 26 = .ok (.iconst 0, 1) := by decide +kernel
theorem dX11_isPlace_27 : decode cX11_isPlace 27 = .ok (.ireturn, 1) := by decide +kernel
theorem dX11_isSecond_0 : decode cX11_isSecond 0 = .ok (.iload_n 0, 1) := by decide +kernel
theorem dX11_isSecond_1 : decode cX11_isSecond 1 = .ok (.ifCond .lt 13, 3) := by decide +kernel
theorem dX11_isSecond_4 : decode cX11_isSecond 4 = .ok (.iload_n 0, 1) := by decide +kernel
theorem dX11_isSecond_5 : decode cX11_isSecond 5 = .ok (.ldc 240, 2) := by decide +kernel
theorem dX11_isSecond_7 : decode cX11_isSecond 7 = .ok (.if_icmp .gt 7, 3) := by decide +kernel
theorem dX11_isSecond_10 : decode cX11_isSecond 10 = .ok (.iconst 1, 1) := by decide +kernel
theorem dX11_isSecond_11 : decode cX11_isSecond 11 = .ok (.goto 4, 3) := by decide +kernel
theorem dX11_isSecond_14 : decode cX11_isSecond 14 = .ok (.iconst 0, 1) := by decide +kernel
theorem dX11_isSecond_15 : decode cX11_isSecond 15 = .ok (.ireturn, 1) := by decide +kernel
theorem dX11_isDay_0 : decode cX11_isDay 0 = .ok (.iload_n 0, 1) := by decide +kernel
theorem dX11_isDay_1 : decode cX11_isDay 1 = .ok (.ifCond .lt 14, 3) := by decide +kernel
theorem dX11_isDay_4 : decode cX11_isDay 4 = .ok (.iload_n 0, 1) := by decide +kernel
theorem dX11_isDay_5 : decode cX11_isDay 5 = .ok (.sipush 400, 3) := by decide +kernel
theorem dX11_isDay_8 : decode cX11_isDay 8 = .ok (.if_icmp .gt 7, 3) := by decide +kernel
theorem dX11_isDay_11 : decode cX11_isDay 11 = .ok (.iconst 1, 1) := by decide +kernel
theorem dX11_isDay_12 : decode cX11_isDay 12 = .ok (.goto 4, 3) := by decide +kernel
theorem dX11_isDay_15 : decode cX11_isDay 15 = .ok (.iconst 0, 1) := by decide +kernel
theorem dX11_isDay_16 : decode cX11_isDay 16 = .ok (.ireturn, 1) := by decide +kernel
theorem dX11_isFlight_0 : decode cX11_isFlight 0 = .ok (.iload_n 1, 1) := by decide +kernel
theorem dX11_isFlight_1 : decode cX11_isFlight 1 = .ok (.ifCond .lt 15, 3) := by decide +kernel
theorem dX11_isFlight_4 : decode cX11_isFlight 4 = .ok (.iload_n 1, 1) := by decide +kernel
theorem dX11_isFlight_5 : decode cX11_isFlight 5 = .ok (.aload_n 0, 1) := by decide +kernel
theorem dX11_isFlight_6 : decode cX11_isFlight 6 = .ok (.getfield 241, 3) := by decide +kernel
theorem dX11_isFlight_9 : decode cX11_isFlight 9 = .ok (.if_icmp .ge 7, 3) := by decide +kernel
theorem dX11_isFlight_12 : decode cX11_isFlight 12 = .ok (.iconst 1, 1) := by decide +kernel
theorem dX11_isFlight_13 : decode cX11_isFlight 13 = .ok (.goto 4, 3) := by decide +kernel
theorem dX11_isFlight_16 : decode cX11_isFlight 16 = .ok (.iconst 0, 1) := by decide +kernel
theorem dX11_isFlight_17 : decode cX11_isFlight 17 = .ok (.ireturn, 1) := by decide +kernel
theorem dX11_isLoft_0 : decode cX11_isLoft 0 = .ok (.iload_n 1, 1) := by decide +kernel
theorem dX11_isLoft_1 : decode cX11_isLoft 1 = .ok (.ifCond .lt 15, 3) := by decide +kernel
theorem dX11_isLoft_4 : decode cX11_isLoft 4 = .ok (.iload_n 1, 1) := by decide +kernel
theorem dX11_isLoft_5 : decode cX11_isLoft 5 = .ok (.aload_n 0, 1) := by decide +kernel
theorem dX11_isLoft_6 : decode cX11_isLoft 6 = .ok (.getfield 244, 3) := by decide +kernel
theorem dX11_isLoft_9 : decode cX11_isLoft 9 = .ok (.if_icmp .ge 7, 3) := by decide +kernel
theorem dX11_isLoft_12 : decode cX11_isLoft 12 = .ok (.iconst 1, 1) := by decide +kernel
theorem dX11_isLoft_13 : decode cX11_isLoft 13 = .ok (.goto 4, 3) := by decide +kernel
theorem dX11_isLoft_16 : decode cX11_isLoft 16 = .ok (.iconst 0, 1) := by decide +kernel
theorem dX11_isLoft_17 : decode cX11_isLoft 17 = .ok (.ireturn, 1) := by decide +kernel
theorem dX11_isBird_0 : decode cX11_isBird 0 = .ok (.iload_n 1, 1) := by decide +kernel
theorem dX11_isBird_1 : decode cX11_isBird 1 = .ok (.ifCond .lt 15, 3) := by decide +kernel
theorem dX11_isBird_4 : decode cX11_isBird 4 = .ok (.iload_n 1, 1) := by decide +kernel
theorem dX11_isBird_5 : decode cX11_isBird 5 = .ok (.aload_n 0, 1) := by decide +kernel
theorem dX11_isBird_6 : decode cX11_isBird 6 = .ok (.getfield 247, 3) := by decide +kernel
theorem dX11_isBird_9 : decode cX11_isBird 9 = .ok (.if_icmp .ge 7, 3) := by decide +kernel
theorem dX11_isBird_12 : decode cX11_isBird 12 = .ok (.iconst 1, 1) := by decide +kernel
theorem dX11_isBird_13 : decode cX11_isBird 13 = .ok (.goto 4, 3) := by decide +kernel
theorem dX11_isBird_16 : decode cX11_isBird 16 = .ok (.iconst 0, 1) := by decide +kernel
theorem dX11_isBird_17 : decode cX11_isBird 17 = .ok (.ireturn, 1) := by decide +kernel
theorem dX11_isList_0 : decode cX11_isList 0 = .ok (.iload_n 1, 1) := by decide +kernel
theorem dX11_isList_1 : decode cX11_isList 1 = .ok (.ifCond .lt 15, 3) := by decide +kernel
theorem dX11_isList_4 : decode cX11_isList 4 = .ok (.iload_n 1, 1) := by decide +kernel
theorem dX11_isList_5 : decode cX11_isList 5 = .ok (.aload_n 0, 1) := by decide +kernel
theorem dX11_isList_6 : decode cX11_isList 6 = .ok (.getfield 90, 3) := by decide +kernel
theorem dX11_isList_9 : decode cX11_isList 9 = .ok (.if_icmp .ge 7, 3) := by decide +kernel
theorem dX11_isList_12 : decode cX11_isList 12 = .ok (.iconst 1, 1) := by decide +kernel
theorem dX11_isList_13 : decode cX11_isList 13 = .ok (.goto 4, 3) := by decide +kernel
theorem dX11_isList_16 : decode cX11_isList 16 = .ok (.iconst 0, 1) := by decide +kernel
theorem dX11_isList_17 : decode cX11_isList 17 = .ok (.ireturn, 1) := by decide +kernel
theorem dX11_loft_0 : decode cX11_loft 0 = .ok (.aload_n 0, 1) := by decide +kernel
theorem dX11_loft_1 : decode cX11_loft 1 = .ok (.iconst 0, 1) := by decide +kernel
theorem dX11_loft_2 : decode cX11_loft 2 = .ok (.putfield 157, 3) := by decide +kernel
theorem dX11_loft_5 : decode cX11_loft 5 = .ok (.aload_n 0, 1) := by decide +kernel
theorem dX11_loft_6 : decode cX11_loft 6 = .ok (.getfield 244, 3) := by decide +kernel
theorem dX11_loft_9 : decode cX11_loft 9 = .ok (.bipush 8, 2) := by decide +kernel
theorem dX11_loft_11 : decode cX11_loft 11 = .ok (.if_icmp .eq 11, 3) := by decide +kernel
theorem dX11_loft_14 : decode cX11_loft 14 = .ok (.iload_n 1, 1) := by decide +kernel
theorem dX11_loft_15 : decode cX11_loft 15 = .ok (.iload_n 2, 1) := by decide +kernel
theorem dX11_loft_16 : decode cX11_loft 16 = .ok (.invokestatic 250, 3) := by decide +kernel
theorem dX11_loft_19 : decode cX11_loft 19 = .ok (.ifCond .ne 5, 3) := by decide +kernel
theorem dX11_loft_22 : decode cX11_loft 22 = .ok (.iconst (-1), 1) := by decide +kernel
theorem dX11_loft_23 : decode cX11_loft 23 = .ok (.ireturn, 1) := by decide +kernel
theorem dX11_loft_24 : decode cX11_loft 24 = .ok (.aload_n 0, 1) := by decide +kernel
theorem dX11_loft_25 : decode cX11_loft 25 = .ok (.getfield 13, 3) := by decide +kernel
theorem dX11_loft_28 : decode cX11_loft 28 = .ok (.aload_n 0, 1) := by decide +kernel
theorem dX11_loft_29 : decode cX11_loft 29 = .ok (.getfield 244, 3) := by decide +kernel
theorem dX11_loft_32 : decode cX11_loft 32 = .ok (.iload_n 1, 1) := by decide +kernel
theorem dX11_loft_33 : decode cX11_loft 33 = .ok (.iastore, 1) := by decide +kernel
theorem dX11_loft_34 : decode cX11_loft 34 = .ok (.aload_n 0, 1) := by decide +kernel
theorem dX11_loft_35 : decode cX11_loft 35 = .ok (.getfield 16, 3) := by decide +kernel
theorem dX11_loft_38 : decode cX11_loft 38 = .ok (.aload_n 0, 1) := by decide +kernel
theorem dX11_loft_39 : decode cX11_loft 39 = .ok (.getfield 244, 3) := by decide +kernel
theorem dX11_loft_42 : decode cX11_loft 42 = .ok (.iload_n 2, 1) := by decide +kernel
theorem dX11_loft_43 : decode cX11_loft 43 = .ok (.iastore, 1) := by decide +kernel
theorem dX11_loft_44 : decode cX11_loft 44 = .ok (.aload_n 0, 1) := by decide +kernel
theorem dX11_loft_45 : decode cX11_loft 45 = .ok (.dup, 1) := by decide +kernel
theorem dX11_loft_46 : decode cX11_loft 46 = .ok (.getfield 244, 3) := by decide +kernel
theorem dX11_loft_49 : decode cX11_loft 49 = .ok (.iconst 1, 1) := by decide +kernel
theorem dX11_loft_50 : decode cX11_loft 50 = .ok (.iadd, 1) := by decide +kernel
theorem dX11_loft_51 : decode cX11_loft 51 = .ok (.putfield 244, 3) := by decide +kernel
theorem dX11_loft_54 : decode cX11_loft 54 = .ok (.aload_n 0, 1) := by decide +kernel
theorem dX11_loft_55 : decode cX11_loft 55 = .ok (.getfield 244, 3) := by decide +kernel
theorem dX11_loft_58 : decode cX11_loft 58 = .ok (.iconst 1, 1) := by decide +kernel
theorem dX11_loft_59 : decode cX11_loft 59 = .ok (.isub, 1) := by decide +kernel
theorem dX11_loft_60 : decode cX11_loft 60 = .ok (.ireturn, 1) := by decide +kernel
theorem dX11_bird_0 : decode cX11_bird 0 = .ok (.aload_n 0, 1) := by decide +kernel
theorem dX11_bird_1 : decode cX11_bird 1 = .ok (.iconst 0, 1) := by decide +kernel
theorem dX11_bird_2 : decode cX11_bird 2 = .ok (.putfield 157, 3) := by decide +kernel
theorem dX11_bird_5 : decode cX11_bird 5 = .ok (.aload_n 0, 1) := by decide +kernel
theorem dX11_bird_6 : decode cX11_bird 6 = .ok (.getfield 247, 3) := by decide +kernel
theorem dX11_bird_9 : decode cX11_bird 9 = .ok (.bipush 24, 2) := by decide +kernel
theorem dX11_bird_11 : decode cX11_bird 11 = .ok (.if_icmp .eq 30, 3) := by decide +kernel
theorem dX11_bird_14 : decode cX11_bird 14 = .ok (.aload_n 0, 1) := by decide +kernel
theorem dX11_bird_15 : decode cX11_bird 15 = .ok (.iload_n 1, 1) := by decide +kernel
theorem dX11_bird_16 : decode cX11_bird 16 = .ok (.invokevirtual 253, 3) := by decide +kernel
theorem dX11_bird_19 : decode cX11_bird 19 = .ok (.ifCond .eq 22, 3) := by decide +kernel
theorem dX11_bird_22 : decode cX11_bird 22 = .ok (.iload_n 2, 1) := by decide +kernel
theorem dX11_bird_23 : decode cX11_bird 23 = .ok (.ifCond .lt 18, 3) := by decide +kernel
theorem dX11_bird_26 : decode cX11_bird 26 = .ok (.iload_n 2, 1) := by decide +kernel
theorem dX11_bird_27 : decode cX11_bird 27 = .ok (.bipush 99, 2) := by decide +kernel
theorem dX11_bird_29 : decode cX11_bird 29 = .ok (.if_icmp .gt 12, 3) := by decide +kernel
theorem dX11_bird_32 : decode cX11_bird 32 = .ok (.iload_n 3, 1) := by decide +kernel
theorem dX11_bird_33 : decode cX11_bird 33 = .ok (.ifCond .lt 8, 3) := by decide +kernel
theorem dX11_bird_36 : decode cX11_bird 36 = .ok (.iload_n 3, 1) := by decide +kernel
theorem dX11_bird_37 : decode cX11_bird 37 = .ok (.iconst 1, 1) := by decide +kernel
theorem dX11_bird_38 : decode cX11_bird 38 = .ok (.if_icmp .le 5, 3) := by decide +kernel
theorem dX11_bird_41 : decode cX11_bird 41 = .ok (.iconst (-1), 1) := by decide +kernel
theorem dX11_bird_42 : decode cX11_bird 42 = .ok (.ireturn, 1) := by decide +kernel
theorem dX11_bird_43 : decode cX11_bird 43 = .ok (.aload_n 0, 1) := by decide +kernel
theorem dX11_bird_44 : decode cX11_bird 44 = .ok (.getfield 19, 3) := by decide +kernel
theorem dX11_bird_47 : decode cX11_bird 47 = .ok (.aload_n 0, 1) := by decide +kernel
theorem dX11_bird_48 : decode cX11_bird 48 = .ok (.getfield 247, 3) := by decide +kernel
theorem dX11_bird_51 : decode cX11_bird 51 = .ok (.iload_n 1, 1) := by decide +kernel
theorem dX11_bird_52 : decode cX11_bird 52 = .ok (.iastore, 1) := by decide +kernel
theorem dX11_bird_53 : decode cX11_bird 53 = .ok (.aload_n 0, 1) := by decide +kernel
theorem dX11_bird_54 : decode cX11_bird 54 = .ok (.getfield 22, 3) := by decide +kernel
theorem dX11_bird_57 : decode cX11_bird 57 = .ok (.aload_n 0, 1) := by decide +kernel
theorem dX11_bird_58 : decode cX11_bird 58 = .ok (.getfield 247, 3) := by decide +kernel
theorem dX11_bird_61 : decode cX11_bird 61 = .ok (.iload_n 2, 1) := by decide +kernel
theorem dX11_bird_62 : decode cX11_bird 62 = .ok (.iastore, 1) := by decide +kernel
theorem dX11_bird_63 : decode cX11_bird 63 = .ok (.aload_n 0, 1) := by decide +kernel
theorem dX11_bird_64 : decode cX11_bird 64 = .ok (.getfield 25, 3) := by decide +kernel
theorem dX11_bird_67 : decode cX11_bird 67 = .ok (.aload_n 0, 1) := by decide +kernel
theorem dX11_bird_68 : decode cX11_bird 68 = .ok (.getfield 247, 3) := by decide +kernel
theorem dX11_bird_71 : decode cX11_bird 71 = .ok (.iload_n 3, 1) := by decide +kernel
theorem dX11_bird_72 : decode cX11_bird 72 = .ok (.iastore, 1) := by decide +kernel
theorem dX11_bird_73 : decode cX11_bird 73 = .ok (.aload_n 0, 1) := by decide +kernel
theorem dX11_bird_74 : decode cX11_bird 74 = .ok (.dup, 1) := by decide +kernel
theorem dX11_bird_75 : decode cX11_bird 75 = .ok (.getfield 247, 3) := by decide +kernel
theorem dX11_bird_78 : decode cX11_bird 78 = .ok (.iconst 1, 1) := by decide +kernel
theorem dX11_bird_79 : decode cX11_bird 79 = .ok (.iadd, 1) := by decide +kernel
theorem dX11_bird_80 : decode cX11_bird 80 = .ok (.putfield 247, 3) := by decide +kernel
theorem dX11_bird_83 : decode cX11_bird 83 = .ok (.aload_n 0, 1) := by decide +kernel
theorem dX11_bird_84 : decode cX11_bird 84 = .ok (.getfield 247, 3) := by decide +kernel
theorem dX11_bird_87 : decode cX11_bird 87 = .ok (.iconst 1, 1) := by decide +kernel
theorem dX11_bird_88 : decode cX11_bird 88 = .ok (.isub, 1) := by decide +kernel
theorem dX11_bird_89 : decode cX11_bird 89 = .ok (.ireturn, 1) := by decide +kernel
theorem dX11_flight_0 : decode cX11_flight 0 = .ok (.aload_n 0, 1) := by decide +kernel
theorem dX11_flight_1 : decode cX11_flight 1 = .ok (.iconst 0, 1) := by decide +kernel
theorem dX11_flight_2 : decode cX11_flight 2 = .ok (.putfield 157, 3) := by decide +kernel
theorem dX11_flight_5 : decode cX11_flight 5 = .ok (.aload_n 0, 1) := by decide +kernel
theorem dX11_flight_6 : decode cX11_flight 6 = .ok (.getfield 241, 3) := by decide +kernel
theorem dX11_flight_9 : decode cX11_flight 9 = .ok (.bipush 6, 2) := by decide +kernel
theorem dX11_flight_11 : decode cX11_flight 11 = .ok (.if_icmp .eq 40, 3) := by decide +kernel
theorem dX11_flight_14 : decode cX11_flight 14 = .ok (.iload_n 1, 1) := by decide +kernel
theorem dX11_flight_15 : decode cX11_flight 15 = .ok (.iload_n 2, 1) := by decide +kernel
theorem dX11_flight_16 : decode cX11_flight 16 = .ok (.invokestatic 250, 3) := by decide +kernel
theorem dX11_flight_19 : decode cX11_flight 19 = .ok (.ifCond .eq 32, 3) := by decide +kernel
theorem dX11_flight_22 : decode cX11_flight 22 = .ok (.iload_n 3, 1) := by decide +kernel
theorem dX11_flight_23 : decode cX11_flight 23 = .ok (.invokestatic 256, 3) := by decide +kernel
theorem dX11_flight_26 : decode cX11_flight 26 = .ok (.ifCond .eq 25, 3) := by decide +kernel
theorem dX11_flight_29 : decode cX11_flight 29 = .ok (.iload 4, 2) := by decide +kernel
theorem dX11_flight_31 : decode cX11_flight 31 = .ok (.invokestatic 256, 3) := by decide +kernel
theorem dX11_flight_34 : decode cX11_flight 34 = .ok (.ifCond .eq 17, 3) := by decide +kernel
theorem dX11_flight_37 : decode cX11_flight 37 = .ok (.iload 4, 2) := by decide +kernel
theorem dX11_flight_39 : decode cX11_flight 39 = .ok (.iload_n 3, 1) := by decide +kernel
theorem dX11_flight_40 : decode cX11_flight 40 = .ok (.if_icmp .le 11, 3) := by decide +kernel
theorem dX11_flight_43 : decode cX11_flight 43 = .ok (.iload 5, 2) := by decide +kernel
theorem dX11_flight_45 : decode cX11_flight 45 = .ok (.invokestatic 259, 3) := by decide +kernel
theorem dX11_flight_48 : decode cX11_flight 48 = .ok (.ifCond .ne 5, 3) := by decide +kernel
theorem dX11_flight_51 : decode cX11_flight 51 = .ok (.iconst (-1), 1) := by decide +kernel
theorem dX11_flight_52 : decode cX11_flight 52 = .ok (.ireturn, 1) := by decide +kernel
theorem dX11_flight_53 : decode cX11_flight 53 = .ok (.aload_n 0, 1) := by decide +kernel
theorem dX11_flight_54 : decode cX11_flight 54 = .ok (.getfield 28, 3) := by decide +kernel
theorem dX11_flight_57 : decode cX11_flight 57 = .ok (.aload_n 0, 1) := by decide +kernel
theorem dX11_flight_58 : decode cX11_flight 58 = .ok (.getfield 241, 3) := by decide +kernel
theorem dX11_flight_61 : decode cX11_flight 61 = .ok (.iload_n 1, 1) := by decide +kernel
theorem dX11_flight_62 : decode cX11_flight 62 = .ok (.iastore, 1) := by decide +kernel
theorem dX11_flight_63 : decode cX11_flight 63 = .ok (.aload_n 0, 1) := by decide +kernel
theorem dX11_flight_64 : decode cX11_flight 64 = .ok (.getfield 31, 3) := by decide +kernel
theorem dX11_flight_67 : decode cX11_flight 67 = .ok (.aload_n 0, 1) := by decide +kernel
theorem dX11_flight_68 : decode cX11_flight 68 = .ok (.getfield 241, 3) := by decide +kernel
theorem dX11_flight_71 : decode cX11_flight 71 = .ok (.iload_n 2, 1) := by decide +kernel
theorem dX11_flight_72 : decode cX11_flight 72 = .ok (.iastore, 1) := by decide +kernel
theorem dX11_flight_73 : decode cX11_flight 73 = .ok (.aload_n 0, 1) := by decide +kernel
theorem dX11_flight_74 : decode cX11_flight 74 = .ok (.getfield 34, 3) := by decide +kernel
theorem dX11_flight_77 : decode cX11_flight 77 = .ok (.aload_n 0, 1) := by decide +kernel
theorem dX11_flight_78 : decode cX11_flight 78 = .ok (.getfield 241, 3) := by decide +kernel
theorem dX11_flight_81 : decode cX11_flight 81 = .ok (.iload_n 3, 1) := by decide +kernel
theorem dX11_flight_82 : decode cX11_flight 82 = .ok (.iastore, 1) := by decide +kernel
theorem dX11_flight_83 : decode cX11_flight 83 = .ok (.aload_n 0, 1) := by decide +kernel
theorem dX11_flight_84 : decode cX11_flight 84 = .ok (.getfield 37, 3) := by decide +kernel
theorem dX11_flight_87 : decode cX11_flight 87 = .ok (.aload_n 0, 1) := by decide +kernel
theorem dX11_flight_88 : decode cX11_flight 88 = .ok (.getfield 241, 3) := by decide +kernel
theorem dX11_flight_91 : decode cX11_flight 91 = .ok (.iload 4, 2) := by decide +kernel
theorem dX11_flight_93 : decode cX11_flight 93 = .ok (.iastore, 1) := by decide +kernel
theorem dX11_flight_94 : decode cX11_flight 94 = .ok (.aload_n 0, 1) := by decide +kernel
theorem dX11_flight_95 : decode cX11_flight 95 = .ok (.getfield 40, 3) := by decide +kernel
theorem dX11_flight_98 : decode cX11_flight 98 = .ok (.aload_n 0, 1) := by decide +kernel
theorem dX11_flight_99 : decode cX11_flight 99 = .ok (.getfield 241, 3) := by decide +kernel
theorem dX11_flight_102 : decode cX11_flight 102 = .ok (.iload 5, 2) := by decide +kernel
theorem dX11_flight_104 : decode cX11_flight 104 = .ok (.iastore, 1) := by decide +kernel
theorem dX11_flight_105 : decode cX11_flight 105 = .ok (.aload_n 0, 1) := by decide +kernel
theorem dX11_flight_106 : decode cX11_flight 106 = .ok (.dup, 1) := by decide +kernel
theorem dX11_flight_107 : decode cX11_flight 107 = .ok (.getfield 241, 3) := by decide +kernel
theorem dX11_flight_110 : decode cX11_flight 110 = .ok (.iconst 1, 1) := by decide +kernel
theorem dX11_flight_111 : decode cX11_flight 111 = .ok (.iadd, 1) := by decide +kernel
theorem dX11_flight_112 : decode cX11_flight 112 = .ok (.putfield 241, 3) := by decide +kernel
theorem dX11_flight_115 : decode cX11_flight 115 = .ok (.aload_n 0, 1) := by decide +kernel
theorem dX11_flight_116 : decode cX11_flight 116 = .ok (.getfield 241, 3) := by decide +kernel
theorem dX11_flight_119 : decode cX11_flight 119 = .ok (.iconst 1, 1) := by decide +kernel
theorem dX11_flight_120 : decode cX11_flight 120 = .ok (.isub, 1) := by decide +kernel
theorem dX11_flight_121 : decode cX11_flight 121 = .ok (.ireturn, 1) := by decide +kernel
theorem dX11_clock_0 : decode cX11_clock 0 = .ok (.aload_n 0, 1) := by decide +kernel
theorem dX11_clock_1 : decode cX11_clock 1 = .ok (.iconst 0, 1) := by decide +kernel
theorem dX11_clock_2 : decode cX11_clock 2 = .ok (.putfield 157, 3) := by decide +kernel
theorem dX11_clock_5 : decode cX11_clock 5 = .ok (.aload_n 0, 1) := by decide +kernel
theorem dX11_clock_6 : decode cX11_clock 6 = .ok (.iload_n 1, 1) := by decide +kernel
theorem dX11_clock_7 : decode cX11_clock 7 = .ok (.invokevirtual 262, 3) := by decide +kernel
theorem dX11_clock_10 : decode cX11_clock 10 = .ok (.ifCond .eq 40, 3) := by decide +kernel
theorem dX11_clock_13 : decode cX11_clock 13 = .ok (.aload_n 0, 1) := by decide +kernel
theorem dX11_clock_14 : decode cX11_clock 14 = .ok (.iload_n 2, 1) := by decide +kernel
theorem dX11_clock_15 : decode cX11_clock 15 = .ok (.invokevirtual 253, 3) := by decide +kernel
theorem dX11_clock_18 : decode cX11_clock 18 = .ok (.ifCond .eq 32, 3) := by decide +kernel
theorem dX11_clock_21 : decode cX11_clock 21 = .ok (.iload_n 3, 1) := by decide +kernel
theorem dX11_clock_22 : decode cX11_clock 22 = .ok (.invokestatic 256, 3) := by decide +kernel
theorem dX11_clock_25 : decode cX11_clock 25 = .ok (.ifCond .eq 25, 3) := by decide +kernel
theorem dX11_clock_28 : decode cX11_clock 28 = .ok (.iload 4, 2) := by decide +kernel
theorem dX11_clock_30 : decode cX11_clock 30 = .ok (.invokestatic 256, 3) := by decide +kernel
theorem dX11_clock_33 : decode cX11_clock 33 = .ok (.ifCond .eq 17, 3) := by decide +kernel
theorem dX11_clock_36 : decode cX11_clock 36 = .ok (.iload 5, 2) := by decide +kernel
theorem dX11_clock_38 : decode cX11_clock 38 = .ok (.invokestatic 256, 3) := by decide +kernel
theorem dX11_clock_41 : decode cX11_clock 41 = .ok (.ifCond .eq 9, 3) := by decide +kernel
theorem dX11_clock_44 : decode cX11_clock 44 = .ok (.iload 4, 2) := by decide +kernel
theorem dX11_clock_46 : decode cX11_clock 46 = .ok (.iload_n 3, 1) := by decide +kernel
theorem dX11_clock_47 : decode cX11_clock 47 = .ok (.if_icmp .gt 5, 3) := by decide +kernel
theorem dX11_clock_50 : decode cX11_clock 50 = .ok (.iconst 0, 1) := by decide +kernel
theorem dX11_clock_51 : decode cX11_clock 51 = .ok (.ireturn, 1) := by decide +kernel
theorem dX11_clock_52 : decode cX11_clock 52 = .ok (.aload_n 0, 1) := by decide +kernel
theorem dX11_clock_53 : decode cX11_clock 53 = .ok (.getfield 43, 3) := by decide +kernel
theorem dX11_clock_56 : decode cX11_clock 56 = .ok (.bipush 8, 2) := by decide +kernel
theorem dX11_clock_58 : decode cX11_clock 58 = .ok (.iload_n 1, 1) := by decide +kernel
theorem dX11_clock_59 : decode cX11_clock 59 = .ok (.imul, 1) := by decide +kernel
theorem dX11_clock_60 : decode cX11_clock 60 = .ok (.iload_n 2, 1) := by decide +kernel
theorem dX11_clock_61 : decode cX11_clock 61 = .ok (.iadd, 1) := by decide +kernel
theorem dX11_clock_62 : decode cX11_clock 62 = .ok (.iconst 1, 1) := by decide +kernel
theorem dX11_clock_63 : decode cX11_clock 63 = .ok (.bastore, 1) := by decide +kernel
theorem dX11_clock_64 : decode cX11_clock 64 = .ok (.aload_n 0, 1) := by decide +kernel
theorem dX11_clock_65 : decode cX11_clock 65 = .ok (.getfield 47, 3) := by decide +kernel
theorem dX11_clock_68 : decode cX11_clock 68 = .ok (.bipush 8, 2) := by decide +kernel
theorem dX11_clock_70 : decode cX11_clock 70 = .ok (.iload_n 1, 1) := by decide +kernel
theorem dX11_clock_71 : decode cX11_clock 71 = .ok (.imul, 1) := by decide +kernel
theorem dX11_clock_72 : decode cX11_clock 72 = .ok (.iload_n 2, 1) := by decide +kernel
theorem dX11_clock_73 : decode cX11_clock 73 = .ok (.iadd, 1) := by decide +kernel
theorem dX11_clock_74 : decode cX11_clock 74 = .ok (.iload_n 3, 1) := by decide +kernel
theorem dX11_clock_75 : decode cX11_clock 75 = .ok (.iastore, 1) := by decide +kernel
theorem dX11_clock_76 : decode cX11_clock 76 = .ok (.aload_n 0, 1) := by decide +kernel
theorem dX11_clock_77 : decode cX11_clock 77 = .ok (.getfield 50, 3) := by decide +kernel
theorem dX11_clock_80 : decode cX11_clock 80 = .ok (.bipush 8, 2) := by decide +kernel
theorem dX11_clock_82 : decode cX11_clock 82 = .ok (.iload_n 1, 1) := by decide +kernel
theorem dX11_clock_83 : decode cX11_clock 83 = .ok (.imul, 1) := by decide +kernel
theorem dX11_clock_84 : decode cX11_clock 84 = .ok (.iload_n 2, 1) := by decide +kernel
theorem dX11_clock_85 : decode cX11_clock 85 = .ok (.iadd, 1) := by decide +kernel
theorem dX11_clock_86 : decode cX11_clock 86 = .ok (.iload 4, 2) := by decide +kernel
theorem dX11_clock_88 : decode cX11_clock 88 = .ok (.iastore, 1) := by decide +kernel
theorem dX11_clock_89 : decode cX11_clock 89 = .ok (.aload_n 0, 1) := by decide +kernel
theorem dX11_clock_90 : decode cX11_clock 90 = .ok (.getfield 53, 3) := by decide +kernel
theorem dX11_clock_93 : decode cX11_clock 93 = .ok (.bipush 8, 2) := by decide +kernel
theorem dX11_clock_95 : decode cX11_clock 95 = .ok (.iload_n 1, 1) := by decide +kernel
theorem dX11_clock_96 : decode cX11_clock 96 = .ok (.imul, 1) := by decide +kernel
theorem dX11_clock_97 : decode cX11_clock 97 = .ok (.iload_n 2, 1) := by decide +kernel
theorem dX11_clock_98 : decode cX11_clock 98 = .ok (.iadd, 1) := by decide +kernel
theorem dX11_clock_99 : decode cX11_clock 99 = .ok (.iload 5, 2) := by decide +kernel
theorem dX11_clock_101 : decode cX11_clock 101 = .ok (.iastore, 1) := by decide +kernel
theorem dX11_clock_102 : decode cX11_clock 102 = .ok (.iconst 1, 1) := by decide +kernel
theorem dX11_clock_103 : decode cX11_clock 103 = .ok (.ireturn, 1) := by decide +kernel
theorem dX11_strike_0 : decode cX11_strike 0 = .ok (.aload_n 0, 1) := by decide +kernel
theorem dX11_strike_1 : decode cX11_strike 1 = .ok (.iconst 0, 1) := by decide +kernel
theorem dX11_strike_2 : decode cX11_strike 2 = .ok (.putfield 157, 3) := by decide +kernel
theorem dX11_strike_5 : decode cX11_strike 5 = .ok (.aload_n 0, 1) := by decide +kernel
theorem dX11_strike_6 : decode cX11_strike 6 = .ok (.iload_n 1, 1) := by decide +kernel
theorem dX11_strike_7 : decode cX11_strike 7 = .ok (.invokevirtual 262, 3) := by decide +kernel
theorem dX11_strike_10 : decode cX11_strike 10 = .ok (.ifCond .eq 46, 3) := by decide +kernel
theorem dX11_strike_13 : decode cX11_strike 13 = .ok (.aload_n 0, 1) := by decide +kernel
theorem dX11_strike_14 : decode cX11_strike 14 = .ok (.iload_n 2, 1) := by decide +kernel
theorem dX11_strike_15 : decode cX11_strike 15 = .ok (.invokevirtual 253, 3) := by decide +kernel
theorem dX11_strike_18 : decode cX11_strike 18 = .ok (.ifCond .eq 38, 3) := by decide +kernel
theorem dX11_strike_21 : decode cX11_strike 21 = .ok (.aload_n 0, 1) := by decide +kernel
theorem dX11_strike_22 : decode cX11_strike 22 = .ok (.iload_n 3, 1) := by decide +kernel
theorem dX11_strike_23 : decode cX11_strike 23 = .ok (.invokevirtual 265, 3) := by decide +kernel
theorem dX11_strike_26 : decode cX11_strike 26 = .ok (.ifCond .eq 30, 3) := by decide +kernel
theorem dX11_strike_29 : decode cX11_strike 29 = .ok (.iload 4, 2) := by decide +kernel
theorem dX11_strike_31 : decode cX11_strike 31 = .ok (.invokestatic 256, 3) := by decide +kernel
theorem dX11_strike_34 : decode cX11_strike 34 = .ok (.ifCond .eq 22, 3) := by decide +kernel
theorem dX11_strike_37 : decode cX11_strike 37 = .ok (.iload 5, 2) := by decide +kernel
theorem dX11_strike_39 : decode cX11_strike 39 = .ok (.invokestatic 259, 3) := by decide +kernel
theorem dX11_strike_42 : decode cX11_strike 42 = .ok (.ifCond .eq 14, 3) := by decide +kernel
theorem dX11_strike_45 : decode cX11_strike 45 = .ok (.aload_n 0, 1) := by decide +kernel
theorem dX11_strike_46 : decode cX11_strike 46 = .ok (.getfield 56, 3) := by decide +kernel
theorem dX11_strike_49 : decode cX11_strike 49 = .ok (.iload_n 1, 1) := by decide +kernel
theorem dX11_strike_50 : decode cX11_strike 50 = .ok (.iaload, 1) := by decide +kernel
theorem dX11_strike_51 : decode cX11_strike 51 = .ok (.bipush 40, 2) := by decide +kernel
theorem dX11_strike_53 : decode cX11_strike 53 = .ok (.if_icmp .ne 5, 3) := by decide +kernel
theorem dX11_strike_56 : decode cX11_strike 56 = .ok (.iconst (-1), 1) := by decide +kernel
theorem dX11_strike_57 : decode cX11_strike 57 = .ok (.ireturn, 1) := by decide +kernel
theorem dX11_strike_58 : decode cX11_strike 58 = .ok (.bipush 40, 2) := by decide +kernel
theorem dX11_strike_60 : decode cX11_strike 60 = .ok (.iload_n 1, 1) := by decide +kernel
theorem dX11_strike_61 : decode cX11_strike 61 = .ok (.imul, 1) := by decide +kernel
