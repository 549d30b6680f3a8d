theorem dX11_strike_62 : decode cX11_strike 62 = .ok (.aload_n 0, 1) := by decide +kernel
theorem dX11_strike_63 : decode cX11_strike 63 = .ok (.getfield 56, 3) := by decide +kernel
theorem dX11_strike_66 : decode cX11_strike 66 = .ok (.iload_n 1, 1) := by decide +kernel
theorem dX11_strike_67 : decode cX11_strike 67 = .ok (.iaload, 1) := by decide +kernel
theorem dX11_strike_68 : decode cX11_strike 68 = .ok (.iadd, 1) := by decide +kernel
theorem dX11_strike_69 : decode cX11_strike 69 = .ok (.istore 6, 2) := by decide +kernel
theorem dX11_strike_71 : decode cX11_strike 71 = .ok (.aload_n 0, 1) := by decide +kernel
theorem dX11_strike_72 : decode cX11_strike 72 = .ok (.getfield 59, 3) := by decide +kernel
theorem dX11_strike_75 : decode cX11_strike 75 = .ok (.iload 6, 2) := by decide +kernel
theorem dX11_strike_77 : decode cX11_strike 77 = .ok (.iload_n 2, 1) := by decide +kernel
theorem dX11_strike_78 : decode cX11_strike 78 = .ok (.iastore, 1) := by decide +kernel
theorem dX11_strike_79 : decode cX11_strike 79 = .ok (.aload_n 0, 1) := by decide +kernel
theorem dX11_strike_80 : decode cX11_strike 80 = .ok (.getfield 62, 3) := by decide +kernel
theorem dX11_strike_83 : decode cX11_strike 83 = .ok (.iload 6, 2) := by decide +kernel
theorem dX11_strike_85 : decode cX11_strike 85 = .ok (.iload_n 3, 1) := by decide +kernel
theorem dX11_strike_86 : decode cX11_strike 86 = .ok (.iastore, 1) := by decide +kernel
theorem dX11_strike_87 : decode cX11_strike 87 = .ok (.aload_n 0, 1) := by decide +kernel
theorem dX11_strike_88 : decode cX11_strike 88 = .ok (.getfield 65, 3) := by decide +kernel
theorem dX11_strike_91 : decode cX11_strike 91 = .ok (.iload 6, 2) := by decide +kernel
theorem dX11_strike_93 : decode cX11_strike 93 = .ok (.iload 4, 2) := by decide +kernel
theorem dX11_strike_95 : decode cX11_strike 95 = .ok (.iastore, 1) := by decide +kernel
theorem dX11_strike_96 : decode cX11_strike 96 = .ok (.aload_n 0, 1) := by decide +kernel
theorem dX11_strike_97 : decode cX11_strike 97 = .ok (.getfield 68, 3) := by decide +kernel
theorem dX11_strike_100 : decode cX11_strike 100 = .ok (.iload 6, 2) := by decide +kernel
theorem dX11_strike_102 : decode cX11_strike 102 = .ok (.iload 5, 2) := by decide +kernel
theorem dX11_strike_104 : decode cX11_strike 104 = .ok (.iastore, 1) := by decide +kernel
theorem dX11_strike_105 : decode cX11_strike 105 = .ok (.aload_n 0, 1) := by decide +kernel
theorem dX11_strike_106 : decode cX11_strike 106 = .ok (.getfield 56, 3) := by decide +kernel
theorem dX11_strike_109 : decode cX11_strike 109 = .ok (.iload_n 1, 1) := by decide +kernel
theorem dX11_strike_110 : decode cX11_strike 110 = .ok (.dup2, 1) := by decide +kernel
theorem dX11_strike_111 : decode cX11_strike 111 = .ok (.iaload, 1) := by decide +kernel
theorem dX11_strike_112 : decode cX11_strike 112 = .ok (.iconst 1, 1) := by decide +kernel
theorem dX11_strike_113 : decode cX11_strike 113 = .ok (.iadd, 1) := by decide +kernel
theorem dX11_strike_114 : decode cX11_strike 114 = .ok (.iastore, 1) := by decide +kernel
theorem dX11_strike_115 : decode cX11_strike 115 = .ok (.aload_n 0, 1) := by decide +kernel
theorem dX11_strike_116 : decode cX11_strike 116 = .ok (.getfield 56, 3) := by decide +kernel
theorem dX11_strike_119 : decode cX11_strike 119 = .ok (.iload_n 1, 1) := by decide +kernel
theorem dX11_strike_120 : decode cX11_strike 120 = .ok (.iaload, 1) := by decide +kernel
theorem dX11_strike_121 : decode cX11_strike 121 = .ok (.ireturn, 1) := by decide +kernel
theorem dX11_hasTime_0 : decode cX11_hasTime 0 = .ok (.bipush 40, 2) := by decide +kernel
theorem dX11_hasTime_2 : decode cX11_hasTime 2 = .ok (.iload_n 1, 1) := by decide +kernel
theorem dX11_hasTime_3 : decode cX11_hasTime 3 = .ok (.imul, 1) := by decide +kernel
theorem dX11_hasTime_4 : decode cX11_hasTime 4 = .ok (.iload_n 2, 1) := by decide +kernel
theorem dX11_hasTime_5 : decode cX11_hasTime 5 = .ok (.iadd, 1) := by decide +kernel
theorem dX11_hasTime_6 : decode cX11_hasTime 6 = .ok (.istore_n 3, 1) := by decide +kernel
theorem dX11_hasTime_7 : decode cX11_hasTime 7 = .ok (.bipush 8, 2) := by decide +kernel
theorem dX11_hasTime_9 : decode cX11_hasTime 9 = .ok (.iload_n 1, 1) := by decide +kernel
theorem dX11_hasTime_10 : decode cX11_hasTime 10 = .ok (.imul, 1) := by decide +kernel
theorem dX11_hasTime_11 : decode cX11_hasTime 11 = .ok (.aload_n 0, 1) := by decide +kernel
theorem dX11_hasTime_12 : decode cX11_hasTime 12 = .ok (.getfield 59, 3) := by decide +kernel
theorem dX11_hasTime_15 : decode cX11_hasTime 15 = .ok (.iload_n 3, 1) := by decide +kernel
theorem dX11_hasTime_16 : decode cX11_hasTime 16 = .ok (.iaload, 1) := by decide +kernel
theorem dX11_hasTime_17 : decode cX11_hasTime 17 = .ok (.iadd, 1) := by decide +kernel
theorem dX11_hasTime_18 : decode cX11_hasTime 18 = .ok (.istore 4, 2) := by decide +kernel
theorem dX11_hasTime_20 : decode cX11_hasTime 20 = .ok (.aload_n 0, 1) := by decide +kernel
theorem dX11_hasTime_21 : decode cX11_hasTime 21 = .ok (.getfield 43, 3) := by decide +kernel
theorem dX11_hasTime_24 : decode cX11_hasTime 24 = .ok (.iload 4, 2) := by decide +kernel
theorem dX11_hasTime_26 : decode cX11_hasTime 26 = .ok (.baload, 1) := by decide +kernel
theorem dX11_hasTime_27 : decode cX11_hasTime 27 = .ok (.ifCond .eq 52, 3) := by decide +kernel
theorem dX11_hasTime_30 : decode cX11_hasTime 30 = .ok (.aload_n 0, 1) := by decide +kernel
theorem dX11_hasTime_31 : decode cX11_hasTime 31 = .ok (.getfield 53, 3) := by decide +kernel
theorem dX11_hasTime_34 : decode cX11_hasTime 34 = .ok (.iload 4, 2) := by decide +kernel
theorem dX11_hasTime_36 : decode cX11_hasTime 36 = .ok (.iaload, 1) := by decide +kernel
theorem dX11_hasTime_37 : decode cX11_hasTime 37 = .ok (.aload_n 0, 1) := by decide +kernel
theorem dX11_hasTime_38 : decode cX11_hasTime 38 = .ok (.getfield 47, 3) := by decide +kernel
theorem dX11_hasTime_41 : decode cX11_hasTime 41 = .ok (.iload 4, 2) := by decide +kernel
theorem dX11_hasTime_43 : decode cX11_hasTime 43 = .ok (.iaload, 1) := by decide +kernel
theorem dX11_hasTime_44 : decode cX11_hasTime 44 = .ok (.if_icmp .le 35, 3) := by decide +kernel
theorem dX11_hasTime_47 : decode cX11_hasTime 47 = .ok (.aload_n 0, 1) := by decide +kernel
theorem dX11_hasTime_48 : decode cX11_hasTime 48 = .ok (.getfield 65, 3) := by decide +kernel
theorem dX11_hasTime_51 : decode cX11_hasTime 51 = .ok (.iload_n 3, 1) := by decide +kernel
theorem dX11_hasTime_52 : decode cX11_hasTime 52 = .ok (.iaload, 1) := by decide +kernel
theorem dX11_hasTime_53 : decode cX11_hasTime 53 = .ok (.aload_n 0, 1) := by decide +kernel
theorem dX11_hasTime_54 : decode cX11_hasTime 54 = .ok (.getfield 47, 3) := by decide +kernel
theorem dX11_hasTime_57 : decode cX11_hasTime 57 = .ok (.iload 4, 2) := by decide +kernel
theorem dX11_hasTime_59 : decode cX11_hasTime 59 = .ok (.iaload, 1) := by decide +kernel
theorem dX11_hasTime_60 : decode cX11_hasTime 60 = .ok (.if_icmp .lt 19, 3) := by decide +kernel
theorem dX11_hasTime_63 : decode cX11_hasTime 63 = .ok (.aload_n 0, 1) := by decide +kernel
theorem dX11_hasTime_64 : decode cX11_hasTime 64 = .ok (.getfield 65, 3) := by decide +kernel
theorem dX11_hasTime_67 : decode cX11_hasTime 67 = .ok (.iload_n 3, 1) := by decide +kernel
theorem dX11_hasTime_68 : decode cX11_hasTime 68 = .ok (.iaload, 1) := by decide +kernel
theorem dX11_hasTime_69 : decode cX11_hasTime 69 = .ok (.aload_n 0, 1) := by decide +kernel
theorem dX11_hasTime_70 : decode cX11_hasTime 70 = .ok (.getfield 53, 3) := by decide +kernel
theorem dX11_hasTime_73 : decode cX11_hasTime 73 = .ok (.iload 4, 2) := by decide +kernel
theorem dX11_hasTime_75 : decode cX11_hasTime 75 = .ok (.iaload, 1) := by decide +kernel
theorem dX11_hasTime_76 : decode cX11_hasTime 76 = .ok (.if_icmp .le 5, 3) := by decide +kernel
theorem dX11_hasTime_79 : decode cX11_hasTime 79 = .ok (.iconst 0, 1) := by decide +kernel
theorem dX11_hasTime_80 : decode cX11_hasTime 80 = .ok (.ireturn, 1) := by decide +kernel
theorem dX11_hasTime_81 : decode cX11_hasTime 81 = .ok (.aload_n 0, 1) := by decide +kernel
theorem dX11_hasTime_82 : decode cX11_hasTime 82 = .ok (.aload_n 0, 1) := by decide +kernel
theorem dX11_hasTime_83 : decode cX11_hasTime 83 = .ok (.getfield 53, 3) := by decide +kernel
theorem dX11_hasTime_86 : decode cX11_hasTime 86 = .ok (.iload 4, 2) := by decide +kernel
theorem dX11_hasTime_88 : decode cX11_hasTime 88 = .ok (.iaload, 1) := by decide +kernel
theorem dX11_hasTime_89 : decode cX11_hasTime 89 = .ok (.aload_n 0, 1) := by decide +kernel
theorem dX11_hasTime_90 : decode cX11_hasTime 90 = .ok (.getfield 47, 3) := by decide +kernel
theorem dX11_hasTime_93 : decode cX11_hasTime 93 = .ok (.iload 4, 2) := by decide +kernel
theorem dX11_hasTime_95 : decode cX11_hasTime 95 = .ok (.iaload, 1) := by decide +kernel
theorem dX11_hasTime_96 : decode cX11_hasTime 96 = .ok (.isub, 1) := by decide +kernel
theorem dX11_hasTime_97 : decode cX11_hasTime 97 = .ok (.i2l, 1) := by decide +kernel
theorem dX11_hasTime_98 : decode cX11_hasTime 98 = .ok (.putfield 268, 3) := by decide +kernel
theorem dX11_hasTime_101 : decode cX11_hasTime 101 = .ok (.aload_n 0, 1) := by decide +kernel
theorem dX11_hasTime_102 : decode cX11_hasTime 102 = .ok (.aload_n 0, 1) := by decide +kernel
theorem dX11_hasTime_103 : decode cX11_hasTime 103 = .ok (.getfield 47, 3) := by decide +kernel
theorem dX11_hasTime_106 : decode cX11_hasTime 106 = .ok (.iload 4, 2) := by decide +kernel
theorem dX11_hasTime_108 : decode cX11_hasTime 108 = .ok (.iaload, 1) := by decide +kernel
theorem dX11_hasTime_109 : decode cX11_hasTime 109 = .ok (.i2l, 1) := by decide +kernel
theorem dX11_hasTime_110 : decode cX11_hasTime 110 = .ok (.aload_n 0, 1) := by decide +kernel
theorem dX11_hasTime_111 : decode cX11_hasTime 111 = .ok (.getfield 268, 3) := by decide +kernel
theorem dX11_hasTime_114 : decode cX11_hasTime 114 = .ok (.lmul, 1) := by decide +kernel
theorem dX11_hasTime_115 : decode cX11_hasTime 115 = .ok (.aload_n 0, 1) := by decide +kernel
theorem dX11_hasTime_116 : decode cX11_hasTime 116 = .ok (.getfield 65, 3) := by decide +kernel
theorem dX11_hasTime_119 : decode cX11_hasTime 119 = .ok (.iload_n 3, 1) := by decide +kernel
theorem dX11_hasTime_120 : decode cX11_hasTime 120 = .ok (.iaload, 1) := by decide +kernel
theorem dX11_hasTime_121 : decode cX11_hasTime 121 = .ok (.aload_n 0, 1) := by decide +kernel
theorem dX11_hasTime_122 : decode cX11_hasTime 122 = .ok (.getfield 47, 3) := by decide +kernel
theorem dX11_hasTime_125 : decode cX11_hasTime 125 = .ok (.iload 4, 2) := by decide +kernel
theorem dX11_hasTime_127 : decode cX11_hasTime 127 = .ok (.iaload, 1) := by decide +kernel
theorem dX11_hasTime_128 : decode cX11_hasTime 128 = .ok (.isub, 1) := by decide +kernel
theorem dX11_hasTime_129 : decode cX11_hasTime 129 = .ok (.i2l, 1) := by decide +kernel
theorem dX11_hasTime_130 : decode cX11_hasTime 130 = .ok (.aload_n 0, 1) := by decide +kernel
theorem dX11_hasTime_131 : decode cX11_hasTime 131 = .ok (.getfield 50, 3) := by decide +kernel
theorem dX11_hasTime_134 : decode cX11_hasTime 134 = .ok (.iload 4, 2) := by decide +kernel
theorem dX11_hasTime_136 : decode cX11_hasTime 136 = .ok (.iaload, 1) := by decide +kernel
theorem dX11_hasTime_137 : decode cX11_hasTime 137 = .ok (.aload_n 0, 1) := by decide +kernel
theorem dX11_hasTime_138 : decode cX11_hasTime 138 = .ok (.getfield 47, 3) := by decide +kernel
theorem dX11_hasTime_141 : decode cX11_hasTime 141 = .ok (.iload 4, 2) := by decide +kernel
theorem dX11_hasTime_143 : decode cX11_hasTime 143 = .ok (.iaload, 1) := by decide +kernel
theorem dX11_hasTime_144 : decode cX11_hasTime 144 = .ok (.isub, 1) := by decide +kernel
theorem dX11_hasTime_145 : decode cX11_hasTime 145 = .ok (.i2l, 1) := by decide +kernel
theorem dX11_hasTime_146 : decode cX11_hasTime 146 = .ok (.lmul, 1) := by decide +kernel
theorem dX11_hasTime_147 : decode cX11_hasTime 147 = .ok (.ladd, 1) := by decide +kernel
theorem dX11_hasTime_148 : decode cX11_hasTime 148 = .ok (.putfield 272, 3) := by decide +kernel
theorem dX11_hasTime_151 : decode cX11_hasTime 151 = .ok (.aload_n 0, 1) := by decide +kernel
theorem dX11_hasTime_152 : decode cX11_hasTime 152 = .ok (.getfield 272, 3) := by decide +kernel
theorem dX11_hasTime_155 : decode cX11_hasTime 155 = .ok (.lstore 5, 2) := by decide +kernel
theorem dX11_hasTime_157 : decode cX11_hasTime 157 = .ok (.aload_n 0, 1) := by decide +kernel
theorem dX11_hasTime_158 : decode cX11_hasTime 158 = .ok (.getfield 268, 3) := by decide +kernel
theorem dX11_hasTime_161 : decode cX11_hasTime 161 = .ok (.lstore 7, 2) := by decide +kernel
theorem dX11_hasTime_163 : decode cX11_hasTime 163 = .ok (.lload 7, 2) := by decide +kernel
theorem dX11_hasTime_165 : decode cX11_hasTime 165 = .ok (.lconst 0, 1) := by decide +kernel
theorem dX11_hasTime_166 : decode cX11_hasTime 166 = .ok (.lcmp, 1) := by decide +kernel
theorem dX11_hasTime_167 : decode cX11_hasTime 167 = .ok (.ifCond .eq 21, 3) := by decide +kernel
theorem dX11_hasTime_170 : decode cX11_hasTime 170 = .ok (.lload 5, 2) := by decide +kernel
theorem dX11_hasTime_172 : decode cX11_hasTime 172 = .ok (.lload 7, 2) := by decide +kernel
theorem dX11_hasTime_174 : decode cX11_hasTime 174 = .ok (.lrem, 1) := by decide +kernel
theorem dX11_hasTime_175 : decode cX11_hasTime 175 = .ok (.lstore 9, 2) := by decide +kernel
theorem dX11_hasTime_177 : decode cX11_hasTime 177 = .ok (.lload 7, 2) := by decide +kernel
theorem dX11_hasTime_179 : decode cX11_hasTime 179 = .ok (.lstore 5, 2) := by decide +kernel
theorem dX11_hasTime_181 : decode cX11_hasTime 181 = .ok (.lload 9, 2) := by decide +kernel
theorem dX11_hasTime_183 : decode cX11_hasTime 183 = .ok (.lstore 7, 2) := by decide +kernel
theorem dX11_hasTime_185 : decode cX11_hasTime 185 = .ok (.goto (-22), 3) := by decide +kernel
theorem dX11_hasTime_188 : decode cX11_hasTime 188 = .ok (.aload_n 0, 1) := by decide +kernel
theorem dX11_hasTime_189 : decode cX11_hasTime 189 = .ok (.dup, 1) := by decide +kernel
theorem dX11_hasTime_190 : decode cX11_hasTime 190 = .ok (.getfield 272, 3) := by decide +kernel
theorem dX11_hasTime_193 : decode cX11_hasTime 193 = .ok (.lload 5, 2) := by decide +kernel
theorem dX11_hasTime_195 : decode cX11_hasTime 195 = .ok (.ldiv, 1) := by decide +kernel
theorem dX11_hasTime_196 : decode cX11_hasTime 196 = .ok (.putfield 272, 3) := by decide +kernel
theorem dX11_hasTime_199 : decode cX11_hasTime 199 = .ok (.aload_n 0, 1) := by decide +kernel
theorem dX11_hasTime_200 : decode cX11_hasTime 200 = .ok (.dup, 1) := by decide +kernel
theorem dX11_hasTime_201 : decode cX11_hasTime 201 = .ok (.getfield 268, 3) := by decide +kernel
theorem dX11_hasTime_204 : decode cX11_hasTime 204 = .ok (.lload 5, 2) := by decide +kernel
theorem dX11_hasTime_206 : decode cX11_hasTime 206 = .ok (.ldiv, 1) := by decide +kernel
theorem dX11_hasTime_207 : decode cX11_hasTime 207 = .ok (.putfield 268, 3) := by decide +kernel
theorem dX11_hasTime_210 : decode cX11_hasTime 210 = .ok (.iconst 1, 1) := by decide +kernel
theorem dX11_hasTime_211 : decode cX11_hasTime 211 = .ok (.ireturn, 1) := by decide +kernel
theorem dX11_time_0 : decode cX11_time 0 = .ok (.aload_n 0, 1) := by decide +kernel
theorem dX11_time_1 : decode cX11_time 1 = .ok (.iconst 0, 1) := by decide +kernel
theorem dX11_time_2 : decode cX11_time 2 = .ok (.putfield 157, 3) := by decide +kernel
theorem dX11_time_5 : decode cX11_time 5 = .ok (.aload_n 0, 1) := by decide +kernel
theorem dX11_time_6 : decode cX11_time 6 = .ok (.iload_n 1, 1) := by decide +kernel
theorem dX11_time_7 : decode cX11_time 7 = .ok (.invokevirtual 262, 3) := by decide +kernel
theorem dX11_time_10 : decode cX11_time 10 = .ok (.ifCond .eq 17, 3) := by decide +kernel
theorem dX11_time_13 : decode cX11_time 13 = .ok (.iload_n 2, 1) := by decide +kernel
theorem dX11_time_14 : decode cX11_time 14 = .ok (.ifCond .lt 13, 3) := by decide +kernel
theorem dX11_time_17 : decode cX11_time 17 = .ok (.iload_n 2, 1) := by decide +kernel
theorem dX11_time_18 : decode cX11_time 18 = .ok (.aload_n 0, 1) := by decide +kernel
theorem dX11_time_19 : decode cX11_time 19 = .ok (.getfield 56, 3) := by decide +kernel
theorem dX11_time_22 : decode cX11_time 22 = .ok (.iload_n 1, 1) := by decide +kernel
theorem dX11_time_23 : decode cX11_time 23 = .ok (.iaload, 1) := by decide +kernel
theorem dX11_time_24 : decode cX11_time 24 = .ok (.if_icmp .lt 10, 3) := by decide +kernel
theorem dX11_time_27 : decode cX11_time 27 = .ok (.aload_n 0, 1) := by decide +kernel
theorem dX11_time_28 : decode cX11_time 28 = .ok (.iconst 1, 1) := by decide +kernel
theorem dX11_time_29 : decode cX11_time 29 = .ok (.putfield 157, 3) := by decide +kernel
theorem dX11_time_32 : decode cX11_time 32 = .ok (.lconst 0, 1) := by decide +kernel
theorem dX11_time_33 : decode cX11_time 33 = .ok (.lreturn, 1) := by decide +kernel
theorem dX11_time_34 : decode cX11_time 34 = .ok (.iload_n 3, 1) := by decide +kernel
theorem dX11_time_35 : decode cX11_time 35 = .ok (.ifCond .lt 17, 3) := by decide +kernel
theorem dX11_time_38 : decode cX11_time 38 = .ok (.iload_n 3, 1) := by decide +kernel
theorem dX11_time_39 : decode cX11_time 39 = .ok (.iconst 1, 1) := by decide +kernel
theorem dX11_time_40 : decode cX11_time 40 = .ok (.if_icmp .gt 12, 3) := by decide +kernel
theorem dX11_time_43 : decode cX11_time 43 = .ok (.aload_n 0, 1) := by decide +kernel
theorem dX11_time_44 : decode cX11_time 44 = .ok (.iload_n 1, 1) := by decide +kernel
theorem dX11_time_45 : decode cX11_time 45 = .ok (.iload_n 2, 1) := by decide +kernel
theorem dX11_time_46 : decode cX11_time 46 = .ok (.invokevirtual 275, 3) := by decide +kernel
theorem dX11_time_49 : decode cX11_time 49 = .ok (.ifCond .ne 10, 3) := by decide +kernel
theorem dX11_time_52 : decode cX11_time 52 = .ok (.aload_n 0, 1) := by decide +kernel
theorem dX11_time_53 : decode cX11_time 53 = .ok (.iconst 2, 1) := by decide +kernel
theorem dX11_time_54 : decode cX11_time 54 = .ok (.putfield 157, 3) := by decide +kernel
theorem dX11_time_57 : decode cX11_time 57 = .ok (.lconst 0, 1) := by decide +kernel
theorem dX11_time_58 : decode cX11_time 58 = .ok (.lreturn, 1) := by decide +kernel
theorem dX11_time_59 : decode cX11_time 59 = .ok (.iload_n 3, 1) := by decide +kernel
theorem dX11_time_60 : decode cX11_time 60 = .ok (.ifCond .ne 10, 3) := by decide +kernel
theorem dX11_time_63 : decode cX11_time 63 = .ok (.aload_n 0, 1) := by decide +kernel
theorem dX11_time_64 : decode cX11_time 64 = .ok (.getfield 272, 3) := by decide +kernel
theorem dX11_time_67 : decode cX11_time 67 = .ok (.goto 7, 3) := by decide +kernel
theorem dX11_time_70 : decode cX11_time 70 = .ok (.aload_n 0, 1) := by decide +kernel
theorem dX11_time_71 : decode cX11_time 71 = .ok (.getfield 268, 3) := by decide +kernel
theorem dX11_time_74 : decode cX11_time 74 = .ok (.lreturn, 1) := by decide +kernel
theorem dX11_find_0 : decode cX11_find 0 = .ok (.aload_n 0, 1) := by decide +kernel
theorem dX11_find_1 : decode cX11_find 1 = .ok (.getfield 97, 3) := by decide +kernel
theorem dX11_find_4 : decode cX11_find 4 = .ok (.bipush 6, 2) := by decide +kernel
theorem dX11_find_6 : decode cX11_find 6 = .ok (.aload_n 0, 1) := by decide +kernel
theorem dX11_find_7 : decode cX11_find 7 = .ok (.getfield 231, 3) := by decide +kernel
theorem dX11_find_10 : decode cX11_find 10 = .ok (.imul, 1) := by decide +kernel
theorem dX11_find_11 : decode cX11_find 11 = .ok (.iload_n 2, 1) := by decide +kernel
theorem dX11_find_12 : decode cX11_find 12 = .ok (.iadd, 1) := by decide +kernel
theorem dX11_find_13 : decode cX11_find 13 = .ok (.iaload, 1) := by decide +kernel
theorem dX11_find_14 : decode cX11_find 14 = .ok (.istore 4, 2) := by decide +kernel
theorem dX11_find_16 : decode cX11_find 16 = .ok (.iconst 0, 1) := by decide +kernel
theorem dX11_find_17 : decode cX11_find 17 = .ok (.istore 5, 2) := by decide +kernel
theorem dX11_find_19 : decode cX11_find 19 = .ok (.iload 5, 2) := by decide +kernel
theorem dX11_find_21 : decode cX11_find 21 = .ok (.aload_n 0, 1) := by decide +kernel
theorem dX11_find_22 : decode cX11_find 22 = .ok (.getfield 247, 3) := by decide +kernel
theorem dX11_find_25 : decode cX11_find 25 = .ok (.if_icmp .ge 17, 3) := by decide +kernel
theorem dX11_find_28 : decode cX11_find 28 = .ok (.aload_n 0, 1) := by decide +kernel
theorem dX11_find_29 : decode cX11_find 29 = .ok (.getfield 121, 3) := by decide +kernel
theorem dX11_find_32 : decode cX11_find 32 = .ok (.iload 5, 2) := by decide +kernel
theorem dX11_find_34 : decode cX11_find 34 = .ok (.iconst (-1), 1) := by decide +kernel
theorem dX11_find_35 : decode cX11_find 35 = .ok (.iastore, 1) := by decide +kernel
theorem dX11_find_36 : decode cX11_find 36 = .ok (.iinc 5 1, 3) := by decide +kernel
theorem dX11_find_39 : decode cX11_find 39 = .ok (.goto (-20), 3) := by decide +kernel
theorem dX11_find_42 : decode cX11_find 42 = .ok (.iconst 0, 1) := by decide +kernel
theorem dX11_find_43 : decode cX11_find 43 = .ok (.istore 5, 2) := by decide +kernel
theorem dX11_find_45 : decode cX11_find 45 = .ok (.iload 5, 2) := by decide +kernel
theorem dX11_find_47 : decode cX11_find 47 = .ok (.aload_n 0, 1) := by decide +kernel
theorem dX11_find_48 : decode cX11_find 48 = .ok (.getfield 56, 3) := by decide +kernel
theorem dX11_find_51 : decode cX11_find 51 = .ok (.iload_n 1, 1) := by decide +kernel
theorem dX11_find_52 : decode cX11_find 52 = .ok (.iaload, 1) := by decide +kernel
theorem dX11_find_53 : decode cX11_find 53 = .ok (.if_icmp .ge 228, 3) := by decide +kernel
theorem dX11_find_56 : decode cX11_find 56 = .ok (.bipush 40, 2) := by decide +kernel
theorem dX11_find_58 : decode cX11_find 58 = .ok (.iload_n 1, 1) := by decide +kernel
theorem dX11_find_59 : decode cX11_find 59 = .ok (.imul, 1) := by decide +kernel
theorem dX11_find_60 : decode cX11_find 60 = .ok (.iload 5, 2) := by decide +kernel
theorem dX11_find_62 : decode cX11_find 62 = .ok (.iadd, 1) := by decide +kernel
theorem dX11_find_63 : decode cX11_find 63 = .ok (.istore 6, 2) := by decide +kernel
theorem dX11_find_65 : decode cX11_find 65 = .ok (.aload_n 0, 1) := by decide +kernel
theorem dX11_find_66 : decode cX11_find 66 = .ok (.getfield 62, 3) := by decide +kernel
theorem dX11_find_69 : decode cX11_find 69 = .ok (.iload 6, 2) := by decide +kernel
theorem dX11_find_71 : decode cX11_find 71 = .ok (.iaload, 1) := by decide +kernel
theorem dX11_find_72 : decode cX11_find 72 = .ok (.istore 7, 2) := by decide +kernel
theorem dX11_find_74 : decode cX11_find 74 = .ok (.aload_n 0, 1) := by decide +kernel
theorem dX11_find_75 : decode cX11_find 75 = .ok (.getfield 19, 3) := by decide +kernel
theorem dX11_find_78 : decode cX11_find 78 = .ok (.iload 7, 2) := by decide +kernel
theorem dX11_find_80 : decode cX11_find 80 = .ok (.iaload, 1) := by decide +kernel
theorem dX11_find_81 : decode cX11_find 81 = .ok (.istore 8, 2) := by decide +kernel
theorem dX11_find_83 : decode cX11_find 83 = .ok (.aload_n 0, 1) := by decide +kernel
theorem dX11_find_84 : decode cX11_find 84 = .ok (.getfield 68, 3) := by decide +kernel
theorem dX11_find_87 : decode cX11_find 87 = .ok (.iload 6, 2) := by decide +kernel
theorem dX11_find_89 : decode cX11_find 89 = .ok (.iaload, 1) := by decide +kernel
theorem dX11_find_90 : decode cX11_find 90 = .ok (.iload_n 3, 1) := by decide +kernel
theorem dX11_find_91 : decode cX11_find 91 = .ok (.if_icmp .gt 184, 3) := by decide +kernel
theorem dX11_find_94 : decode cX11_find 94 = .ok (.aload_n 0, 1) := by decide +kernel
theorem dX11_find_95 : decode cX11_find 95 = .ok (.getfield 13, 3) := by decide +kernel
theorem dX11_find_98 : decode cX11_find 98 = .ok (.iload 8, 2) := by decide +kernel
theorem dX11_find_100 : decode cX11_find 100 = .ok (.iaload, 1) := by decide +kernel
theorem dX11_find_101 : decode cX11_find 101 = .ok (.aload_n 0, 1) := by decide +kernel
theorem dX11_find_102 : decode cX11_find 102 = .ok (.getfield 28, 3) := by decide +kernel
theorem dX11_find_105 : decode cX11_find 105 = .ok (.iload_n 1, 1) := by decide +kernel
theorem dX11_find_106 : decode cX11_find 106 = .ok (.iaload, 1) := by decide +kernel
theorem dX11_find_107 : decode cX11_find 107 = .ok (.if_icmp .ne 19, 3) := by decide +kernel
theorem dX11_find_110 : decode cX11_find 110 = .ok (.aload_n 0, 1) := by decide +kernel
theorem dX11_find_111 : decode cX11_find 111 = .ok (.getfield 16, 3) := by decide +kernel
theorem dX11_find_114 : decode cX11_find 114 = .ok (.iload 8, 2) := by decide +kernel
theorem dX11_find_116 : decode cX11_find 116 = .ok (.iaload, 1) := by decide +kernel
theorem dX11_find_117 : decode cX11_find 117 = .ok (.aload_n 0, 1) := by decide +kernel
theorem dX11_find_118 : decode cX11_find 118 = .ok (.getfield 31, 3) := by decide +kernel
theorem dX11_find_121 : decode cX11_find 121 = .ok (.iload_n 1, 1) := by decide +kernel
theorem dX11_find_122 : decode cX11_find 122 = .ok (.iaload, 1) := by decide +kernel
theorem dX11_find_123 : decode cX11_find 123 = .ok (.if_icmp .eq 152, 3) := by decide +kernel
theorem dX11_find_126 : decode cX11_find 126 = .ok (.aload_n 0, 1) := by decide +kernel
theorem dX11_find_127 : decode cX11_find 127 = .ok (.iload_n 1, 1) := by decide +kernel
theorem dX11_find_128 : decode cX11_find 128 = .ok (.iload 5, 2) := by decide +kernel
theorem dX11_find_130 : decode cX11_find 130 = .ok (.invokevirtual 275, 3) := by decide +kernel
theorem dX11_find_133 : decode cX11_find 133 = .ok (.ifCond .ne 6, 3) := by decide +kernel
theorem dX11_find_136 : decode cX11_find 136 = .ok (.goto 139, 3) := by decide +kernel
theorem dX11_find_139 : decode cX11_find 139 = .ok (.aload_n 0, 1) := by decide +kernel
theorem dX11_find_140 : decode cX11_find 140 = .ok (.getfield 272, 3) := by decide +kernel
theorem dX11_find_143 : decode cX11_find 143 = .ok (.aload_n 0, 1) := by decide +kernel
theorem dX11_find_144 : decode cX11_find 144 = .ok (.getfield 34, 3) := by decide +kernel
theorem dX11_find_147 : decode cX11_find 147 = .ok (.iload_n 1, 1) := by decide +kernel
theorem dX11_find_148 : decode cX11_find 148 = .ok (.iaload, 1) := by decide +kernel
theorem dX11_find_149 : decode cX11_find 149 = .ok (.i2l, 1) := by decide +kernel
theorem dX11_find_150 : decode cX11_find 150 = .ok (.aload_n 0, 1) := by decide +kernel
theorem dX11_find_151 : decode cX11_find 151 = .ok (.getfield 268, 3) := by decide +kernel
theorem dX11_find_154 : decode cX11_find 154 = .ok (.lmul, 1) := by decide +kernel
theorem dX11_find_155 : decode cX11_find 155 = .ok (.lsub, 1) := by decide +kernel
theorem dX11_find_156 : decode cX11_find 156 = .ok (.lstore 9, 2) := by decide +kernel
theorem dX11_find_158 : decode cX11_find 158 = .ok (.lload 9, 2) := by decide +kernel
theorem dX11_find_160 : decode cX11_find 160 = .ok (.lconst 0, 1) := by decide +kernel
theorem dX11_find_161 : decode cX11_find 161 = .ok (.lcmp, 1) := by decide +kernel
theorem dX11_find_162 : decode cX11_find 162 = .ok (.ifCond .le 113, 3) := by decide +kernel
theorem dX11_find_165 : decode cX11_find 165 = .ok (.aload_n 0, 1) := by decide +kernel
theorem dX11_find_166 : decode cX11_find 166 = .ok (.getfield 272, 3) := by decide +kernel
theorem dX11_find_169 : decode cX11_find 169 = .ok (.aload_n 0, 1) := by decide +kernel
theorem dX11_find_170 : decode cX11_find 170 = .ok (.getfield 37, 3) := by decide +kernel
theorem dX11_find_173 : decode cX11_find 173 = .ok (.iload_n 1, 1) := by decide +kernel
theorem dX11_find_174 : decode cX11_find 174 = .ok (.iaload, 1) := by decide +kernel
theorem dX11_find_175 : decode cX11_find 175 = .ok (.i2l, 1) := by decide +kernel
theorem dX11_find_176 : decode cX11_find 176 = .ok (.aload_n 0, 1) := by decide +kernel
theorem dX11_find_177 : decode cX11_find 177 = .ok (.getfield 268, 3) := by decide +kernel
theorem dX11_find_180 : decode cX11_find 180 = .ok (.lmul, 1) := by decide +kernel
theorem dX11_find_181 : decode cX11_find 181 = .ok (.lcmp, 1) := by decide +kernel
theorem dX11_find_182 : decode cX11_find 182 = .ok (.ifCond .gt 93, 3) := by decide +kernel
theorem dX11_find_185 : decode cX11_find 185 = .ok (.iload 4, 2) := by decide +kernel
theorem dX11_find_187 : decode cX11_find 187 = .ok (.ifCond .lt 20, 3) := by decide +kernel
theorem dX11_find_190 : decode cX11_find 190 = .ok (.lload 9, 2) := by decide +kernel
theorem dX11_find_192 : decode cX11_find 192 = .ok (.iload 4, 2) := by decide +kernel
theorem dX11_find_194 : decode cX11_find 194 = .ok (.i2l, 1) := by decide +kernel
theorem dX11_find_195 : decode cX11_find 195 = .ok (.aload_n 0, 1) := by decide +kernel
theorem dX11_find_196 : decode cX11_find 196 = .ok (.getfield 268, 3) := by decide +kernel
theorem dX11_find_199 : decode cX11_find 199 = .ok (.lmul, 1) := by decide +kernel
theorem dX11_find_200 : decode cX11_find 200 = .ok (.lcmp, 1) := by decide +kernel
theorem dX11_find_201 : decode cX11_find 201 = .ok (.ifCond .le 6, 3) := by decide +kernel
theorem dX11_find_204 : decode cX11_find 204 = .ok (.goto 71, 3) := by decide +kernel
theorem dX11_find_207 : decode cX11_find 207 = .ok (.aload_n 0, 1) := by decide +kernel
theorem dX11_find_208 : decode cX11_find 208 = .ok (.getfield 121, 3) := by decide +kernel
theorem dX11_find_211 : decode cX11_find 211 = .ok (.iload 7, 2) := by decide +kernel
theorem dX11_find_213 : decode cX11_find 213 = .ok (.iaload, 1) := by decide +kernel
theorem dX11_find_214 : decode cX11_find 214 = .ok (.ifCond .lt 32, 3) := by decide +kernel
theorem dX11_find_217 : decode cX11_find 217 = .ok (.lload 9, 2) := by decide +kernel
theorem dX11_find_219 : decode cX11_find 219 = .ok (.aload_n 0, 1) := by decide +kernel
theorem dX11_find_220 : decode cX11_find 220 = .ok (.getfield 127, 3) := by decide +kernel
theorem dX11_find_223 : decode cX11_find 223 = .ok (.iload 7, 2) := by decide +kernel
theorem dX11_find_225 : decode cX11_find 225 = .ok (.laload, 1) := by decide +kernel
theorem dX11_find_226 : decode cX11_find 226 = .ok (.lmul, 1) := by decide +kernel
theorem dX11_find_227 : decode cX11_find 227 = .ok (.aload_n 0, 1) := by decide +kernel
theorem dX11_find_228 : decode cX11_find 228 = .ok (.getfield 124, 3) := by decide +kernel
theorem dX11_find_231 : decode cX11_find 231 = .ok (.iload 7, 2) := by decide +kernel
theorem dX11_find_233 : decode cX11_find 233 = .ok (.laload, 1) := by decide +kernel
theorem dX11_find_234 : decode cX11_find 234 = .ok (.aload_n 0, 1) := by decide +kernel
theorem dX11_find_235 : decode cX11_find 235 = .ok (.getfield 268, 3) := by decide +kernel
theorem dX11_find_238 : decode cX11_find 238 = .ok (.lmul, 1) := by decide +kernel
theorem dX11_find_239 : decode cX11_find 239 = .ok (.lcmp, 1) := by decide +kernel
theorem dX11_find_240 : decode cX11_find 240 = .ok (.ifCond .lt 6, 3) := by decide +kernel
theorem dX11_find_243 : decode cX11_find 243 = .ok (.goto 32, 3) := by decide +kernel
theorem dX11_find_246 : decode cX11_find 246 = .ok (.aload_n 0, 1) := by decide +kernel
theorem dX11_find_247 : decode cX11_find 247 = .ok (.getfield 121, 3) := by decide +kernel
theorem dX11_find_250 : decode cX11_find 250 = .ok (.iload 7, 2) := by decide +kernel
theorem dX11_find_252 : decode cX11_find 252 = .ok (.iload 5, 2) := by decide +kernel
theorem dX11_find_254 : decode cX11_find 254 = .ok (.iastore, 1) := by decide +kernel
theorem dX11_find_255 : decode cX11_find 255 = .ok (.aload_n 0, 1) := by decide +kernel
theorem dX11_find_256 : decode cX11_find 256 = .ok (.getfield 124, 3) := by decide +kernel
theorem dX11_find_259 : decode cX11_find 259 = .ok (.iload 7, 2) := by decide +kernel
theorem dX11_find_261 : decode cX11_find 261 = .ok (.lload 9, 2) := by decide +kernel
theorem dX11_find_263 : decode cX11_find 263 = .ok (.lastore, 1) := by decide +kernel
theorem dX11_find_264 : decode cX11_find 264 = .ok (.aload_n 0, 1) := by decide +kernel
theorem dX11_find_265 : decode cX11_find 265 = .ok (.getfield 127, 3) := by decide +kernel
theorem dX11_find_268 : decode cX11_find 268 = .ok (.iload 7, 2) := by decide +kernel
theorem dX11_find_270 : decode cX11_find 270 = .ok (.aload_n 0, 1) := by decide +kernel
theorem dX11_find_271 : decode cX11_find 271 = .ok (.getfield 268, 3) := by decide +kernel
theorem dX11_find_274 : decode cX11_find 274 = .ok (.lastore, 1) := by decide +kernel
theorem dX11_find_275 : decode cX11_find 275 = .ok (.iinc 5 1, 3) := by decide +kernel
theorem dX11_find_278 : decode cX11_find 278 = .ok (.goto (-233), 3) := by decide +kernel
theorem dX11_find_281 : decode cX11_find 281 = .ok (.return_, 1) := by decide +kernel
theorem dX11_square_0 : decode cX11_square 0 = .ok (.lload_n 2, 1) := by decide +kernel
theorem dX11_square_1 : decode cX11_square 1 = .ok (.ldc2_w 278, 3) := by decide +kernel
theorem dX11_square_4 : decode cX11_square 4 = .ok (.land, 1) := by decide +kernel
theorem dX11_square_5 : decode cX11_square 5 = .ok (.lstore 6, 2) := by decide +kernel
theorem dX11_square_7 : decode cX11_square 7 = .ok (.lload_n 2, 1) := by decide +kernel
theorem dX11_square_8 : decode cX11_square 8 = .ok (.bipush 30, 2) := by decide +kernel
theorem dX11_square_10 : decode cX11_square 10 = .ok (.lshr, 1) := by decide +kernel
theorem dX11_square_11 : decode cX11_square 11 = .ok (.lstore 8, 2) := by decide +kernel
theorem dX11_square_13 : decode cX11_square 13 = .ok (.iconst 0, 1) := by decide +kernel
theorem dX11_square_14 : decode cX11_square 14 = .ok (.istore 10, 2) := by decide +kernel
theorem dX11_square_16 : decode cX11_square 16 = .ok (.iload 10, 2) := by decide +kernel
theorem dX11_square_18 : decode cX11_square 18 = .ok (.bipush 6, 2) := by decide +kernel
theorem dX11_square_20 : decode cX11_square 20 = .ok (.if_icmp .ge 14, 3) := by decide +kernel
theorem dX11_square_23 : decode cX11_square 23 = .ok (.aload_n 1, 1) := by decide +kernel
theorem dX11_square_24 : decode cX11_square 24 = .ok (.iload 10, 2) := by decide +kernel
theorem dX11_square_26 : decode cX11_square 26 = .ok (.lconst 0, 1) := by decide +kernel
theorem dX11_square_27 : decode cX11_square 27 = .ok (.lastore, 1) := by decide +kernel
theorem dX11_square_28 : decode cX11_square 28 = .ok (.iinc 10 1, 3) := by decide +kernel
theorem dX11_square_31 : decode cX11_square 31 = .ok (.goto (-15), 3) := by decide +kernel
theorem dX11_square_34 : decode cX11_square 34 = .ok (.aload_n 1, 1) := by decide +kernel
theorem dX11_square_35 : decode cX11_square 35 = .ok (.iconst 0, 1) := by decide +kernel
theorem dX11_square_36 : decode cX11_square 36 = .ok (.lload 6, 2) := by decide +kernel
theorem dX11_square_38 : decode cX11_square 38 = .ok (.lload 6, 2) := by decide +kernel
theorem dX11_square_40 : decode cX11_square 40 = .ok (.lmul, 1) := by decide +kernel
theorem dX11_square_41 : decode cX11_square 41 = .ok (.lastore, 1) := by decide +kernel
theorem dX11_square_42 : decode cX11_square 42 = .ok (.aload_n 1, 1) := by decide +kernel
theorem dX11_square_43 : decode cX11_square 43 = .ok (.iconst 1, 1) := by decide +kernel
theorem dX11_square_44 : decode cX11_square 44 = .ok (.ldc2_w 280, 3) := by decide +kernel
theorem dX11_square_47 : decode cX11_square 47 = .ok (.lload 6, 2) := by decide +kernel
theorem dX11_square_49 : decode cX11_square 49 = .ok (.lmul, 1) := by decide +kernel
theorem dX11_square_50 : decode cX11_square 50 = .ok (.lload 8, 2) := by decide +kernel
theorem dX11_square_52 : decode cX11_square 52 = .ok (.lmul, 1) := by decide +kernel
theorem dX11_square_53 : decode cX11_square 53 = .ok (.lastore, 1) := by decide +kernel
theorem dX11_square_54 : decode cX11_square 54 = .ok (.aload_n 1, 1) := by decide +kernel
theorem dX11_square_55 : decode cX11_square 55 = .ok (.iconst 2, 1) := by decide +kernel
theorem dX11_square_56 : decode cX11_square 56 = .ok (.lload 8, 2) := by decide +kernel
theorem dX11_square_58 : decode cX11_square 58 = .ok (.lload 8, 2) := by decide +kernel
theorem dX11_square_60 : decode cX11_square 60 = .ok (.lmul, 1) := by decide +kernel
theorem dX11_square_61 : decode cX11_square 61 = .ok (.lastore, 1) := by decide +kernel
theorem dX11_square_62 : decode cX11_square 62 = .ok (.aload_n 1, 1) := by decide +kernel
theorem dX11_square_63 : decode cX11_square 63 = .ok (.invokestatic 282, 3) := by decide +kernel
theorem dX11_square_66 : decode cX11_square 66 = .ok (.iconst 0, 1) := by decide +kernel
theorem dX11_square_67 : decode cX11_square 67 = .ok (.istore 10, 2) := by decide +kernel
theorem dX11_square_69 : decode cX11_square 69 = .ok (.iload 10, 2) := by decide +kernel
theorem dX11_square_71 : decode cX11_square 71 = .ok (.bipush 6, 2) := by decide +kernel
theorem dX11_square_73 : decode cX11_square 73 = .ok (.if_icmp .ge 18, 3) := by decide +kernel
theorem dX11_square_76 : decode cX11_square 76 = .ok (.aload_n 1, 1) := by decide +kernel
theorem dX11_square_77 : decode cX11_square 77 = .ok (.iload 10, 2) := by decide +kernel
theorem dX11_square_79 : decode cX11_square 79 = .ok (.dup2, 1) := by decide +kernel
theorem dX11_square_80 : decode cX11_square 80 = .ok (.laload, 1) := by decide +kernel
theorem dX11_square_81 : decode cX11_square 81 = .ok (.lload 4, 2) := by decide +kernel
theorem dX11_square_83 : decode cX11_square 83 = .ok (.lmul, 1) := by decide +kernel
theorem dX11_square_84 : decode cX11_square 84 = .ok (.lastore, 1) := by decide +kernel
theorem dX11_square_85 : decode cX11_square 85 = .ok (.iinc 10 1, 3) := by decide +kernel
theorem dX11_square_88 : decode cX11_square 88 = .ok (.goto (-19), 3) := by decide +kernel
theorem dX11_square_91 : decode cX11_square 91 = .ok (.aload_n 1, 1) := by decide +kernel
theorem dX11_square_92 : decode cX11_square 92 = .ok (.invokestatic 282, 3) := by decide +kernel
theorem dX11_square_95 : decode cX11_square 95 = .ok (.return_, 1) := by decide +kernel
theorem dX11_carry_0 : decode cX11_carry 0 = .ok (.iconst 0, 1) := by decide +kernel
theorem dX11_carry_1 : decode cX11_carry 1 = .ok (.istore_n 1, 1) := by decide +kernel
theorem dX11_carry_2 : decode cX11_carry 2 = .ok (.iload_n 1, 1) := by decide +kernel
theorem dX11_carry_3 : decode cX11_carry 3 = .ok (.iconst 5, 1) := by decide +kernel
theorem dX11_carry_4 : decode cX11_carry 4 = .ok (.if_icmp .ge 32, 3) := by decide +kernel
theorem dX11_carry_7 : decode cX11_carry 7 = .ok (.aload_n 0, 1) := by decide +kernel
theorem dX11_carry_8 : decode cX11_carry 8 = .ok (.iload_n 1, 1) := by decide +kernel
theorem dX11_carry_9 : decode cX11_carry 9 = .ok (.iconst 1, 1) := by decide +kernel
theorem dX11_carry_10 : decode cX11_carry 10 = .ok (.iadd, 1) := by decide +kernel
theorem dX11_carry_11 : decode cX11_carry 11 = .ok (.dup2, 1) := by decide +kernel
theorem dX11_carry_12 : decode cX11_carry 12 = .ok (.laload, 1) := by decide +kernel
theorem dX11_carry_13 : decode cX11_carry 13 = .ok (.aload_n 0, 1) := by decide +kernel
theorem dX11_carry_14 : decode cX11_carry 14 = .ok (.iload_n 1, 1) := by decide +kernel
theorem dX11_carry_15 : decode cX11_carry 15 = .ok (.laload, 1) := by decide +kernel
theorem dX11_carry_16 : decode cX11_carry 16 = .ok (.bipush 30, 2) := by decide +kernel
theorem dX11_carry_18 : decode cX11_carry 18 = .ok (.lshr, 1) := by decide +kernel
theorem dX11_carry_19 : decode cX11_carry 19 = .ok (.ladd, 1) := by decide +kernel
theorem dX11_carry_20 : decode cX11_carry 20 = .ok (.lastore, 1) := by decide +kernel
theorem dX11_carry_21 : decode cX11_carry 21 = .ok (.aload_n 0, 1) := by decide +kernel
theorem dX11_carry_22 : decode cX11_carry 22 = .ok (.iload_n 1, 1) := by decide +kernel
theorem dX11_carry_23 : decode cX11_carry 23 = .ok (.dup2, 1) := by decide +kernel
theorem dX11_carry_24 : decode cX11_carry 24 = .ok (.laload, 1) := by decide +kernel
theorem dX11_carry_25 : decode cX11_carry 25 = .ok (.ldc2_w 278, 3) := by decide +kernel
theorem dX11_carry_28 : decode cX11_carry 28 = .ok (.land, 1) := by decide +kernel
theorem dX11_carry_29 : decode cX11_carry 29 = .ok (.lastore, 1) := by decide +kernel
theorem dX11_carry_30 : decode cX11_carry 30 = .ok (.iinc 1 1, 3) := by decide +kernel
theorem dX11_carry_33 : decode cX11_carry 33 = .ok (.goto (-31), 3) := by decide +kernel
theorem dX11_carry_36 : decode cX11_carry 36 = .ok (.return_, 1) := by decide +kernel
theorem dX11_way_0 : decode cX11_way 0 = .ok (.aload_n 0, 1) := by decide +kernel
theorem dX11_way_1 : decode cX11_way 1 = .ok (.getfield 28, 3) := by decide +kernel
theorem dX11_way_4 : decode cX11_way 4 = .ok (.iload_n 1, 1) := by decide +kernel
theorem dX11_way_5 : decode cX11_way 5 = .ok (.iaload, 1) := by decide +kernel
theorem dX11_way_6 : decode cX11_way 6 = .ok (.aload_n 0, 1) := by decide +kernel
theorem dX11_way_7 : decode cX11_way 7 = .ok (.getfield 13, 3) := by decide +kernel
theorem dX11_way_10 : decode cX11_way 10 = .ok (.aload_n 0, 1) := by decide +kernel
theorem dX11_way_11 : decode cX11_way 11 = .ok (.getfield 19, 3) := by decide +kernel
theorem dX11_way_14 : decode cX11_way 14 = .ok (.iload_n 2, 1) := by decide +kernel
theorem dX11_way_15 : decode cX11_way 15 = .ok (.iaload, 1) := by decide +kernel
theorem dX11_way_16 : decode cX11_way 16 = .ok (.iaload, 1) := by decide +kernel
theorem dX11_way_17 : decode cX11_way 17 = .ok (.isub, 1) := by decide +kernel
theorem dX11_way_18 : decode cX11_way 18 = .ok (.i2l, 1) := by decide +kernel
theorem dX11_way_19 : decode cX11_way 19 = .ok (.lstore_n 3, 1) := by decide +kernel
theorem dX11_way_20 : decode cX11_way 20 = .ok (.aload_n 0, 1) := by decide +kernel
theorem dX11_way_21 : decode cX11_way 21 = .ok (.getfield 31, 3) := by decide +kernel
theorem dX11_way_24 : decode cX11_way 24 = .ok (.iload_n 1, 1) := by decide +kernel
theorem dX11_way_25 : decode cX11_way 25 = .ok (.iaload, 1) := by decide +kernel
theorem dX11_way_26 : decode cX11_way 26 = .ok (.aload_n 0, 1) := by decide +kernel
theorem dX11_way_27 : decode cX11_way 27 = .ok (.getfield 16, 3) := by decide +kernel
theorem dX11_way_30 : decode cX11_way 30 = .ok (.aload_n 0, 1) := by decide +kernel
theorem dX11_way_31 : decode cX11_way 31 = .ok (.getfield 19, 3) := by decide +kernel
theorem dX11_way_34 : decode cX11_way 34 = .ok (.iload_n 2, 1) := by decide +kernel
theorem dX11_way_35 : decode cX11_way 35 = .ok (.iaload, 1) := by decide +kernel
theorem dX11_way_36 : decode cX11_way 36 = .ok (.iaload, 1) := by decide +kernel
theorem dX11_way_37 : decode cX11_way 37 = .ok (.isub, 1) := by decide +kernel
theorem dX11_way_38 : decode cX11_way 38 = .ok (.i2l, 1) := by decide +kernel
theorem dX11_way_39 : decode cX11_way 39 = .ok (.lstore 5, 2) := by decide +kernel
theorem dX11_way_41 : decode cX11_way 41 = .ok (.lload_n 3, 1) := by decide +kernel
theorem dX11_way_42 : decode cX11_way 42 = .ok (.lload_n 3, 1) := by decide +kernel
theorem dX11_way_43 : decode cX11_way 43 = .ok (.lmul, 1) := by decide +kernel
theorem dX11_way_44 : decode cX11_way 44 = .ok (.lload 5, 2) := by decide +kernel
theorem dX11_way_46 : decode cX11_way 46 = .ok (.lload 5, 2) := by decide +kernel
theorem dX11_way_48 : decode cX11_way 48 = .ok (.lmul, 1) := by decide +kernel
theorem dX11_way_49 : decode cX11_way 49 = .ok (.ladd, 1) := by decide +kernel
theorem dX11_way_50 : decode cX11_way 50 = .ok (.lreturn, 1) := by decide +kernel
theorem dX11_over_0 : decode cX11_over 0 = .ok (.aload_n 0, 1) := by decide +kernel
theorem dX11_over_1 : decode cX11_over 1 = .ok (.aload_n 0, 1) := by decide +kernel
theorem dX11_over_2 : decode cX11_over 2 = .ok (.getfield 130, 3) := by decide +kernel
theorem dX11_over_5 : decode cX11_over 5 = .ok (.aload_n 0, 1) := by decide +kernel
theorem dX11_over_6 : decode cX11_over 6 = .ok (.getfield 124, 3) := by decide +kernel
theorem dX11_over_9 : decode cX11_over 9 = .ok (.iload_n 3, 1) := by decide +kernel
theorem dX11_over_10 : decode cX11_over 10 = .ok (.laload, 1) := by decide +kernel
theorem dX11_over_11 : decode cX11_over 11 = .ok (.aload_n 0, 1) := by decide +kernel
theorem dX11_over_12 : decode cX11_over 12 = .ok (.getfield 127, 3) := by decide +kernel
theorem dX11_over_15 : decode cX11_over 15 = .ok (.iload_n 2, 1) := by decide +kernel
theorem dX11_over_16 : decode cX11_over 16 = .ok (.laload, 1) := by decide +kernel
theorem dX11_over_17 : decode cX11_over 17 = .ok (.lmul, 1) := by decide +kernel
theorem dX11_over_18 : decode cX11_over 18 = .ok (.aload_n 0, 1) := by decide +kernel
theorem dX11_over_19 : decode cX11_over 19 = .ok (.iload_n 1, 1) := by decide +kernel
theorem dX11_over_20 : decode cX11_over 20 = .ok (.iload_n 2, 1) := by decide +kernel
theorem dX11_over_21 : decode cX11_over 21 = .ok (.invokevirtual 286, 3) := by decide +kernel
theorem dX11_over_24 : decode cX11_over 24 = .ok (.invokevirtual 290, 3) := by decide +kernel
theorem dX11_over_27 : decode cX11_over 27 = .ok (.aload_n 0, 1) := by decide +kernel
theorem dX11_over_28 : decode cX11_over 28 = .ok (.aload_n 0, 1) := by decide +kernel
theorem dX11_over_29 : decode cX11_over 29 = .ok (.getfield 133, 3) := by decide +kernel
theorem dX11_over_32 : decode cX11_over 32 = .ok (.aload_n 0, 1) := by decide +kernel
theorem dX11_over_33 : decode cX11_over 33 = .ok (.getfield 124, 3) := by decide +kernel
theorem dX11_over_36 : decode cX11_over 36 = .ok (.iload_n 2, 1) := by decide +kernel
theorem dX11_over_37 : decode cX11_over 37 = .ok (.laload, 1) := by decide +kernel
theorem dX11_over_38 : decode cX11_over 38 = .ok (.aload_n 0, 1) := by decide +kernel
theorem dX11_over_39 : decode cX11_over 39 = .ok (.getfield 127, 3) := by decide +kernel
theorem dX11_over_42 : decode cX11_over 42 = .ok (.iload_n 3, 1) := by decide +kernel
theorem dX11_over_43 : decode cX11_over 43 = .ok (.laload, 1) := by decide +kernel
theorem dX11_over_44 : decode cX11_over 44 = .ok (.lmul, 1) := by decide +kernel
theorem dX11_over_45 : decode cX11_over 45 = .ok (.aload_n 0, 1) := by decide +kernel
theorem dX11_over_46 : decode cX11_over 46 = .ok (.iload_n 1, 1) := by decide +kernel
theorem dX11_over_47 : decode cX11_over 47 = .ok (.iload_n 3, 1) := by decide +kernel
theorem dX11_over_48 : decode cX11_over 48 = .ok (.invokevirtual 286, 3) := by decide +kernel
theorem dX11_over_51 : decode cX11_over 51 = .ok (.invokevirtual 290, 3) := by decide +kernel
theorem dX11_over_54 : decode cX11_over 54 = .ok (.iconst 5, 1) := by decide +kernel
theorem dX11_over_55 : decode cX11_over 55 = .ok (.istore 4, 2) := by decide +kernel
theorem dX11_over_57 : decode cX11_over 57 = .ok (.iload 4, 2) := by decide +kernel
theorem dX11_over_59 : decode cX11_over 59 = .ok (.ifCond .lt 51, 3) := by decide +kernel
theorem dX11_over_62 : decode cX11_over 62 = .ok (.aload_n 0, 1) := by decide +kernel
theorem dX11_over_63 : decode cX11_over 63 = .ok (.getfield 130, 3) := by decide +kernel
theorem dX11_over_66 : decode cX11_over 66 = .ok (.iload 4, 2) := by decide +kernel
theorem dX11_over_68 : decode cX11_over 68 = .ok (.laload, 1) := by decide +kernel
theorem dX11_over_69 : decode cX11_over 69 = .ok (.aload_n 0, 1) := by decide +kernel
theorem dX11_over_70 : decode cX11_over 70 = .ok (.getfield 133, 3) := by decide +kernel
theorem dX11_over_73 : decode cX11_over 73 = .ok (.iload 4, 2) := by decide +kernel
theorem dX11_over_75 : decode cX11_over 75 = .ok (.laload, 1) := by decide +kernel
theorem dX11_over_76 : decode cX11_over 76 = .ok (.lcmp, 1) := by decide +kernel
theorem dX11_over_77 : decode cX11_over 77 = .ok (.ifCond .eq 27, 3) := by decide +kernel
theorem dX11_over_80 : decode cX11_over 80 = .ok (.aload_n 0, 1) := by decide +kernel
theorem dX11_over_81 : decode cX11_over 81 = .ok (.getfield 130, 3) := by decide +kernel
theorem dX11_over_84 : decode cX11_over 84 = .ok (.iload 4, 2) := by decide +kernel
theorem dX11_over_86 : decode cX11_over 86 = .ok (.laload, 1) := by decide +kernel
theorem dX11_over_87 : decode cX11_over 87 = .ok (.aload_n 0, 1) := by decide +kernel
theorem dX11_over_88 : decode cX11_over 88 = .ok (.getfield 133, 3) := by decide +kernel
theorem dX11_over_91 : decode cX11_over 91 = .ok (.iload 4, 2) := by decide +kernel
theorem dX11_over_93 : decode cX11_over 93 = .ok (.laload, 1) := by decide +kernel
theorem dX11_over_94 : decode cX11_over 94 = .ok (.lcmp, 1) := by decide +kernel
theorem dX11_over_95 : decode cX11_over 95 = .ok (.ifCond .le 7, 3) := by decide +kernel
theorem dX11_over_98 : decode cX11_over 98 = .ok (.iconst 1, 1) := by decide +kernel
theorem dX11_over_99 : decode cX11_over 99 = .ok (.goto 4, 3) := by decide +kernel
theorem dX11_over_102 : decode cX11_over 102 = .ok (.iconst (-1), 1) := by decide +kernel
theorem dX11_over_103 : decode cX11_over 103 = .ok (.ireturn, 1) := by decide +kernel
theorem dX11_over_104 : decode cX11_over 104 = .ok (.iinc 4 (-1), 3) := by decide +kernel
theorem dX11_over_107 : decode cX11_over 107 = .ok (.goto (-50), 3) := by decide +kernel
theorem dX11_over_110 : decode cX11_over 110 = .ok (.iconst 0, 1) := by decide +kernel
theorem dX11_over_111 : decode cX11_over 111 = .ok (.ireturn, 1) := by decide +kernel
theorem dX11_holds_0 : decode cX11_holds 0 = .ok (.bipush 6, 2) := by decide +kernel
theorem dX11_holds_2 : decode cX11_holds 2 = .ok (.aload_n 0, 1) := by decide +kernel
theorem dX11_holds_3 : decode cX11_holds 3 = .ok (.getfield 231, 3) := by decide +kernel
theorem dX11_holds_6 : decode cX11_holds 6 = .ok (.imul, 1) := by decide +kernel
theorem dX11_holds_7 : decode cX11_holds 7 = .ok (.iload_n 1, 1) := by decide +kernel
theorem dX11_holds_8 : decode cX11_holds 8 = .ok (.iadd, 1) := by decide +kernel
theorem dX11_holds_9 : decode cX11_holds 9 = .ok (.istore_n 3, 1) := by decide +kernel
theorem dX11_holds_10 : decode cX11_holds 10 = .ok (.aload_n 0, 1) := by decide +kernel
theorem dX11_holds_11 : decode cX11_holds 11 = .ok (.getfield 106, 3) := by decide +kernel
theorem dX11_holds_14 : decode cX11_holds 14 = .ok (.iload_n 3, 1) := by decide +kernel
theorem dX11_holds_15 : decode cX11_holds 15 = .ok (.iaload, 1) := by decide +kernel
theorem dX11_holds_16 : decode cX11_holds 16 = .ok (.iconst (-1), 1) := by decide +kernel
theorem dX11_holds_17 : decode cX11_holds 17 = .ok (.if_icmp .ne 5, 3) := by decide +kernel
theorem dX11_holds_20 : decode cX11_holds 20 = .ok (.iconst 1, 1) := by decide +kernel
theorem dX11_holds_21 : decode cX11_holds 21 = .ok (.ireturn, 1) := by decide +kernel
theorem dX11_holds_22 : decode cX11_holds 22 = .ok (.iconst 0, 1) := by decide +kernel
theorem dX11_holds_23 : decode cX11_holds 23 = .ok (.istore 4, 2) := by decide +kernel
theorem dX11_holds_25 : decode cX11_holds 25 = .ok (.iconst 0, 1) := by decide +kernel
theorem dX11_holds_26 : decode cX11_holds 26 = .ok (.istore 5, 2) := by decide +kernel
theorem dX11_holds_28 : decode cX11_holds 28 = .ok (.iload 5, 2) := by decide +kernel
theorem dX11_holds_30 : decode cX11_holds 30 = .ok (.aload_n 0, 1) := by decide +kernel
theorem dX11_holds_31 : decode cX11_holds 31 = .ok (.getfield 106, 3) := by decide +kernel
theorem dX11_holds_34 : decode cX11_holds 34 = .ok (.iload_n 3, 1) := by decide +kernel
theorem dX11_holds_35 : decode cX11_holds 35 = .ok (.iaload, 1) := by decide +kernel
theorem dX11_holds_36 : decode cX11_holds 36 = .ok (.if_icmp .ge 299, 3) := by decide +kernel
theorem dX11_holds_39 : decode cX11_holds 39 = .ok (.aload_n 0, 1) := by decide +kernel
theorem dX11_holds_40 : decode cX11_holds 40 = .ok (.getfield 109, 3) := by decide +kernel
theorem dX11_holds_43 : decode cX11_holds 43 = .ok (.sipush 800, 3) := by decide +kernel
theorem dX11_holds_46 : decode cX11_holds 46 = .ok (.iload_n 3, 1) := by decide +kernel
theorem dX11_holds_47 : decode cX11_holds 47 = .ok (.imul, 1) := by decide +kernel
theorem dX11_holds_48 : decode cX11_holds 48 = .ok (.iload 5, 2) := by decide +kernel
theorem dX11_holds_50 : decode cX11_holds 50 = .ok (.iadd, 1) := by decide +kernel
theorem dX11_holds_51 : decode cX11_holds 51 = .ok (.iaload, 1) := by decide +kernel
theorem dX11_holds_52 : decode cX11_holds 52 = .ok (.istore 6, 2) := by decide +kernel
theorem dX11_holds_54 : decode cX11_holds 54 = .ok (.iload 6, 2) := by decide +kernel
theorem dX11_holds_56 : decode cX11_holds 56 = .ok (.bipush 8, 2) := by decide +kernel
theorem dX11_holds_58 : decode cX11_holds 58 = .ok (.if_icmp .ne 32, 3) := by decide +kernel
theorem dX11_holds_61 : decode cX11_holds 61 = .ok (.aload_n 0, 1) := by decide +kernel
theorem dX11_holds_62 : decode cX11_holds 62 = .ok (.getfield 136, 3) := by decide +kernel
theorem dX11_holds_65 : decode cX11_holds 65 = .ok (.iload 4, 2) := by decide +kernel
theorem dX11_holds_67 : decode cX11_holds 67 = .ok (.iconst 1, 1) := by decide +kernel
theorem dX11_holds_68 : decode cX11_holds 68 = .ok (.isub, 1) := by decide +kernel
theorem dX11_holds_69 : decode cX11_holds 69 = .ok (.aload_n 0, 1) := by decide +kernel
theorem dX11_holds_70 : decode cX11_holds 70 = .ok (.getfield 136, 3) := by decide +kernel
theorem dX11_holds_73 : decode cX11_holds 73 = .ok (.iload 4, 2) := by decide +kernel
theorem dX11_holds_75 : decode cX11_holds 75 = .ok (.iconst 1, 1) := by decide +kernel
theorem dX11_holds_76 : decode cX11_holds 76 = .ok (.isub, 1) := by decide +kernel
theorem dX11_holds_77 : decode cX11_holds 77 = .ok (.baload, 1) := by decide +kernel
theorem dX11_holds_78 : decode cX11_holds 78 = .ok (.ifCond .ne 7, 3) := by decide +kernel
theorem dX11_holds_81 : decode cX11_holds 81 = .ok (.iconst 1, 1) := by decide +kernel
theorem dX11_holds_82 : decode cX11_holds 82 = .ok (.goto 4, 3) := by decide +kernel
theorem dX11_holds_85 : decode cX11_holds 85 = .ok (.iconst 0, 1) := by decide +kernel
theorem dX11_holds_86 : decode cX11_holds 86 = .ok (.bastore, 1) := by decide +kernel
theorem dX11_holds_87 : decode cX11_holds 87 = .ok (.goto 242, 3) := by decide +kernel
theorem dX11_holds_90 : decode cX11_holds 90 = .ok (.iload 6, 2) := by decide +kernel
theorem dX11_holds_92 : decode cX11_holds 92 = .ok (.bipush 7, 2) := by decide +kernel
theorem dX11_holds_94 : decode cX11_holds 94 = .ok (.if_icmp .ne 45, 3) := by decide +kernel
theorem dX11_holds_97 : decode cX11_holds 97 = .ok (.iinc 4 (-1), 3) := by decide +kernel
theorem dX11_holds_100 : decode cX11_holds 100 = .ok (.aload_n 0, 1) := by decide +kernel
theorem dX11_holds_101 : decode cX11_holds 101 = .ok (.getfield 136, 3) := by decide +kernel
theorem dX11_holds_104 : decode cX11_holds 104 = .ok (.iload 4, 2) := by decide +kernel
theorem dX11_holds_106 : decode cX11_holds 106 = .ok (.iconst 1, 1) := by decide +kernel
theorem dX11_holds_107 : decode cX11_holds 107 = .ok (.isub, 1) := by decide +kernel
theorem dX11_holds_108 : decode cX11_holds 108 = .ok (.aload_n 0, 1) := by decide +kernel
theorem dX11_holds_109 : decode cX11_holds 109 = .ok (.getfield 136, 3) := by decide +kernel
theorem dX11_holds_112 : decode cX11_holds 112 = .ok (.iload 4, 2) := by decide +kernel
theorem dX11_holds_114 : decode cX11_holds 114 = .ok (.iconst 1, 1) := by decide +kernel
theorem dX11_holds_115 : decode cX11_holds 115 = .ok (.isub, 1) := by decide +kernel
theorem dX11_holds_116 : decode cX11_holds 116 = .ok (.baload, 1) := by decide +kernel
theorem dX11_holds_117 : decode cX11_holds 117 = .ok (.ifCond .eq 17, 3) := by decide +kernel
theorem dX11_holds_120 : decode cX11_holds 120 = .ok (.aload_n 0, 1) := by decide +kernel
theorem dX11_holds_121 : decode cX11_holds 121 = .ok (.getfield 136, 3) := by decide +kernel
theorem dX11_holds_124 : decode cX11_holds 124 = .ok (.iload 4, 2) := by decide +kernel
theorem dX11_holds_126 : decode cX11_holds 126 = .ok (.baload, 1) := by decide +kernel
theorem dX11_holds_127 : decode cX11_holds 127 = .ok (.ifCond .eq 7, 3) := by decide +kernel
theorem dX11_holds_130 : decode cX11_holds 130 = .ok (.iconst 1, 1) := by decide +kernel
theorem dX11_holds_131 : decode cX11_holds 131 = .ok (.goto 4, 3) := by decide +kernel
theorem dX11_holds_134 : decode cX11_holds 134 = .ok (.iconst 0, 1) := by decide +kernel
theorem dX11_holds_135 : decode cX11_holds 135 = .ok (.bastore, 1) := by decide +kernel
theorem dX11_holds_136 : decode cX11_holds 136 = .ok (.goto 193, 3) := by decide +kernel
theorem dX11_holds_139 : decode cX11_holds 139 = .ok (.iload 6, 2) := by decide +kernel
theorem dX11_holds_141 : decode cX11_holds 141 = .ok (.bipush 6, 2) := by decide +kernel
theorem dX11_holds_143 : decode cX11_holds 143 = .ok (.if_icmp .ne 45, 3) := by decide +kernel
theorem dX11_holds_146 : decode cX11_holds 146 = .ok (.iinc 4 (-1), 3) := by decide +kernel
theorem dX11_holds_149 : decode cX11_holds 149 = .ok (.aload_n 0, 1) := by decide +kernel
theorem dX11_holds_150 : decode cX11_holds 150 = .ok (.getfield 136, 3) := by decide +kernel
theorem dX11_holds_153 : decode cX11_holds 153 = .ok (.iload 4, 2) := by decide +kernel
theorem dX11_holds_155 : decode cX11_holds 155 = .ok (.iconst 1, 1) := by decide +kernel
theorem dX11_holds_156 : decode cX11_holds 156 = .ok (.isub, 1) := by decide +kernel
theorem dX11_holds_157 : decode cX11_holds 157 = .ok (.aload_n 0, 1) := by decide +kernel
theorem dX11_holds_158 : decode cX11_holds 158 = .ok (.getfield 136, 3) := by decide +kernel
theorem dX11_holds_161 : decode cX11_holds 161 = .ok (.iload 4, 2) := by decide +kernel
theorem dX11_holds_163 : decode cX11_holds 163 = .ok (.iconst 1, 1) := by decide +kernel
theorem dX11_holds_164 : decode cX11_holds 164 = .ok (.isub, 1) := by decide +kernel
theorem dX11_holds_165 : decode cX11_holds 165 = .ok (.baload, 1) := by decide +kernel
theorem dX11_holds_166 : decode cX11_holds 166 = .ok (.ifCond .ne 13, 3) := by decide +kernel
theorem dX11_holds_169 : decode cX11_holds 169 = .ok (.aload_n 0, 1) := by decide +kernel
theorem dX11_holds_170 : decode cX11_holds 170 = .ok (.getfield 136, 3) := by decide +kernel
theorem dX11_holds_173 : decode cX11_holds 173 = .ok (.iload 4, 2) := by decide +kernel
theorem dX11_holds_175 : decode cX11_holds 175 = .ok (.baload, 1) := by decide +kernel
theorem dX11_holds_176 : decode cX11_holds 176 = .ok (.ifCond .eq 7, 3) := by decide +kernel
theorem dX11_holds_179 : decode cX11_holds 179 = .ok (.iconst 1, 1) := by decide +kernel
theorem dX11_holds_180 : decode cX11_holds 180 = .ok (.goto 4, 3) := by decide +kernel
theorem dX11_holds_183 : decode cX11_holds 183 = .ok (.iconst 0, 1) := by decide +kernel
theorem dX11_holds_184 : decode cX11_holds 184 = .ok (.bastore, 1) := by decide +kernel
theorem dX11_holds_185 : decode cX11_holds 185 = .ok (.goto 144, 3) := by decide +kernel
theorem dX11_holds_188 : decode cX11_holds 188 = .ok (.iload 6, 2) := by decide +kernel
theorem dX11_holds_190 : decode cX11_holds 190 = .ok (.bipush 16, 2) := by decide +kernel
theorem dX11_holds_192 : decode cX11_holds 192 = .ok (.idiv, 1) := by decide +kernel
theorem dX11_holds_193 : decode cX11_holds 193 = .ok (.bipush 9, 2) := by decide +kernel
theorem dX11_holds_195 : decode cX11_holds 195 = .ok (.isub, 1) := by decide +kernel
theorem dX11_holds_196 : decode cX11_holds 196 = .ok (.istore 7, 2) := by decide +kernel
theorem dX11_holds_198 : decode cX11_holds 198 = .ok (.iload 7, 2) := by decide +kernel
theorem dX11_holds_200 : decode cX11_holds 200 = .ok (.ifCond .ne 12, 3) := by decide +kernel
theorem dX11_holds_203 : decode cX11_holds 203 = .ok (.aload_n 0, 1) := by decide +kernel
theorem dX11_holds_204 : decode cX11_holds 204 = .ok (.getfield 19, 3) := by decide +kernel
theorem dX11_holds_207 : decode cX11_holds 207 = .ok (.iload_n 2, 1) := by decide +kernel
theorem dX11_holds_208 : decode cX11_holds 208 = .ok (.iaload, 1) := by decide +kernel
theorem dX11_holds_209 : decode cX11_holds 209 = .ok (.goto 34, 3) := by decide +kernel
theorem dX11_holds_212 : decode cX11_holds 212 = .ok (.iload 7, 2) := by decide +kernel
theorem dX11_holds_214 : decode cX11_holds 214 = .ok (.iconst 1, 1) := by decide +kernel
theorem dX11_holds_215 : decode cX11_holds 215 = .ok (.if_icmp .ne 12, 3) := by decide +kernel
theorem dX11_holds_218 : decode cX11_holds 218 = .ok (.aload_n 0, 1) := by decide +kernel
theorem dX11_holds_219 : decode cX11_holds 219 = .ok (.getfield 22, 3) := by decide +kernel
theorem dX11_holds_222 : decode cX11_holds 222 = .ok (.iload_n 2, 1) := by decide +kernel
theorem dX11_holds_223 : decode cX11_holds 223 = .ok (.iaload, 1) := by decide +kernel
theorem dX11_holds_224 : decode cX11_holds 224 = .ok (.goto 19, 3) := by decide +kernel
theorem dX11_holds_227 : decode cX11_holds 227 = .ok (.iload 7, 2) := by decide +kernel
theorem dX11_holds_229 : decode cX11_holds 229 = .ok (.iconst 2, 1) := by decide +kernel
theorem dX11_holds_230 : decode cX11_holds 230 = .ok (.if_icmp .ne 12, 3) := by decide +kernel
theorem dX11_holds_233 : decode cX11_holds 233 = .ok (.aload_n 0, 1) := by decide +kernel
theorem dX11_holds_234 : decode cX11_holds 234 = .ok (.getfield 25, 3) := by decide +kernel
theorem dX11_holds_237 : decode cX11_holds 237 = .ok (.iload_n 2, 1) := by decide +kernel
theorem dX11_holds_238 : decode cX11_holds 238 = .ok (.iaload, 1) := by decide +kernel
theorem dX11_holds_239 : decode cX11_holds 239 = .ok (.goto 4, 3) := by decide +kernel
theorem dX11_holds_242 : decode cX11_holds 242 = .ok (.iload_n 2, 1) := by decide +kernel
theorem dX11_holds_243 : decode cX11_holds 243 = .ok (.istore 8, 2) := by decide +kernel
theorem dX11_holds_245 : decode cX11_holds 245 = .ok (.aload_n 0, 1) := by decide +kernel
theorem dX11_holds_246 : decode cX11_holds 246 = .ok (.getfield 112, 3) := by decide +kernel
theorem dX11_holds_249 : decode cX11_holds 249 = .ok (.sipush 800, 3) := by decide +kernel
theorem dX11_holds_252 : decode cX11_holds 252 = .ok (.iload_n 3, 1) := by decide +kernel
theorem dX11_holds_253 : decode cX11_holds 253 = .ok (.imul, 1) := by decide +kernel
theorem dX11_holds_254 : decode cX11_holds 254 = .ok (.iload 5, 2) := by decide +kernel
theorem dX11_holds_256 : decode cX11_holds 256 = .ok (.iadd, 1) := by decide +kernel
theorem dX11_holds_257 : decode cX11_holds 257 = .ok (.iaload, 1) := by decide +kernel
theorem dX11_holds_258 : decode cX11_holds 258 = .ok (.istore 9, 2) := by decide +kernel
theorem dX11_holds_260 : decode cX11_holds 260 = .ok (.aload_n 0, 1) := by decide +kernel
theorem dX11_holds_261 : decode cX11_holds 261 = .ok (.getfield 136, 3) := by decide +kernel
theorem dX11_holds_264 : decode cX11_holds 264 = .ok (.iload 4, 2) := by decide +kernel
theorem dX11_holds_266 : decode cX11_holds 266 = .ok (.iload 6, 2) := by decide +kernel
theorem dX11_holds_268 : decode cX11_holds 268 = .ok (.bipush 16, 2) := by decide +kernel
theorem dX11_holds_270 : decode cX11_holds 270 = .ok (.irem, 1) := by decide +kernel
theorem dX11_holds_271 : decode cX11_holds 271 = .ok (.ifCond .ne 18, 3) := by decide +kernel
theorem dX11_holds_274 : decode cX11_holds 274 = .ok (.iload 8, 2) := by decide +kernel
theorem dX11_holds_276 : decode cX11_holds 276 = .ok (.iload 9, 2) := by decide +kernel
theorem dX11_holds_278 : decode cX11_holds 278 = .ok (.if_icmp .ge 7, 3) := by decide +kernel
theorem dX11_holds_281 : decode cX11_holds 281 = .ok (.iconst 1, 1) := by decide +kernel
theorem dX11_holds_282 : decode cX11_holds 282 = .ok (.goto 43, 3) := by decide +kernel
theorem dX11_holds_285 : decode cX11_holds 285 = .ok (.iconst 0, 1) := by decide +kernel
theorem dX11_holds_286 : decode cX11_holds 286 = .ok (.goto 39, 3) := by decide +kernel
theorem dX11_holds_289 : decode cX11_holds 289 = .ok (.iload 6, 2) := by decide +kernel
theorem dX11_holds_291 : decode cX11_holds 291 = .ok (.bipush 16, 2) := by decide +kernel
theorem dX11_holds_293 : decode cX11_holds 293 = .ok (.irem, 1) := by decide +kernel
theorem dX11_holds_294 : decode cX11_holds 294 = .ok (.iconst 1, 1) := by decide +kernel
theorem dX11_holds_295 : decode cX11_holds 295 = .ok (.if_icmp .ne 18, 3) := by decide +kernel
theorem dX11_holds_298 : decode cX11_holds 298 = .ok (.iload 8, 2) := by decide +kernel
theorem dX11_holds_300 : decode cX11_holds 300 = .ok (.iload 9, 2) := by decide +kernel
theorem dX11_holds_302 : decode cX11_holds 302 = .ok (.if_icmp .le 7, 3) := by decide +kernel
theorem dX11_holds_305 : decode cX11_holds 305 = .ok (.iconst 1, 1) := by decide +kernel
theorem dX11_holds_306 : decode cX11_holds 306 = .ok (.goto 19, 3) := by decide +kernel
theorem dX11_holds_309 : decode cX11_holds 309 = .ok (.iconst 0, 1) := by decide +kernel
theorem dX11_holds_310 : decode cX11_holds 310 = .ok (.goto 15, 3) := by decide +kernel
theorem dX11_holds_313 : decode cX11_holds 313 = .ok (.iload 8, 2) := by decide +kernel
theorem dX11_holds_315 : decode cX11_holds 315 = .ok (.iload 9, 2) := by decide +kernel
theorem dX11_holds_317 : decode cX11_holds 317 = .ok (.if_icmp .ne 7, 3) := by decide +kernel
theorem dX11_holds_320 : decode cX11_holds 320 = .ok (.iconst 1, 1) := by decide +kernel
theorem dX11_holds_321 : decode cX11_holds 321 = .ok (.goto 4, 3) := by decide +kernel
theorem dX11_holds_324 : decode cX11_holds 324 = .ok (.iconst 0, 1) := by decide +kernel
theorem dX11_holds_325 : decode cX11_holds 325 = .ok (.bastore, 1) := by decide +kernel
theorem dX11_holds_326 : decode cX11_holds 326 = .ok (.iinc 4 1, 3) := by decide +kernel
theorem dX11_holds_329 : decode cX11_holds 329 = .ok (.iinc 5 1, 3) := by decide +kernel
theorem dX11_holds_332 : decode cX11_holds 332 = .ok (.goto (-304), 3) := by decide +kernel
theorem dX11_holds_335 : decode cX11_holds 335 = .ok (.aload_n 0, 1) := by decide +kernel
theorem dX11_holds_336 : decode cX11_holds 336 = .ok (.getfield 136, 3) := by decide +kernel
theorem dX11_holds_339 : decode cX11_holds 339 = .ok (.iconst 0, 1) := by decide +kernel
theorem dX11_holds_340 : decode cX11_holds 340 = .ok (.baload, 1) := by decide +kernel
theorem dX11_holds_341 : decode cX11_holds 341 = .ok (.ireturn, 1) := by decide +kernel
theorem dX11_isGone_0 : decode cX11_isGone 0 = .ok (.aload_n 0, 1) := by decide +kernel
theorem dX11_isGone_1 : decode cX11_isGone 1 = .ok (.getfield 74, 3) := by decide +kernel
theorem dX11_isGone_4 : decode cX11_isGone 4 = .ok (.bipush 24, 2) := by decide +kernel
theorem dX11_isGone_6 : decode cX11_isGone 6 = .ok (.iload_n 1, 1) := by decide +kernel
theorem dX11_isGone_7 : decode cX11_isGone 7 = .ok (.imul, 1) := by decide +kernel
theorem dX11_isGone_8 : decode cX11_isGone 8 = .ok (.iload_n 2, 1) := by decide +kernel
theorem dX11_isGone_9 : decode cX11_isGone 9 = .ok (.iadd, 1) := by decide +kernel
theorem dX11_isGone_10 : decode cX11_isGone 10 = .ok (.iaload, 1) := by decide +kernel
theorem dX11_isGone_11 : decode cX11_isGone 11 = .ok (.ifCond .le 24, 3) := by decide +kernel
theorem dX11_isGone_14 : decode cX11_isGone 14 = .ok (.aload_n 0, 1) := by decide +kernel
theorem dX11_isGone_15 : decode cX11_isGone 15 = .ok (.getfield 74, 3) := by decide +kernel
theorem dX11_isGone_18 : decode cX11_isGone 18 = .ok (.bipush 24, 2) := by decide +kernel
theorem dX11_isGone_20 : decode cX11_isGone 20 = .ok (.iload_n 1, 1) := by decide +kernel
theorem dX11_isGone_21 : decode cX11_isGone 21 = .ok (.imul, 1) := by decide +kernel
theorem dX11_isGone_22 : decode cX11_isGone 22 = .ok (.iload_n 2, 1) := by decide +kernel
theorem dX11_isGone_23 : decode cX11_isGone 23 = .ok (.iadd, 1) := by decide +kernel
theorem dX11_isGone_24 : decode cX11_isGone 24 = .ok (.iaload, 1) := by decide +kernel
theorem dX11_isGone_25 : decode cX11_isGone 25 = .ok (.iconst 1, 1) := by decide +kernel
theorem dX11_isGone_26 : decode cX11_isGone 26 = .ok (.isub, 1) := by decide +kernel
theorem dX11_isGone_27 : decode cX11_isGone 27 = .ok (.iload_n 3, 1) := by decide +kernel
theorem dX11_isGone_28 : decode cX11_isGone 28 = .ok (.if_icmp .gt 7, 3) := by decide +kernel
theorem dX11_isGone_31 : decode cX11_isGone 31 = .ok (.iconst 1, 1) := by decide +kernel
theorem dX11_isGone_32 : decode cX11_isGone 32 = .ok (.goto 4, 3) := by decide +kernel
theorem dX11_isGone_35 : decode cX11_isGone 35 = .ok (.iconst 0, 1) := by decide +kernel
theorem dX11_isGone_36 : decode cX11_isGone 36 = .ok (.ireturn, 1) := by decide +kernel
theorem dX11_results_0 : decode cX11_results 0 = .ok (.aload_n 0, 1) := by decide +kernel
theorem dX11_results_1 : decode cX11_results 1 = .ok (.iload_n 1, 1) := by decide +kernel
theorem dX11_results_2 : decode cX11_results 2 = .ok (.iload_n 2, 1) := by decide +kernel
theorem dX11_results_3 : decode cX11_results 3 = .ok (.iload_n 3, 1) := by decide +kernel
theorem dX11_results_4 : decode cX11_results 4 = .ok (.invokevirtual 294, 3) := by decide +kernel
theorem dX11_results_7 : decode cX11_results 7 = .ok (.aload_n 0, 1) := by decide +kernel
theorem dX11_results_8 : decode cX11_results 8 = .ok (.iconst 0, 1) := by decide +kernel
theorem dX11_results_9 : decode cX11_results 9 = .ok (.putfield 297, 3) := by decide +kernel
theorem dX11_results_12 : decode cX11_results 12 = .ok (.iconst 0, 1) := by decide +kernel
theorem dX11_results_13 : decode cX11_results 13 = .ok (.istore 4, 2) := by decide +kernel
theorem dX11_results_15 : decode cX11_results 15 = .ok (.iload 4, 2) := by decide +kernel
theorem dX11_results_17 : decode cX11_results 17 = .ok (.aload_n 0, 1) := by decide +kernel
theorem dX11_results_18 : decode cX11_results 18 = .ok (.getfield 247, 3) := by decide +kernel
theorem dX11_results_21 : decode cX11_results 21 = .ok (.if_icmp .ge 159, 3) := by decide +kernel
theorem dX11_results_24 : decode cX11_results 24 = .ok (.aload_n 0, 1) := by decide +kernel
theorem dX11_results_25 : decode cX11_results 25 = .ok (.getfield 121, 3) := by decide +kernel
theorem dX11_results_28 : decode cX11_results 28 = .ok (.iload 4, 2) := by decide +kernel
theorem dX11_results_30 : decode cX11_results 30 = .ok (.iaload, 1) := by decide +kernel
theorem dX11_results_31 : decode cX11_results 31 = .ok (.ifCond .lt 61, 3) := by decide +kernel
theorem dX11_results_34 : decode cX11_results 34 = .ok (.aload_n 0, 1) := by decide +kernel
theorem dX11_results_35 : decode cX11_results 35 = .ok (.iload_n 1, 1) := by decide +kernel
theorem dX11_results_36 : decode cX11_results 36 = .ok (.iload 4, 2) := by decide +kernel
theorem dX11_results_38 : decode cX11_results 38 = .ok (.iload_n 3, 1) := by decide +kernel
theorem dX11_results_39 : decode cX11_results 39 = .ok (.invokevirtual 300, 3) := by decide +kernel
theorem dX11_results_42 : decode cX11_results 42 = .ok (.ifCond .ne 50, 3) := by decide +kernel
theorem dX11_results_45 : decode cX11_results 45 = .ok (.aload_n 0, 1) := by decide +kernel
theorem dX11_results_46 : decode cX11_results 46 = .ok (.getfield 71, 3) := by decide +kernel
theorem dX11_results_49 : decode cX11_results 49 = .ok (.bipush 24, 2) := by decide +kernel
theorem dX11_results_51 : decode cX11_results 51 = .ok (.iload_n 1, 1) := by decide +kernel
theorem dX11_results_52 : decode cX11_results 52 = .ok (.imul, 1) := by decide +kernel
theorem dX11_results_53 : decode cX11_results 53 = .ok (.iload 4, 2) := by decide +kernel
theorem dX11_results_55 : decode cX11_results 55 = .ok (.iadd, 1) := by decide +kernel
theorem dX11_results_56 : decode cX11_results 56 = .ok (.iaload, 1) := by decide +kernel
theorem dX11_results_57 : decode cX11_results 57 = .ok (.ifCond .eq 21, 3) := by decide +kernel
theorem dX11_results_60 : decode cX11_results 60 = .ok (.aload_n 0, 1) := by decide +kernel
theorem dX11_results_61 : decode cX11_results 61 = .ok (.getfield 71, 3) := by decide +kernel
theorem dX11_results_64 : decode cX11_results 64 = .ok (.bipush 24, 2) := by decide +kernel
theorem dX11_results_66 : decode cX11_results 66 = .ok (.iload_n 1, 1) := by decide +kernel
theorem dX11_results_67 : decode cX11_results 67 = .ok (.imul, 1) := by decide +kernel
theorem dX11_results_68 : decode cX11_results 68 = .ok (.iload 4, 2) := by decide +kernel
theorem dX11_results_70 : decode cX11_results 70 = .ok (.iadd, 1) := by decide +kernel
theorem dX11_results_71 : decode cX11_results 71 = .ok (.iaload, 1) := by decide +kernel
theorem dX11_results_72 : decode cX11_results 72 = .ok (.iconst 1, 1) := by decide +kernel
theorem dX11_results_73 : decode cX11_results 73 = .ok (.isub, 1) := by decide +kernel
theorem dX11_results_74 : decode cX11_results 74 = .ok (.iload_n 3, 1) := by decide +kernel
theorem dX11_results_75 : decode cX11_results 75 = .ok (.if_icmp .le 17, 3) := by decide +kernel
theorem dX11_results_78 : decode cX11_results 78 = .ok (.aload_n 0, 1) := by decide +kernel
theorem dX11_results_79 : decode cX11_results 79 = .ok (.iload_n 2, 1) := by decide +kernel
theorem dX11_results_80 : decode cX11_results 80 = .ok (.iload 4, 2) := by decide +kernel
theorem dX11_results_82 : decode cX11_results 82 = .ok (.invokevirtual 304, 3) := by decide +kernel
theorem dX11_results_85 : decode cX11_results 85 = .ok (.ifCond .eq 7, 3) := by decide +kernel
theorem dX11_results_88 : decode cX11_results 88 = .ok (.iconst 1, 1) := by decide +kernel
theorem dX11_results_89 : decode cX11_results 89 = .ok (.goto 4, 3) := by decide +kernel
theorem dX11_results_92 : decode cX11_results 92 = .ok (.iconst 0, 1) := by decide +kernel
theorem dX11_results_93 : decode cX11_results 93 = .ok (.istore 5, 2) := by decide +kernel
theorem dX11_results_95 : decode cX11_results 95 = .ok (.iload 5, 2) := by decide +kernel
theorem dX11_results_97 : decode cX11_results 97 = .ok (.ifCond .ne 6, 3) := by decide +kernel
theorem dX11_results_100 : decode cX11_results 100 = .ok (.goto 74, 3) := by decide +kernel
theorem dX11_results_103 : decode cX11_results 103 = .ok (.aload_n 0, 1) := by decide +kernel
theorem dX11_results_104 : decode cX11_results 104 = .ok (.getfield 297, 3) := by decide +kernel
theorem dX11_results_107 : decode cX11_results 107 = .ok (.istore 6, 2) := by decide +kernel
theorem dX11_results_109 : decode cX11_results 109 = .ok (.iload 6, 2) := by decide +kernel
theorem dX11_results_111 : decode cX11_results 111 = .ok (.ifCond .le 44, 3) := by decide +kernel
theorem dX11_results_114 : decode cX11_results 114 = .ok (.aload_n 0, 1) := by decide +kernel
theorem dX11_results_115 : decode cX11_results 115 = .ok (.iload_n 1, 1) := by decide +kernel
theorem dX11_results_116 : decode cX11_results 116 = .ok (.iload 4, 2) := by decide +kernel
theorem dX11_results_118 : decode cX11_results 118 = .ok (.aload_n 0, 1) := by decide +kernel
theorem dX11_results_119 : decode cX11_results 119 = .ok (.getfield 139, 3) := by decide +kernel
theorem dX11_results_122 : decode cX11_results 122 = .ok (.iload 6, 2) := by decide +kernel
theorem dX11_results_124 : decode cX11_results 124 = .ok (.iconst 1, 1) := by decide +kernel
theorem dX11_results_125 : decode cX11_results 125 = .ok (.isub, 1) := by decide +kernel
theorem dX11_results_126 : decode cX11_results 126 = .ok (.iaload, 1) := by decide +kernel
theorem dX11_results_127 : decode cX11_results 127 = .ok (.invokevirtual 307, 3) := by decide +kernel
theorem dX11_results_130 : decode cX11_results 130 = .ok (.ifCond .le 25, 3) := by decide +kernel
theorem dX11_results_133 : decode cX11_results 133 = .ok (.aload_n 0, 1) := by decide +kernel
theorem dX11_results_134 : decode cX11_results 134 = .ok (.getfield 139, 3) := by decide +kernel
theorem dX11_results_137 : decode cX11_results 137 = .ok (.iload 6, 2) := by decide +kernel
theorem dX11_results_139 : decode cX11_results 139 = .ok (.aload_n 0, 1) := by decide +kernel
theorem dX11_results_140 : decode cX11_results 140 = .ok (.getfield 139, 3) := by decide +kernel
theorem dX11_results_143 : decode cX11_results 143 = .ok (.iload 6, 2) := by decide +kernel
theorem dX11_results_145 : decode cX11_results 145 = .ok (.iconst 1, 1) := by decide +kernel
theorem dX11_results_146 : decode cX11_results 146 = .ok (.isub, 1) := by decide +kernel
theorem dX11_results_147 : decode cX11_results 147 = .ok (.iaload, 1) := by decide +kernel
theorem dX11_results_148 : decode cX11_results 148 = .ok (.iastore, 1) := by decide +kernel
theorem dX11_results_149 : decode cX11_results 149 = .ok (.iinc 6 (-1), 3) := by decide +kernel
theorem dX11_results_152 : decode cX11_results 152 = .ok (.goto (-43), 3) := by decide +kernel
theorem dX11_results_155 : decode cX11_results 155 = .ok (.aload_n 0, 1) := by decide +kernel
theorem dX11_results_156 : decode cX11_results 156 = .ok (.getfield 139, 3) := by decide +kernel
theorem dX11_results_159 : decode cX11_results 159 = .ok (.iload 6, 2) := by decide +kernel
theorem dX11_results_161 : decode cX11_results 161 = .ok (.iload 4, 2) := by decide +kernel
theorem dX11_results_163 : decode cX11_results 163 = .ok (.iastore, 1) := by decide +kernel
theorem dX11_results_164 : decode cX11_results 164 = .ok (.aload_n 0, 1) := by decide +kernel
theorem dX11_results_165 : decode cX11_results 165 = .ok (.dup, 1) := by decide +kernel
theorem dX11_results_166 : decode cX11_results 166 = .ok (.getfield 297, 3) := by decide +kernel
theorem dX11_results_169 : decode cX11_results 169 = .ok (.iconst 1, 1) := by decide +kernel
theorem dX11_results_170 : decode cX11_results 170 = .ok (.iadd, 1) := by decide +kernel
theorem dX11_results_171 : decode cX11_results 171 = .ok (.putfield 297, 3) := by decide +kernel
theorem dX11_results_174 : decode cX11_results 174 = .ok (.iinc 4 1, 3) := by decide +kernel
theorem dX11_results_177 : decode cX11_results 177 = .ok (.goto (-162), 3) := by decide +kernel
theorem dX11_results_180 : decode cX11_results 180 = .ok (.aload_n 0, 1) := by decide +kernel
theorem dX11_results_181 : decode cX11_results 181 = .ok (.getfield 94, 3) := by decide +kernel
theorem dX11_results_184 : decode cX11_results 184 = .ok (.bipush 6, 2) := by decide +kernel
theorem dX11_results_186 : decode cX11_results 186 = .ok (.aload_n 0, 1) := by decide +kernel
theorem dX11_results_187 : decode cX11_results 187 = .ok (.getfield 231, 3) := by decide +kernel
theorem dX11_results_190 : decode cX11_results 190 = .ok (.imul, 1) := by decide +kernel
theorem dX11_results_191 : decode cX11_results 191 = .ok (.iload_n 2, 1) := by decide +kernel
theorem dX11_results_192 : decode cX11_results 192 = .ok (.iadd, 1) := by decide +kernel
theorem dX11_results_193 : decode cX11_results 193 = .ok (.iaload, 1) := by decide +kernel
theorem dX11_results_194 : decode cX11_results 194 = .ok (.istore 4, 2) := by decide +kernel
theorem dX11_results_196 : decode cX11_results 196 = .ok (.iconst 0, 1) := by decide +kernel
theorem dX11_results_197 : decode cX11_results 197 = .ok (.istore 5, 2) := by decide +kernel
theorem dX11_results_199 : decode cX11_results 199 = .ok (.iconst 0, 1) := by decide +kernel
theorem dX11_results_200 : decode cX11_results 200 = .ok (.istore 6, 2) := by decide +kernel
theorem dX11_results_202 : decode cX11_results 202 = .ok (.iload 6, 2) := by decide +kernel
theorem dX11_results_204 : decode cX11_results 204 = .ok (.aload_n 0, 1) := by decide +kernel
theorem dX11_results_205 : decode cX11_results 205 = .ok (.getfield 297, 3) := by decide +kernel
theorem dX11_results_208 : decode cX11_results 208 = .ok (.if_icmp .ge 97, 3) := by decide +kernel
theorem dX11_results_211 : decode cX11_results 211 = .ok (.iconst 0, 1) := by decide +kernel
theorem dX11_results_212 : decode cX11_results 212 = .ok (.istore 7, 2) := by decide +kernel
theorem dX11_results_214 : decode cX11_results 214 = .ok (.iconst 0, 1) := by decide +kernel
theorem dX11_results_215 : decode cX11_results 215 = .ok (.istore 8, 2) := by decide +kernel
theorem dX11_results_217 : decode cX11_results 217 = .ok (.iload 8, 2) := by decide +kernel
theorem dX11_results_219 : decode cX11_results 219 = .ok (.iload 5, 2) := by decide +kernel
theorem dX11_results_221 : decode cX11_results 221 = .ok (.if_icmp .ge 46, 3) := by decide +kernel
theorem dX11_results_224 : decode cX11_results 224 = .ok (.iload 7, 2) := by decide +kernel
theorem dX11_results_226 : decode cX11_results 226 = .ok (.aload_n 0, 1) := by decide +kernel
theorem dX11_results_227 : decode cX11_results 227 = .ok (.getfield 19, 3) := by decide +kernel
theorem dX11_results_230 : decode cX11_results 230 = .ok (.aload_n 0, 1) := by decide +kernel
theorem dX11_results_231 : decode cX11_results 231 = .ok (.getfield 139, 3) := by decide +kernel
theorem dX11_results_234 : decode cX11_results 234 = .ok (.iload 8, 2) := by decide +kernel
theorem dX11_results_236 : decode cX11_results 236 = .ok (.iaload, 1) := by decide +kernel
theorem dX11_results_237 : decode cX11_results 237 = .ok (.iaload, 1) := by decide +kernel
theorem dX11_results_238 : decode cX11_results 238 = .ok (.aload_n 0, 1) := by decide +kernel
theorem dX11_results_239 : decode cX11_results 239 = .ok (.getfield 19, 3) := by decide +kernel
theorem dX11_results_242 : decode cX11_results 242 = .ok (.aload_n 0, 1) := by decide +kernel
theorem dX11_results_243 : decode cX11_results 243 = .ok (.getfield 139, 3) := by decide +kernel
theorem dX11_results_246 : decode cX11_results 246 = .ok (.iload 6, 2) := by decide +kernel
theorem dX11_results_248 : decode cX11_results 248 = .ok (.iaload, 1) := by decide +kernel
theorem dX11_results_249 : decode cX11_results 249 = .ok (.iaload, 1) := by decide +kernel
theorem dX11_results_250 : decode cX11_results 250 = .ok (.if_icmp .ne 7, 3) := by decide +kernel
theorem dX11_results_253 : decode cX11_results 253 = .ok (.iconst 1, 1) := by decide +kernel
theorem dX11_results_254 : decode cX11_results 254 = .ok (.goto 4, 3) := by decide +kernel
theorem dX11_results_257 : decode cX11_results 257 = .ok (.iconst 0, 1) := by decide +kernel
theorem dX11_results_258 : decode cX11_results 258 = .ok (.iadd, 1) := by decide +kernel
theorem dX11_results_259 : decode cX11_results 259 = .ok (.istore 7, 2) := by decide +kernel
theorem dX11_results_261 : decode cX11_results 261 = .ok (.iinc 8 1, 3) := by decide +kernel
theorem dX11_results_264 : decode cX11_results 264 = .ok (.goto (-47), 3) := by decide +kernel
theorem dX11_results_267 : decode cX11_results 267 = .ok (.iload 4, 2) := by decide +kernel
theorem dX11_results_269 : decode cX11_results 269 = .ok (.ifCond .lt 13, 3) := by decide +kernel
theorem dX11_results_272 : decode cX11_results 272 = .ok (.iload 7, 2) := by decide +kernel
theorem dX11_results_274 : decode cX11_results 274 = .ok (.iload 4, 2) := by decide +kernel
theorem dX11_results_276 : decode cX11_results 276 = .ok (.if_icmp .lt 6, 3) := by decide +kernel
theorem dX11_results_279 : decode cX11_results 279 = .ok (.goto 20, 3) := by decide +kernel
theorem dX11_results_282 : decode cX11_results 282 = .ok (.aload_n 0, 1) := by decide +kernel
theorem dX11_results_283 : decode cX11_results 283 = .ok (.getfield 139, 3) := by decide +kernel
theorem dX11_results_286 : decode cX11_results 286 = .ok (.iload 5, 2) := by decide +kernel
theorem dX11_results_288 : decode cX11_results 288 = .ok (.aload_n 0, 1) := by decide +kernel
theorem dX11_results_289 : decode cX11_results 289 = .ok (.getfield 139, 3) := by decide +kernel
theorem dX11_results_292 : decode cX11_results 292 = .ok (.iload 6, 2) := by decide +kernel
theorem dX11_results_294 : decode cX11_results 294 = .ok (.iaload, 1) := by decide +kernel
theorem dX11_results_295 : decode cX11_results 295 = .ok (.iastore, 1) := by decide +kernel
theorem dX11_results_296 : decode cX11_results 296 = .ok (.iinc 5 1, 3) := by decide +kernel
theorem dX11_results_299 : decode cX11_results 299 = .ok (.iinc 6 1, 3) := by decide +kernel
theorem dX11_results_302 : decode cX11_results 302 = .ok (.goto (-100), 3) := by decide +kernel
theorem dX11_results_305 : decode cX11_results 305 = .ok (.aload_n 0, 1) := by decide +kernel
theorem dX11_results_306 : decode cX11_results 306 = .ok (.iload 5, 2) := by decide +kernel
theorem dX11_results_308 : decode cX11_results 308 = .ok (.putfield 297, 3) := by decide +kernel
theorem dX11_results_311 : decode cX11_results 311 = .ok (.iconst 0, 1) := by decide +kernel
theorem dX11_results_312 : decode cX11_results 312 = .ok (.istore 6, 2) := by decide +kernel
theorem dX11_results_314 : decode cX11_results 314 = .ok (.iload 6, 2) := by decide +kernel
theorem dX11_results_316 : decode cX11_results 316 = .ok (.aload_n 0, 1) := by decide +kernel
theorem dX11_results_317 : decode cX11_results 317 = .ok (.getfield 297, 3) := by decide +kernel
theorem dX11_results_320 : decode cX11_results 320 = .ok (.if_icmp .ge 61, 3) := by decide +kernel
theorem dX11_results_323 : decode cX11_results 323 = .ok (.aload_n 0, 1) := by decide +kernel
theorem dX11_results_324 : decode cX11_results 324 = .ok (.getfield 142, 3) := by decide +kernel
theorem dX11_results_327 : decode cX11_results 327 = .ok (.iload 6, 2) := by decide +kernel
theorem dX11_results_329 : decode cX11_results 329 = .ok (.iload 6, 2) := by decide +kernel
theorem dX11_results_331 : decode cX11_results 331 = .ok (.ifCond .le 39, 3) := by decide +kernel
theorem dX11_results_334 : decode cX11_results 334 = .ok (.aload_n 0, 1) := by decide +kernel
theorem dX11_results_335 : decode cX11_results 335 = .ok (.iload_n 1, 1) := by decide +kernel
theorem dX11_results_336 : decode cX11_results 336 = .ok (.aload_n 0, 1) := by decide +kernel
theorem dX11_results_337 : decode cX11_results 337 = .ok (.getfield 139, 3) := by decide +kernel
theorem dX11_results_340 : decode cX11_results 340 = .ok (.iload 6, 2) := by decide +kernel
theorem dX11_results_342 : decode cX11_results 342 = .ok (.iconst 1, 1) := by decide +kernel
theorem dX11_results_343 : decode cX11_results 343 = .ok (.isub, 1) := by decide +kernel
theorem dX11_results_344 : decode cX11_results 344 = .ok (.iaload, 1) := by decide +kernel
theorem dX11_results_345 : decode cX11_results 345 = .ok (.aload_n 0, 1) := by decide +kernel
theorem dX11_results_346 : decode cX11_results 346 = .ok (.getfield 139, 3) := by decide +kernel
theorem dX11_results_349 : decode cX11_results 349 = .ok (.iload 6, 2) := by decide +kernel
theorem dX11_results_351 : decode cX11_results 351 = .ok (.iaload, 1) := by decide +kernel
theorem dX11_results_352 : decode cX11_results 352 = .ok (.invokevirtual 307, 3) := by decide +kernel
theorem dX11_results_355 : decode cX11_results 355 = .ok (.ifCond .ne 15, 3) := by decide +kernel
theorem dX11_results_358 : decode cX11_results 358 = .ok (.aload_n 0, 1) := by decide +kernel
theorem dX11_results_359 : decode cX11_results 359 = .ok (.getfield 142, 3) := by decide +kernel
theorem dX11_results_362 : decode cX11_results 362 = .ok (.iload 6, 2) := by decide +kernel
theorem dX11_results_364 : decode cX11_results 364 = .ok (.iconst 1, 1) := by decide +kernel
theorem dX11_results_365 : decode cX11_results 365 = .ok (.isub, 1) := by decide +kernel
theorem dX11_results_366 : decode cX11_results 366 = .ok (.iaload, 1) := by decide +kernel
theorem dX11_results_367 : decode cX11_results 367 = .ok (.goto 7, 3) := by decide +kernel
theorem dX11_results_370 : decode cX11_results 370 = .ok (.iload 6, 2) := by decide +kernel
theorem dX11_results_372 : decode cX11_results 372 = .ok (.iconst 1, 1) := by decide +kernel
theorem dX11_results_373 : decode cX11_results 373 = .ok (.iadd, 1) := by decide +kernel
theorem dX11_results_374 : decode cX11_results 374 = .ok (.iastore, 1) := by decide +kernel
theorem dX11_results_375 : decode cX11_results 375 = .ok (.iinc 6 1, 3) := by decide +kernel
theorem dX11_results_378 : decode cX11_results 378 = .ok (.goto (-64), 3) := by decide +kernel
theorem dX11_results_381 : decode cX11_results 381 = .ok (.return_, 1) := by decide +kernel
theorem dX11_canAsk_0 : decode cX11_canAsk 0 = .ok (.aload_n 0, 1) := by decide +kernel
theorem dX11_canAsk_1 : decode cX11_canAsk 1 = .ok (.iload_n 1, 1) := by decide +kernel
theorem dX11_canAsk_2 : decode cX11_canAsk 2 = .ok (.invokevirtual 262, 3) := by decide +kernel
theorem dX11_canAsk_5 : decode cX11_canAsk 5 = .ok (.ifCond .eq 22, 3) := by decide +kernel
theorem dX11_canAsk_8 : decode cX11_canAsk 8 = .ok (.aload_n 0, 1) := by decide +kernel
theorem dX11_canAsk_9 : decode cX11_canAsk 9 = .ok (.iload_n 2, 1) := by decide +kernel
theorem dX11_canAsk_10 : decode cX11_canAsk 10 = .ok (.invokevirtual 311, 3) := by decide +kernel
theorem dX11_canAsk_13 : decode cX11_canAsk 13 = .ok (.ifCond .eq 14, 3) := by decide +kernel
theorem dX11_canAsk_16 : decode cX11_canAsk 16 = .ok (.iload_n 3, 1) := by decide +kernel
theorem dX11_canAsk_17 : decode cX11_canAsk 17 = .ok (.invokestatic 259, 3) := by decide +kernel
theorem dX11_canAsk_20 : decode cX11_canAsk 20 = .ok (.ifCond .eq 7, 3) := by decide +kernel
theorem dX11_canAsk_23 : decode cX11_canAsk 23 = .ok (.iconst 1, 1) := by decide +kernel
theorem dX11_canAsk_24 : decode cX11_canAsk 24 = .ok (.goto 4, 3) := by decide +kernel
theorem dX11_canAsk_27 : decode cX11_canAsk 27 = .ok (.iconst 0, 1) := by decide +kernel
theorem dX11_canAsk_28 : decode cX11_canAsk 28 = .ok (.ireturn, 1) := by decide +kernel
theorem dX11_result_0 : decode cX11_result 0 = .ok (.aload_n 0, 1) := by decide +kernel
theorem dX11_result_1 : decode cX11_result 1 = .ok (.iconst 0, 1) := by decide +kernel
theorem dX11_result_2 : decode cX11_result 2 = .ok (.putfield 157, 3) := by decide +kernel
theorem dX11_result_5 : decode cX11_result 5 = .ok (.aload_n 0, 1) := by decide +kernel
theorem dX11_result_6 : decode cX11_result 6 = .ok (.iload_n 1, 1) := by decide +kernel
theorem dX11_result_7 : decode cX11_result 7 = .ok (.iload_n 2, 1) := by decide +kernel
theorem dX11_result_8 : decode cX11_result 8 = .ok (.iload_n 3, 1) := by decide +kernel
theorem dX11_result_9 : decode cX11_result 9 = .ok (.invokevirtual 314, 3) := by decide +kernel
theorem dX11_result_12 : decode cX11_result 12 = .ok (.ifCond .ne 5, 3) := by decide +kernel
theorem dX11_result_15 : decode cX11_result 15 = .ok (.iconst (-1), 1) := by decide +kernel
theorem dX11_result_16 : decode cX11_result 16 = .ok (.ireturn, 1) := by decide +kernel
theorem dX11_result_17 : decode cX11_result 17 = .ok (.aload_n 0, 1) := by decide +kernel
theorem dX11_result_18 : decode cX11_result 18 = .ok (.iload_n 1, 1) := by decide +kernel
theorem dX11_result_19 : decode cX11_result 19 = .ok (.iload_n 2, 1) := by decide +kernel
theorem dX11_result_20 : decode cX11_result 20 = .ok (.iload_n 3, 1) := by decide +kernel
theorem dX11_result_21 : decode cX11_result 21 = .ok (.invokevirtual 317, 3) := by decide +kernel
theorem dX11_result_24 : decode cX11_result 24 = .ok (.aload_n 0, 1) := by decide +kernel
theorem dX11_result_25 : decode cX11_result 25 = .ok (.aload_n 0, 1) := by decide +kernel
theorem dX11_result_26 : decode cX11_result 26 = .ok (.getfield 297, 3) := by decide +kernel
theorem dX11_result_29 : decode cX11_result 29 = .ok (.putfield 320, 3) := by decide +kernel
theorem dX11_result_32 : decode cX11_result 32 = .ok (.iconst 0, 1) := by decide +kernel
theorem dX11_result_33 : decode cX11_result 33 = .ok (.istore 4, 2) := by decide +kernel
theorem dX11_result_35 : decode cX11_result 35 = .ok (.iload 4, 2) := by decide +kernel
theorem dX11_result_37 : decode cX11_result 37 = .ok (.aload_n 0, 1) := by decide +kernel
theorem dX11_result_38 : decode cX11_result 38 = .ok (.getfield 297, 3) := by decide +kernel
theorem dX11_result_41 : decode cX11_result 41 = .ok (.if_icmp .ge 66, 3) := by decide +kernel
theorem dX11_result_44 : decode cX11_result 44 = .ok (.aload_n 0, 1) := by decide +kernel
theorem dX11_result_45 : decode cX11_result 45 = .ok (.getfield 145, 3) := by decide +kernel
theorem dX11_result_48 : decode cX11_result 48 = .ok (.iconst 3, 1) := by decide +kernel
theorem dX11_result_49 : decode cX11_result 49 = .ok (.iload 4, 2) := by decide +kernel
theorem dX11_result_51 : decode cX11_result 51 = .ok (.imul, 1) := by decide +kernel
theorem dX11_result_52 : decode cX11_result 52 = .ok (.aload_n 0, 1) := by decide +kernel
theorem dX11_result_53 : decode cX11_result 53 = .ok (.getfield 139, 3) := by decide +kernel
theorem dX11_result_56 : decode cX11_result 56 = .ok (.iload 4, 2) := by decide +kernel
theorem dX11_result_58 : decode cX11_result 58 = .ok (.iaload, 1) := by decide +kernel
theorem dX11_result_59 : decode cX11_result 59 = .ok (.iastore, 1) := by decide +kernel
theorem dX11_result_60 : decode cX11_result 60 = .ok (.aload_n 0, 1) := by decide +kernel
theorem dX11_result_61 : decode cX11_result 61 = .ok (.getfield 145, 3) := by decide +kernel
theorem dX11_result_64 : decode cX11_result 64 = .ok (.iconst 3, 1) := by decide +kernel
theorem dX11_result_65 : decode cX11_result 65 = .ok (.iload 4, 2) := by decide +kernel
theorem dX11_result_67 : decode cX11_result 67 = .ok (.imul, 1) := by decide +kernel
theorem dX11_result_68 : decode cX11_result 68 = .ok (.iconst 1, 1) := by decide +kernel
theorem dX11_result_69 : decode cX11_result 69 = .ok (.iadd, 1) := by decide +kernel
theorem dX11_result_70 : decode cX11_result 70 = .ok (.aload_n 0, 1) := by decide +kernel
theorem dX11_result_71 : decode cX11_result 71 = .ok (.getfield 142, 3) := by decide +kernel
theorem dX11_result_74 : decode cX11_result 74 = .ok (.iload 4, 2) := by decide +kernel
theorem dX11_result_76 : decode cX11_result 76 = .ok (.iaload, 1) := by decide +kernel
theorem dX11_result_77 : decode cX11_result 77 = .ok (.iastore, 1) := by decide +kernel
theorem dX11_result_78 : decode cX11_result 78 = .ok (.aload_n 0, 1) := by decide +kernel
theorem dX11_result_79 : decode cX11_result 79 = .ok (.getfield 145, 3) := by decide +kernel
theorem dX11_result_82 : decode cX11_result 82 = .ok (.iconst 3, 1) := by decide +kernel
theorem dX11_result_83 : decode cX11_result 83 = .ok (.iload 4, 2) := by decide +kernel
theorem dX11_result_85 : decode cX11_result 85 = .ok (.imul, 1) := by decide +kernel
theorem dX11_result_86 : decode cX11_result 86 = .ok (.iconst 2, 1) := by decide +kernel
theorem dX11_result_87 : decode cX11_result 87 = .ok (.iadd, 1) := by decide +kernel
theorem dX11_result_88 : decode cX11_result 88 = .ok (.aload_n 0, 1) := by decide +kernel
theorem dX11_result_89 : decode cX11_result 89 = .ok (.getfield 121, 3) := by decide +kernel
theorem dX11_result_92 : decode cX11_result 92 = .ok (.aload_n 0, 1) := by decide +kernel
theorem dX11_result_93 : decode cX11_result 93 = .ok (.getfield 139, 3) := by decide +kernel
theorem dX11_result_96 : decode cX11_result 96 = .ok (.iload 4, 2) := by decide +kernel
theorem dX11_result_98 : decode cX11_result 98 = .ok (.iaload, 1) := by decide +kernel
theorem dX11_result_99 : decode cX11_result 99 = .ok (.iaload, 1) := by decide +kernel
theorem dX11_result_100 : decode cX11_result 100 = .ok (.iastore, 1) := by decide +kernel
theorem dX11_result_101 : decode cX11_result 101 = .ok (.iinc 4 1, 3) := by decide +kernel
theorem dX11_result_104 : decode cX11_result 104 = .ok (.goto (-69), 3) := by decide +kernel
theorem dX11_result_107 : decode cX11_result 107 = .ok (.aload_n 0, 1) := by decide +kernel
theorem dX11_result_108 : decode cX11_result 108 = .ok (.getfield 297, 3) := by decide +kernel
theorem dX11_result_111 : decode cX11_result 111 = .ok (.ireturn, 1) := by decide +kernel
theorem dX11_row_0 : decode cX11_row 0 = .ok (.aload_n 0, 1) := by decide +kernel
theorem dX11_row_1 : decode cX11_row 1 = .ok (.iconst 0, 1) := by decide +kernel
theorem dX11_row_2 : decode cX11_row 2 = .ok (.putfield 157, 3) := by decide +kernel
theorem dX11_row_5 : decode cX11_row 5 = .ok (.iload_n 1, 1) := by decide +kernel
theorem dX11_row_6 : decode cX11_row 6 = .ok (.ifCond .lt 20, 3) := by decide +kernel
theorem dX11_row_9 : decode cX11_row 9 = .ok (.iload_n 1, 1) := by decide +kernel
theorem dX11_row_10 : decode cX11_row 10 = .ok (.aload_n 0, 1) := by decide +kernel
theorem dX11_row_11 : decode cX11_row 11 = .ok (.getfield 320, 3) := by decide +kernel
theorem dX11_row_14 : decode cX11_row 14 = .ok (.if_icmp .ge 12, 3) := by decide +kernel
theorem dX11_row_17 : decode cX11_row 17 = .ok (.iload_n 2, 1) := by decide +kernel
theorem dX11_row_18 : decode cX11_row 18 = .ok (.ifCond .lt 8, 3) := by decide +kernel
theorem dX11_row_21 : decode cX11_row 21 = .ok (.iload_n 2, 1) := by decide +kernel
theorem dX11_row_22 : decode cX11_row 22 = .ok (.iconst 2, 1) := by decide +kernel
theorem dX11_row_23 : decode cX11_row 23 = .ok (.if_icmp .le 7, 3) := by decide +kernel
theorem dX11_row_26 : decode cX11_row 26 = .ok (.iconst (-1), 1) := by decide +kernel
theorem dX11_row_27 : decode cX11_row 27 = .ok (.goto 13, 3) := by decide +kernel
theorem dX11_row_30 : decode cX11_row 30 = .ok (.aload_n 0, 1) := by decide +kernel
theorem dX11_row_31 : decode cX11_row 31 = .ok (.getfield 145, 3) := by decide +kernel
theorem dX11_row_34 : decode cX11_row 34 = .ok (.iconst 3, 1) := by decide +kernel
theorem dX11_row_35 : decode cX11_row 35 = .ok (.iload_n 1, 1) := by decide +kernel
theorem dX11_row_36 : decode cX11_row 36 = .ok (.imul, 1) := by decide +kernel
theorem dX11_row_37 : decode cX11_row 37 = .ok (.iload_n 2, 1) := by decide +kernel
theorem dX11_row_38 : decode cX11_row 38 = .ok (.iadd, 1) := by decide +kernel
theorem dX11_row_39 : decode cX11_row 39 = .ok (.iaload, 1) := by decide +kernel
theorem dX11_row_40 : decode cX11_row 40 = .ok (.ireturn, 1) := by decide +kernel
theorem dX11_faster_0 : decode cX11_faster 0 = .ok (.aload_n 0, 1) := by decide +kernel
theorem dX11_faster_1 : decode cX11_faster 1 = .ok (.iconst 0, 1) := by decide +kernel
theorem dX11_faster_2 : decode cX11_faster 2 = .ok (.putfield 157, 3) := by decide +kernel
theorem dX11_faster_5 : decode cX11_faster 5 = .ok (.aload_n 0, 1) := by decide +kernel
theorem dX11_faster_6 : decode cX11_faster 6 = .ok (.iload_n 1, 1) := by decide +kernel
theorem dX11_faster_7 : decode cX11_faster 7 = .ok (.invokevirtual 262, 3) := by decide +kernel
theorem dX11_faster_10 : decode cX11_faster 10 = .ok (.ifCond .eq 27, 3) := by decide +kernel
theorem dX11_faster_13 : decode cX11_faster 13 = .ok (.aload_n 0, 1) := by decide +kernel
theorem dX11_faster_14 : decode cX11_faster 14 = .ok (.iload_n 2, 1) := by decide +kernel
theorem dX11_faster_15 : decode cX11_faster 15 = .ok (.invokevirtual 265, 3) := by decide +kernel
theorem dX11_faster_18 : decode cX11_faster 18 = .ok (.ifCond .eq 19, 3) := by decide +kernel
theorem dX11_faster_21 : decode cX11_faster 21 = .ok (.aload_n 0, 1) := by decide +kernel
theorem dX11_faster_22 : decode cX11_faster 22 = .ok (.iload_n 3, 1) := by decide +kernel
theorem dX11_faster_23 : decode cX11_faster 23 = .ok (.invokevirtual 265, 3) := by decide +kernel
theorem dX11_faster_26 : decode cX11_faster 26 = .ok (.ifCond .eq 11, 3) := by decide +kernel
theorem dX11_faster_29 : decode cX11_faster 29 = .ok (.iload 4, 2) := by decide +kernel
theorem dX11_faster_31 : decode cX11_faster 31 = .ok (.invokestatic 259, 3) := by decide +kernel
theorem dX11_faster_34 : decode cX11_faster 34 = .ok (.ifCond .ne 5, 3) := by decide +kernel
theorem dX11_faster_37 : decode cX11_faster 37 = .ok (.iconst (-1), 1) := by decide +kernel
theorem dX11_faster_38 : decode cX11_faster 38 = .ok (.ireturn, 1) := by decide +kernel
theorem dX11_faster_39 : decode cX11_faster 39 = .ok (.aload_n 0, 1) := by decide +kernel
theorem dX11_faster_40 : decode cX11_faster 40 = .ok (.iload_n 1, 1) := by decide +kernel
theorem dX11_faster_41 : decode cX11_faster 41 = .ok (.iconst 0, 1) := by decide +kernel
theorem dX11_faster_42 : decode cX11_faster 42 = .ok (.iload 4, 2) := by decide +kernel
theorem dX11_faster_44 : decode cX11_faster 44 = .ok (.invokevirtual 294, 3) := by decide +kernel
theorem dX11_faster_47 : decode cX11_faster 47 = .ok (.aload_n 0, 1) := by decide +kernel
theorem dX11_faster_48 : decode cX11_faster 48 = .ok (.getfield 121, 3) := by decide +kernel
theorem dX11_faster_51 : decode cX11_faster 51 = .ok (.iload_n 2, 1) := by decide +kernel
theorem dX11_faster_52 : decode cX11_faster 52 = .ok (.iaload, 1) := by decide +kernel
theorem dX11_faster_53 : decode cX11_faster 53 = .ok (.ifCond .lt 12, 3) := by decide +kernel
theorem dX11_faster_56 : decode cX11_faster 56 = .ok (.aload_n 0, 1) := by decide +kernel
theorem dX11_faster_57 : decode cX11_faster 57 = .ok (.getfield 121, 3) := by decide +kernel
theorem dX11_faster_60 : decode cX11_faster 60 = .ok (.iload_n 3, 1) := by decide +kernel
theorem dX11_faster_61 : decode cX11_faster 61 = .ok (.iaload, 1) := by decide +kernel
theorem dX11_faster_62 : decode cX11_faster 62 = .ok (.ifCond .ge 5, 3) := by decide +kernel
theorem dX11_faster_65 : decode cX11_faster 65 = .ok (.iconst (-1), 1) := by decide +kernel
theorem dX11_faster_66 : decode cX11_faster 66 = .ok (.ireturn, 1) := by decide +kernel
theorem dX11_faster_67 : decode cX11_faster 67 = .ok (.aload_n 0, 1) := by decide +kernel
theorem dX11_faster_68 : decode cX11_faster 68 = .ok (.iload_n 1, 1) := by decide +kernel
theorem dX11_faster_69 : decode cX11_faster 69 = .ok (.iload_n 2, 1) := by decide +kernel
theorem dX11_faster_70 : decode cX11_faster 70 = .ok (.iload_n 3, 1) := by decide +kernel
theorem dX11_faster_71 : decode cX11_faster 71 = .ok (.invokevirtual 307, 3) := by decide +kernel
theorem dX11_faster_74 : decode cX11_faster 74 = .ok (.istore 5, 2) := by decide +kernel
theorem dX11_faster_76 : decode cX11_faster 76 = .ok (.iload 5, 2) := by decide +kernel
theorem dX11_faster_78 : decode cX11_faster 78 = .ok (.ifCond .le 7, 3) := by decide +kernel
theorem dX11_faster_81 : decode cX11_faster 81 = .ok (.iconst 1, 1) := by decide +kernel
theorem dX11_faster_82 : decode cX11_faster 82 = .ok (.goto 13, 3) := by decide +kernel
theorem dX11_faster_85 : decode cX11_faster 85 = .ok (.iload 5, 2) := by decide +kernel
theorem dX11_faster_87 : decode cX11_faster 87 = .ok (.ifCond .ge 7, 3) := by decide +kernel
theorem dX11_faster_90 : decode cX11_faster 90 = .ok (.iconst 2, 1) := by decide +kernel
theorem dX11_faster_91 : decode cX11_faster 91 = .ok (.goto 4, 3) := by decide +kernel
theorem dX11_faster_94 : decode cX11_faster 94 = .ok (.iconst 0, 1) := by decide +kernel
theorem dX11_faster_95 : decode cX11_faster 95 = .ok (.ireturn, 1) := by decide +kernel
theorem dX11_tells_0 : decode cX11_tells 0 = .ok (.aload_n 0, 1) := by decide +kernel
theorem dX11_tells_1 : decode cX11_tells 1 = .ok (.iload_n 2, 1) := by decide +kernel
theorem dX11_tells_2 : decode cX11_tells 2 = .ok (.invokevirtual 262, 3) := by decide +kernel
theorem dX11_tells_5 : decode cX11_tells 5 = .ok (.ifCond .eq 19, 3) := by decide +kernel
theorem dX11_tells_8 : decode cX11_tells 8 = .ok (.aload_n 0, 1) := by decide +kernel
theorem dX11_tells_9 : decode cX11_tells 9 = .ok (.iload_n 3, 1) := by decide +kernel
theorem dX11_tells_10 : decode cX11_tells 10 = .ok (.invokevirtual 265, 3) := by decide +kernel
theorem dX11_tells_13 : decode cX11_tells 13 = .ok (.ifCond .eq 11, 3) := by decide +kernel
theorem dX11_tells_16 : decode cX11_tells 16 = .ok (.iload 4, 2) := by decide +kernel
theorem dX11_tells_18 : decode cX11_tells 18 = .ok (.invokestatic 259, 3) := by decide +kernel
theorem dX11_tells_21 : decode cX11_tells 21 = .ok (.ifCond .ne 5, 3) := by decide +kernel
theorem dX11_tells_24 : decode cX11_tells 24 = .ok (.iconst 0, 1) := by decide +kernel
theorem dX11_tells_25 : decode cX11_tells 25 = .ok (.ireturn, 1) := by decide +kernel
theorem dX11_tells_26 : decode cX11_tells 26 = .ok (.bipush 24, 2) := by decide +kernel
theorem dX11_tells_28 : decode cX11_tells 28 = .ok (.iload_n 2, 1) := by decide +kernel
theorem dX11_tells_29 : decode cX11_tells 29 = .ok (.imul, 1) := by decide +kernel
theorem dX11_tells_30 : decode cX11_tells 30 = .ok (.iload_n 3, 1) := by decide +kernel
theorem dX11_tells_31 : decode cX11_tells 31 = .ok (.iadd, 1) := by decide +kernel
theorem dX11_tells_32 : decode cX11_tells 32 = .ok (.istore 5, 2) := by decide +kernel
theorem dX11_tells_34 : decode cX11_tells 34 = .ok (.aload_n 1, 1) := by decide +kernel
theorem dX11_tells_35 : decode cX11_tells 35 = .ok (.iload 5, 2) := by decide +kernel
theorem dX11_tells_37 : decode cX11_tells 37 = .ok (.aload_n 1, 1) := by decide +kernel
theorem dX11_tells_38 : decode cX11_tells 38 = .ok (.iload 5, 2) := by decide +kernel
theorem dX11_tells_40 : decode cX11_tells 40 = .ok (.iaload, 1) := by decide +kernel
theorem dX11_tells_41 : decode cX11_tells 41 = .ok (.ifCond .eq 14, 3) := by decide +kernel
theorem dX11_tells_44 : decode cX11_tells 44 = .ok (.iload 4, 2) := by decide +kernel
theorem dX11_tells_46 : decode cX11_tells 46 = .ok (.iconst 1, 1) := by decide +kernel
theorem dX11_tells_47 : decode cX11_tells 47 = .ok (.iadd, 1) := by decide +kernel
theorem dX11_tells_48 : decode cX11_tells 48 = .ok (.aload_n 1, 1) := by decide +kernel
theorem dX11_tells_49 : decode cX11_tells 49 = .ok (.iload 5, 2) := by decide +kernel
theorem dX11_tells_51 : decode cX11_tells 51 = .ok (.iaload, 1) := by decide +kernel
theorem dX11_tells_52 : decode cX11_tells 52 = .ok (.if_icmp .ge 10, 3) := by decide +kernel
theorem dX11_tells_55 : decode cX11_tells 55 = .ok (.iload 4, 2) := by decide +kernel
theorem dX11_tells_57 : decode cX11_tells 57 = .ok (.iconst 1, 1) := by decide +kernel
theorem dX11_tells_58 : decode cX11_tells 58 = .ok (.iadd, 1) := by decide +kernel
theorem dX11_tells_59 : decode cX11_tells 59 = .ok (.goto 7, 3) := by decide +kernel
theorem dX11_tells_62 : decode cX11_tells 62 = .ok (.aload_n 1, 1) := by decide +kernel
theorem dX11_tells_63 : decode cX11_tells 63 = .ok (.iload 5, 2) := by decide +kernel
theorem dX11_tells_65 : decode cX11_tells 65 = .ok (.iaload, 1) := by decide +kernel
theorem dX11_tells_66 : decode cX11_tells 66 = .ok (.iastore, 1) := by decide +kernel
theorem dX11_tells_67 : decode cX11_tells 67 = .ok (.iconst 1, 1) := by decide +kernel
theorem dX11_tells_68 : decode cX11_tells 68 = .ok (.ireturn, 1) := by decide +kernel
theorem dX11_protest_0 : decode cX11_protest 0 = .ok (.aload_n 0, 1) := by decide +kernel
theorem dX11_protest_1 : decode cX11_protest 1 = .ok (.iconst 0, 1) := by decide +kernel
theorem dX11_protest_2 : decode cX11_protest 2 = .ok (.putfield 157, 3) := by decide +kernel
theorem dX11_protest_5 : decode cX11_protest 5 = .ok (.aload_n 0, 1) := by decide +kernel
theorem dX11_protest_6 : decode cX11_protest 6 = .ok (.aload_n 0, 1) := by decide +kernel
theorem dX11_protest_7 : decode cX11_protest 7 = .ok (.getfield 71, 3) := by decide +kernel
theorem dX11_protest_10 : decode cX11_protest 10 = .ok (.iload_n 1, 1) := by decide +kernel
theorem dX11_protest_11 : decode cX11_protest 11 = .ok (.iload_n 2, 1) := by decide +kernel
theorem dX11_protest_12 : decode cX11_protest 12 = .ok (.iload_n 3, 1) := by decide +kernel
theorem dX11_protest_13 : decode cX11_protest 13 = .ok (.invokevirtual 323, 3) := by decide +kernel
theorem dX11_protest_16 : decode cX11_protest 16 = .ok (.ireturn, 1) := by decide +kernel
theorem dX11_clear_0 : decode cX11_clear 0 = .ok (.aload_n 0, 1) := by decide +kernel
theorem dX11_clear_1 : decode cX11_clear 1 = .ok (.iconst 0, 1) := by decide +kernel
theorem dX11_clear_2 : decode cX11_clear 2 = .ok (.putfield 157, 3) := by decide +kernel
theorem dX11_clear_5 : decode cX11_clear 5 = .ok (.aload_n 0, 1) := by decide +kernel
theorem dX11_clear_6 : decode cX11_clear 6 = .ok (.iload_n 1, 1) := by decide +kernel
theorem dX11_clear_7 : decode cX11_clear 7 = .ok (.invokevirtual 262, 3) := by decide +kernel
theorem dX11_clear_10 : decode cX11_clear 10 = .ok (.ifCond .eq 25, 3) := by decide +kernel
theorem dX11_clear_13 : decode cX11_clear 13 = .ok (.aload_n 0, 1) := by decide +kernel
theorem dX11_clear_14 : decode cX11_clear 14 = .ok (.iload_n 2, 1) := by decide +kernel
theorem dX11_clear_15 : decode cX11_clear 15 = .ok (.invokevirtual 265, 3) := by decide +kernel
theorem dX11_clear_18 : decode cX11_clear 18 = .ok (.ifCond .eq 17, 3) := by decide +kernel
theorem dX11_clear_21 : decode cX11_clear 21 = .ok (.aload_n 0, 1) := by decide +kernel
theorem dX11_clear_22 : decode cX11_clear 22 = .ok (.getfield 71, 3) := by decide +kernel
theorem dX11_clear_25 : decode cX11_clear 25 = .ok (.bipush 24, 2) := by decide +kernel
theorem dX11_clear_27 : decode cX11_clear 27 = .ok (.iload_n 1, 1) := by decide +kernel
theorem dX11_clear_28 : decode cX11_clear 28 = .ok (.imul, 1) := by decide +kernel
theorem dX11_clear_29 : decode cX11_clear 29 = .ok (.iload_n 2, 1) := by decide +kernel
theorem dX11_clear_30 : decode cX11_clear 30 = .ok (.iadd, 1) := by decide +kernel
theorem dX11_clear_31 : decode cX11_clear 31 = .ok (.iaload, 1) := by decide +kernel
theorem dX11_clear_32 : decode cX11_clear 32 = .ok (.ifCond .ne 5, 3) := by decide +kernel
theorem dX11_clear_35 : decode cX11_clear 35 = .ok (.iconst 0, 1) := by decide +kernel
theorem dX11_clear_36 : decode cX11_clear 36 = .ok (.ireturn, 1) := by decide +kernel
theorem dX11_clear_37 : decode cX11_clear 37 = .ok (.aload_n 0, 1) := by decide +kernel
theorem dX11_clear_38 : decode cX11_clear 38 = .ok (.getfield 71, 3) := by decide +kernel
theorem dX11_clear_41 : decode cX11_clear 41 = .ok (.bipush 24, 2) := by decide +kernel
theorem dX11_clear_43 : decode cX11_clear 43 = .ok (.iload_n 1, 1) := by decide +kernel
theorem dX11_clear_44 : decode cX11_clear 44 = .ok (.imul, 1) := by decide +kernel
theorem dX11_clear_45 : decode cX11_clear 45 = .ok (.iload_n 2, 1) := by decide +kernel
theorem dX11_clear_46 : decode cX11_clear 46 = .ok (.iadd, 1) := by decide +kernel
theorem dX11_clear_47 : decode cX11_clear 47 = .ok (.iconst 0, 1) := by decide +kernel
theorem dX11_clear_48 : decode cX11_clear 48 = .ok (.iastore, 1) := by decide +kernel
theorem dX11_clear_49 : decode cX11_clear 49 = .ok (.iconst 1, 1) := by decide +kernel
theorem dX11_clear_50 : decode cX11_clear 50 = .ok (.ireturn, 1) := by decide +kernel
theorem dX11_withdraw_0 : decode cX11_withdraw 0 = .ok (.aload_n 0, 1) := by decide +kernel
theorem dX11_withdraw_1 : decode cX11_withdraw 1 = .ok (.iconst 0, 1) := by decide +kernel
theorem dX11_withdraw_2 : decode cX11_withdraw 2 = .ok (.putfield 157, 3) := by decide +kernel
theorem dX11_withdraw_5 : decode cX11_withdraw 5 = .ok (.aload_n 0, 1) := by decide +kernel
theorem dX11_withdraw_6 : decode cX11_withdraw 6 = .ok (.aload_n 0, 1) := by decide +kernel
theorem dX11_withdraw_7 : decode cX11_withdraw 7 = .ok (.getfield 74, 3) := by decide +kernel
theorem dX11_withdraw_10 : decode cX11_withdraw 10 = .ok (.iload_n 1, 1) := by decide +kernel
theorem dX11_withdraw_11 : decode cX11_withdraw 11 = .ok (.iload_n 2, 1) := by decide +kernel
theorem dX11_withdraw_12 : decode cX11_withdraw 12 = .ok (.iload_n 3, 1) := by decide +kernel
theorem dX11_withdraw_13 : decode cX11_withdraw 13 = .ok (.invokevirtual 323, 3) := by decide +kernel
theorem dX11_withdraw_16 : decode cX11_withdraw 16 = .ok (.ireturn, 1) := by decide +kernel
theorem dX11_stake_0 : decode cX11_stake 0 = .ok (.aload_n 0, 1) := by decide +kernel
theorem dX11_stake_1 : decode cX11_stake 1 = .ok (.iconst 0, 1) := by decide +kernel
theorem dX11_stake_2 : decode cX11_stake 2 = .ok (.putfield 157, 3) := by decide +kernel
theorem dX11_stake_5 : decode cX11_stake 5 = .ok (.aload_n 0, 1) := by decide +kernel
theorem dX11_stake_6 : decode cX11_stake 6 = .ok (.iload_n 1, 1) := by decide +kernel
theorem dX11_stake_7 : decode cX11_stake 7 = .ok (.invokevirtual 262, 3) := by decide +kernel
theorem dX11_stake_10 : decode cX11_stake 10 = .ok (.ifCond .eq 46, 3) := by decide +kernel
theorem dX11_stake_13 : decode cX11_stake 13 = .ok (.aload_n 0, 1) := by decide +kernel
theorem dX11_stake_14 : decode cX11_stake 14 = .ok (.iload_n 2, 1) := by decide +kernel
theorem dX11_stake_15 : decode cX11_stake 15 = .ok (.invokevirtual 311, 3) := by decide +kernel
theorem dX11_stake_18 : decode cX11_stake 18 = .ok (.ifCond .eq 38, 3) := by decide +kernel
theorem dX11_stake_21 : decode cX11_stake 21 = .ok (.aload_n 0, 1) := by decide +kernel
theorem dX11_stake_22 : decode cX11_stake 22 = .ok (.iload_n 3, 1) := by decide +kernel
theorem dX11_stake_23 : decode cX11_stake 23 = .ok (.invokevirtual 265, 3) := by decide +kernel
theorem dX11_stake_26 : decode cX11_stake 26 = .ok (.ifCond .eq 30, 3) := by decide +kernel
theorem dX11_stake_29 : decode cX11_stake 29 = .ok (.iload 4, 2) := by decide +kernel
theorem dX11_stake_31 : decode cX11_stake 31 = .ok (.ifCond .lt 25, 3) := by decide +kernel
theorem dX11_stake_34 : decode cX11_stake 34 = .ok (.iload 4, 2) := by decide +kernel
theorem dX11_stake_36 : decode cX11_stake 36 = .ok (.sipush 10000, 3) := by decide +kernel
theorem dX11_stake_39 : decode cX11_stake 39 = .ok (.if_icmp .gt 17, 3) := by decide +kernel
theorem dX11_stake_42 : decode cX11_stake 42 = .ok (.aload_n 0, 1) := by decide +kernel
theorem dX11_stake_43 : decode cX11_stake 43 = .ok (.getfield 80, 3) := by decide +kernel
theorem dX11_stake_46 : decode cX11_stake 46 = .ok (.bipush 6, 2) := by decide +kernel
theorem dX11_stake_48 : decode cX11_stake 48 = .ok (.iload_n 1, 1) := by decide +kernel
theorem dX11_stake_49 : decode cX11_stake 49 = .ok (.imul, 1) := by decide +kernel
theorem dX11_stake_50 : decode cX11_stake 50 = .ok (.iload_n 2, 1) := by decide +kernel
theorem dX11_stake_51 : decode cX11_stake 51 = .ok (.iadd, 1) := by decide +kernel
theorem dX11_stake_52 : decode cX11_stake 52 = .ok (.baload, 1) := by decide +kernel
theorem dX11_stake_53 : decode cX11_stake 53 = .ok (.ifCond .eq 5, 3) := by decide +kernel
theorem dX11_stake_56 : decode cX11_stake 56 = .ok (.iconst 0, 1) := by decide +kernel
theorem dX11_stake_57 : decode cX11_stake 57 = .ok (.ireturn, 1) := by decide +kernel
theorem dX11_stake_58 : decode cX11_stake 58 = .ok (.aload_n 0, 1) := by decide +kernel
theorem dX11_stake_59 : decode cX11_stake 59 = .ok (.getfield 77, 3) := by decide +kernel
theorem dX11_stake_62 : decode cX11_stake 62 = .ok (.sipush 144, 3) := by decide +kernel
theorem dX11_stake_65 : decode cX11_stake 65 = .ok (.iload_n 1, 1) := by decide +kernel
theorem dX11_stake_66 : decode cX11_stake 66 = .ok (.imul, 1) := by decide +kernel
theorem dX11_stake_67 : decode cX11_stake 67 = .ok (.bipush 24, 2) := by decide +kernel
theorem dX11_stake_69 : decode cX11_stake 69 = .ok (.iload_n 2, 1) := by decide +kernel
theorem dX11_stake_70 : decode cX11_stake 70 = .ok (.imul, 1) := by decide +kernel
theorem dX11_stake_71 : decode cX11_stake 71 = .ok (.iadd, 1) := by decide +kernel
theorem dX11_stake_72 : decode cX11_stake 72 = .ok (.iload_n 3, 1) := by decide +kernel
theorem dX11_stake_73 : decode cX11_stake 73 = .ok (.iadd, 1) := by decide +kernel
theorem dX11_stake_74 : decode cX11_stake 74 = .ok (.iload 4, 2) := by decide +kernel
theorem dX11_stake_76 : decode cX11_stake 76 = .ok (.iastore, 1) := by decide +kernel
theorem dX11_stake_77 : decode cX11_stake 77 = .ok (.iconst 1, 1) := by decide +kernel
theorem dX11_stake_78 : decode cX11_stake 78 = .ok (.ireturn, 1) := by decide +kernel
theorem dX11_work_0 : decode cX11_work 0 = .ok (.aload_n 0, 1) := by decide +kernel
theorem dX11_work_1 : decode cX11_work 1 = .ok (.iload_n 1, 1) := by decide +kernel
theorem dX11_work_2 : decode cX11_work 2 = .ok (.iload_n 2, 1) := by decide +kernel
theorem dX11_work_3 : decode cX11_work 3 = .ok (.iload_n 3, 1) := by decide +kernel
theorem dX11_work_4 : decode cX11_work 4 = .ok (.invokevirtual 317, 3) := by decide +kernel
theorem dX11_work_7 : decode cX11_work 7 = .ok (.iconst 0, 1) := by decide +kernel
theorem dX11_work_8 : decode cX11_work 8 = .ok (.istore 4, 2) := by decide +kernel
theorem dX11_work_10 : decode cX11_work 10 = .ok (.iload 4, 2) := by decide +kernel
theorem dX11_work_12 : decode cX11_work 12 = .ok (.iconst 4, 1) := by decide +kernel
theorem dX11_work_13 : decode cX11_work 13 = .ok (.if_icmp .ge 17, 3) := by decide +kernel
theorem dX11_work_16 : decode cX11_work 16 = .ok (.aload_n 0, 1) := by decide +kernel
theorem dX11_work_17 : decode cX11_work 17 = .ok (.getfield 151, 3) := by decide +kernel
theorem dX11_work_20 : decode cX11_work 20 = .ok (.iload 4, 2) := by decide +kernel
theorem dX11_work_22 : decode cX11_work 22 = .ok (.lconst 0, 1) := by decide +kernel
theorem dX11_work_23 : decode cX11_work 23 = .ok (.lastore, 1) := by decide +kernel
theorem dX11_work_24 : decode cX11_work 24 = .ok (.iinc 4 1, 3) := by decide +kernel
theorem dX11_work_27 : decode cX11_work 27 = .ok (.goto (-17), 3) := by decide +kernel
theorem dX11_work_30 : decode cX11_work 30 = .ok (.iconst 0, 1) := by decide +kernel
theorem dX11_work_31 : decode cX11_work 31 = .ok (.istore 4, 2) := by decide +kernel
theorem dX11_work_33 : decode cX11_work 33 = .ok (.iload 4, 2) := by decide +kernel
theorem dX11_work_35 : decode cX11_work 35 = .ok (.bipush 24, 2) := by decide +kernel
theorem dX11_work_37 : decode cX11_work 37 = .ok (.if_icmp .ge 75, 3) := by decide +kernel
theorem dX11_work_40 : decode cX11_work 40 = .ok (.aload_n 0, 1) := by decide +kernel
theorem dX11_work_41 : decode cX11_work 41 = .ok (.getfield 148, 3) := by decide +kernel
theorem dX11_work_44 : decode cX11_work 44 = .ok (.iload 4, 2) := by decide +kernel
theorem dX11_work_46 : decode cX11_work 46 = .ok (.lconst 0, 1) := by decide +kernel
theorem dX11_work_47 : decode cX11_work 47 = .ok (.lastore, 1) := by decide +kernel
theorem dX11_work_48 : decode cX11_work 48 = .ok (.aload_n 0, 1) := by decide +kernel
theorem dX11_work_49 : decode cX11_work 49 = .ok (.getfield 77, 3) := by decide +kernel
theorem dX11_work_52 : decode cX11_work 52 = .ok (.sipush 144, 3) := by decide +kernel
theorem dX11_work_55 : decode cX11_work 55 = .ok (.iload_n 1, 1) := by decide +kernel
theorem dX11_work_56 : decode cX11_work 56 = .ok (.imul, 1) := by decide +kernel
theorem dX11_work_57 : decode cX11_work 57 = .ok (.bipush 24, 2) := by decide +kernel
theorem dX11_work_59 : decode cX11_work 59 = .ok (.iload_n 2, 1) := by decide +kernel
theorem dX11_work_60 : decode cX11_work 60 = .ok (.imul, 1) := by decide +kernel
theorem dX11_work_61 : decode cX11_work 61 = .ok (.iadd, 1) := by decide +kernel
theorem dX11_work_62 : decode cX11_work 62 = .ok (.iload 4, 2) := by decide +kernel
theorem dX11_work_64 : decode cX11_work 64 = .ok (.iadd, 1) := by decide +kernel
theorem dX11_work_65 : decode cX11_work 65 = .ok (.iaload, 1) := by decide +kernel
theorem dX11_work_66 : decode cX11_work 66 = .ok (.istore 5, 2) := by decide +kernel
theorem dX11_work_68 : decode cX11_work 68 = .ok (.aload_n 0, 1) := by decide +kernel
theorem dX11_work_69 : decode cX11_work 69 = .ok (.iload_n 1, 1) := by decide +kernel
theorem dX11_work_70 : decode cX11_work 70 = .ok (.iload 4, 2) := by decide +kernel
theorem dX11_work_72 : decode cX11_work 72 = .ok (.iload_n 3, 1) := by decide +kernel
theorem dX11_work_73 : decode cX11_work 73 = .ok (.invokevirtual 300, 3) := by decide +kernel
theorem dX11_work_76 : decode cX11_work 76 = .ok (.ifCond .eq 18, 3) := by decide +kernel
theorem dX11_work_79 : decode cX11_work 79 = .ok (.aload_n 0, 1) := by decide +kernel
theorem dX11_work_80 : decode cX11_work 80 = .ok (.getfield 151, 3) := by decide +kernel
theorem dX11_work_83 : decode cX11_work 83 = .ok (.iconst 3, 1) := by decide +kernel
theorem dX11_work_84 : decode cX11_work 84 = .ok (.dup2, 1) := by decide +kernel
theorem dX11_work_85 : decode cX11_work 85 = .ok (.laload, 1) := by decide +kernel
theorem dX11_work_86 : decode cX11_work 86 = .ok (.iload 5, 2) := by decide +kernel
theorem dX11_work_88 : decode cX11_work 88 = .ok (.i2l, 1) := by decide +kernel
theorem dX11_work_89 : decode cX11_work 89 = .ok (.ladd, 1) := by decide +kernel
theorem dX11_work_90 : decode cX11_work 90 = .ok (.lastore, 1) := by decide +kernel
theorem dX11_work_91 : decode cX11_work 91 = .ok (.goto 15, 3) := by decide +kernel
theorem dX11_work_94 : decode cX11_work 94 = .ok (.aload_n 0, 1) := by decide +kernel
theorem dX11_work_95 : decode cX11_work 95 = .ok (.getfield 151, 3) := by decide +kernel
theorem dX11_work_98 : decode cX11_work 98 = .ok (.iconst 0, 1) := by decide +kernel
theorem dX11_work_99 : decode cX11_work 99 = .ok (.dup2, 1) := by decide +kernel
theorem dX11_work_100 : decode cX11_work 100 = .ok (.laload, 1) := by decide +kernel
theorem dX11_work_101 : decode cX11_work 101 = .ok (.iload 5, 2) := by decide +kernel
theorem dX11_work_103 : decode cX11_work 103 = .ok (.i2l, 1) := by decide +kernel
theorem dX11_work_104 : decode cX11_work 104 = .ok (.ladd, 1) := by decide +kernel
theorem dX11_work_105 : decode cX11_work 105 = .ok (.lastore, 1) := by decide +kernel
theorem dX11_work_106 : decode cX11_work 106 = .ok (.iinc 4 1, 3) := by decide +kernel
theorem dX11_work_109 : decode cX11_work 109 = .ok (.goto (-76), 3) := by decide +kernel
theorem dX11_work_112 : decode cX11_work 112 = .ok (.iconst 0, 1) := by decide +kernel
theorem dX11_work_113 : decode cX11_work 113 = .ok (.istore 4, 2) := by decide +kernel
theorem dX11_work_115 : decode cX11_work 115 = .ok (.iconst 0, 1) := by decide +kernel
theorem dX11_work_116 : decode cX11_work 116 = .ok (.istore 5, 2) := by decide +kernel
theorem dX11_work_118 : decode cX11_work 118 = .ok (.iload 5, 2) := by decide +kernel
theorem dX11_work_120 : decode cX11_work 120 = .ok (.aload_n 0, 1) := by decide +kernel
theorem dX11_work_121 : decode cX11_work 121 = .ok (.getfield 297, 3) := by decide +kernel
theorem dX11_work_124 : decode cX11_work 124 = .ok (.if_icmp .ge 52, 3) := by decide +kernel
theorem dX11_work_127 : decode cX11_work 127 = .ok (.aload_n 0, 1) := by decide +kernel
theorem dX11_work_128 : decode cX11_work 128 = .ok (.getfield 77, 3) := by decide +kernel
theorem dX11_work_131 : decode cX11_work 131 = .ok (.sipush 144, 3) := by decide +kernel
theorem dX11_work_134 : decode cX11_work 134 = .ok (.iload_n 1, 1) := by decide +kernel
theorem dX11_work_135 : decode cX11_work 135 = .ok (.imul, 1) := by decide +kernel
theorem dX11_work_136 : decode cX11_work 136 = .ok (.bipush 24, 2) := by decide +kernel
theorem dX11_work_138 : decode cX11_work 138 = .ok (.iload_n 2, 1) := by decide +kernel
theorem dX11_work_139 : decode cX11_work 139 = .ok (.imul, 1) := by decide +kernel
theorem dX11_work_140 : decode cX11_work 140 = .ok (.iadd, 1) := by decide +kernel
theorem dX11_work_141 : decode cX11_work 141 = .ok (.aload_n 0, 1) := by decide +kernel
theorem dX11_work_142 : decode cX11_work 142 = .ok (.getfield 139, 3) := by decide +kernel
theorem dX11_work_145 : decode cX11_work 145 = .ok (.iload 5, 2) := by decide +kernel
theorem dX11_work_147 : decode cX11_work 147 = .ok (.iaload, 1) := by decide +kernel
theorem dX11_work_148 : decode cX11_work 148 = .ok (.iadd, 1) := by decide +kernel
theorem dX11_work_149 : decode cX11_work 149 = .ok (.iaload, 1) := by decide +kernel
theorem dX11_work_150 : decode cX11_work 150 = .ok (.ifCond .le 20, 3) := by decide +kernel
theorem dX11_work_153 : decode cX11_work 153 = .ok (.aload_n 0, 1) := by decide +kernel
theorem dX11_work_154 : decode cX11_work 154 = .ok (.getfield 154, 3) := by decide +kernel
theorem dX11_work_157 : decode cX11_work 157 = .ok (.iload 4, 2) := by decide +kernel
theorem dX11_work_159 : decode cX11_work 159 = .ok (.aload_n 0, 1) := by decide +kernel
theorem dX11_work_160 : decode cX11_work 160 = .ok (.getfield 139, 3) := by decide +kernel
theorem dX11_work_163 : decode cX11_work 163 = .ok (.iload 5, 2) := by decide +kernel
theorem dX11_work_165 : decode cX11_work 165 = .ok (.iaload, 1) := by decide +kernel
theorem dX11_work_166 : decode cX11_work 166 = .ok (.iastore, 1) := by decide +kernel
theorem dX11_work_167 : decode cX11_work 167 = .ok (.iinc 4 1, 3) := by decide +kernel
theorem dX11_work_170 : decode cX11_work 170 = .ok (.iinc 5 1, 3) := by decide +kernel
theorem dX11_work_173 : decode cX11_work 173 = .ok (.goto (-55), 3) := by decide +kernel
theorem dX11_work_176 : decode cX11_work 176 = .ok (.aload_n 0, 1) := by decide +kernel
theorem dX11_work_177 : decode cX11_work 177 = .ok (.getfield 100, 3) := by decide +kernel
theorem dX11_work_180 : decode cX11_work 180 = .ok (.bipush 6, 2) := by decide +kernel
theorem dX11_work_182 : decode cX11_work 182 = .ok (.aload_n 0, 1) := by decide +kernel
theorem dX11_work_183 : decode cX11_work 183 = .ok (.getfield 231, 3) := by decide +kernel
theorem dX11_work_186 : decode cX11_work 186 = .ok (.imul, 1) := by decide +kernel
theorem dX11_work_187 : decode cX11_work 187 = .ok (.iload_n 2, 1) := by decide +kernel
theorem dX11_work_188 : decode cX11_work 188 = .ok (.iadd, 1) := by decide +kernel
theorem dX11_work_189 : decode cX11_work 189 = .ok (.iaload, 1) := by decide +kernel
theorem dX11_work_190 : decode cX11_work 190 = .ok (.istore 5, 2) := by decide +kernel
theorem dX11_work_192 : decode cX11_work 192 = .ok (.iconst 0, 1) := by decide +kernel
theorem dX11_work_193 : decode cX11_work 193 = .ok (.istore 6, 2) := by decide +kernel
theorem dX11_work_195 : decode cX11_work 195 = .ok (.iload 6, 2) := by decide +kernel
theorem dX11_work_197 : decode cX11_work 197 = .ok (.iload 4, 2) := by decide +kernel
theorem dX11_work_199 : decode cX11_work 199 = .ok (.if_icmp .ge 171, 3) := by decide +kernel
theorem dX11_work_202 : decode cX11_work 202 = .ok (.iload 6, 2) := by decide +kernel
theorem dX11_work_204 : decode cX11_work 204 = .ok (.iconst 1, 1) := by decide +kernel
theorem dX11_work_205 : decode cX11_work 205 = .ok (.iadd, 1) := by decide +kernel
theorem dX11_work_206 : decode cX11_work 206 = .ok (.istore 7, 2) := by decide +kernel
theorem dX11_work_208 : decode cX11_work 208 = .ok (.iload 7, 2) := by decide +kernel
theorem dX11_work_210 : decode cX11_work 210 = .ok (.iload 4, 2) := by decide +kernel
theorem dX11_work_212 : decode cX11_work 212 = .ok (.if_icmp .ge 31, 3) := by decide +kernel
theorem dX11_work_215 : decode cX11_work 215 = .ok (.aload_n 0, 1) := by decide +kernel
theorem dX11_work_216 : decode cX11_work 216 = .ok (.iload_n 1, 1) := by decide +kernel
