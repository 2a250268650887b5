theorem dL_goes_38 : decode cL_goes 38 = .ok (.iload 5, 2) := by decide +kernel
theorem dL_goes_40 : decode cL_goes 40 = .ok (.iadd, 1) := by decide +kernel
theorem dL_goes_41 : decode cL_goes 41 = .ok (.invokestatic 178, 3) := by decide +kernel
theorem dL_goes_44 : decode cL_goes 44 = .ok (.ldc 182, 2) := by decide +kernel
theorem dL_goes_46 : decode cL_goes 46 = .ok (.irem, 1) := by decide +kernel
theorem dL_goes_47 : decode cL_goes 47 = .ok (.istore 6, 2) := by decide +kernel
theorem dL_goes_49 : decode cL_goes 49 = .ok (.iload 5, 2) := by decide +kernel
theorem dL_goes_51 : decode cL_goes 51 = .ok (.ifCond .ne 14, 3) := by decide +kernel
theorem dL_goes_54 : decode cL_goes 54 = .ok (.bipush 20, 2) := by decide +kernel
theorem dL_goes_56 : decode cL_goes 56 = .ok (.iload 6, 2) := by decide +kernel
theorem dL_goes_58 : decode cL_goes 58 = .ok (.bipush 20, 2) := by decide +kernel
theorem dL_goes_60 : decode cL_goes 60 = .ok (.idiv, 1) := by decide +kernel
theorem dL_goes_61 : decode cL_goes 61 = .ok (.imul, 1) := by decide +kernel
theorem dL_goes_62 : decode cL_goes 62 = .ok (.goto 24, 3) := by decide +kernel
theorem dL_goes_65 : decode cL_goes 65 = .ok (.iload 5, 2) := by decide +kernel
theorem dL_goes_67 : decode cL_goes 67 = .ok (.iconst 3, 1) := by decide +kernel
theorem dL_goes_68 : decode cL_goes 68 = .ok (.if_icmp .ge 16, 3) := by decide +kernel
theorem dL_goes_71 : decode cL_goes 71 = .ok (.bipush 20, 2) := by decide +kernel
theorem dL_goes_73 : decode cL_goes 73 = .ok (.iload 6, 2) := by decide +kernel
theorem dL_goes_75 : decode cL_goes 75 = .ok (.bipush 20, 2) := by decide +kernel
theorem dL_goes_77 : decode cL_goes 77 = .ok (.idiv, 1) := by decide +kernel
theorem dL_goes_78 : decode cL_goes 78 = .ok (.imul, 1) := by decide +kernel
theorem dL_goes_79 : decode cL_goes 79 = .ok (.iconst 2, 1) := by decide +kernel
theorem dL_goes_80 : decode cL_goes 80 = .ok (.iadd, 1) := by decide +kernel
theorem dL_goes_81 : decode cL_goes 81 = .ok (.goto 5, 3) := by decide +kernel
theorem dL_goes_84 : decode cL_goes 84 = .ok (.iload 6, 2) := by decide +kernel
theorem dL_goes_86 : decode cL_goes 86 = .ok (.istore 6, 2) := by decide +kernel
theorem dL_goes_88 : decode cL_goes 88 = .ok (.aload_n 2, 1) := by decide +kernel
theorem dL_goes_89 : decode cL_goes 89 = .ok (.iload 6, 2) := by decide +kernel
theorem dL_goes_91 : decode cL_goes 91 = .ok (.invokestatic 183, 3) := by decide +kernel
theorem dL_goes_94 : decode cL_goes 94 = .ok (.istore 7, 2) := by decide +kernel
theorem dL_goes_96 : decode cL_goes 96 = .ok (.aload_n 2, 1) := by decide +kernel
theorem dL_goes_97 : decode cL_goes 97 = .ok (.aload_n 3, 1) := by decide +kernel
theorem dL_goes_98 : decode cL_goes 98 = .ok (.iload 6, 2) := by decide +kernel
theorem dL_goes_100 : decode cL_goes 100 = .ok (.invokestatic 186, 3) := by decide +kernel
theorem dL_goes_103 : decode cL_goes 103 = .ok (.istore 8, 2) := by decide +kernel
theorem dL_goes_105 : decode cL_goes 105 = .ok (.iload 8, 2) := by decide +kernel
theorem dL_goes_107 : decode cL_goes 107 = .ok (.bipush (-5), 2) := by decide +kernel
theorem dL_goes_109 : decode cL_goes 109 = .ok (.if_icmp .eq 34, 3) := by decide +kernel
theorem dL_goes_112 : decode cL_goes 112 = .ok (.iload 8, 2) := by decide +kernel
theorem dL_goes_114 : decode cL_goes 114 = .ok (.invokestatic 142, 3) := by decide +kernel
theorem dL_goes_117 : decode cL_goes 117 = .ok (.ifCond .eq 14, 3) := by decide +kernel
theorem dL_goes_120 : decode cL_goes 120 = .ok (.aload_n 2, 1) := by decide +kernel
theorem dL_goes_121 : decode cL_goes 121 = .ok (.iload 6, 2) := by decide +kernel
theorem dL_goes_123 : decode cL_goes 123 = .ok (.invokestatic 183, 3) := by decide +kernel
theorem dL_goes_126 : decode cL_goes 126 = .ok (.iload 7, 2) := by decide +kernel
theorem dL_goes_128 : decode cL_goes 128 = .ok (.if_icmp .ne 15, 3) := by decide +kernel
theorem dL_goes_131 : decode cL_goes 131 = .ok (.aload_n 2, 1) := by decide +kernel
theorem dL_goes_132 : decode cL_goes 132 = .ok (.aload_n 3, 1) := by decide +kernel
theorem dL_goes_133 : decode cL_goes 133 = .ok (.invokestatic 189, 3) := by decide +kernel
theorem dL_goes_136 : decode cL_goes 136 = .ok (.ifCond .eq 7, 3) := by decide +kernel
theorem dL_goes_139 : decode cL_goes 139 = .ok (.iconst 1, 1) := by decide +kernel
theorem dL_goes_140 : decode cL_goes 140 = .ok (.goto 4, 3) := by decide +kernel
theorem dL_goes_143 : decode cL_goes 143 = .ok (.iconst 0, 1) := by decide +kernel
theorem dL_goes_144 : decode cL_goes 144 = .ok (.istore 4, 2) := by decide +kernel
theorem dL_goes_146 : decode cL_goes 146 = .ok (.iconst 0, 1) := by decide +kernel
theorem dL_goes_147 : decode cL_goes 147 = .ok (.istore 9, 2) := by decide +kernel
theorem dL_goes_149 : decode cL_goes 149 = .ok (.iload 9, 2) := by decide +kernel
theorem dL_goes_151 : decode cL_goes 151 = .ok (.aload_n 3, 1) := by decide +kernel
theorem dL_goes_152 : decode cL_goes 152 = .ok (.iconst 1, 1) := by decide +kernel
theorem dL_goes_153 : decode cL_goes 153 = .ok (.iaload, 1) := by decide +kernel
theorem dL_goes_154 : decode cL_goes 154 = .ok (.if_icmp .ge 71, 3) := by decide +kernel
theorem dL_goes_157 : decode cL_goes 157 = .ok (.iload 4, 2) := by decide +kernel
theorem dL_goes_159 : decode cL_goes 159 = .ok (.ifCond .eq 66, 3) := by decide +kernel
theorem dL_goes_162 : decode cL_goes 162 = .ok (.aload_n 2, 1) := by decide +kernel
theorem dL_goes_163 : decode cL_goes 163 = .ok (.iload 9, 2) := by decide +kernel
theorem dL_goes_165 : decode cL_goes 165 = .ok (.aload_n 3, 1) := by decide +kernel
theorem dL_goes_166 : decode cL_goes 166 = .ok (.iconst 3, 1) := by decide +kernel
theorem dL_goes_167 : decode cL_goes 167 = .ok (.iconst 2, 1) := by decide +kernel
theorem dL_goes_168 : decode cL_goes 168 = .ok (.iload 9, 2) := by decide +kernel
theorem dL_goes_170 : decode cL_goes 170 = .ok (.imul, 1) := by decide +kernel
theorem dL_goes_171 : decode cL_goes 171 = .ok (.iadd, 1) := by decide +kernel
theorem dL_goes_172 : decode cL_goes 172 = .ok (.iaload, 1) := by decide +kernel
theorem dL_goes_173 : decode cL_goes 173 = .ok (.aload_n 3, 1) := by decide +kernel
theorem dL_goes_174 : decode cL_goes 174 = .ok (.iconst 4, 1) := by decide +kernel
theorem dL_goes_175 : decode cL_goes 175 = .ok (.iconst 2, 1) := by decide +kernel
theorem dL_goes_176 : decode cL_goes 176 = .ok (.iload 9, 2) := by decide +kernel
theorem dL_goes_178 : decode cL_goes 178 = .ok (.imul, 1) := by decide +kernel
theorem dL_goes_179 : decode cL_goes 179 = .ok (.iadd, 1) := by decide +kernel
theorem dL_goes_180 : decode cL_goes 180 = .ok (.iaload, 1) := by decide +kernel
theorem dL_goes_181 : decode cL_goes 181 = .ok (.invokestatic 193, 3) := by decide +kernel
theorem dL_goes_184 : decode cL_goes 184 = .ok (.ifCond .eq 32, 3) := by decide +kernel
theorem dL_goes_187 : decode cL_goes 187 = .ok (.iload 5, 2) := by decide +kernel
theorem dL_goes_189 : decode cL_goes 189 = .ok (.bipush 10, 2) := by decide +kernel
theorem dL_goes_191 : decode cL_goes 191 = .ok (.irem, 1) := by decide +kernel
theorem dL_goes_192 : decode cL_goes 192 = .ok (.bipush 9, 2) := by decide +kernel
theorem dL_goes_194 : decode cL_goes 194 = .ok (.if_icmp .lt 18, 3) := by decide +kernel
theorem dL_goes_197 : decode cL_goes 197 = .ok (.aload_n 2, 1) := by decide +kernel
theorem dL_goes_198 : decode cL_goes 198 = .ok (.iload 9, 2) := by decide +kernel
theorem dL_goes_200 : decode cL_goes 200 = .ok (.invokestatic 197, 3) := by decide +kernel
theorem dL_goes_203 : decode cL_goes 203 = .ok (.aload_n 2, 1) := by decide +kernel
theorem dL_goes_204 : decode cL_goes 204 = .ok (.iload 9, 2) := by decide +kernel
theorem dL_goes_206 : decode cL_goes 206 = .ok (.invokestatic 116, 3) := by decide +kernel
theorem dL_goes_209 : decode cL_goes 209 = .ok (.if_icmp .ne 7, 3) := by decide +kernel
theorem dL_goes_212 : decode cL_goes 212 = .ok (.iconst 1, 1) := by decide +kernel
theorem dL_goes_213 : decode cL_goes 213 = .ok (.goto 4, 3) := by decide +kernel
theorem dL_goes_216 : decode cL_goes 216 = .ok (.iconst 0, 1) := by decide +kernel
theorem dL_goes_217 : decode cL_goes 217 = .ok (.istore 4, 2) := by decide +kernel
theorem dL_goes_219 : decode cL_goes 219 = .ok (.iinc 9 1, 3) := by decide +kernel
theorem dL_goes_222 : decode cL_goes 222 = .ok (.goto (-73), 3) := by decide +kernel
theorem dL_goes_225 : decode cL_goes 225 = .ok (.iinc 5 1, 3) := by decide +kernel
theorem dL_goes_228 : decode cL_goes 228 = .ok (.goto (-204), 3) := by decide +kernel
theorem dL_goes_231 : decode cL_goes 231 = .ok (.iload 4, 2) := by decide +kernel
theorem dL_goes_233 : decode cL_goes 233 = .ok (.ifCond .eq 14, 3) := by decide +kernel
theorem dL_goes_236 : decode cL_goes 236 = .ok (.aload_n 2, 1) := by decide +kernel
theorem dL_goes_237 : decode cL_goes 237 = .ok (.invokestatic 200, 3) := by decide +kernel
theorem dL_goes_240 : decode cL_goes 240 = .ok (.ifCond .eq 7, 3) := by decide +kernel
theorem dL_goes_243 : decode cL_goes 243 = .ok (.iconst 1, 1) := by decide +kernel
theorem dL_goes_244 : decode cL_goes 244 = .ok (.goto 4, 3) := by decide +kernel
theorem dL_goes_247 : decode cL_goes 247 = .ok (.iconst 0, 1) := by decide +kernel
theorem dL_goes_248 : decode cL_goes 248 = .ok (.ireturn, 1) := by decide +kernel
theorem dL_law_0 : decode cL_law 0 = .ok (.aload_n 0, 1) := by decide +kernel
theorem dL_law_1 : decode cL_law 1 = .ok (.iconst 0, 1) := by decide +kernel
theorem dL_law_2 : decode cL_law 2 = .ok (.invokestatic 204, 3) := by decide +kernel
theorem dL_law_5 : decode cL_law 5 = .ok (.ifCond .eq 25, 3) := by decide +kernel
theorem dL_law_8 : decode cL_law 8 = .ok (.aload_n 0, 1) := by decide +kernel
theorem dL_law_9 : decode cL_law 9 = .ok (.bipush 30, 2) := by decide +kernel
theorem dL_law_11 : decode cL_law 11 = .ok (.invokestatic 204, 3) := by decide +kernel
theorem dL_law_14 : decode cL_law 14 = .ok (.ifCond .eq 16, 3) := by decide +kernel
theorem dL_law_17 : decode cL_law 17 = .ok (.aload_n 0, 1) := by decide +kernel
theorem dL_law_18 : decode cL_law 18 = .ok (.bipush 60, 2) := by decide +kernel
theorem dL_law_20 : decode cL_law 20 = .ok (.invokestatic 204, 3) := by decide +kernel
theorem dL_law_23 : decode cL_law 23 = .ok (.ifCond .eq 7, 3) := by decide +kernel
theorem dL_law_26 : decode cL_law 26 = .ok (.iconst 1, 1) := by decide +kernel
theorem dL_law_27 : decode cL_law 27 = .ok (.goto 4, 3) := by decide +kernel
theorem dL_law_30 : decode cL_law 30 = .ok (.iconst 0, 1) := by decide +kernel
theorem dL_law_31 : decode cL_law 31 = .ok (.ireturn, 1) := by decide +kernel
abbrev vwCl : List vw_C := [(RJx4a65c, TJx4a65c, 3), (RX0, TX0, 3), (RX1, TX1, 5), (RX2, TX2, 2), (RX3, TX3, 2), (RX4, TX4, 4), (RX5, TX5, 4), (RX6, TX6, 7), (RX7, TX7, 4), (RX8, TX8, 11)]
