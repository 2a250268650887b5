theorem dX9_init_49 : decode cX9_init 49 = .ok (.newarray .int, 2) := by decide +kernel
theorem dX9_init_51 : decode cX9_init 51 = .ok (.putfield 25, 3) := by decide +kernel
theorem dX9_init_54 : decode cX9_init 54 = .ok (.aload_n 0, 1) := by decide +kernel
theorem dX9_init_55 : decode cX9_init 55 = .ok (.sipush 484, 3) := by decide +kernel
theorem dX9_init_58 : decode cX9_init 58 = .ok (.newarray .int, 2) := by decide +kernel
theorem dX9_init_60 : decode cX9_init 60 = .ok (.putfield 28, 3) := by decide +kernel
theorem dX9_init_63 : decode cX9_init 63 = .ok (.aload_n 0, 1) := by decide +kernel
theorem dX9_init_64 : decode cX9_init 64 = .ok (.iconst 5, 1) := by decide +kernel
theorem dX9_init_65 : decode cX9_init 65 = .ok (.newarray .int, 2) := by decide +kernel
theorem dX9_init_67 : decode cX9_init 67 = .ok (.putfield 31, 3) := by decide +kernel
theorem dX9_init_70 : decode cX9_init 70 = .ok (.aload_n 0, 1) := by decide +kernel
theorem dX9_init_71 : decode cX9_init 71 = .ok (.iconst 5, 1) := by decide +kernel
theorem dX9_init_72 : decode cX9_init 72 = .ok (.newarray .int, 2) := by decide +kernel
theorem dX9_init_74 : decode cX9_init 74 = .ok (.putfield 34, 3) := by decide +kernel
theorem dX9_init_77 : decode cX9_init 77 = .ok (.aload_n 0, 1) := by decide +kernel
theorem dX9_init_78 : decode cX9_init 78 = .ok (.iconst 5, 1) := by decide +kernel
theorem dX9_init_79 : decode cX9_init 79 = .ok (.newarray .int, 2) := by decide +kernel
theorem dX9_init_81 : decode cX9_init 81 = .ok (.putfield 37, 3) := by decide +kernel
theorem dX9_init_84 : decode cX9_init 84 = .ok (.aload_n 0, 1) := by decide +kernel
theorem dX9_init_85 : decode cX9_init 85 = .ok (.bipush 40, 2) := by decide +kernel
theorem dX9_init_87 : decode cX9_init 87 = .ok (.newarray .int, 2) := by decide +kernel
theorem dX9_init_89 : decode cX9_init 89 = .ok (.putfield 40, 3) := by decide +kernel
theorem dX9_init_92 : decode cX9_init 92 = .ok (.aload_n 0, 1) := by decide +kernel
theorem dX9_init_93 : decode cX9_init 93 = .ok (.bipush 40, 2) := by decide +kernel
theorem dX9_init_95 : decode cX9_init 95 = .ok (.newarray .int, 2) := by decide +kernel
theorem dX9_init_97 : decode cX9_init 97 = .ok (.putfield 43, 3) := by decide +kernel
theorem dX9_init_100 : decode cX9_init 100 = .ok (.aload_n 0, 1) := by decide +kernel
theorem dX9_init_101 : decode cX9_init 101 = .ok (.bipush 40, 2) := by decide +kernel
theorem dX9_init_103 : decode cX9_init 103 = .ok (.newarray .int, 2) := by decide +kernel
theorem dX9_init_105 : decode cX9_init 105 = .ok (.putfield 46, 3) := by decide +kernel
theorem dX9_init_108 : decode cX9_init 108 = .ok (.aload_n 0, 1) := by decide +kernel
theorem dX9_init_109 : decode cX9_init 109 = .ok (.bipush 20, 2) := by decide +kernel
theorem dX9_init_111 : decode cX9_init 111 = .ok (.newarray .int, 2) := by decide +kernel
theorem dX9_init_113 : decode cX9_init 113 = .ok (.putfield 49, 3) := by decide +kernel
theorem dX9_init_116 : decode cX9_init 116 = .ok (.aload_n 0, 1) := by decide +kernel
theorem dX9_init_117 : decode cX9_init 117 = .ok (.bipush 20, 2) := by decide +kernel
theorem dX9_init_119 : decode cX9_init 119 = .ok (.newarray .int, 2) := by decide +kernel
theorem dX9_init_121 : decode cX9_init 121 = .ok (.putfield 52, 3) := by decide +kernel
theorem dX9_init_124 : decode cX9_init 124 = .ok (.aload_n 0, 1) := by decide +kernel
theorem dX9_init_125 : decode cX9_init 125 = .ok (.bipush 20, 2) := by decide +kernel
theorem dX9_init_127 : decode cX9_init 127 = .ok (.newarray .int, 2) := by decide +kernel
theorem dX9_init_129 : decode cX9_init 129 = .ok (.putfield 55, 3) := by decide +kernel
theorem dX9_init_132 : decode cX9_init 132 = .ok (.aload_n 0, 1) := by decide +kernel
theorem dX9_init_133 : decode cX9_init 133 = .ok (.bipush 20, 2) := by decide +kernel
theorem dX9_init_135 : decode cX9_init 135 = .ok (.newarray .int, 2) := by decide +kernel
theorem dX9_init_137 : decode cX9_init 137 = .ok (.putfield 58, 3) := by decide +kernel
theorem dX9_init_140 : decode cX9_init 140 = .ok (.aload_n 0, 1) := by decide +kernel
theorem dX9_init_141 : decode cX9_init 141 = .ok (.bipush 20, 2) := by decide +kernel
theorem dX9_init_143 : decode cX9_init 143 = .ok (.newarray .int, 2) := by decide +kernel
theorem dX9_init_145 : decode cX9_init 145 = .ok (.putfield 61, 3) := by decide +kernel
theorem dX9_init_148 : decode cX9_init 148 = .ok (.aload_n 0, 1) := by decide +kernel
theorem dX9_init_149 : decode cX9_init 149 = .ok (.bipush 99, 2) := by decide +kernel
theorem dX9_init_151 : decode cX9_init 151 = .ok (.putfield 64, 3) := by decide +kernel
theorem dX9_init_154 : decode cX9_init 154 = .ok (.aload_n 0, 1) := by decide +kernel
theorem dX9_init_155 : decode cX9_init 155 = .ok (.bipush 70, 2) := by decide +kernel
theorem dX9_init_157 : decode cX9_init 157 = .ok (.putfield 68, 3) := by decide +kernel
theorem dX9_init_160 : decode cX9_init 160 = .ok (.aload_n 0, 1) := by decide +kernel
theorem dX9_init_161 : decode cX9_init 161 = .ok (.bipush 60, 2) := by decide +kernel
theorem dX9_init_163 : decode cX9_init 163 = .ok (.newarray .int, 2) := by decide +kernel
theorem dX9_init_165 : decode cX9_init 165 = .ok (.putfield 71, 3) := by decide +kernel
theorem dX9_init_168 : decode cX9_init 168 = .ok (.aload_n 0, 1) := by decide +kernel
theorem dX9_init_169 : decode cX9_init 169 = .ok (.sipush 1800, 3) := by decide +kernel
theorem dX9_init_172 : decode cX9_init 172 = .ok (.newarray .int, 2) := by decide +kernel
theorem dX9_init_174 : decode cX9_init 174 = .ok (.putfield 74, 3) := by decide +kernel
theorem dX9_init_177 : decode cX9_init 177 = .ok (.aload_n 0, 1) := by decide +kernel
theorem dX9_init_178 : decode cX9_init 178 = .ok (.iconst 2, 1) := by decide +kernel
theorem dX9_init_179 : decode cX9_init 179 = .ok (.newarray .int, 2) := by decide +kernel
theorem dX9_init_181 : decode cX9_init 181 = .ok (.dup, 1) := by decide +kernel
theorem dX9_init_182 : decode cX9_init 182 = .ok (.iconst 0, 1) := by decide +kernel
theorem dX9_init_183 : decode cX9_init 183 = .ok (.iconst (-1), 1) := by decide +kernel
theorem dX9_init_184 : decode cX9_init 184 = .ok (.iastore, 1) := by decide +kernel
theorem dX9_init_185 : decode cX9_init 185 = .ok (.dup, 1) := by decide +kernel
theorem dX9_init_186 : decode cX9_init 186 = .ok (.iconst 1, 1) := by decide +kernel
theorem dX9_init_187 : decode cX9_init 187 = .ok (.iconst (-1), 1) := by decide +kernel
theorem dX9_init_188 : decode cX9_init 188 = .ok (.iastore, 1) := by decide +kernel
theorem dX9_init_189 : decode cX9_init 189 = .ok (.putfield 77, 3) := by decide +kernel
theorem dX9_init_192 : decode cX9_init 192 = .ok (.aload_n 0, 1) := by decide +kernel
theorem dX9_init_193 : decode cX9_init 193 = .ok (.iconst 2, 1) := by decide +kernel
theorem dX9_init_194 : decode cX9_init 194 = .ok (.newarray .int, 2) := by decide +kernel
theorem dX9_init_196 : decode cX9_init 196 = .ok (.dup, 1) := by decide +kernel
theorem dX9_init_197 : decode cX9_init 197 = .ok (.iconst 0, 1) := by decide +kernel
theorem dX9_init_198 : decode cX9_init 198 = .ok (.iconst (-1), 1) := by decide +kernel
theorem dX9_init_199 : decode cX9_init 199 = .ok (.iastore, 1) := by decide +kernel
theorem dX9_init_200 : decode cX9_init 200 = .ok (.dup, 1) := by decide +kernel
theorem dX9_init_201 : decode cX9_init 201 = .ok (.iconst 1, 1) := by decide +kernel
theorem dX9_init_202 : decode cX9_init 202 = .ok (.iconst (-1), 1) := by decide +kernel
theorem dX9_init_203 : decode cX9_init 203 = .ok (.iastore, 1) := by decide +kernel
theorem dX9_init_204 : decode cX9_init 204 = .ok (.putfield 80, 3) := by decide +kernel
theorem dX9_init_207 : decode cX9_init 207 = .ok (.aload_n 0, 1) := by decide +kernel
theorem dX9_init_208 : decode cX9_init 208 = .ok (.iconst 5, 1) := by decide +kernel
theorem dX9_init_209 : decode cX9_init 209 = .ok (.newarray .boolean, 2) := by decide +kernel
theorem dX9_init_211 : decode cX9_init 211 = .ok (.putfield 83, 3) := by decide +kernel
theorem dX9_init_214 : decode cX9_init 214 = .ok (.aload_n 0, 1) := by decide +kernel
theorem dX9_init_215 : decode cX9_init 215 = .ok (.sipush 441, 3) := by decide +kernel
theorem dX9_init_218 : decode cX9_init 218 = .ok (.newarray .int, 2) := by decide +kernel
theorem dX9_init_220 : decode cX9_init 220 = .ok (.putfield 87, 3) := by decide +kernel
theorem dX9_init_223 : decode cX9_init 223 = .ok (.aload_n 0, 1) := by decide +kernel
theorem dX9_init_224 : decode cX9_init 224 = .ok (.invokevirtual 90, 3) := by decide +kernel
theorem dX9_init_227 : decode cX9_init 227 = .ok (.return_, 1) := by decide +kernel
theorem dX9_thrown_0 : decode cX9_thrown 0 = .ok (.aload_n 0, 1) := by decide +kernel
theorem dX9_thrown_1 : decode cX9_thrown 1 = .ok (.getfield 93, 3) := by decide +kernel
theorem dX9_thrown_4 : decode cX9_thrown 4 = .ok (.ireturn, 1) := by decide +kernel
theorem dX9_in_0 : decode cX9_in 0 = .ok (.iload_n 0, 1) := by decide +kernel
theorem dX9_in_1 : decode cX9_in 1 = .ok (.iload_n 1, 1) := by decide +kernel
theorem dX9_in_2 : decode cX9_in 2 = .ok (.if_icmp .lt 12, 3) := by decide +kernel
theorem dX9_in_5 : decode cX9_in 5 = .ok (.iload_n 0, 1) := by decide +kernel
theorem dX9_in_6 : decode cX9_in 6 = .ok (.iload_n 2, 1) := by decide +kernel
theorem dX9_in_7 : decode cX9_in 7 = .ok (.if_icmp .gt 7, 3) := by decide +kernel
theorem dX9_in_10 : decode cX9_in 10 = .ok (.iconst 1, 1) := by decide +kernel
theorem dX9_in_11 : decode cX9_in 11 = .ok (.goto 4, 3) := by decide +kernel
theorem dX9_in_14 : decode cX9_in 14 = .ok (.iconst 0, 1) := by decide +kernel
theorem dX9_in_15 : decode cX9_in 15 = .ok (.ireturn, 1) := by decide +kernel
theorem dX9_refused_0 : decode cX9_refused 0 = .ok (.aload_n 0, 1) := by decide +kernel
theorem dX9_refused_1 : decode cX9_refused 1 = .ok (.iload_n 1, 1) := by decide +kernel
theorem dX9_refused_2 : decode cX9_refused 2 = .ok (.putfield 93, 3) := by decide +kernel
theorem dX9_refused_5 : decode cX9_refused 5 = .ok (.iload_n 1, 1) := by decide +kernel
theorem dX9_refused_6 : decode cX9_refused 6 = .ok (.ifCond .eq 7, 3) := by decide +kernel
theorem dX9_refused_9 : decode cX9_refused 9 = .ok (.iconst 1, 1) := by decide +kernel
theorem dX9_refused_10 : decode cX9_refused 10 = .ok (.goto 4, 3) := by decide +kernel
theorem dX9_refused_13 : decode cX9_refused 13 = .ok (.iconst 0, 1) := by decide +kernel
theorem dX9_refused_14 : decode cX9_refused 14 = .ok (.ireturn, 1) := by decide +kernel
theorem dX9_size_0 : decode cX9_size 0 = .ok (.iload_n 0, 1) := by decide +kernel
theorem dX9_size_1 : decode cX9_size 1 = .ok (.ifCond .ge 8, 3) := by decide +kernel
theorem dX9_size_4 : decode cX9_size 4 = .ok (.iload_n 0, 1) := by decide +kernel
theorem dX9_size_5 : decode cX9_size 5 = .ok (.ineg, 1) := by decide +kernel
theorem dX9_size_6 : decode cX9_size 6 = .ok (.goto 4, 3) := by decide +kernel
theorem dX9_size_9 : decode cX9_size 9 = .ok (.iload_n 0, 1) := by decide +kernel
theorem dX9_size_10 : decode cX9_size 10 = .ok (.ireturn, 1) := by decide +kernel
set_option maxRecDepth 20000 in
theorem ggX9_isOn_X9_in : GoodIn wsX9_isOn wsX9_in := goodIn_r _ [4] (by decide +kernel) (by decide +kernel)
set_option maxRecDepth 20000 in
theorem gX9_isOn_X9_in : GoodIn wsX9_isOn (va_wsS RX9 96 yX9_in wsX9_in) := goodIn_app (goodIn_of _ (by decide +kernel)) ggX9_isOn_X9_in
theorem dX9_isOn_0 : decode cX9_isOn 0 = .ok (.iload_n 0, 1) := by decide +kernel
theorem dX9_isOn_1 : decode cX9_isOn 1 = .ok (.bipush (-10), 2) := by decide +kernel
theorem dX9_isOn_3 : decode cX9_isOn 3 = .ok (.bipush 10, 2) := by decide +kernel
theorem dX9_isOn_5 : decode cX9_isOn 5 = .ok (.invokestatic 96, 3) := by decide +kernel
theorem dX9_isOn_8 : decode cX9_isOn 8 = .ok (.ireturn, 1) := by decide +kernel
theorem dX9_cell_0 : decode cX9_cell 0 = .ok (.iload_n 0, 1) := by decide +kernel
theorem dX9_cell_1 : decode cX9_cell 1 = .ok (.bipush 10, 2) := by decide +kernel
theorem dX9_cell_3 : decode cX9_cell 3 = .ok (.iadd, 1) := by decide +kernel
theorem dX9_cell_4 : decode cX9_cell 4 = .ok (.bipush 22, 2) := by decide +kernel
theorem dX9_cell_6 : decode cX9_cell 6 = .ok (.iload_n 1, 1) := by decide +kernel
theorem dX9_cell_7 : decode cX9_cell 7 = .ok (.bipush 10, 2) := by decide +kernel
theorem dX9_cell_9 : decode cX9_cell 9 = .ok (.iadd, 1) := by decide +kernel
theorem dX9_cell_10 : decode cX9_cell 10 = .ok (.imul, 1) := by decide +kernel
theorem dX9_cell_11 : decode cX9_cell 11 = .ok (.iadd, 1) := by decide +kernel
theorem dX9_cell_12 : decode cX9_cell 12 = .ok (.ireturn, 1) := by decide +kernel
set_option maxRecDepth 20000 in
theorem ggX9_bend_X9_size : GoodIn wsX9_bend wsX9_size := goodIn_r _ [6] (by decide +kernel) (by decide +kernel)
set_option maxRecDepth 20000 in
theorem gX9_bend_X9_size : GoodIn wsX9_bend (va_wsS RX9 100 yX9_size wsX9_size) := goodIn_app (goodIn_of _ (by decide +kernel)) ggX9_bend_X9_size
theorem dX9_bend_0 : decode cX9_bend 0 = .ok (.iload_n 2, 1) := by decide +kernel
theorem dX9_bend_1 : decode cX9_bend 1 = .ok (.invokestatic 100, 3) := by decide +kernel
theorem dX9_bend_4 : decode cX9_bend 4 = .ok (.iload_n 3, 1) := by decide +kernel
theorem dX9_bend_5 : decode cX9_bend 5 = .ok (.invokestatic 100, 3) := by decide +kernel
theorem dX9_bend_8 : decode cX9_bend 8 = .ok (.iadd, 1) := by decide +kernel
theorem dX9_bend_9 : decode cX9_bend 9 = .ok (.istore 5, 2) := by decide +kernel
theorem dX9_bend_11 : decode cX9_bend 11 = .ok (.iload 5, 2) := by decide +kernel
theorem dX9_bend_13 : decode cX9_bend 13 = .ok (.ifCond .ne 5, 3) := by decide +kernel
theorem dX9_bend_16 : decode cX9_bend 16 = .ok (.iconst 0, 1) := by decide +kernel
theorem dX9_bend_17 : decode cX9_bend 17 = .ok (.ireturn, 1) := by decide +kernel
theorem dX9_bend_18 : decode cX9_bend 18 = .ok (.aload_n 0, 1) := by decide +kernel
theorem dX9_bend_19 : decode cX9_bend 19 = .ok (.getfield 7, 3) := by decide +kernel
theorem dX9_bend_22 : decode cX9_bend 22 = .ok (.iload_n 1, 1) := by decide +kernel
theorem dX9_bend_23 : decode cX9_bend 23 = .ok (.iaload, 1) := by decide +kernel
theorem dX9_bend_24 : decode cX9_bend 24 = .ok (.ifCond .ne 18, 3) := by decide +kernel
theorem dX9_bend_27 : decode cX9_bend 27 = .ok (.aload_n 0, 1) := by decide +kernel
theorem dX9_bend_28 : decode cX9_bend 28 = .ok (.getfield 19, 3) := by decide +kernel
theorem dX9_bend_31 : decode cX9_bend 31 = .ok (.iload_n 1, 1) := by decide +kernel
theorem dX9_bend_32 : decode cX9_bend 32 = .ok (.iaload, 1) := by decide +kernel
theorem dX9_bend_33 : decode cX9_bend 33 = .ok (.iload 4, 2) := by decide +kernel
theorem dX9_bend_35 : decode cX9_bend 35 = .ok (.imul, 1) := by decide +kernel
theorem dX9_bend_36 : decode cX9_bend 36 = .ok (.iload 5, 2) := by decide +kernel
theorem dX9_bend_38 : decode cX9_bend 38 = .ok (.idiv, 1) := by decide +kernel
theorem dX9_bend_39 : decode cX9_bend 39 = .ok (.goto 45, 3) := by decide +kernel
theorem dX9_bend_42 : decode cX9_bend 42 = .ok (.aload_n 0, 1) := by decide +kernel
theorem dX9_bend_43 : decode cX9_bend 43 = .ok (.getfield 7, 3) := by decide +kernel
theorem dX9_bend_46 : decode cX9_bend 46 = .ok (.iload_n 1, 1) := by decide +kernel
theorem dX9_bend_47 : decode cX9_bend 47 = .ok (.iaload, 1) := by decide +kernel
theorem dX9_bend_48 : decode cX9_bend 48 = .ok (.iconst 1, 1) := by decide +kernel
theorem dX9_bend_49 : decode cX9_bend 49 = .ok (.if_icmp .ne 23, 3) := by decide +kernel
theorem dX9_bend_52 : decode cX9_bend 52 = .ok (.iconst 4, 1) := by decide +kernel
theorem dX9_bend_53 : decode cX9_bend 53 = .ok (.aload_n 0, 1) := by decide +kernel
theorem dX9_bend_54 : decode cX9_bend 54 = .ok (.getfield 19, 3) := by decide +kernel
theorem dX9_bend_57 : decode cX9_bend 57 = .ok (.iload_n 1, 1) := by decide +kernel
theorem dX9_bend_58 : decode cX9_bend 58 = .ok (.iaload, 1) := by decide +kernel
theorem dX9_bend_59 : decode cX9_bend 59 = .ok (.imul, 1) := by decide +kernel
theorem dX9_bend_60 : decode cX9_bend 60 = .ok (.iload 4, 2) := by decide +kernel
theorem dX9_bend_62 : decode cX9_bend 62 = .ok (.imul, 1) := by decide +kernel
theorem dX9_bend_63 : decode cX9_bend 63 = .ok (.iload 5, 2) := by decide +kernel
theorem dX9_bend_65 : decode cX9_bend 65 = .ok (.iload 5, 2) := by decide +kernel
theorem dX9_bend_67 : decode cX9_bend 67 = .ok (.imul, 1) := by decide +kernel
theorem dX9_bend_68 : decode cX9_bend 68 = .ok (.idiv, 1) := by decide +kernel
theorem dX9_bend_69 : decode cX9_bend 69 = .ok (.goto 15, 3) := by decide +kernel
theorem dX9_bend_72 : decode cX9_bend 72 = .ok (.aload_n 0, 1) := by decide +kernel
theorem dX9_bend_73 : decode cX9_bend 73 = .ok (.getfield 19, 3) := by decide +kernel
theorem dX9_bend_76 : decode cX9_bend 76 = .ok (.iload_n 1, 1) := by decide +kernel
theorem dX9_bend_77 : decode cX9_bend 77 = .ok (.iaload, 1) := by decide +kernel
theorem dX9_bend_78 : decode cX9_bend 78 = .ok (.iload 4, 2) := by decide +kernel
theorem dX9_bend_80 : decode cX9_bend 80 = .ok (.imul, 1) := by decide +kernel
theorem dX9_bend_81 : decode cX9_bend 81 = .ok (.bipush 8, 2) := by decide +kernel
theorem dX9_bend_83 : decode cX9_bend 83 = .ok (.idiv, 1) := by decide +kernel
theorem dX9_bend_84 : decode cX9_bend 84 = .ok (.ireturn, 1) := by decide +kernel
set_option maxRecDepth 20000 in
theorem ggX9_shoot_X9_bend : GoodIn wsX9_shoot wsX9_bend := goodIn_r _ [13, 4, 5, 14, 15, 12, 16, 20, 21, 22, 23, 24, 25, 26, 27, 28, 29, 30, 31, 32, 33, 34, 35, 36, 37, 38, 39, 40, 41, 42, 43, 44, 45, 46, 47, 48, 49, 50, 51, 52, 53, 54, 55, 56, 57, 58] (by decide +kernel) (by decide +kernel)
set_option maxRecDepth 20000 in
theorem gX9_shoot_X9_bend : GoodIn wsX9_shoot (wsV RX9 107 RX9 yX9_bend wsX9_bend) := goodIn_app (goodIn_of _ (by decide +kernel)) ggX9_shoot_X9_bend
set_option maxRecDepth 20000 in
theorem ggX9_shoot_X9_size : GoodIn wsX9_shoot wsX9_size := goodIn_r _ [16] (by decide +kernel) (by decide +kernel)
set_option maxRecDepth 20000 in
theorem gX9_shoot_X9_size : GoodIn wsX9_shoot (va_wsS RX9 100 yX9_size wsX9_size) := goodIn_app (goodIn_of _ (by decide +kernel)) ggX9_shoot_X9_size
set_option maxRecDepth 20000 in
theorem ggX9_shoot_X9_cell : GoodIn wsX9_shoot wsX9_cell := goodIn_r _ [19] (by decide +kernel) (by decide +kernel)
set_option maxRecDepth 20000 in
theorem gX9_shoot_X9_cell : GoodIn wsX9_shoot (va_wsS RX9 111 yX9_cell wsX9_cell) := goodIn_app (goodIn_of _ (by decide +kernel)) ggX9_shoot_X9_cell
theorem dX9_shoot_0 : decode cX9_shoot 0 = .ok (.bipush (-10), 2) := by decide +kernel
theorem dX9_shoot_2 : decode cX9_shoot 2 = .ok (.istore_n 1, 1) := by decide +kernel
theorem dX9_shoot_3 : decode cX9_shoot 3 = .ok (.iload_n 1, 1) := by decide +kernel
theorem dX9_shoot_4 : decode cX9_shoot 4 = .ok (.bipush 11, 2) := by decide +kernel
theorem dX9_shoot_6 : decode cX9_shoot 6 = .ok (.if_icmp .gt 213, 3) := by decide +kernel
theorem dX9_shoot_9 : decode cX9_shoot 9 = .ok (.bipush (-10), 2) := by decide +kernel
theorem dX9_shoot_11 : decode cX9_shoot 11 = .ok (.istore_n 2, 1) := by decide +kernel
theorem dX9_shoot_12 : decode cX9_shoot 12 = .ok (.iload_n 2, 1) := by decide +kernel
theorem dX9_shoot_13 : decode cX9_shoot 13 = .ok (.bipush 11, 2) := by decide +kernel
theorem dX9_shoot_15 : decode cX9_shoot 15 = .ok (.if_icmp .gt 198, 3) := by decide +kernel
theorem dX9_shoot_18 : decode cX9_shoot 18 = .ok (.iconst 0, 1) := by decide +kernel
theorem dX9_shoot_19 : decode cX9_shoot 19 = .ok (.istore_n 3, 1) := by decide +kernel
theorem dX9_shoot_20 : decode cX9_shoot 20 = .ok (.iconst 0, 1) := by decide +kernel
theorem dX9_shoot_21 : decode cX9_shoot 21 = .ok (.istore 4, 2) := by decide +kernel
theorem dX9_shoot_23 : decode cX9_shoot 23 = .ok (.iconst 0, 1) := by decide +kernel
theorem dX9_shoot_24 : decode cX9_shoot 24 = .ok (.istore 5, 2) := by decide +kernel
theorem dX9_shoot_26 : decode cX9_shoot 26 = .ok (.iconst 0, 1) := by decide +kernel
theorem dX9_shoot_27 : decode cX9_shoot 27 = .ok (.istore 6, 2) := by decide +kernel
theorem dX9_shoot_29 : decode cX9_shoot 29 = .ok (.iload 6, 2) := by decide +kernel
theorem dX9_shoot_31 : decode cX9_shoot 31 = .ok (.aload_n 0, 1) := by decide +kernel
theorem dX9_shoot_32 : decode cX9_shoot 32 = .ok (.getfield 104, 3) := by decide +kernel
theorem dX9_shoot_35 : decode cX9_shoot 35 = .ok (.if_icmp .ge 125, 3) := by decide +kernel
theorem dX9_shoot_38 : decode cX9_shoot 38 = .ok (.iload_n 2, 1) := by decide +kernel
theorem dX9_shoot_39 : decode cX9_shoot 39 = .ok (.aload_n 0, 1) := by decide +kernel
theorem dX9_shoot_40 : decode cX9_shoot 40 = .ok (.getfield 13, 3) := by decide +kernel
theorem dX9_shoot_43 : decode cX9_shoot 43 = .ok (.iload 6, 2) := by decide +kernel
theorem dX9_shoot_45 : decode cX9_shoot 45 = .ok (.iaload, 1) := by decide +kernel
theorem dX9_shoot_46 : decode cX9_shoot 46 = .ok (.isub, 1) := by decide +kernel
theorem dX9_shoot_47 : decode cX9_shoot 47 = .ok (.istore 7, 2) := by decide +kernel
theorem dX9_shoot_49 : decode cX9_shoot 49 = .ok (.iload_n 1, 1) := by decide +kernel
theorem dX9_shoot_50 : decode cX9_shoot 50 = .ok (.aload_n 0, 1) := by decide +kernel
theorem dX9_shoot_51 : decode cX9_shoot 51 = .ok (.getfield 16, 3) := by decide +kernel
theorem dX9_shoot_54 : decode cX9_shoot 54 = .ok (.iload 6, 2) := by decide +kernel
theorem dX9_shoot_56 : decode cX9_shoot 56 = .ok (.iaload, 1) := by decide +kernel
theorem dX9_shoot_57 : decode cX9_shoot 57 = .ok (.isub, 1) := by decide +kernel
theorem dX9_shoot_58 : decode cX9_shoot 58 = .ok (.istore 8, 2) := by decide +kernel
theorem dX9_shoot_60 : decode cX9_shoot 60 = .ok (.aload_n 0, 1) := by decide +kernel
theorem dX9_shoot_61 : decode cX9_shoot 61 = .ok (.iload 6, 2) := by decide +kernel
theorem dX9_shoot_63 : decode cX9_shoot 63 = .ok (.iload 7, 2) := by decide +kernel
theorem dX9_shoot_65 : decode cX9_shoot 65 = .ok (.iload 8, 2) := by decide +kernel
theorem dX9_shoot_67 : decode cX9_shoot 67 = .ok (.iload 8, 2) := by decide +kernel
theorem dX9_shoot_69 : decode cX9_shoot 69 = .ok (.invokevirtual 107, 3) := by decide +kernel
theorem dX9_shoot_72 : decode cX9_shoot 72 = .ok (.istore 9, 2) := by decide +kernel
theorem dX9_shoot_74 : decode cX9_shoot 74 = .ok (.iload_n 3, 1) := by decide +kernel
theorem dX9_shoot_75 : decode cX9_shoot 75 = .ok (.aload_n 0, 1) := by decide +kernel
theorem dX9_shoot_76 : decode cX9_shoot 76 = .ok (.iload 6, 2) := by decide +kernel
theorem dX9_shoot_78 : decode cX9_shoot 78 = .ok (.iload 7, 2) := by decide +kernel
theorem dX9_shoot_80 : decode cX9_shoot 80 = .ok (.iload 8, 2) := by decide +kernel
theorem dX9_shoot_82 : decode cX9_shoot 82 = .ok (.iload 7, 2) := by decide +kernel
theorem dX9_shoot_84 : decode cX9_shoot 84 = .ok (.invokevirtual 107, 3) := by decide +kernel
theorem dX9_shoot_87 : decode cX9_shoot 87 = .ok (.iadd, 1) := by decide +kernel
theorem dX9_shoot_88 : decode cX9_shoot 88 = .ok (.istore_n 3, 1) := by decide +kernel
theorem dX9_shoot_89 : decode cX9_shoot 89 = .ok (.iload 4, 2) := by decide +kernel
theorem dX9_shoot_91 : decode cX9_shoot 91 = .ok (.aload_n 0, 1) := by decide +kernel
theorem dX9_shoot_92 : decode cX9_shoot 92 = .ok (.getfield 7, 3) := by decide +kernel
theorem dX9_shoot_95 : decode cX9_shoot 95 = .ok (.iload 6, 2) := by decide +kernel
theorem dX9_shoot_97 : decode cX9_shoot 97 = .ok (.iaload, 1) := by decide +kernel
theorem dX9_shoot_98 : decode cX9_shoot 98 = .ok (.iconst 2, 1) := by decide +kernel
theorem dX9_shoot_99 : decode cX9_shoot 99 = .ok (.if_icmp .ne 9, 3) := by decide +kernel
theorem dX9_shoot_102 : decode cX9_shoot 102 = .ok (.iload 9, 2) := by decide +kernel
theorem dX9_shoot_104 : decode cX9_shoot 104 = .ok (.ineg, 1) := by decide +kernel
theorem dX9_shoot_105 : decode cX9_shoot 105 = .ok (.goto 5, 3) := by decide +kernel
theorem dX9_shoot_108 : decode cX9_shoot 108 = .ok (.iload 9, 2) := by decide +kernel
theorem dX9_shoot_110 : decode cX9_shoot 110 = .ok (.iadd, 1) := by decide +kernel
theorem dX9_shoot_111 : decode cX9_shoot 111 = .ok (.istore 4, 2) := by decide +kernel
theorem dX9_shoot_113 : decode cX9_shoot 113 = .ok (.iload 5, 2) := by decide +kernel
theorem dX9_shoot_115 : decode cX9_shoot 115 = .ok (.aload_n 0, 1) := by decide +kernel
theorem dX9_shoot_116 : decode cX9_shoot 116 = .ok (.getfield 7, 3) := by decide +kernel
theorem dX9_shoot_119 : decode cX9_shoot 119 = .ok (.iload 6, 2) := by decide +kernel
theorem dX9_shoot_121 : decode cX9_shoot 121 = .ok (.iaload, 1) := by decide +kernel
theorem dX9_shoot_122 : decode cX9_shoot 122 = .ok (.iconst 2, 1) := by decide +kernel
theorem dX9_shoot_123 : decode cX9_shoot 123 = .ok (.if_icmp .ne 7, 3) := by decide +kernel
theorem dX9_shoot_126 : decode cX9_shoot 126 = .ok (.iconst 0, 1) := by decide +kernel
theorem dX9_shoot_127 : decode cX9_shoot 127 = .ok (.goto 24, 3) := by decide +kernel
theorem dX9_shoot_130 : decode cX9_shoot 130 = .ok (.iconst 2, 1) := by decide +kernel
theorem dX9_shoot_131 : decode cX9_shoot 131 = .ok (.aload_n 0, 1) := by decide +kernel
theorem dX9_shoot_132 : decode cX9_shoot 132 = .ok (.getfield 19, 3) := by decide +kernel
theorem dX9_shoot_135 : decode cX9_shoot 135 = .ok (.iload 6, 2) := by decide +kernel
theorem dX9_shoot_137 : decode cX9_shoot 137 = .ok (.iaload, 1) := by decide +kernel
theorem dX9_shoot_138 : decode cX9_shoot 138 = .ok (.imul, 1) := by decide +kernel
theorem dX9_shoot_139 : decode cX9_shoot 139 = .ok (.iload 7, 2) := by decide +kernel
theorem dX9_shoot_141 : decode cX9_shoot 141 = .ok (.invokestatic 100, 3) := by decide +kernel
theorem dX9_shoot_144 : decode cX9_shoot 144 = .ok (.iload 8, 2) := by decide +kernel
theorem dX9_shoot_146 : decode cX9_shoot 146 = .ok (.invokestatic 100, 3) := by decide +kernel
theorem dX9_shoot_149 : decode cX9_shoot 149 = .ok (.iadd, 1) := by decide +kernel
theorem dX9_shoot_150 : decode cX9_shoot 150 = .ok (.imul, 1) := by decide +kernel
theorem dX9_shoot_151 : decode cX9_shoot 151 = .ok (.iadd, 1) := by decide +kernel
theorem dX9_shoot_152 : decode cX9_shoot 152 = .ok (.istore 5, 2) := by decide +kernel
theorem dX9_shoot_154 : decode cX9_shoot 154 = .ok (.iinc 6 1, 3) := by decide +kernel
theorem dX9_shoot_157 : decode cX9_shoot 157 = .ok (.goto (-128), 3) := by decide +kernel
theorem dX9_shoot_160 : decode cX9_shoot 160 = .ok (.aload_n 0, 1) := by decide +kernel
theorem dX9_shoot_161 : decode cX9_shoot 161 = .ok (.getfield 22, 3) := by decide +kernel
theorem dX9_shoot_164 : decode cX9_shoot 164 = .ok (.iload_n 2, 1) := by decide +kernel
theorem dX9_shoot_165 : decode cX9_shoot 165 = .ok (.iload_n 1, 1) := by decide +kernel
theorem dX9_shoot_166 : decode cX9_shoot 166 = .ok (.invokestatic 111, 3) := by decide +kernel
theorem dX9_shoot_169 : decode cX9_shoot 169 = .ok (.iload_n 3, 1) := by decide +kernel
theorem dX9_shoot_170 : decode cX9_shoot 170 = .ok (.iastore, 1) := by decide +kernel
theorem dX9_shoot_171 : decode cX9_shoot 171 = .ok (.aload_n 0, 1) := by decide +kernel
theorem dX9_shoot_172 : decode cX9_shoot 172 = .ok (.getfield 25, 3) := by decide +kernel
theorem dX9_shoot_175 : decode cX9_shoot 175 = .ok (.iload_n 2, 1) := by decide +kernel
theorem dX9_shoot_176 : decode cX9_shoot 176 = .ok (.iload_n 1, 1) := by decide +kernel
theorem dX9_shoot_177 : decode cX9_shoot 177 = .ok (.invokestatic 111, 3) := by decide +kernel
theorem dX9_shoot_180 : decode cX9_shoot 180 = .ok (.iload 4, 2) := by decide +kernel
theorem dX9_shoot_182 : decode cX9_shoot 182 = .ok (.iastore, 1) := by decide +kernel
theorem dX9_shoot_183 : decode cX9_shoot 183 = .ok (.aload_n 0, 1) := by decide +kernel
theorem dX9_shoot_184 : decode cX9_shoot 184 = .ok (.getfield 28, 3) := by decide +kernel
theorem dX9_shoot_187 : decode cX9_shoot 187 = .ok (.iload_n 2, 1) := by decide +kernel
theorem dX9_shoot_188 : decode cX9_shoot 188 = .ok (.iload_n 1, 1) := by decide +kernel
theorem dX9_shoot_189 : decode cX9_shoot 189 = .ok (.invokestatic 111, 3) := by decide +kernel
theorem dX9_shoot_192 : decode cX9_shoot 192 = .ok (.iconst 5, 1) := by decide +kernel
theorem dX9_shoot_193 : decode cX9_shoot 193 = .ok (.iload_n 3, 1) := by decide +kernel
theorem dX9_shoot_194 : decode cX9_shoot 194 = .ok (.iload_n 3, 1) := by decide +kernel
theorem dX9_shoot_195 : decode cX9_shoot 195 = .ok (.imul, 1) := by decide +kernel
theorem dX9_shoot_196 : decode cX9_shoot 196 = .ok (.iload 4, 2) := by decide +kernel
theorem dX9_shoot_198 : decode cX9_shoot 198 = .ok (.iload 4, 2) := by decide +kernel
theorem dX9_shoot_200 : decode cX9_shoot 200 = .ok (.imul, 1) := by decide +kernel
theorem dX9_shoot_201 : decode cX9_shoot 201 = .ok (.iadd, 1) := by decide +kernel
theorem dX9_shoot_202 : decode cX9_shoot 202 = .ok (.imul, 1) := by decide +kernel
theorem dX9_shoot_203 : decode cX9_shoot 203 = .ok (.iload 5, 2) := by decide +kernel
theorem dX9_shoot_205 : decode cX9_shoot 205 = .ok (.isub, 1) := by decide +kernel
theorem dX9_shoot_206 : decode cX9_shoot 206 = .ok (.iastore, 1) := by decide +kernel
theorem dX9_shoot_207 : decode cX9_shoot 207 = .ok (.iinc 2 1, 3) := by decide +kernel
theorem dX9_shoot_210 : decode cX9_shoot 210 = .ok (.goto (-198), 3) := by decide +kernel
theorem dX9_shoot_213 : decode cX9_shoot 213 = .ok (.iinc 1 1, 3) := by decide +kernel
theorem dX9_shoot_216 : decode cX9_shoot 216 = .ok (.goto (-213), 3) := by decide +kernel
theorem dX9_shoot_219 : decode cX9_shoot 219 = .ok (.return_, 1) := by decide +kernel
theorem dX9_columnFrom_0 : decode cX9_columnFrom 0 = .ok (.iload_n 1, 1) := by decide +kernel
theorem dX9_columnFrom_1 : decode cX9_columnFrom 1 = .ok (.bipush 22, 2) := by decide +kernel
theorem dX9_columnFrom_3 : decode cX9_columnFrom 3 = .ok (.irem, 1) := by decide +kernel
theorem dX9_columnFrom_4 : decode cX9_columnFrom 4 = .ok (.bipush 10, 2) := by decide +kernel
theorem dX9_columnFrom_6 : decode cX9_columnFrom 6 = .ok (.isub, 1) := by decide +kernel
theorem dX9_columnFrom_7 : decode cX9_columnFrom 7 = .ok (.aload_n 0, 1) := by decide +kernel
theorem dX9_columnFrom_8 : decode cX9_columnFrom 8 = .ok (.getfield 22, 3) := by decide +kernel
theorem dX9_columnFrom_11 : decode cX9_columnFrom 11 = .ok (.iload_n 1, 1) := by decide +kernel
theorem dX9_columnFrom_12 : decode cX9_columnFrom 12 = .ok (.iaload, 1) := by decide +kernel
theorem dX9_columnFrom_13 : decode cX9_columnFrom 13 = .ok (.isub, 1) := by decide +kernel
theorem dX9_columnFrom_14 : decode cX9_columnFrom 14 = .ok (.ireturn, 1) := by decide +kernel
theorem dX9_rowFrom_0 : decode cX9_rowFrom 0 = .ok (.iload_n 1, 1) := by decide +kernel
theorem dX9_rowFrom_1 : decode cX9_rowFrom 1 = .ok (.bipush 22, 2) := by decide +kernel
theorem dX9_rowFrom_3 : decode cX9_rowFrom 3 = .ok (.idiv, 1) := by decide +kernel
theorem dX9_rowFrom_4 : decode cX9_rowFrom 4 = .ok (.bipush 10, 2) := by decide +kernel
theorem dX9_rowFrom_6 : decode cX9_rowFrom 6 = .ok (.isub, 1) := by decide +kernel
theorem dX9_rowFrom_7 : decode cX9_rowFrom 7 = .ok (.aload_n 0, 1) := by decide +kernel
theorem dX9_rowFrom_8 : decode cX9_rowFrom 8 = .ok (.getfield 25, 3) := by decide +kernel
theorem dX9_rowFrom_11 : decode cX9_rowFrom 11 = .ok (.iload_n 1, 1) := by decide +kernel
theorem dX9_rowFrom_12 : decode cX9_rowFrom 12 = .ok (.iaload, 1) := by decide +kernel
theorem dX9_rowFrom_13 : decode cX9_rowFrom 13 = .ok (.isub, 1) := by decide +kernel
theorem dX9_rowFrom_14 : decode cX9_rowFrom 14 = .ok (.ireturn, 1) := by decide +kernel
set_option maxRecDepth 20000 in
theorem ggX9_anew_X9_shoot : GoodIn wsX9_anew wsX9_shoot := goodIn_r _ [8, 9, 10, 11, 12, 13, 14, 15, 16, 17, 18, 19, 7, 20, 21, 22, 23, 24, 25, 26, 27, 28, 29, 30, 31, 32, 33, 34, 35, 36, 37, 38, 39, 40, 41, 42, 43, 44, 45, 46, 47, 48, 49, 50, 51, 52, 53, 54, 55, 56, 57, 58, 59, 60, 61, 62, 63, 64, 65] (by decide +kernel) (by decide +kernel)
set_option maxRecDepth 20000 in
theorem gX9_anew_X9_shoot : GoodIn wsX9_anew (wsV RX9 90 RX9 yX9_shoot wsX9_shoot) := goodIn_app (goodIn_of _ (by decide +kernel)) ggX9_anew_X9_shoot
theorem dX9_anew_0 : decode cX9_anew 0 = .ok (.aload_n 0, 1) := by decide +kernel
theorem dX9_anew_1 : decode cX9_anew 1 = .ok (.dup, 1) := by decide +kernel
theorem dX9_anew_2 : decode cX9_anew 2 = .ok (.getfield 115, 3) := by decide +kernel
theorem dX9_anew_5 : decode cX9_anew 5 = .ok (.iconst 1, 1) := by decide +kernel
theorem dX9_anew_6 : decode cX9_anew 6 = .ok (.iadd, 1) := by decide +kernel
theorem dX9_anew_7 : decode cX9_anew 7 = .ok (.putfield 115, 3) := by decide +kernel
theorem dX9_anew_10 : decode cX9_anew 10 = .ok (.aload_n 0, 1) := by decide +kernel
theorem dX9_anew_11 : decode cX9_anew 11 = .ok (.iconst 0, 1) := by decide +kernel
theorem dX9_anew_12 : decode cX9_anew 12 = .ok (.putfield 118, 3) := by decide +kernel
theorem dX9_anew_15 : decode cX9_anew 15 = .ok (.aload_n 0, 1) := by decide +kernel
theorem dX9_anew_16 : decode cX9_anew 16 = .ok (.iconst 0, 1) := by decide +kernel
theorem dX9_anew_17 : decode cX9_anew 17 = .ok (.putfield 121, 3) := by decide +kernel
theorem dX9_anew_20 : decode cX9_anew 20 = .ok (.aload_n 0, 1) := by decide +kernel
theorem dX9_anew_21 : decode cX9_anew 21 = .ok (.invokevirtual 90, 3) := by decide +kernel
theorem dX9_anew_24 : decode cX9_anew 24 = .ok (.return_, 1) := by decide +kernel
set_option maxRecDepth 20000 in
theorem ggX9_put_X9_anew : GoodIn wsX9_put wsX9_anew := goodIn_r _ [10, 11, 12, 13, 14, 15, 16, 9, 17, 2, 3, 4, 1, 5, 18, 19, 20, 21, 22, 23, 24, 25, 26, 27, 28, 29, 30, 31, 32, 33, 34, 35, 36, 37, 38, 39, 40, 41, 42, 43, 44, 45, 46, 47, 48, 49, 50, 51, 52, 53, 54, 55, 56, 57, 58, 59, 60, 61, 62, 63, 64, 65, 66, 67, 68, 69] (by decide +kernel) (by decide +kernel)
set_option maxRecDepth 20000 in
theorem gX9_put_X9_anew : GoodIn wsX9_put (wsV RX9 124 RX9 yX9_anew wsX9_anew) := goodIn_app (goodIn_of _ (by decide +kernel)) ggX9_put_X9_anew
theorem dX9_put_0 : decode cX9_put 0 = .ok (.aload_n 0, 1) := by decide +kernel
theorem dX9_put_1 : decode cX9_put 1 = .ok (.getfield 7, 3) := by decide +kernel
theorem dX9_put_4 : decode cX9_put 4 = .ok (.aload_n 0, 1) := by decide +kernel
theorem dX9_put_5 : decode cX9_put 5 = .ok (.getfield 104, 3) := by decide +kernel
theorem dX9_put_8 : decode cX9_put 8 = .ok (.iload_n 1, 1) := by decide +kernel
theorem dX9_put_9 : decode cX9_put 9 = .ok (.iastore, 1) := by decide +kernel
theorem dX9_put_10 : decode cX9_put 10 = .ok (.aload_n 0, 1) := by decide +kernel
theorem dX9_put_11 : decode cX9_put 11 = .ok (.getfield 13, 3) := by decide +kernel
theorem dX9_put_14 : decode cX9_put 14 = .ok (.aload_n 0, 1) := by decide +kernel
theorem dX9_put_15 : decode cX9_put 15 = .ok (.getfield 104, 3) := by decide +kernel
theorem dX9_put_18 : decode cX9_put 18 = .ok (.iload_n 2, 1) := by decide +kernel
theorem dX9_put_19 : decode cX9_put 19 = .ok (.iastore, 1) := by decide +kernel
theorem dX9_put_20 : decode cX9_put 20 = .ok (.aload_n 0, 1) := by decide +kernel
theorem dX9_put_21 : decode cX9_put 21 = .ok (.getfield 16, 3) := by decide +kernel
theorem dX9_put_24 : decode cX9_put 24 = .ok (.aload_n 0, 1) := by decide +kernel
theorem dX9_put_25 : decode cX9_put 25 = .ok (.getfield 104, 3) := by decide +kernel
theorem dX9_put_28 : decode cX9_put 28 = .ok (.iload_n 3, 1) := by decide +kernel
theorem dX9_put_29 : decode cX9_put 29 = .ok (.iastore, 1) := by decide +kernel
theorem dX9_put_30 : decode cX9_put 30 = .ok (.aload_n 0, 1) := by decide +kernel
theorem dX9_put_31 : decode cX9_put 31 = .ok (.getfield 19, 3) := by decide +kernel
theorem dX9_put_34 : decode cX9_put 34 = .ok (.aload_n 0, 1) := by decide +kernel
theorem dX9_put_35 : decode cX9_put 35 = .ok (.getfield 104, 3) := by decide +kernel
theorem dX9_put_38 : decode cX9_put 38 = .ok (.iload 4, 2) := by decide +kernel
theorem dX9_put_40 : decode cX9_put 40 = .ok (.iastore, 1) := by decide +kernel
theorem dX9_put_41 : decode cX9_put 41 = .ok (.aload_n 0, 1) := by decide +kernel
theorem dX9_put_42 : decode cX9_put 42 = .ok (.dup, 1) := by decide +kernel
theorem dX9_put_43 : decode cX9_put 43 = .ok (.getfield 104, 3) := by decide +kernel
theorem dX9_put_46 : decode cX9_put 46 = .ok (.iconst 1, 1) := by decide +kernel
theorem dX9_put_47 : decode cX9_put 47 = .ok (.iadd, 1) := by decide +kernel
theorem dX9_put_48 : decode cX9_put 48 = .ok (.putfield 104, 3) := by decide +kernel
theorem dX9_put_51 : decode cX9_put 51 = .ok (.aload_n 0, 1) := by decide +kernel
theorem dX9_put_52 : decode cX9_put 52 = .ok (.invokevirtual 124, 3) := by decide +kernel
theorem dX9_put_55 : decode cX9_put 55 = .ok (.return_, 1) := by decide +kernel
set_option maxRecDepth 20000 in
theorem ggX9_mass_X9_in : GoodIn wsX9_mass wsX9_in := goodIn_r _ [5] (by decide +kernel) (by decide +kernel)
set_option maxRecDepth 20000 in
theorem gX9_mass_X9_in : GoodIn wsX9_mass (va_wsS RX9 96 yX9_in wsX9_in) := goodIn_app (goodIn_of _ (by decide +kernel)) ggX9_mass_X9_in
set_option maxRecDepth 20000 in
theorem ggX9_mass_X9_isOn : GoodIn wsX9_mass wsX9_isOn := goodIn_r _ [8, 2, 3, 4, 5] (by decide +kernel) (by decide +kernel)
set_option maxRecDepth 20000 in
theorem gX9_mass_X9_isOn : GoodIn wsX9_mass (va_wsS RX9 127 yX9_isOn wsX9_isOn) := goodIn_app (goodIn_of _ (by decide +kernel)) ggX9_mass_X9_isOn
set_option maxRecDepth 20000 in
theorem ggX9_mass_X9_refused : GoodIn wsX9_mass wsX9_refused := goodIn_r _ [12, 13, 46, 47, 48, 49, 50, 51, 52, 53, 54, 55, 56, 57, 58, 59, 60, 61, 62, 63, 64, 65, 66, 67, 68, 69, 70, 71, 72, 73, 74, 75, 76, 77, 78, 79, 80, 81, 82, 83, 84] (by decide +kernel) (by decide +kernel)
set_option maxRecDepth 20000 in
theorem gX9_mass_X9_refused : GoodIn wsX9_mass (wsV RX9 131 RX9 yX9_refused wsX9_refused) := goodIn_app (goodIn_of _ (by decide +kernel)) ggX9_mass_X9_refused
set_option maxRecDepth 20000 in
theorem ggX9_mass_X9_put : GoodIn wsX9_mass wsX9_put := goodIn_r _ [17, 18, 1, 19, 20, 21, 22, 23, 24, 4, 25, 26, 27, 28, 29, 30, 31, 32, 33, 34, 35, 36, 37, 38, 39, 40, 41, 42, 43, 44, 45, 46, 47, 48, 49, 50, 51, 52, 53, 54, 55, 56, 57, 58, 59, 60, 61, 62, 63, 64, 65, 66, 67, 68, 69, 70, 71, 72, 73, 74, 75, 76, 77, 78, 79, 80, 81, 82, 83, 84] (by decide +kernel) (by decide +kernel)
set_option maxRecDepth 20000 in
theorem gX9_mass_X9_put : GoodIn wsX9_mass (wsV RX9 134 RX9 yX9_put wsX9_put) := goodIn_app (goodIn_of _ (by decide +kernel)) ggX9_mass_X9_put
theorem dX9_mass_0 : decode cX9_mass 0 = .ok (.iload_n 1, 1) := by decide +kernel
theorem dX9_mass_1 : decode cX9_mass 1 = .ok (.iconst 0, 1) := by decide +kernel
theorem dX9_mass_2 : decode cX9_mass 2 = .ok (.iconst 2, 1) := by decide +kernel
theorem dX9_mass_3 : decode cX9_mass 3 = .ok (.invokestatic 96, 3) := by decide +kernel
theorem dX9_mass_6 : decode cX9_mass 6 = .ok (.ifCond .eq 32, 3) := by decide +kernel
theorem dX9_mass_9 : decode cX9_mass 9 = .ok (.iload_n 2, 1) := by decide +kernel
theorem dX9_mass_10 : decode cX9_mass 10 = .ok (.invokestatic 127, 3) := by decide +kernel
theorem dX9_mass_13 : decode cX9_mass 13 = .ok (.ifCond .eq 25, 3) := by decide +kernel
theorem dX9_mass_16 : decode cX9_mass 16 = .ok (.iload_n 3, 1) := by decide +kernel
theorem dX9_mass_17 : decode cX9_mass 17 = .ok (.invokestatic 127, 3) := by decide +kernel
theorem dX9_mass_20 : decode cX9_mass 20 = .ok (.ifCond .eq 18, 3) := by decide +kernel
theorem dX9_mass_23 : decode cX9_mass 23 = .ok (.iload 4, 2) := by decide +kernel
theorem dX9_mass_25 : decode cX9_mass 25 = .ok (.iconst 1, 1) := by decide +kernel
theorem dX9_mass_26 : decode cX9_mass 26 = .ok (.bipush 8, 2) := by decide +kernel
theorem dX9_mass_28 : decode cX9_mass 28 = .ok (.invokestatic 96, 3) := by decide +kernel
theorem dX9_mass_31 : decode cX9_mass 31 = .ok (.ifCond .eq 7, 3) := by decide +kernel
theorem dX9_mass_34 : decode cX9_mass 34 = .ok (.iconst 1, 1) := by decide +kernel
theorem dX9_mass_35 : decode cX9_mass 35 = .ok (.goto 4, 3) := by decide +kernel
theorem dX9_mass_38 : decode cX9_mass 38 = .ok (.iconst 0, 1) := by decide +kernel
theorem dX9_mass_39 : decode cX9_mass 39 = .ok (.istore 5, 2) := by decide +kernel
theorem dX9_mass_41 : decode cX9_mass 41 = .ok (.aload_n 0, 1) := by decide +kernel
theorem dX9_mass_42 : decode cX9_mass 42 = .ok (.iload 5, 2) := by decide +kernel
theorem dX9_mass_44 : decode cX9_mass 44 = .ok (.ifCond .ne 7, 3) := by decide +kernel
theorem dX9_mass_47 : decode cX9_mass 47 = .ok (.iconst 1, 1) := by decide +kernel
theorem dX9_mass_48 : decode cX9_mass 48 = .ok (.goto 17, 3) := by decide +kernel
theorem dX9_mass_51 : decode cX9_mass 51 = .ok (.aload_n 0, 1) := by decide +kernel
theorem dX9_mass_52 : decode cX9_mass 52 = .ok (.getfield 104, 3) := by decide +kernel
theorem dX9_mass_55 : decode cX9_mass 55 = .ok (.bipush 6, 2) := by decide +kernel
theorem dX9_mass_57 : decode cX9_mass 57 = .ok (.if_icmp .ne 7, 3) := by decide +kernel
theorem dX9_mass_60 : decode cX9_mass 60 = .ok (.iconst 2, 1) := by decide +kernel
theorem dX9_mass_61 : decode cX9_mass 61 = .ok (.goto 4, 3) := by decide +kernel
theorem dX9_mass_64 : decode cX9_mass 64 = .ok (.iconst 0, 1) := by decide +kernel
theorem dX9_mass_65 : decode cX9_mass 65 = .ok (.invokevirtual 131, 3) := by decide +kernel
theorem dX9_mass_68 : decode cX9_mass 68 = .ok (.ifCond .eq 5, 3) := by decide +kernel
theorem dX9_mass_71 : decode cX9_mass 71 = .ok (.iconst 0, 1) := by decide +kernel
theorem dX9_mass_72 : decode cX9_mass 72 = .ok (.ireturn, 1) := by decide +kernel
theorem dX9_mass_73 : decode cX9_mass 73 = .ok (.aload_n 0, 1) := by decide +kernel
theorem dX9_mass_74 : decode cX9_mass 74 = .ok (.iload_n 1, 1) := by decide +kernel
theorem dX9_mass_75 : decode cX9_mass 75 = .ok (.iload_n 2, 1) := by decide +kernel
theorem dX9_mass_76 : decode cX9_mass 76 = .ok (.iload_n 3, 1) := by decide +kernel
theorem dX9_mass_77 : decode cX9_mass 77 = .ok (.iload 4, 2) := by decide +kernel
theorem dX9_mass_79 : decode cX9_mass 79 = .ok (.invokevirtual 134, 3) := by decide +kernel
theorem dX9_mass_82 : decode cX9_mass 82 = .ok (.aload_n 0, 1) := by decide +kernel
theorem dX9_mass_83 : decode cX9_mass 83 = .ok (.getfield 104, 3) := by decide +kernel
theorem dX9_mass_86 : decode cX9_mass 86 = .ok (.iconst 1, 1) := by decide +kernel
theorem dX9_mass_87 : decode cX9_mass 87 = .ok (.isub, 1) := by decide +kernel
theorem dX9_mass_88 : decode cX9_mass 88 = .ok (.ireturn, 1) := by decide +kernel
set_option maxRecDepth 20000 in
theorem ggX9_two_X9_in : GoodIn wsX9_two wsX9_in := goodIn_r _ [7] (by decide +kernel) (by decide +kernel)
set_option maxRecDepth 20000 in
theorem gX9_two_X9_in : GoodIn wsX9_two (va_wsS RX9 96 yX9_in wsX9_in) := goodIn_app (goodIn_of _ (by decide +kernel)) ggX9_two_X9_in
set_option maxRecDepth 20000 in
theorem ggX9_two_X9_isOn : GoodIn wsX9_two wsX9_isOn := goodIn_r _ [10, 4, 5, 6, 7] (by decide +kernel) (by decide +kernel)
set_option maxRecDepth 20000 in
theorem gX9_two_X9_isOn : GoodIn wsX9_two (va_wsS RX9 127 yX9_isOn wsX9_isOn) := goodIn_app (goodIn_of _ (by decide +kernel)) ggX9_two_X9_isOn
set_option maxRecDepth 20000 in
theorem ggX9_two_X9_refused : GoodIn wsX9_two wsX9_refused := goodIn_r _ [14, 15, 46, 47, 48, 49, 50, 51, 52, 53, 54, 55, 56, 57, 58, 59, 60, 61, 62, 63, 64, 65, 66, 67, 68, 69, 70, 71, 72, 73, 74, 75, 76, 77, 78, 79, 80, 81, 82, 83, 84] (by decide +kernel) (by decide +kernel)
set_option maxRecDepth 20000 in
theorem gX9_two_X9_refused : GoodIn wsX9_two (wsV RX9 131 RX9 yX9_refused wsX9_refused) := goodIn_app (goodIn_of _ (by decide +kernel)) ggX9_two_X9_refused
set_option maxRecDepth 20000 in
theorem ggX9_two_X9_put : GoodIn wsX9_two wsX9_put := goodIn_r _ [19, 3, 1, 20, 21, 2, 22, 23, 24, 6, 25, 26, 27, 28, 29, 30, 31, 32, 33, 34, 35, 36, 37, 38, 39, 40, 41, 42, 43, 44, 45, 46, 47, 48, 49, 50, 51, 52, 53, 54, 55, 56, 57, 58, 59, 60, 61, 62, 63, 64, 65, 66, 67, 68, 69, 70, 71, 72, 73, 74, 75, 76, 77, 78, 79, 80, 81, 82, 83, 84] (by decide +kernel) (by decide +kernel)
set_option maxRecDepth 20000 in
theorem gX9_two_X9_put : GoodIn wsX9_two (wsV RX9 134 RX9 yX9_put wsX9_put) := goodIn_app (goodIn_of _ (by decide +kernel)) ggX9_two_X9_put
theorem dX9_two_0 : decode cX9_two 0 = .ok (.iload_n 1, 1) := by decide +kernel
theorem dX9_two_1 : decode cX9_two 1 = .ok (.iconst 0, 1) := by decide +kernel
theorem dX9_two_2 : decode cX9_two 2 = .ok (.aload_n 0, 1) := by decide +kernel
theorem dX9_two_3 : decode cX9_two 3 = .ok (.getfield 104, 3) := by decide +kernel
theorem dX9_two_6 : decode cX9_two 6 = .ok (.iconst 1, 1) := by decide +kernel
theorem dX9_two_7 : decode cX9_two 7 = .ok (.isub, 1) := by decide +kernel
theorem dX9_two_8 : decode cX9_two 8 = .ok (.invokestatic 96, 3) := by decide +kernel
theorem dX9_two_11 : decode cX9_two 11 = .ok (.istore 4, 2) := by decide +kernel
theorem dX9_two_13 : decode cX9_two 13 = .ok (.iload_n 2, 1) := by decide +kernel
theorem dX9_two_14 : decode cX9_two 14 = .ok (.invokestatic 127, 3) := by decide +kernel
theorem dX9_two_17 : decode cX9_two 17 = .ok (.ifCond .eq 14, 3) := by decide +kernel
theorem dX9_two_20 : decode cX9_two 20 = .ok (.iload_n 3, 1) := by decide +kernel
theorem dX9_two_21 : decode cX9_two 21 = .ok (.invokestatic 127, 3) := by decide +kernel
theorem dX9_two_24 : decode cX9_two 24 = .ok (.ifCond .eq 7, 3) := by decide +kernel
theorem dX9_two_27 : decode cX9_two 27 = .ok (.iconst 1, 1) := by decide +kernel
theorem dX9_two_28 : decode cX9_two 28 = .ok (.goto 4, 3) := by decide +kernel
theorem dX9_two_31 : decode cX9_two 31 = .ok (.iconst 0, 1) := by decide +kernel
theorem dX9_two_32 : decode cX9_two 32 = .ok (.istore 5, 2) := by decide +kernel
theorem dX9_two_34 : decode cX9_two 34 = .ok (.aload_n 0, 1) := by decide +kernel
theorem dX9_two_35 : decode cX9_two 35 = .ok (.iload 4, 2) := by decide +kernel
theorem dX9_two_37 : decode cX9_two 37 = .ok (.ifCond .ne 7, 3) := by decide +kernel
theorem dX9_two_40 : decode cX9_two 40 = .ok (.iconst 1, 1) := by decide +kernel
theorem dX9_two_41 : decode cX9_two 41 = .ok (.goto 36, 3) := by decide +kernel
theorem dX9_two_44 : decode cX9_two 44 = .ok (.iload 5, 2) := by decide +kernel
theorem dX9_two_46 : decode cX9_two 46 = .ok (.ifCond .ne 7, 3) := by decide +kernel
theorem dX9_two_49 : decode cX9_two 49 = .ok (.iconst 2, 1) := by decide +kernel
theorem dX9_two_50 : decode cX9_two 50 = .ok (.goto 27, 3) := by decide +kernel
theorem dX9_two_53 : decode cX9_two 53 = .ok (.aload_n 0, 1) := by decide +kernel
theorem dX9_two_54 : decode cX9_two 54 = .ok (.getfield 19, 3) := by decide +kernel
theorem dX9_two_57 : decode cX9_two 57 = .ok (.iload_n 1, 1) := by decide +kernel
theorem dX9_two_58 : decode cX9_two 58 = .ok (.iaload, 1) := by decide +kernel
theorem dX9_two_59 : decode cX9_two 59 = .ok (.iconst 1, 1) := by decide +kernel
theorem dX9_two_60 : decode cX9_two 60 = .ok (.if_icmp .eq 12, 3) := by decide +kernel
theorem dX9_two_63 : decode cX9_two 63 = .ok (.aload_n 0, 1) := by decide +kernel
theorem dX9_two_64 : decode cX9_two 64 = .ok (.getfield 104, 3) := by decide +kernel
theorem dX9_two_67 : decode cX9_two 67 = .ok (.bipush 6, 2) := by decide +kernel
theorem dX9_two_69 : decode cX9_two 69 = .ok (.if_icmp .ne 7, 3) := by decide +kernel
theorem dX9_two_72 : decode cX9_two 72 = .ok (.iconst 3, 1) := by decide +kernel
theorem dX9_two_73 : decode cX9_two 73 = .ok (.goto 4, 3) := by decide +kernel
theorem dX9_two_76 : decode cX9_two 76 = .ok (.iconst 0, 1) := by decide +kernel
theorem dX9_two_77 : decode cX9_two 77 = .ok (.invokevirtual 131, 3) := by decide +kernel
theorem dX9_two_80 : decode cX9_two 80 = .ok (.ifCond .eq 5, 3) := by decide +kernel
theorem dX9_two_83 : decode cX9_two 83 = .ok (.iconst 0, 1) := by decide +kernel
theorem dX9_two_84 : decode cX9_two 84 = .ok (.ireturn, 1) := by decide +kernel
theorem dX9_two_85 : decode cX9_two 85 = .ok (.aload_n 0, 1) := by decide +kernel
theorem dX9_two_86 : decode cX9_two 86 = .ok (.getfield 19, 3) := by decide +kernel
theorem dX9_two_89 : decode cX9_two 89 = .ok (.iload_n 1, 1) := by decide +kernel
theorem dX9_two_90 : decode cX9_two 90 = .ok (.iaload, 1) := by decide +kernel
theorem dX9_two_91 : decode cX9_two 91 = .ok (.aload_n 0, 1) := by decide +kernel
theorem dX9_two_92 : decode cX9_two 92 = .ok (.getfield 19, 3) := by decide +kernel
theorem dX9_two_95 : decode cX9_two 95 = .ok (.iload_n 1, 1) := by decide +kernel
theorem dX9_two_96 : decode cX9_two 96 = .ok (.iaload, 1) := by decide +kernel
theorem dX9_two_97 : decode cX9_two 97 = .ok (.iconst 2, 1) := by decide +kernel
theorem dX9_two_98 : decode cX9_two 98 = .ok (.idiv, 1) := by decide +kernel
theorem dX9_two_99 : decode cX9_two 99 = .ok (.isub, 1) := by decide +kernel
theorem dX9_two_100 : decode cX9_two 100 = .ok (.istore 6, 2) := by decide +kernel
theorem dX9_two_102 : decode cX9_two 102 = .ok (.aload_n 0, 1) := by decide +kernel
theorem dX9_two_103 : decode cX9_two 103 = .ok (.getfield 19, 3) := by decide +kernel
theorem dX9_two_106 : decode cX9_two 106 = .ok (.iload_n 1, 1) := by decide +kernel
theorem dX9_two_107 : decode cX9_two 107 = .ok (.dup2, 1) := by decide +kernel
theorem dX9_two_108 : decode cX9_two 108 = .ok (.iaload, 1) := by decide +kernel
theorem dX9_two_109 : decode cX9_two 109 = .ok (.iconst 2, 1) := by decide +kernel
theorem dX9_two_110 : decode cX9_two 110 = .ok (.idiv, 1) := by decide +kernel
theorem dX9_two_111 : decode cX9_two 111 = .ok (.iastore, 1) := by decide +kernel
theorem dX9_two_112 : decode cX9_two 112 = .ok (.aload_n 0, 1) := by decide +kernel
theorem dX9_two_113 : decode cX9_two 113 = .ok (.aload_n 0, 1) := by decide +kernel
theorem dX9_two_114 : decode cX9_two 114 = .ok (.getfield 7, 3) := by decide +kernel
theorem dX9_two_117 : decode cX9_two 117 = .ok (.iload_n 1, 1) := by decide +kernel
theorem dX9_two_118 : decode cX9_two 118 = .ok (.iaload, 1) := by decide +kernel
theorem dX9_two_119 : decode cX9_two 119 = .ok (.iload_n 2, 1) := by decide +kernel
theorem dX9_two_120 : decode cX9_two 120 = .ok (.iload_n 3, 1) := by decide +kernel
theorem dX9_two_121 : decode cX9_two 121 = .ok (.iload 6, 2) := by decide +kernel
theorem dX9_two_123 : decode cX9_two 123 = .ok (.invokevirtual 134, 3) := by decide +kernel
theorem dX9_two_126 : decode cX9_two 126 = .ok (.aload_n 0, 1) := by decide +kernel
theorem dX9_two_127 : decode cX9_two 127 = .ok (.getfield 104, 3) := by decide +kernel
theorem dX9_two_130 : decode cX9_two 130 = .ok (.iconst 1, 1) := by decide +kernel
theorem dX9_two_131 : decode cX9_two 131 = .ok (.isub, 1) := by decide +kernel
theorem dX9_two_132 : decode cX9_two 132 = .ok (.ireturn, 1) := by decide +kernel
theorem dX9_isAhead_0 : decode cX9_isAhead 0 = .ok (.aload_n 0, 1) := by decide +kernel
theorem dX9_isAhead_1 : decode cX9_isAhead 1 = .ok (.getfield 28, 3) := by decide +kernel
theorem dX9_isAhead_4 : decode cX9_isAhead 4 = .ok (.iload_n 1, 1) := by decide +kernel
theorem dX9_isAhead_5 : decode cX9_isAhead 5 = .ok (.iaload, 1) := by decide +kernel
theorem dX9_isAhead_6 : decode cX9_isAhead 6 = .ok (.aload_n 0, 1) := by decide +kernel
theorem dX9_isAhead_7 : decode cX9_isAhead 7 = .ok (.getfield 28, 3) := by decide +kernel
theorem dX9_isAhead_10 : decode cX9_isAhead 10 = .ok (.iload_n 2, 1) := by decide +kernel
theorem dX9_isAhead_11 : decode cX9_isAhead 11 = .ok (.iaload, 1) := by decide +kernel
theorem dX9_isAhead_12 : decode cX9_isAhead 12 = .ok (.if_icmp .eq 24, 3) := by decide +kernel
theorem dX9_isAhead_15 : decode cX9_isAhead 15 = .ok (.aload_n 0, 1) := by decide +kernel
theorem dX9_isAhead_16 : decode cX9_isAhead 16 = .ok (.getfield 28, 3) := by decide +kernel
theorem dX9_isAhead_19 : decode cX9_isAhead 19 = .ok (.iload_n 1, 1) := by decide +kernel
theorem dX9_isAhead_20 : decode cX9_isAhead 20 = .ok (.iaload, 1) := by decide +kernel
theorem dX9_isAhead_21 : decode cX9_isAhead 21 = .ok (.aload_n 0, 1) := by decide +kernel
theorem dX9_isAhead_22 : decode cX9_isAhead 22 = .ok (.getfield 28, 3) := by decide +kernel
theorem dX9_isAhead_25 : decode cX9_isAhead 25 = .ok (.iload_n 2, 1) := by decide +kernel
theorem dX9_isAhead_26 : decode cX9_isAhead 26 = .ok (.iaload, 1) := by decide +kernel
