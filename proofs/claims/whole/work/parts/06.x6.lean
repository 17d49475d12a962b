theorem dX6_init_0 : decode cX6_init 0 = .ok (.aload_n 0, 1) := by decide +kernel
theorem dX6_init_1 : decode cX6_init 1 = .ok (.invokespecial 1, 3) := by decide +kernel
theorem dX6_init_4 : decode cX6_init 4 = .ok (.aload_n 0, 1) := by decide +kernel
theorem dX6_init_5 : decode cX6_init 5 = .ok (.iconst 5, 1) := by decide +kernel
theorem dX6_init_6 : decode cX6_init 6 = .ok (.newarray .int, 2) := by decide +kernel
theorem dX6_init_8 : decode cX6_init 8 = .ok (.putfield 7, 3) := by decide +kernel
theorem dX6_init_11 : decode cX6_init 11 = .ok (.aload_n 0, 1) := by decide +kernel
theorem dX6_init_12 : decode cX6_init 12 = .ok (.iconst 5, 1) := by decide +kernel
theorem dX6_init_13 : decode cX6_init 13 = .ok (.newarray .int, 2) := by decide +kernel
theorem dX6_init_15 : decode cX6_init 15 = .ok (.putfield 13, 3) := by decide +kernel
theorem dX6_init_18 : decode cX6_init 18 = .ok (.aload_n 0, 1) := by decide +kernel
theorem dX6_init_19 : decode cX6_init 19 = .ok (.iconst 5, 1) := by decide +kernel
theorem dX6_init_20 : decode cX6_init 20 = .ok (.newarray .int, 2) := by decide +kernel
theorem dX6_init_22 : decode cX6_init 22 = .ok (.putfield 16, 3) := by decide +kernel
theorem dX6_init_25 : decode cX6_init 25 = .ok (.aload_n 0, 1) := by decide +kernel
theorem dX6_init_26 : decode cX6_init 26 = .ok (.bipush 20, 2) := by decide +kernel
theorem dX6_init_28 : decode cX6_init 28 = .ok (.newarray .int, 2) := by decide +kernel
theorem dX6_init_30 : decode cX6_init 30 = .ok (.putfield 19, 3) := by decide +kernel
theorem dX6_init_33 : decode cX6_init 33 = .ok (.aload_n 0, 1) := by decide +kernel
theorem dX6_init_34 : decode cX6_init 34 = .ok (.bipush 20, 2) := by decide +kernel
theorem dX6_init_36 : decode cX6_init 36 = .ok (.newarray .int, 2) := by decide +kernel
theorem dX6_init_38 : decode cX6_init 38 = .ok (.putfield 22, 3) := by decide +kernel
theorem dX6_init_41 : decode cX6_init 41 = .ok (.aload_n 0, 1) := by decide +kernel
theorem dX6_init_42 : decode cX6_init 42 = .ok (.iconst 5, 1) := by decide +kernel
theorem dX6_init_43 : decode cX6_init 43 = .ok (.newarray .int, 2) := by decide +kernel
theorem dX6_init_45 : decode cX6_init 45 = .ok (.putfield 25, 3) := by decide +kernel
theorem dX6_init_48 : decode cX6_init 48 = .ok (.aload_n 0, 1) := by decide +kernel
theorem dX6_init_49 : decode cX6_init 49 = .ok (.bipush 6, 2) := by decide +kernel
theorem dX6_init_51 : decode cX6_init 51 = .ok (.newarray .int, 2) := by decide +kernel
theorem dX6_init_53 : decode cX6_init 53 = .ok (.putfield 28, 3) := by decide +kernel
theorem dX6_init_56 : decode cX6_init 56 = .ok (.aload_n 0, 1) := by decide +kernel
theorem dX6_init_57 : decode cX6_init 57 = .ok (.bipush 6, 2) := by decide +kernel
theorem dX6_init_59 : decode cX6_init 59 = .ok (.newarray .int, 2) := by decide +kernel
theorem dX6_init_61 : decode cX6_init 61 = .ok (.putfield 31, 3) := by decide +kernel
theorem dX6_init_64 : decode cX6_init 64 = .ok (.aload_n 0, 1) := by decide +kernel
theorem dX6_init_65 : decode cX6_init 65 = .ok (.bipush 15, 2) := by decide +kernel
theorem dX6_init_67 : decode cX6_init 67 = .ok (.newarray .int, 2) := by decide +kernel
theorem dX6_init_69 : decode cX6_init 69 = .ok (.putfield 34, 3) := by decide +kernel
theorem dX6_init_72 : decode cX6_init 72 = .ok (.aload_n 0, 1) := by decide +kernel
theorem dX6_init_73 : decode cX6_init 73 = .ok (.iconst 3, 1) := by decide +kernel
theorem dX6_init_74 : decode cX6_init 74 = .ok (.newarray .int, 2) := by decide +kernel
theorem dX6_init_76 : decode cX6_init 76 = .ok (.putfield 37, 3) := by decide +kernel
theorem dX6_init_79 : decode cX6_init 79 = .ok (.aload_n 0, 1) := by decide +kernel
theorem dX6_init_80 : decode cX6_init 80 = .ok (.bipush 15, 2) := by decide +kernel
theorem dX6_init_82 : decode cX6_init 82 = .ok (.newarray .int, 2) := by decide +kernel
theorem dX6_init_84 : decode cX6_init 84 = .ok (.putfield 40, 3) := by decide +kernel
theorem dX6_init_87 : decode cX6_init 87 = .ok (.aload_n 0, 1) := by decide +kernel
theorem dX6_init_88 : decode cX6_init 88 = .ok (.bipush 15, 2) := by decide +kernel
theorem dX6_init_90 : decode cX6_init 90 = .ok (.newarray .int, 2) := by decide +kernel
theorem dX6_init_92 : decode cX6_init 92 = .ok (.putfield 43, 3) := by decide +kernel
theorem dX6_init_95 : decode cX6_init 95 = .ok (.aload_n 0, 1) := by decide +kernel
theorem dX6_init_96 : decode cX6_init 96 = .ok (.bipush 60, 2) := by decide +kernel
theorem dX6_init_98 : decode cX6_init 98 = .ok (.newarray .int, 2) := by decide +kernel
theorem dX6_init_100 : decode cX6_init 100 = .ok (.putfield 46, 3) := by decide +kernel
theorem dX6_init_103 : decode cX6_init 103 = .ok (.aload_n 0, 1) := by decide +kernel
theorem dX6_init_104 : decode cX6_init 104 = .ok (.bipush 60, 2) := by decide +kernel
theorem dX6_init_106 : decode cX6_init 106 = .ok (.newarray .int, 2) := by decide +kernel
theorem dX6_init_108 : decode cX6_init 108 = .ok (.putfield 49, 3) := by decide +kernel
theorem dX6_init_111 : decode cX6_init 111 = .ok (.aload_n 0, 1) := by decide +kernel
theorem dX6_init_112 : decode cX6_init 112 = .ok (.bipush 60, 2) := by decide +kernel
theorem dX6_init_114 : decode cX6_init 114 = .ok (.newarray .int, 2) := by decide +kernel
theorem dX6_init_116 : decode cX6_init 116 = .ok (.putfield 52, 3) := by decide +kernel
theorem dX6_init_119 : decode cX6_init 119 = .ok (.aload_n 0, 1) := by decide +kernel
theorem dX6_init_120 : decode cX6_init 120 = .ok (.bipush 60, 2) := by decide +kernel
theorem dX6_init_122 : decode cX6_init 122 = .ok (.newarray .int, 2) := by decide +kernel
theorem dX6_init_124 : decode cX6_init 124 = .ok (.putfield 55, 3) := by decide +kernel
theorem dX6_init_127 : decode cX6_init 127 = .ok (.aload_n 0, 1) := by decide +kernel
theorem dX6_init_128 : decode cX6_init 128 = .ok (.bipush 60, 2) := by decide +kernel
theorem dX6_init_130 : decode cX6_init 130 = .ok (.newarray .int, 2) := by decide +kernel
theorem dX6_init_132 : decode cX6_init 132 = .ok (.putfield 58, 3) := by decide +kernel
theorem dX6_init_135 : decode cX6_init 135 = .ok (.aload_n 0, 1) := by decide +kernel
theorem dX6_init_136 : decode cX6_init 136 = .ok (.bipush 60, 2) := by decide +kernel
theorem dX6_init_138 : decode cX6_init 138 = .ok (.newarray .int, 2) := by decide +kernel
theorem dX6_init_140 : decode cX6_init 140 = .ok (.putfield 61, 3) := by decide +kernel
theorem dX6_init_143 : decode cX6_init 143 = .ok (.aload_n 0, 1) := by decide +kernel
theorem dX6_init_144 : decode cX6_init 144 = .ok (.bipush 6, 2) := by decide +kernel
theorem dX6_init_146 : decode cX6_init 146 = .ok (.newarray .int, 2) := by decide +kernel
theorem dX6_init_148 : decode cX6_init 148 = .ok (.putfield 64, 3) := by decide +kernel
theorem dX6_init_151 : decode cX6_init 151 = .ok (.aload_n 0, 1) := by decide +kernel
theorem dX6_init_152 : decode cX6_init 152 = .ok (.bipush 6, 2) := by decide +kernel
theorem dX6_init_154 : decode cX6_init 154 = .ok (.newarray .int, 2) := by decide +kernel
theorem dX6_init_156 : decode cX6_init 156 = .ok (.putfield 67, 3) := by decide +kernel
theorem dX6_init_159 : decode cX6_init 159 = .ok (.iconst 0, 1) := by decide +kernel
theorem dX6_init_160 : decode cX6_init 160 = .ok (.istore_n 1, 1) := by decide +kernel
theorem dX6_init_161 : decode cX6_init 161 = .ok (.iload_n 1, 1) := by decide +kernel
theorem dX6_init_162 : decode cX6_init 162 = .ok (.iconst 5, 1) := by decide +kernel
theorem dX6_init_163 : decode cX6_init 163 = .ok (.if_icmp .ge 31, 3) := by decide +kernel
theorem dX6_init_166 : decode cX6_init 166 = .ok (.aload_n 0, 1) := by decide +kernel
theorem dX6_init_167 : decode cX6_init 167 = .ok (.getfield 7, 3) := by decide +kernel
theorem dX6_init_170 : decode cX6_init 170 = .ok (.iload_n 1, 1) := by decide +kernel
theorem dX6_init_171 : decode cX6_init 171 = .ok (.iconst 2, 1) := by decide +kernel
theorem dX6_init_172 : decode cX6_init 172 = .ok (.iastore, 1) := by decide +kernel
theorem dX6_init_173 : decode cX6_init 173 = .ok (.aload_n 0, 1) := by decide +kernel
theorem dX6_init_174 : decode cX6_init 174 = .ok (.getfield 13, 3) := by decide +kernel
theorem dX6_init_177 : decode cX6_init 177 = .ok (.iload_n 1, 1) := by decide +kernel
theorem dX6_init_178 : decode cX6_init 178 = .ok (.iconst 4, 1) := by decide +kernel
theorem dX6_init_179 : decode cX6_init 179 = .ok (.iastore, 1) := by decide +kernel
theorem dX6_init_180 : decode cX6_init 180 = .ok (.aload_n 0, 1) := by decide +kernel
theorem dX6_init_181 : decode cX6_init 181 = .ok (.getfield 16, 3) := by decide +kernel
theorem dX6_init_184 : decode cX6_init 184 = .ok (.iload_n 1, 1) := by decide +kernel
theorem dX6_init_185 : decode cX6_init 185 = .ok (.bipush 10, 2) := by decide +kernel
theorem dX6_init_187 : decode cX6_init 187 = .ok (.iastore, 1) := by decide +kernel
theorem dX6_init_188 : decode cX6_init 188 = .ok (.iinc 1 1, 3) := by decide +kernel
theorem dX6_init_191 : decode cX6_init 191 = .ok (.goto (-30), 3) := by decide +kernel
theorem dX6_init_194 : decode cX6_init 194 = .ok (.iconst 0, 1) := by decide +kernel
theorem dX6_init_195 : decode cX6_init 195 = .ok (.istore_n 1, 1) := by decide +kernel
theorem dX6_init_196 : decode cX6_init 196 = .ok (.iload_n 1, 1) := by decide +kernel
theorem dX6_init_197 : decode cX6_init 197 = .ok (.bipush 20, 2) := by decide +kernel
theorem dX6_init_199 : decode cX6_init 199 = .ok (.if_icmp .ge 23, 3) := by decide +kernel
theorem dX6_init_202 : decode cX6_init 202 = .ok (.aload_n 0, 1) := by decide +kernel
theorem dX6_init_203 : decode cX6_init 203 = .ok (.getfield 19, 3) := by decide +kernel
theorem dX6_init_206 : decode cX6_init 206 = .ok (.iload_n 1, 1) := by decide +kernel
theorem dX6_init_207 : decode cX6_init 207 = .ok (.iconst 5, 1) := by decide +kernel
theorem dX6_init_208 : decode cX6_init 208 = .ok (.iastore, 1) := by decide +kernel
theorem dX6_init_209 : decode cX6_init 209 = .ok (.aload_n 0, 1) := by decide +kernel
theorem dX6_init_210 : decode cX6_init 210 = .ok (.getfield 22, 3) := by decide +kernel
theorem dX6_init_213 : decode cX6_init 213 = .ok (.iload_n 1, 1) := by decide +kernel
theorem dX6_init_214 : decode cX6_init 214 = .ok (.iconst 4, 1) := by decide +kernel
theorem dX6_init_215 : decode cX6_init 215 = .ok (.iastore, 1) := by decide +kernel
theorem dX6_init_216 : decode cX6_init 216 = .ok (.iinc 1 1, 3) := by decide +kernel
theorem dX6_init_219 : decode cX6_init 219 = .ok (.goto (-23), 3) := by decide +kernel
theorem dX6_init_222 : decode cX6_init 222 = .ok (.iconst 0, 1) := by decide +kernel
theorem dX6_init_223 : decode cX6_init 223 = .ok (.istore_n 1, 1) := by decide +kernel
theorem dX6_init_224 : decode cX6_init 224 = .ok (.iload_n 1, 1) := by decide +kernel
theorem dX6_init_225 : decode cX6_init 225 = .ok (.bipush 6, 2) := by decide +kernel
theorem dX6_init_227 : decode cX6_init 227 = .ok (.if_icmp .ge 18, 3) := by decide +kernel
theorem dX6_init_230 : decode cX6_init 230 = .ok (.aload_n 0, 1) := by decide +kernel
theorem dX6_init_231 : decode cX6_init 231 = .ok (.getfield 28, 3) := by decide +kernel
theorem dX6_init_234 : decode cX6_init 234 = .ok (.iload_n 1, 1) := by decide +kernel
theorem dX6_init_235 : decode cX6_init 235 = .ok (.iload_n 1, 1) := by decide +kernel
theorem dX6_init_236 : decode cX6_init 236 = .ok (.iconst 2, 1) := by decide +kernel
theorem dX6_init_237 : decode cX6_init 237 = .ok (.iadd, 1) := by decide +kernel
theorem dX6_init_238 : decode cX6_init 238 = .ok (.iastore, 1) := by decide +kernel
theorem dX6_init_239 : decode cX6_init 239 = .ok (.iinc 1 1, 3) := by decide +kernel
theorem dX6_init_242 : decode cX6_init 242 = .ok (.goto (-18), 3) := by decide +kernel
theorem dX6_init_245 : decode cX6_init 245 = .ok (.return_, 1) := by decide +kernel
theorem dX6_thrown_0 : decode cX6_thrown 0 = .ok (.aload_n 0, 1) := by decide +kernel
theorem dX6_thrown_1 : decode cX6_thrown 1 = .ok (.getfield 70, 3) := by decide +kernel
theorem dX6_thrown_4 : decode cX6_thrown 4 = .ok (.ireturn, 1) := by decide +kernel
theorem dX6_fails_0 : decode cX6_fails 0 = .ok (.aload_n 0, 1) := by decide +kernel
theorem dX6_fails_1 : decode cX6_fails 1 = .ok (.iload_n 1, 1) := by decide +kernel
theorem dX6_fails_2 : decode cX6_fails 2 = .ok (.putfield 70, 3) := by decide +kernel
theorem dX6_fails_5 : decode cX6_fails 5 = .ok (.iconst 0, 1) := by decide +kernel
theorem dX6_fails_6 : decode cX6_fails 6 = .ok (.ireturn, 1) := by decide +kernel
theorem dX6_in_0 : decode cX6_in 0 = .ok (.iload_n 0, 1) := by decide +kernel
theorem dX6_in_1 : decode cX6_in 1 = .ok (.iload_n 1, 1) := by decide +kernel
theorem dX6_in_2 : decode cX6_in 2 = .ok (.if_icmp .lt 12, 3) := by decide +kernel
theorem dX6_in_5 : decode cX6_in 5 = .ok (.iload_n 0, 1) := by decide +kernel
theorem dX6_in_6 : decode cX6_in 6 = .ok (.iload_n 2, 1) := by decide +kernel
theorem dX6_in_7 : decode cX6_in 7 = .ok (.if_icmp .gt 7, 3) := by decide +kernel
theorem dX6_in_10 : decode cX6_in 10 = .ok (.iconst 1, 1) := by decide +kernel
theorem dX6_in_11 : decode cX6_in 11 = .ok (.goto 4, 3) := by decide +kernel
theorem dX6_in_14 : decode cX6_in 14 = .ok (.iconst 0, 1) := by decide +kernel
theorem dX6_in_15 : decode cX6_in 15 = .ok (.ireturn, 1) := by decide +kernel
set_option maxRecDepth 20000 in
theorem ggX6_isGame_X6_in : GoodIn wsX6_isGame wsX6_in := goodIn_r _ [4] (by decide +kernel) (by decide +kernel)
set_option maxRecDepth 20000 in
theorem gX6_isGame_X6_in : GoodIn wsX6_isGame (va_wsS RX6 74 yX6_in wsX6_in) := goodIn_app (goodIn_of _ (by decide +kernel)) ggX6_isGame_X6_in
theorem dX6_isGame_0 : decode cX6_isGame 0 = .ok (.iload_n 0, 1) := by decide +kernel
theorem dX6_isGame_1 : decode cX6_isGame 1 = .ok (.iconst 0, 1) := by decide +kernel
theorem dX6_isGame_2 : decode cX6_isGame 2 = .ok (.iconst 4, 1) := by decide +kernel
theorem dX6_isGame_3 : decode cX6_isGame 3 = .ok (.invokestatic 74, 3) := by decide +kernel
theorem dX6_isGame_6 : decode cX6_isGame 6 = .ok (.ireturn, 1) := by decide +kernel
set_option maxRecDepth 20000 in
theorem ggX6_isCopy_X6_in : GoodIn wsX6_isCopy wsX6_in := goodIn_r _ [5] (by decide +kernel) (by decide +kernel)
set_option maxRecDepth 20000 in
theorem gX6_isCopy_X6_in : GoodIn wsX6_isCopy (va_wsS RX6 74 yX6_in wsX6_in) := goodIn_app (goodIn_of _ (by decide +kernel)) ggX6_isCopy_X6_in
theorem dX6_isCopy_0 : decode cX6_isCopy 0 = .ok (.iload_n 1, 1) := by decide +kernel
theorem dX6_isCopy_1 : decode cX6_isCopy 1 = .ok (.iconst 0, 1) := by decide +kernel
theorem dX6_isCopy_2 : decode cX6_isCopy 2 = .ok (.aload_n 0, 1) := by decide +kernel
theorem dX6_isCopy_3 : decode cX6_isCopy 3 = .ok (.getfield 78, 3) := by decide +kernel
theorem dX6_isCopy_6 : decode cX6_isCopy 6 = .ok (.iconst 1, 1) := by decide +kernel
theorem dX6_isCopy_7 : decode cX6_isCopy 7 = .ok (.isub, 1) := by decide +kernel
theorem dX6_isCopy_8 : decode cX6_isCopy 8 = .ok (.invokestatic 74, 3) := by decide +kernel
theorem dX6_isCopy_11 : decode cX6_isCopy 11 = .ok (.ireturn, 1) := by decide +kernel
set_option maxRecDepth 20000 in
theorem ggX6_isThere_X6_in : GoodIn wsX6_isThere wsX6_in := goodIn_r _ [7] (by decide +kernel) (by decide +kernel)
set_option maxRecDepth 20000 in
theorem gX6_isThere_X6_in : GoodIn wsX6_isThere (va_wsS RX6 74 yX6_in wsX6_in) := goodIn_app (goodIn_of _ (by decide +kernel)) ggX6_isThere_X6_in
theorem dX6_isThere_0 : decode cX6_isThere 0 = .ok (.aload_n 0, 1) := by decide +kernel
theorem dX6_isThere_1 : decode cX6_isThere 1 = .ok (.iload_n 1, 1) := by decide +kernel
theorem dX6_isThere_2 : decode cX6_isThere 2 = .ok (.iconst 0, 1) := by decide +kernel
theorem dX6_isThere_3 : decode cX6_isThere 3 = .ok (.aload_n 0, 1) := by decide +kernel
theorem dX6_isThere_4 : decode cX6_isThere 4 = .ok (.getfield 81, 3) := by decide +kernel
theorem dX6_isThere_7 : decode cX6_isThere 7 = .ok (.iconst 1, 1) := by decide +kernel
theorem dX6_isThere_8 : decode cX6_isThere 8 = .ok (.isub, 1) := by decide +kernel
theorem dX6_isThere_9 : decode cX6_isThere 9 = .ok (.invokestatic 74, 3) := by decide +kernel
theorem dX6_isThere_12 : decode cX6_isThere 12 = .ok (.ifCond .eq 16, 3) := by decide +kernel
theorem dX6_isThere_15 : decode cX6_isThere 15 = .ok (.aload_n 0, 1) := by decide +kernel
theorem dX6_isThere_16 : decode cX6_isThere 16 = .ok (.getfield 61, 3) := by decide +kernel
theorem dX6_isThere_19 : decode cX6_isThere 19 = .ok (.iload_n 1, 1) := by decide +kernel
theorem dX6_isThere_20 : decode cX6_isThere 20 = .ok (.iaload, 1) := by decide +kernel
theorem dX6_isThere_21 : decode cX6_isThere 21 = .ok (.ifCond .ne 7, 3) := by decide +kernel
theorem dX6_isThere_24 : decode cX6_isThere 24 = .ok (.iconst 0, 1) := by decide +kernel
theorem dX6_isThere_25 : decode cX6_isThere 25 = .ok (.goto 4, 3) := by decide +kernel
theorem dX6_isThere_28 : decode cX6_isThere 28 = .ok (.iconst 1, 1) := by decide +kernel
theorem dX6_isThere_29 : decode cX6_isThere 29 = .ok (.putfield 70, 3) := by decide +kernel
theorem dX6_isThere_32 : decode cX6_isThere 32 = .ok (.aload_n 0, 1) := by decide +kernel
theorem dX6_isThere_33 : decode cX6_isThere 33 = .ok (.getfield 70, 3) := by decide +kernel
theorem dX6_isThere_36 : decode cX6_isThere 36 = .ok (.ifCond .ne 7, 3) := by decide +kernel
theorem dX6_isThere_39 : decode cX6_isThere 39 = .ok (.iconst 1, 1) := by decide +kernel
theorem dX6_isThere_40 : decode cX6_isThere 40 = .ok (.goto 4, 3) := by decide +kernel
theorem dX6_isThere_43 : decode cX6_isThere 43 = .ok (.iconst 0, 1) := by decide +kernel
theorem dX6_isThere_44 : decode cX6_isThere 44 = .ok (.ireturn, 1) := by decide +kernel
set_option maxRecDepth 20000 in
theorem ggX6_setGame_X6_isGame : GoodIn wsX6_setGame wsX6_isGame := goodIn_r _ [8, 9, 10, 7, 11] (by decide +kernel) (by decide +kernel)
set_option maxRecDepth 20000 in
theorem gX6_setGame_X6_isGame : GoodIn wsX6_setGame (va_wsS RX6 84 yX6_isGame wsX6_isGame) := goodIn_app (goodIn_of _ (by decide +kernel)) ggX6_setGame_X6_isGame
set_option maxRecDepth 20000 in
theorem ggX6_setGame_X6_in : GoodIn wsX6_setGame wsX6_in := goodIn_r _ [11] (by decide +kernel) (by decide +kernel)
set_option maxRecDepth 20000 in
theorem gX6_setGame_X6_in : GoodIn wsX6_setGame (va_wsS RX6 74 yX6_in wsX6_in) := goodIn_app (goodIn_of _ (by decide +kernel)) ggX6_setGame_X6_in
theorem dX6_setGame_0 : decode cX6_setGame 0 = .ok (.aload_n 0, 1) := by decide +kernel
theorem dX6_setGame_1 : decode cX6_setGame 1 = .ok (.iload_n 1, 1) := by decide +kernel
theorem dX6_setGame_2 : decode cX6_setGame 2 = .ok (.invokestatic 84, 3) := by decide +kernel
theorem dX6_setGame_5 : decode cX6_setGame 5 = .ok (.ifCond .ne 7, 3) := by decide +kernel
theorem dX6_setGame_8 : decode cX6_setGame 8 = .ok (.iconst 1, 1) := by decide +kernel
theorem dX6_setGame_9 : decode cX6_setGame 9 = .ok (.goto 39, 3) := by decide +kernel
theorem dX6_setGame_12 : decode cX6_setGame 12 = .ok (.iload_n 2, 1) := by decide +kernel
theorem dX6_setGame_13 : decode cX6_setGame 13 = .ok (.iconst 1, 1) := by decide +kernel
theorem dX6_setGame_14 : decode cX6_setGame 14 = .ok (.bipush 8, 2) := by decide +kernel
theorem dX6_setGame_16 : decode cX6_setGame 16 = .ok (.invokestatic 74, 3) := by decide +kernel
theorem dX6_setGame_19 : decode cX6_setGame 19 = .ok (.ifCond .eq 24, 3) := by decide +kernel
theorem dX6_setGame_22 : decode cX6_setGame 22 = .ok (.iload_n 3, 1) := by decide +kernel
theorem dX6_setGame_23 : decode cX6_setGame 23 = .ok (.iload_n 2, 1) := by decide +kernel
theorem dX6_setGame_24 : decode cX6_setGame 24 = .ok (.bipush 8, 2) := by decide +kernel
theorem dX6_setGame_26 : decode cX6_setGame 26 = .ok (.invokestatic 74, 3) := by decide +kernel
theorem dX6_setGame_29 : decode cX6_setGame 29 = .ok (.ifCond .eq 14, 3) := by decide +kernel
theorem dX6_setGame_32 : decode cX6_setGame 32 = .ok (.iload 4, 2) := by decide +kernel
theorem dX6_setGame_34 : decode cX6_setGame 34 = .ok (.iconst 1, 1) := by decide +kernel
theorem dX6_setGame_35 : decode cX6_setGame 35 = .ok (.bipush 60, 2) := by decide +kernel
theorem dX6_setGame_37 : decode cX6_setGame 37 = .ok (.invokestatic 74, 3) := by decide +kernel
theorem dX6_setGame_40 : decode cX6_setGame 40 = .ok (.ifCond .ne 7, 3) := by decide +kernel
theorem dX6_setGame_43 : decode cX6_setGame 43 = .ok (.iconst 2, 1) := by decide +kernel
theorem dX6_setGame_44 : decode cX6_setGame 44 = .ok (.goto 4, 3) := by decide +kernel
theorem dX6_setGame_47 : decode cX6_setGame 47 = .ok (.iconst 0, 1) := by decide +kernel
theorem dX6_setGame_48 : decode cX6_setGame 48 = .ok (.putfield 70, 3) := by decide +kernel
theorem dX6_setGame_51 : decode cX6_setGame 51 = .ok (.aload_n 0, 1) := by decide +kernel
theorem dX6_setGame_52 : decode cX6_setGame 52 = .ok (.getfield 70, 3) := by decide +kernel
theorem dX6_setGame_55 : decode cX6_setGame 55 = .ok (.ifCond .ne 25, 3) := by decide +kernel
theorem dX6_setGame_58 : decode cX6_setGame 58 = .ok (.aload_n 0, 1) := by decide +kernel
theorem dX6_setGame_59 : decode cX6_setGame 59 = .ok (.getfield 7, 3) := by decide +kernel
theorem dX6_setGame_62 : decode cX6_setGame 62 = .ok (.iload_n 1, 1) := by decide +kernel
theorem dX6_setGame_63 : decode cX6_setGame 63 = .ok (.iload_n 2, 1) := by decide +kernel
theorem dX6_setGame_64 : decode cX6_setGame 64 = .ok (.iastore, 1) := by decide +kernel
theorem dX6_setGame_65 : decode cX6_setGame 65 = .ok (.aload_n 0, 1) := by decide +kernel
theorem dX6_setGame_66 : decode cX6_setGame 66 = .ok (.getfield 13, 3) := by decide +kernel
theorem dX6_setGame_69 : decode cX6_setGame 69 = .ok (.iload_n 1, 1) := by decide +kernel
theorem dX6_setGame_70 : decode cX6_setGame 70 = .ok (.iload_n 3, 1) := by decide +kernel
theorem dX6_setGame_71 : decode cX6_setGame 71 = .ok (.iastore, 1) := by decide +kernel
theorem dX6_setGame_72 : decode cX6_setGame 72 = .ok (.aload_n 0, 1) := by decide +kernel
theorem dX6_setGame_73 : decode cX6_setGame 73 = .ok (.getfield 16, 3) := by decide +kernel
theorem dX6_setGame_76 : decode cX6_setGame 76 = .ok (.iload_n 1, 1) := by decide +kernel
theorem dX6_setGame_77 : decode cX6_setGame 77 = .ok (.iload 4, 2) := by decide +kernel
theorem dX6_setGame_79 : decode cX6_setGame 79 = .ok (.iastore, 1) := by decide +kernel
theorem dX6_setGame_80 : decode cX6_setGame 80 = .ok (.return_, 1) := by decide +kernel
set_option maxRecDepth 20000 in
theorem ggX6_setParts_X6_isGame : GoodIn wsX6_setParts wsX6_isGame := goodIn_r _ [7, 8, 9, 6, 10] (by decide +kernel) (by decide +kernel)
set_option maxRecDepth 20000 in
theorem gX6_setParts_X6_isGame : GoodIn wsX6_setParts (va_wsS RX6 84 yX6_isGame wsX6_isGame) := goodIn_app (goodIn_of _ (by decide +kernel)) ggX6_setParts_X6_isGame
set_option maxRecDepth 20000 in
theorem ggX6_setParts_X6_in : GoodIn wsX6_setParts wsX6_in := goodIn_r _ [10] (by decide +kernel) (by decide +kernel)
set_option maxRecDepth 20000 in
theorem gX6_setParts_X6_in : GoodIn wsX6_setParts (va_wsS RX6 74 yX6_in wsX6_in) := goodIn_app (goodIn_of _ (by decide +kernel)) ggX6_setParts_X6_in
theorem dX6_setParts_0 : decode cX6_setParts 0 = .ok (.aload_n 0, 1) := by decide +kernel
theorem dX6_setParts_1 : decode cX6_setParts 1 = .ok (.iload_n 1, 1) := by decide +kernel
theorem dX6_setParts_2 : decode cX6_setParts 2 = .ok (.invokestatic 84, 3) := by decide +kernel
theorem dX6_setParts_5 : decode cX6_setParts 5 = .ok (.ifCond .eq 12, 3) := by decide +kernel
theorem dX6_setParts_8 : decode cX6_setParts 8 = .ok (.iload_n 2, 1) := by decide +kernel
theorem dX6_setParts_9 : decode cX6_setParts 9 = .ok (.iconst 0, 1) := by decide +kernel
theorem dX6_setParts_10 : decode cX6_setParts 10 = .ok (.iconst 3, 1) := by decide +kernel
theorem dX6_setParts_11 : decode cX6_setParts 11 = .ok (.invokestatic 74, 3) := by decide +kernel
theorem dX6_setParts_14 : decode cX6_setParts 14 = .ok (.ifCond .ne 7, 3) := by decide +kernel
theorem dX6_setParts_17 : decode cX6_setParts 17 = .ok (.iconst 1, 1) := by decide +kernel
theorem dX6_setParts_18 : decode cX6_setParts 18 = .ok (.goto 28, 3) := by decide +kernel
theorem dX6_setParts_21 : decode cX6_setParts 21 = .ok (.iload_n 3, 1) := by decide +kernel
theorem dX6_setParts_22 : decode cX6_setParts 22 = .ok (.iconst 0, 1) := by decide +kernel
theorem dX6_setParts_23 : decode cX6_setParts 23 = .ok (.bipush 20, 2) := by decide +kernel
theorem dX6_setParts_25 : decode cX6_setParts 25 = .ok (.invokestatic 74, 3) := by decide +kernel
theorem dX6_setParts_28 : decode cX6_setParts 28 = .ok (.ifCond .eq 13, 3) := by decide +kernel
theorem dX6_setParts_31 : decode cX6_setParts 31 = .ok (.iload 4, 2) := by decide +kernel
theorem dX6_setParts_33 : decode cX6_setParts 33 = .ok (.iconst 0, 1) := by decide +kernel
theorem dX6_setParts_34 : decode cX6_setParts 34 = .ok (.iload_n 3, 1) := by decide +kernel
theorem dX6_setParts_35 : decode cX6_setParts 35 = .ok (.invokestatic 74, 3) := by decide +kernel
theorem dX6_setParts_38 : decode cX6_setParts 38 = .ok (.ifCond .ne 7, 3) := by decide +kernel
theorem dX6_setParts_41 : decode cX6_setParts 41 = .ok (.iconst 2, 1) := by decide +kernel
theorem dX6_setParts_42 : decode cX6_setParts 42 = .ok (.goto 4, 3) := by decide +kernel
theorem dX6_setParts_45 : decode cX6_setParts 45 = .ok (.iconst 0, 1) := by decide +kernel
theorem dX6_setParts_46 : decode cX6_setParts 46 = .ok (.putfield 70, 3) := by decide +kernel
theorem dX6_setParts_49 : decode cX6_setParts 49 = .ok (.aload_n 0, 1) := by decide +kernel
theorem dX6_setParts_50 : decode cX6_setParts 50 = .ok (.getfield 70, 3) := by decide +kernel
theorem dX6_setParts_53 : decode cX6_setParts 53 = .ok (.ifCond .ne 26, 3) := by decide +kernel
theorem dX6_setParts_56 : decode cX6_setParts 56 = .ok (.aload_n 0, 1) := by decide +kernel
theorem dX6_setParts_57 : decode cX6_setParts 57 = .ok (.getfield 19, 3) := by decide +kernel
theorem dX6_setParts_60 : decode cX6_setParts 60 = .ok (.iconst 4, 1) := by decide +kernel
theorem dX6_setParts_61 : decode cX6_setParts 61 = .ok (.iload_n 1, 1) := by decide +kernel
theorem dX6_setParts_62 : decode cX6_setParts 62 = .ok (.imul, 1) := by decide +kernel
theorem dX6_setParts_63 : decode cX6_setParts 63 = .ok (.iload_n 2, 1) := by decide +kernel
theorem dX6_setParts_64 : decode cX6_setParts 64 = .ok (.iadd, 1) := by decide +kernel
theorem dX6_setParts_65 : decode cX6_setParts 65 = .ok (.iload_n 3, 1) := by decide +kernel
theorem dX6_setParts_66 : decode cX6_setParts 66 = .ok (.iastore, 1) := by decide +kernel
theorem dX6_setParts_67 : decode cX6_setParts 67 = .ok (.aload_n 0, 1) := by decide +kernel
theorem dX6_setParts_68 : decode cX6_setParts 68 = .ok (.getfield 22, 3) := by decide +kernel
theorem dX6_setParts_71 : decode cX6_setParts 71 = .ok (.iconst 4, 1) := by decide +kernel
theorem dX6_setParts_72 : decode cX6_setParts 72 = .ok (.iload_n 1, 1) := by decide +kernel
theorem dX6_setParts_73 : decode cX6_setParts 73 = .ok (.imul, 1) := by decide +kernel
theorem dX6_setParts_74 : decode cX6_setParts 74 = .ok (.iload_n 2, 1) := by decide +kernel
theorem dX6_setParts_75 : decode cX6_setParts 75 = .ok (.iadd, 1) := by decide +kernel
theorem dX6_setParts_76 : decode cX6_setParts 76 = .ok (.iload 4, 2) := by decide +kernel
theorem dX6_setParts_78 : decode cX6_setParts 78 = .ok (.iastore, 1) := by decide +kernel
theorem dX6_setParts_79 : decode cX6_setParts 79 = .ok (.return_, 1) := by decide +kernel
set_option maxRecDepth 20000 in
theorem ggX6_setSeats_X6_in : GoodIn wsX6_setSeats wsX6_in := goodIn_r _ [7] (by decide +kernel) (by decide +kernel)
set_option maxRecDepth 20000 in
theorem gX6_setSeats_X6_in : GoodIn wsX6_setSeats (va_wsS RX6 74 yX6_in wsX6_in) := goodIn_app (goodIn_of _ (by decide +kernel)) ggX6_setSeats_X6_in
theorem dX6_setSeats_0 : decode cX6_setSeats 0 = .ok (.aload_n 0, 1) := by decide +kernel
theorem dX6_setSeats_1 : decode cX6_setSeats 1 = .ok (.iload_n 1, 1) := by decide +kernel
theorem dX6_setSeats_2 : decode cX6_setSeats 2 = .ok (.iconst 0, 1) := by decide +kernel
theorem dX6_setSeats_3 : decode cX6_setSeats 3 = .ok (.iconst 5, 1) := by decide +kernel
theorem dX6_setSeats_4 : decode cX6_setSeats 4 = .ok (.invokestatic 74, 3) := by decide +kernel
theorem dX6_setSeats_7 : decode cX6_setSeats 7 = .ok (.ifCond .ne 7, 3) := by decide +kernel
theorem dX6_setSeats_10 : decode cX6_setSeats 10 = .ok (.iconst 1, 1) := by decide +kernel
theorem dX6_setSeats_11 : decode cX6_setSeats 11 = .ok (.goto 31, 3) := by decide +kernel
theorem dX6_setSeats_14 : decode cX6_setSeats 14 = .ok (.iload_n 2, 1) := by decide +kernel
theorem dX6_setSeats_15 : decode cX6_setSeats 15 = .ok (.iconst 1, 1) := by decide +kernel
theorem dX6_setSeats_16 : decode cX6_setSeats 16 = .ok (.bipush 8, 2) := by decide +kernel
theorem dX6_setSeats_18 : decode cX6_setSeats 18 = .ok (.invokestatic 74, 3) := by decide +kernel
theorem dX6_setSeats_21 : decode cX6_setSeats 21 = .ok (.ifCond .ne 7, 3) := by decide +kernel
theorem dX6_setSeats_24 : decode cX6_setSeats 24 = .ok (.iconst 2, 1) := by decide +kernel
theorem dX6_setSeats_25 : decode cX6_setSeats 25 = .ok (.goto 17, 3) := by decide +kernel
theorem dX6_setSeats_28 : decode cX6_setSeats 28 = .ok (.aload_n 0, 1) := by decide +kernel
theorem dX6_setSeats_29 : decode cX6_setSeats 29 = .ok (.getfield 31, 3) := by decide +kernel
theorem dX6_setSeats_32 : decode cX6_setSeats 32 = .ok (.iload_n 1, 1) := by decide +kernel
theorem dX6_setSeats_33 : decode cX6_setSeats 33 = .ok (.iaload, 1) := by decide +kernel
theorem dX6_setSeats_34 : decode cX6_setSeats 34 = .ok (.ifCond .le 7, 3) := by decide +kernel
theorem dX6_setSeats_37 : decode cX6_setSeats 37 = .ok (.iconst 3, 1) := by decide +kernel
theorem dX6_setSeats_38 : decode cX6_setSeats 38 = .ok (.goto 4, 3) := by decide +kernel
theorem dX6_setSeats_41 : decode cX6_setSeats 41 = .ok (.iconst 0, 1) := by decide +kernel
theorem dX6_setSeats_42 : decode cX6_setSeats 42 = .ok (.putfield 70, 3) := by decide +kernel
theorem dX6_setSeats_45 : decode cX6_setSeats 45 = .ok (.aload_n 0, 1) := by decide +kernel
theorem dX6_setSeats_46 : decode cX6_setSeats 46 = .ok (.getfield 70, 3) := by decide +kernel
theorem dX6_setSeats_49 : decode cX6_setSeats 49 = .ok (.ifCond .le 5, 3) := by decide +kernel
theorem dX6_setSeats_52 : decode cX6_setSeats 52 = .ok (.iconst 0, 1) := by decide +kernel
theorem dX6_setSeats_53 : decode cX6_setSeats 53 = .ok (.ireturn, 1) := by decide +kernel
theorem dX6_setSeats_54 : decode cX6_setSeats 54 = .ok (.aload_n 0, 1) := by decide +kernel
theorem dX6_setSeats_55 : decode cX6_setSeats 55 = .ok (.getfield 28, 3) := by decide +kernel
theorem dX6_setSeats_58 : decode cX6_setSeats 58 = .ok (.iload_n 1, 1) := by decide +kernel
theorem dX6_setSeats_59 : decode cX6_setSeats 59 = .ok (.iaload, 1) := by decide +kernel
theorem dX6_setSeats_60 : decode cX6_setSeats 60 = .ok (.istore_n 3, 1) := by decide +kernel
theorem dX6_setSeats_61 : decode cX6_setSeats 61 = .ok (.aload_n 0, 1) := by decide +kernel
theorem dX6_setSeats_62 : decode cX6_setSeats 62 = .ok (.getfield 28, 3) := by decide +kernel
theorem dX6_setSeats_65 : decode cX6_setSeats 65 = .ok (.iload_n 1, 1) := by decide +kernel
theorem dX6_setSeats_66 : decode cX6_setSeats 66 = .ok (.iload_n 2, 1) := by decide +kernel
theorem dX6_setSeats_67 : decode cX6_setSeats 67 = .ok (.iastore, 1) := by decide +kernel
theorem dX6_setSeats_68 : decode cX6_setSeats 68 = .ok (.iload_n 3, 1) := by decide +kernel
theorem dX6_setSeats_69 : decode cX6_setSeats 69 = .ok (.ireturn, 1) := by decide +kernel
set_option maxRecDepth 20000 in
theorem ggX6_teach_X6_in : GoodIn wsX6_teach wsX6_in := goodIn_r _ [6] (by decide +kernel) (by decide +kernel)
set_option maxRecDepth 20000 in
theorem gX6_teach_X6_in : GoodIn wsX6_teach (va_wsS RX6 74 yX6_in wsX6_in) := goodIn_app (goodIn_of _ (by decide +kernel)) ggX6_teach_X6_in
set_option maxRecDepth 20000 in
theorem ggX6_teach_X6_isGame : GoodIn wsX6_teach wsX6_isGame := goodIn_r _ [9, 3, 4, 5, 6] (by decide +kernel) (by decide +kernel)
set_option maxRecDepth 20000 in
theorem gX6_teach_X6_isGame : GoodIn wsX6_teach (va_wsS RX6 84 yX6_isGame wsX6_isGame) := goodIn_app (goodIn_of _ (by decide +kernel)) ggX6_teach_X6_isGame
theorem dX6_teach_0 : decode cX6_teach 0 = .ok (.aload_n 0, 1) := by decide +kernel
theorem dX6_teach_1 : decode cX6_teach 1 = .ok (.iload_n 1, 1) := by decide +kernel
theorem dX6_teach_2 : decode cX6_teach 2 = .ok (.iconst 0, 1) := by decide +kernel
theorem dX6_teach_3 : decode cX6_teach 3 = .ok (.iconst 2, 1) := by decide +kernel
theorem dX6_teach_4 : decode cX6_teach 4 = .ok (.invokestatic 74, 3) := by decide +kernel
theorem dX6_teach_7 : decode cX6_teach 7 = .ok (.ifCond .eq 14, 3) := by decide +kernel
theorem dX6_teach_10 : decode cX6_teach 10 = .ok (.iload_n 2, 1) := by decide +kernel
theorem dX6_teach_11 : decode cX6_teach 11 = .ok (.invokestatic 84, 3) := by decide +kernel
theorem dX6_teach_14 : decode cX6_teach 14 = .ok (.ifCond .eq 7, 3) := by decide +kernel
theorem dX6_teach_17 : decode cX6_teach 17 = .ok (.iconst 0, 1) := by decide +kernel
theorem dX6_teach_18 : decode cX6_teach 18 = .ok (.goto 4, 3) := by decide +kernel
theorem dX6_teach_21 : decode cX6_teach 21 = .ok (.iconst 1, 1) := by decide +kernel
theorem dX6_teach_22 : decode cX6_teach 22 = .ok (.putfield 70, 3) := by decide +kernel
theorem dX6_teach_25 : decode cX6_teach 25 = .ok (.aload_n 0, 1) := by decide +kernel
theorem dX6_teach_26 : decode cX6_teach 26 = .ok (.getfield 70, 3) := by decide +kernel
theorem dX6_teach_29 : decode cX6_teach 29 = .ok (.ifCond .le 5, 3) := by decide +kernel
theorem dX6_teach_32 : decode cX6_teach 32 = .ok (.iconst 0, 1) := by decide +kernel
theorem dX6_teach_33 : decode cX6_teach 33 = .ok (.ireturn, 1) := by decide +kernel
theorem dX6_teach_34 : decode cX6_teach 34 = .ok (.aload_n 0, 1) := by decide +kernel
theorem dX6_teach_35 : decode cX6_teach 35 = .ok (.getfield 34, 3) := by decide +kernel
theorem dX6_teach_38 : decode cX6_teach 38 = .ok (.iconst 5, 1) := by decide +kernel
theorem dX6_teach_39 : decode cX6_teach 39 = .ok (.iload_n 1, 1) := by decide +kernel
theorem dX6_teach_40 : decode cX6_teach 40 = .ok (.imul, 1) := by decide +kernel
theorem dX6_teach_41 : decode cX6_teach 41 = .ok (.iload_n 2, 1) := by decide +kernel
theorem dX6_teach_42 : decode cX6_teach 42 = .ok (.iadd, 1) := by decide +kernel
theorem dX6_teach_43 : decode cX6_teach 43 = .ok (.iaload, 1) := by decide +kernel
theorem dX6_teach_44 : decode cX6_teach 44 = .ok (.ifCond .ne 7, 3) := by decide +kernel
theorem dX6_teach_47 : decode cX6_teach 47 = .ok (.iconst 1, 1) := by decide +kernel
theorem dX6_teach_48 : decode cX6_teach 48 = .ok (.goto 4, 3) := by decide +kernel
theorem dX6_teach_51 : decode cX6_teach 51 = .ok (.iconst 0, 1) := by decide +kernel
theorem dX6_teach_52 : decode cX6_teach 52 = .ok (.istore 4, 2) := by decide +kernel
theorem dX6_teach_54 : decode cX6_teach 54 = .ok (.aload_n 0, 1) := by decide +kernel
theorem dX6_teach_55 : decode cX6_teach 55 = .ok (.getfield 34, 3) := by decide +kernel
theorem dX6_teach_58 : decode cX6_teach 58 = .ok (.iconst 5, 1) := by decide +kernel
theorem dX6_teach_59 : decode cX6_teach 59 = .ok (.iload_n 1, 1) := by decide +kernel
theorem dX6_teach_60 : decode cX6_teach 60 = .ok (.imul, 1) := by decide +kernel
theorem dX6_teach_61 : decode cX6_teach 61 = .ok (.iload_n 2, 1) := by decide +kernel
theorem dX6_teach_62 : decode cX6_teach 62 = .ok (.iadd, 1) := by decide +kernel
theorem dX6_teach_63 : decode cX6_teach 63 = .ok (.iload_n 3, 1) := by decide +kernel
theorem dX6_teach_64 : decode cX6_teach 64 = .ok (.ifCond .eq 7, 3) := by decide +kernel
theorem dX6_teach_67 : decode cX6_teach 67 = .ok (.iconst 0, 1) := by decide +kernel
theorem dX6_teach_68 : decode cX6_teach 68 = .ok (.goto 4, 3) := by decide +kernel
theorem dX6_teach_71 : decode cX6_teach 71 = .ok (.iconst 1, 1) := by decide +kernel
theorem dX6_teach_72 : decode cX6_teach 72 = .ok (.iastore, 1) := by decide +kernel
theorem dX6_teach_73 : decode cX6_teach 73 = .ok (.iload 4, 2) := by decide +kernel
theorem dX6_teach_75 : decode cX6_teach 75 = .ok (.ireturn, 1) := by decide +kernel
set_option maxRecDepth 20000 in
theorem ggX6_buy_X6_isGame : GoodIn wsX6_buy wsX6_isGame := goodIn_r _ [9, 10, 11, 8, 12] (by decide +kernel) (by decide +kernel)
set_option maxRecDepth 20000 in
theorem gX6_buy_X6_isGame : GoodIn wsX6_buy (va_wsS RX6 84 yX6_isGame wsX6_isGame) := goodIn_app (goodIn_of _ (by decide +kernel)) ggX6_buy_X6_isGame
theorem dX6_buy_0 : decode cX6_buy 0 = .ok (.aload_n 0, 1) := by decide +kernel
theorem dX6_buy_1 : decode cX6_buy 1 = .ok (.iload_n 1, 1) := by decide +kernel
theorem dX6_buy_2 : decode cX6_buy 2 = .ok (.invokestatic 84, 3) := by decide +kernel
theorem dX6_buy_5 : decode cX6_buy 5 = .ok (.ifCond .ne 7, 3) := by decide +kernel
theorem dX6_buy_8 : decode cX6_buy 8 = .ok (.iconst 1, 1) := by decide +kernel
theorem dX6_buy_9 : decode cX6_buy 9 = .ok (.goto 17, 3) := by decide +kernel
theorem dX6_buy_12 : decode cX6_buy 12 = .ok (.aload_n 0, 1) := by decide +kernel
theorem dX6_buy_13 : decode cX6_buy 13 = .ok (.getfield 78, 3) := by decide +kernel
theorem dX6_buy_16 : decode cX6_buy 16 = .ok (.bipush 15, 2) := by decide +kernel
theorem dX6_buy_18 : decode cX6_buy 18 = .ok (.if_icmp .ne 7, 3) := by decide +kernel
theorem dX6_buy_21 : decode cX6_buy 21 = .ok (.iconst 2, 1) := by decide +kernel
theorem dX6_buy_22 : decode cX6_buy 22 = .ok (.goto 4, 3) := by decide +kernel
theorem dX6_buy_25 : decode cX6_buy 25 = .ok (.iconst 0, 1) := by decide +kernel
theorem dX6_buy_26 : decode cX6_buy 26 = .ok (.putfield 70, 3) := by decide +kernel
theorem dX6_buy_29 : decode cX6_buy 29 = .ok (.aload_n 0, 1) := by decide +kernel
theorem dX6_buy_30 : decode cX6_buy 30 = .ok (.getfield 70, 3) := by decide +kernel
theorem dX6_buy_33 : decode cX6_buy 33 = .ok (.ifCond .le 5, 3) := by decide +kernel
theorem dX6_buy_36 : decode cX6_buy 36 = .ok (.iconst 0, 1) := by decide +kernel
theorem dX6_buy_37 : decode cX6_buy 37 = .ok (.ireturn, 1) := by decide +kernel
theorem dX6_buy_38 : decode cX6_buy 38 = .ok (.aload_n 0, 1) := by decide +kernel
theorem dX6_buy_39 : decode cX6_buy 39 = .ok (.getfield 40, 3) := by decide +kernel
theorem dX6_buy_42 : decode cX6_buy 42 = .ok (.aload_n 0, 1) := by decide +kernel
theorem dX6_buy_43 : decode cX6_buy 43 = .ok (.getfield 78, 3) := by decide +kernel
theorem dX6_buy_46 : decode cX6_buy 46 = .ok (.iload_n 1, 1) := by decide +kernel
theorem dX6_buy_47 : decode cX6_buy 47 = .ok (.iastore, 1) := by decide +kernel
theorem dX6_buy_48 : decode cX6_buy 48 = .ok (.iconst 0, 1) := by decide +kernel
theorem dX6_buy_49 : decode cX6_buy 49 = .ok (.istore_n 2, 1) := by decide +kernel
theorem dX6_buy_50 : decode cX6_buy 50 = .ok (.iload_n 2, 1) := by decide +kernel
theorem dX6_buy_51 : decode cX6_buy 51 = .ok (.iconst 4, 1) := by decide +kernel
theorem dX6_buy_52 : decode cX6_buy 52 = .ok (.if_icmp .ge 32, 3) := by decide +kernel
theorem dX6_buy_55 : decode cX6_buy 55 = .ok (.aload_n 0, 1) := by decide +kernel
theorem dX6_buy_56 : decode cX6_buy 56 = .ok (.getfield 46, 3) := by decide +kernel
theorem dX6_buy_59 : decode cX6_buy 59 = .ok (.iconst 4, 1) := by decide +kernel
theorem dX6_buy_60 : decode cX6_buy 60 = .ok (.aload_n 0, 1) := by decide +kernel
theorem dX6_buy_61 : decode cX6_buy 61 = .ok (.getfield 78, 3) := by decide +kernel
theorem dX6_buy_64 : decode cX6_buy 64 = .ok (.imul, 1) := by decide +kernel
theorem dX6_buy_65 : decode cX6_buy 65 = .ok (.iload_n 2, 1) := by decide +kernel
theorem dX6_buy_66 : decode cX6_buy 66 = .ok (.iadd, 1) := by decide +kernel
theorem dX6_buy_67 : decode cX6_buy 67 = .ok (.aload_n 0, 1) := by decide +kernel
theorem dX6_buy_68 : decode cX6_buy 68 = .ok (.getfield 19, 3) := by decide +kernel
theorem dX6_buy_71 : decode cX6_buy 71 = .ok (.iconst 4, 1) := by decide +kernel
theorem dX6_buy_72 : decode cX6_buy 72 = .ok (.iload_n 1, 1) := by decide +kernel
theorem dX6_buy_73 : decode cX6_buy 73 = .ok (.imul, 1) := by decide +kernel
theorem dX6_buy_74 : decode cX6_buy 74 = .ok (.iload_n 2, 1) := by decide +kernel
theorem dX6_buy_75 : decode cX6_buy 75 = .ok (.iadd, 1) := by decide +kernel
theorem dX6_buy_76 : decode cX6_buy 76 = .ok (.iaload, 1) := by decide +kernel
theorem dX6_buy_77 : decode cX6_buy 77 = .ok (.iastore, 1) := by decide +kernel
theorem dX6_buy_78 : decode cX6_buy 78 = .ok (.iinc 2 1, 3) := by decide +kernel
theorem dX6_buy_81 : decode cX6_buy 81 = .ok (.goto (-31), 3) := by decide +kernel
theorem dX6_buy_84 : decode cX6_buy 84 = .ok (.aload_n 0, 1) := by decide +kernel
theorem dX6_buy_85 : decode cX6_buy 85 = .ok (.dup, 1) := by decide +kernel
theorem dX6_buy_86 : decode cX6_buy 86 = .ok (.getfield 78, 3) := by decide +kernel
theorem dX6_buy_89 : decode cX6_buy 89 = .ok (.iconst 1, 1) := by decide +kernel
theorem dX6_buy_90 : decode cX6_buy 90 = .ok (.iadd, 1) := by decide +kernel
theorem dX6_buy_91 : decode cX6_buy 91 = .ok (.putfield 78, 3) := by decide +kernel
theorem dX6_buy_94 : decode cX6_buy 94 = .ok (.aload_n 0, 1) := by decide +kernel
theorem dX6_buy_95 : decode cX6_buy 95 = .ok (.getfield 78, 3) := by decide +kernel
theorem dX6_buy_98 : decode cX6_buy 98 = .ok (.iconst 1, 1) := by decide +kernel
theorem dX6_buy_99 : decode cX6_buy 99 = .ok (.isub, 1) := by decide +kernel
theorem dX6_buy_100 : decode cX6_buy 100 = .ok (.ireturn, 1) := by decide +kernel
set_option maxRecDepth 20000 in
theorem ggX6_count_X6_isCopy : GoodIn wsX6_count wsX6_isCopy := goodIn_r _ [8, 9, 10, 11, 7, 12, 17, 18, 19, 20, 21, 22, 23, 24, 25, 26, 27, 28, 29, 30, 31, 32, 33, 34, 35, 36, 37, 38, 39, 40] (by decide +kernel) (by decide +kernel)
set_option maxRecDepth 20000 in
theorem gX6_count_X6_isCopy : GoodIn wsX6_count (wsV RX6 88 RX6 yX6_isCopy wsX6_isCopy) := goodIn_app (goodIn_of _ (by decide +kernel)) ggX6_count_X6_isCopy
set_option maxRecDepth 20000 in
theorem ggX6_count_X6_in : GoodIn wsX6_count wsX6_in := goodIn_r _ [12] (by decide +kernel) (by decide +kernel)
set_option maxRecDepth 20000 in
theorem gX6_count_X6_in : GoodIn wsX6_count (va_wsS RX6 74 yX6_in wsX6_in) := goodIn_app (goodIn_of _ (by decide +kernel)) ggX6_count_X6_in
set_option maxRecDepth 20000 in
theorem ggX6_count_X6_fails : GoodIn wsX6_count wsX6_fails := goodIn_r _ [16, 1, 17, 18, 19, 20, 21, 22, 23, 24, 25, 26, 27, 28, 29, 30, 31, 32, 33, 34, 35, 36, 37, 38, 39, 40] (by decide +kernel) (by decide +kernel)
set_option maxRecDepth 20000 in
theorem gX6_count_X6_fails : GoodIn wsX6_count (wsV RX6 91 RX6 yX6_fails wsX6_fails) := goodIn_app (goodIn_of _ (by decide +kernel)) ggX6_count_X6_fails
theorem dX6_count_0 : decode cX6_count 0 = .ok (.aload_n 0, 1) := by decide +kernel
theorem dX6_count_1 : decode cX6_count 1 = .ok (.aload_n 0, 1) := by decide +kernel
theorem dX6_count_2 : decode cX6_count 2 = .ok (.iload_n 1, 1) := by decide +kernel
theorem dX6_count_3 : decode cX6_count 3 = .ok (.invokevirtual 88, 3) := by decide +kernel
theorem dX6_count_6 : decode cX6_count 6 = .ok (.ifCond .eq 12, 3) := by decide +kernel
theorem dX6_count_9 : decode cX6_count 9 = .ok (.iload_n 2, 1) := by decide +kernel
theorem dX6_count_10 : decode cX6_count 10 = .ok (.iconst 0, 1) := by decide +kernel
theorem dX6_count_11 : decode cX6_count 11 = .ok (.iconst 3, 1) := by decide +kernel
theorem dX6_count_12 : decode cX6_count 12 = .ok (.invokestatic 74, 3) := by decide +kernel
theorem dX6_count_15 : decode cX6_count 15 = .ok (.ifCond .ne 7, 3) := by decide +kernel
theorem dX6_count_18 : decode cX6_count 18 = .ok (.iconst 1, 1) := by decide +kernel
theorem dX6_count_19 : decode cX6_count 19 = .ok (.goto 19, 3) := by decide +kernel
theorem dX6_count_22 : decode cX6_count 22 = .ok (.iload_n 3, 1) := by decide +kernel
theorem dX6_count_23 : decode cX6_count 23 = .ok (.bipush (-20), 2) := by decide +kernel
theorem dX6_count_25 : decode cX6_count 25 = .ok (.bipush 20, 2) := by decide +kernel
theorem dX6_count_27 : decode cX6_count 27 = .ok (.invokestatic 74, 3) := by decide +kernel
theorem dX6_count_30 : decode cX6_count 30 = .ok (.ifCond .ne 7, 3) := by decide +kernel
theorem dX6_count_33 : decode cX6_count 33 = .ok (.iconst 2, 1) := by decide +kernel
theorem dX6_count_34 : decode cX6_count 34 = .ok (.goto 4, 3) := by decide +kernel
theorem dX6_count_37 : decode cX6_count 37 = .ok (.iconst 0, 1) := by decide +kernel
theorem dX6_count_38 : decode cX6_count 38 = .ok (.putfield 70, 3) := by decide +kernel
theorem dX6_count_41 : decode cX6_count 41 = .ok (.aload_n 0, 1) := by decide +kernel
theorem dX6_count_42 : decode cX6_count 42 = .ok (.getfield 70, 3) := by decide +kernel
theorem dX6_count_45 : decode cX6_count 45 = .ok (.ifCond .le 5, 3) := by decide +kernel
theorem dX6_count_48 : decode cX6_count 48 = .ok (.iconst 0, 1) := by decide +kernel
theorem dX6_count_49 : decode cX6_count 49 = .ok (.ireturn, 1) := by decide +kernel
theorem dX6_count_50 : decode cX6_count 50 = .ok (.aload_n 0, 1) := by decide +kernel
theorem dX6_count_51 : decode cX6_count 51 = .ok (.getfield 46, 3) := by decide +kernel
theorem dX6_count_54 : decode cX6_count 54 = .ok (.iconst 4, 1) := by decide +kernel
theorem dX6_count_55 : decode cX6_count 55 = .ok (.iload_n 1, 1) := by decide +kernel
theorem dX6_count_56 : decode cX6_count 56 = .ok (.imul, 1) := by decide +kernel
theorem dX6_count_57 : decode cX6_count 57 = .ok (.iload_n 2, 1) := by decide +kernel
theorem dX6_count_58 : decode cX6_count 58 = .ok (.iadd, 1) := by decide +kernel
theorem dX6_count_59 : decode cX6_count 59 = .ok (.iaload, 1) := by decide +kernel
theorem dX6_count_60 : decode cX6_count 60 = .ok (.iload_n 3, 1) := by decide +kernel
theorem dX6_count_61 : decode cX6_count 61 = .ok (.iadd, 1) := by decide +kernel
theorem dX6_count_62 : decode cX6_count 62 = .ok (.istore 4, 2) := by decide +kernel
theorem dX6_count_64 : decode cX6_count 64 = .ok (.aload_n 0, 1) := by decide +kernel
theorem dX6_count_65 : decode cX6_count 65 = .ok (.getfield 43, 3) := by decide +kernel
theorem dX6_count_68 : decode cX6_count 68 = .ok (.iload_n 1, 1) := by decide +kernel
theorem dX6_count_69 : decode cX6_count 69 = .ok (.iaload, 1) := by decide +kernel
theorem dX6_count_70 : decode cX6_count 70 = .ok (.iconst 2, 1) := by decide +kernel
theorem dX6_count_71 : decode cX6_count 71 = .ok (.if_icmp .eq 14, 3) := by decide +kernel
theorem dX6_count_74 : decode cX6_count 74 = .ok (.iload 4, 2) := by decide +kernel
theorem dX6_count_76 : decode cX6_count 76 = .ok (.iconst 0, 1) := by decide +kernel
theorem dX6_count_77 : decode cX6_count 77 = .ok (.bipush 40, 2) := by decide +kernel
theorem dX6_count_79 : decode cX6_count 79 = .ok (.invokestatic 74, 3) := by decide +kernel
theorem dX6_count_82 : decode cX6_count 82 = .ok (.ifCond .ne 9, 3) := by decide +kernel
theorem dX6_count_85 : decode cX6_count 85 = .ok (.aload_n 0, 1) := by decide +kernel
theorem dX6_count_86 : decode cX6_count 86 = .ok (.iconst 3, 1) := by decide +kernel
theorem dX6_count_87 : decode cX6_count 87 = .ok (.invokevirtual 91, 3) := by decide +kernel
theorem dX6_count_90 : decode cX6_count 90 = .ok (.ireturn, 1) := by decide +kernel
theorem dX6_count_91 : decode cX6_count 91 = .ok (.aload_n 0, 1) := by decide +kernel
theorem dX6_count_92 : decode cX6_count 92 = .ok (.getfield 46, 3) := by decide +kernel
theorem dX6_count_95 : decode cX6_count 95 = .ok (.iconst 4, 1) := by decide +kernel
theorem dX6_count_96 : decode cX6_count 96 = .ok (.iload_n 1, 1) := by decide +kernel
theorem dX6_count_97 : decode cX6_count 97 = .ok (.imul, 1) := by decide +kernel
theorem dX6_count_98 : decode cX6_count 98 = .ok (.iload_n 2, 1) := by decide +kernel
theorem dX6_count_99 : decode cX6_count 99 = .ok (.iadd, 1) := by decide +kernel
theorem dX6_count_100 : decode cX6_count 100 = .ok (.iload 4, 2) := by decide +kernel
theorem dX6_count_102 : decode cX6_count 102 = .ok (.iastore, 1) := by decide +kernel
theorem dX6_count_103 : decode cX6_count 103 = .ok (.iload 4, 2) := by decide +kernel
theorem dX6_count_105 : decode cX6_count 105 = .ok (.ireturn, 1) := by decide +kernel
set_option maxRecDepth 20000 in
theorem ggX6_fill_X6_isCopy : GoodIn wsX6_fill wsX6_isCopy := goodIn_r _ [10, 11, 12, 13, 9, 14, 19, 20, 21, 22, 23, 24, 25, 26, 27, 28, 29, 30, 31, 32, 33, 34, 35, 36, 37, 38, 39, 40, 41, 42] (by decide +kernel) (by decide +kernel)
set_option maxRecDepth 20000 in
theorem gX6_fill_X6_isCopy : GoodIn wsX6_fill (wsV RX6 88 RX6 yX6_isCopy wsX6_isCopy) := goodIn_app (goodIn_of _ (by decide +kernel)) ggX6_fill_X6_isCopy
set_option maxRecDepth 20000 in
theorem ggX6_fill_X6_fails : GoodIn wsX6_fill wsX6_fails := goodIn_r _ [18, 1, 19, 20, 21, 22, 23, 24, 25, 26, 27, 28, 29, 30, 31, 32, 33, 34, 35, 36, 37, 38, 39, 40, 41, 42] (by decide +kernel) (by decide +kernel)
set_option maxRecDepth 20000 in
theorem gX6_fill_X6_fails : GoodIn wsX6_fill (wsV RX6 91 RX6 yX6_fails wsX6_fails) := goodIn_app (goodIn_of _ (by decide +kernel)) ggX6_fill_X6_fails
theorem dX6_fill_0 : decode cX6_fill 0 = .ok (.aload_n 0, 1) := by decide +kernel
theorem dX6_fill_1 : decode cX6_fill 1 = .ok (.aload_n 0, 1) := by decide +kernel
theorem dX6_fill_2 : decode cX6_fill 2 = .ok (.iload_n 1, 1) := by decide +kernel
theorem dX6_fill_3 : decode cX6_fill 3 = .ok (.invokevirtual 88, 3) := by decide +kernel
theorem dX6_fill_6 : decode cX6_fill 6 = .ok (.ifCond .eq 11, 3) := by decide +kernel
theorem dX6_fill_9 : decode cX6_fill 9 = .ok (.aload_n 0, 1) := by decide +kernel
theorem dX6_fill_10 : decode cX6_fill 10 = .ok (.iload_n 2, 1) := by decide +kernel
theorem dX6_fill_11 : decode cX6_fill 11 = .ok (.invokevirtual 88, 3) := by decide +kernel
theorem dX6_fill_14 : decode cX6_fill 14 = .ok (.ifCond .ne 7, 3) := by decide +kernel
theorem dX6_fill_17 : decode cX6_fill 17 = .ok (.iconst 1, 1) := by decide +kernel
theorem dX6_fill_18 : decode cX6_fill 18 = .ok (.goto 4, 3) := by decide +kernel
theorem dX6_fill_21 : decode cX6_fill 21 = .ok (.iconst 0, 1) := by decide +kernel
theorem dX6_fill_22 : decode cX6_fill 22 = .ok (.putfield 70, 3) := by decide +kernel
theorem dX6_fill_25 : decode cX6_fill 25 = .ok (.aload_n 0, 1) := by decide +kernel
theorem dX6_fill_26 : decode cX6_fill 26 = .ok (.getfield 70, 3) := by decide +kernel
theorem dX6_fill_29 : decode cX6_fill 29 = .ok (.ifCond .le 5, 3) := by decide +kernel
theorem dX6_fill_32 : decode cX6_fill 32 = .ok (.iconst 0, 1) := by decide +kernel
theorem dX6_fill_33 : decode cX6_fill 33 = .ok (.ireturn, 1) := by decide +kernel
theorem dX6_fill_34 : decode cX6_fill 34 = .ok (.iload_n 1, 1) := by decide +kernel
theorem dX6_fill_35 : decode cX6_fill 35 = .ok (.iload_n 2, 1) := by decide +kernel
theorem dX6_fill_36 : decode cX6_fill 36 = .ok (.if_icmp .eq 18, 3) := by decide +kernel
theorem dX6_fill_39 : decode cX6_fill 39 = .ok (.aload_n 0, 1) := by decide +kernel
theorem dX6_fill_40 : decode cX6_fill 40 = .ok (.getfield 40, 3) := by decide +kernel
theorem dX6_fill_43 : decode cX6_fill 43 = .ok (.iload_n 1, 1) := by decide +kernel
theorem dX6_fill_44 : decode cX6_fill 44 = .ok (.iaload, 1) := by decide +kernel
theorem dX6_fill_45 : decode cX6_fill 45 = .ok (.aload_n 0, 1) := by decide +kernel
theorem dX6_fill_46 : decode cX6_fill 46 = .ok (.getfield 40, 3) := by decide +kernel
theorem dX6_fill_49 : decode cX6_fill 49 = .ok (.iload_n 2, 1) := by decide +kernel
theorem dX6_fill_50 : decode cX6_fill 50 = .ok (.iaload, 1) := by decide +kernel
theorem dX6_fill_51 : decode cX6_fill 51 = .ok (.if_icmp .eq 9, 3) := by decide +kernel
theorem dX6_fill_54 : decode cX6_fill 54 = .ok (.aload_n 0, 1) := by decide +kernel
theorem dX6_fill_55 : decode cX6_fill 55 = .ok (.iconst 2, 1) := by decide +kernel
theorem dX6_fill_56 : decode cX6_fill 56 = .ok (.invokevirtual 91, 3) := by decide +kernel
theorem dX6_fill_59 : decode cX6_fill 59 = .ok (.ireturn, 1) := by decide +kernel
theorem dX6_fill_60 : decode cX6_fill 60 = .ok (.aload_n 0, 1) := by decide +kernel
theorem dX6_fill_61 : decode cX6_fill 61 = .ok (.getfield 43, 3) := by decide +kernel
theorem dX6_fill_64 : decode cX6_fill 64 = .ok (.iload_n 1, 1) := by decide +kernel
theorem dX6_fill_65 : decode cX6_fill 65 = .ok (.iaload, 1) := by decide +kernel
theorem dX6_fill_66 : decode cX6_fill 66 = .ok (.ifCond .ne 12, 3) := by decide +kernel
theorem dX6_fill_69 : decode cX6_fill 69 = .ok (.aload_n 0, 1) := by decide +kernel
theorem dX6_fill_70 : decode cX6_fill 70 = .ok (.getfield 43, 3) := by decide +kernel
theorem dX6_fill_73 : decode cX6_fill 73 = .ok (.iload_n 2, 1) := by decide +kernel
theorem dX6_fill_74 : decode cX6_fill 74 = .ok (.iaload, 1) := by decide +kernel
theorem dX6_fill_75 : decode cX6_fill 75 = .ok (.ifCond .eq 9, 3) := by decide +kernel
theorem dX6_fill_78 : decode cX6_fill 78 = .ok (.aload_n 0, 1) := by decide +kernel
theorem dX6_fill_79 : decode cX6_fill 79 = .ok (.iconst 3, 1) := by decide +kernel
theorem dX6_fill_80 : decode cX6_fill 80 = .ok (.invokevirtual 91, 3) := by decide +kernel
theorem dX6_fill_83 : decode cX6_fill 83 = .ok (.ireturn, 1) := by decide +kernel
theorem dX6_fill_84 : decode cX6_fill 84 = .ok (.iconst 0, 1) := by decide +kernel
theorem dX6_fill_85 : decode cX6_fill 85 = .ok (.istore_n 3, 1) := by decide +kernel
theorem dX6_fill_86 : decode cX6_fill 86 = .ok (.iconst 0, 1) := by decide +kernel
theorem dX6_fill_87 : decode cX6_fill 87 = .ok (.istore 4, 2) := by decide +kernel
theorem dX6_fill_89 : decode cX6_fill 89 = .ok (.iload 4, 2) := by decide +kernel
theorem dX6_fill_91 : decode cX6_fill 91 = .ok (.iconst 4, 1) := by decide +kernel
theorem dX6_fill_92 : decode cX6_fill 92 = .ok (.if_icmp .ge 123, 3) := by decide +kernel
theorem dX6_fill_95 : decode cX6_fill 95 = .ok (.aload_n 0, 1) := by decide +kernel
theorem dX6_fill_96 : decode cX6_fill 96 = .ok (.getfield 19, 3) := by decide +kernel
theorem dX6_fill_99 : decode cX6_fill 99 = .ok (.iconst 4, 1) := by decide +kernel
theorem dX6_fill_100 : decode cX6_fill 100 = .ok (.aload_n 0, 1) := by decide +kernel
theorem dX6_fill_101 : decode cX6_fill 101 = .ok (.getfield 40, 3) := by decide +kernel
theorem dX6_fill_104 : decode cX6_fill 104 = .ok (.iload_n 1, 1) := by decide +kernel
theorem dX6_fill_105 : decode cX6_fill 105 = .ok (.iaload, 1) := by decide +kernel
theorem dX6_fill_106 : decode cX6_fill 106 = .ok (.imul, 1) := by decide +kernel
theorem dX6_fill_107 : decode cX6_fill 107 = .ok (.iload 4, 2) := by decide +kernel
theorem dX6_fill_109 : decode cX6_fill 109 = .ok (.iadd, 1) := by decide +kernel
theorem dX6_fill_110 : decode cX6_fill 110 = .ok (.iaload, 1) := by decide +kernel
theorem dX6_fill_111 : decode cX6_fill 111 = .ok (.aload_n 0, 1) := by decide +kernel
theorem dX6_fill_112 : decode cX6_fill 112 = .ok (.getfield 46, 3) := by decide +kernel
theorem dX6_fill_115 : decode cX6_fill 115 = .ok (.iconst 4, 1) := by decide +kernel
theorem dX6_fill_116 : decode cX6_fill 116 = .ok (.iload_n 1, 1) := by decide +kernel
theorem dX6_fill_117 : decode cX6_fill 117 = .ok (.imul, 1) := by decide +kernel
theorem dX6_fill_118 : decode cX6_fill 118 = .ok (.iload 4, 2) := by decide +kernel
theorem dX6_fill_120 : decode cX6_fill 120 = .ok (.iadd, 1) := by decide +kernel
theorem dX6_fill_121 : decode cX6_fill 121 = .ok (.iaload, 1) := by decide +kernel
theorem dX6_fill_122 : decode cX6_fill 122 = .ok (.isub, 1) := by decide +kernel
theorem dX6_fill_123 : decode cX6_fill 123 = .ok (.istore 5, 2) := by decide +kernel
theorem dX6_fill_125 : decode cX6_fill 125 = .ok (.iload 5, 2) := by decide +kernel
theorem dX6_fill_127 : decode cX6_fill 127 = .ok (.aload_n 0, 1) := by decide +kernel
theorem dX6_fill_128 : decode cX6_fill 128 = .ok (.getfield 46, 3) := by decide +kernel
theorem dX6_fill_131 : decode cX6_fill 131 = .ok (.iconst 4, 1) := by decide +kernel
theorem dX6_fill_132 : decode cX6_fill 132 = .ok (.iload_n 2, 1) := by decide +kernel
theorem dX6_fill_133 : decode cX6_fill 133 = .ok (.imul, 1) := by decide +kernel
theorem dX6_fill_134 : decode cX6_fill 134 = .ok (.iload 4, 2) := by decide +kernel
theorem dX6_fill_136 : decode cX6_fill 136 = .ok (.iadd, 1) := by decide +kernel
theorem dX6_fill_137 : decode cX6_fill 137 = .ok (.iaload, 1) := by decide +kernel
theorem dX6_fill_138 : decode cX6_fill 138 = .ok (.if_icmp .ge 8, 3) := by decide +kernel
theorem dX6_fill_141 : decode cX6_fill 141 = .ok (.iload 5, 2) := by decide +kernel
theorem dX6_fill_143 : decode cX6_fill 143 = .ok (.goto 14, 3) := by decide +kernel
theorem dX6_fill_146 : decode cX6_fill 146 = .ok (.aload_n 0, 1) := by decide +kernel
theorem dX6_fill_147 : decode cX6_fill 147 = .ok (.getfield 46, 3) := by decide +kernel
theorem dX6_fill_150 : decode cX6_fill 150 = .ok (.iconst 4, 1) := by decide +kernel
theorem dX6_fill_151 : decode cX6_fill 151 = .ok (.iload_n 2, 1) := by decide +kernel
theorem dX6_fill_152 : decode cX6_fill 152 = .ok (.imul, 1) := by decide +kernel
theorem dX6_fill_153 : decode cX6_fill 153 = .ok (.iload 4, 2) := by decide +kernel
theorem dX6_fill_155 : decode cX6_fill 155 = .ok (.iadd, 1) := by decide +kernel
theorem dX6_fill_156 : decode cX6_fill 156 = .ok (.iaload, 1) := by decide +kernel
theorem dX6_fill_157 : decode cX6_fill 157 = .ok (.istore 6, 2) := by decide +kernel
theorem dX6_fill_159 : decode cX6_fill 159 = .ok (.iload 6, 2) := by decide +kernel
theorem dX6_fill_161 : decode cX6_fill 161 = .ok (.ifCond .ge 7, 3) := by decide +kernel
theorem dX6_fill_164 : decode cX6_fill 164 = .ok (.iconst 0, 1) := by decide +kernel
theorem dX6_fill_165 : decode cX6_fill 165 = .ok (.goto 5, 3) := by decide +kernel
theorem dX6_fill_168 : decode cX6_fill 168 = .ok (.iload 6, 2) := by decide +kernel
theorem dX6_fill_170 : decode cX6_fill 170 = .ok (.istore 6, 2) := by decide +kernel
theorem dX6_fill_172 : decode cX6_fill 172 = .ok (.aload_n 0, 1) := by decide +kernel
theorem dX6_fill_173 : decode cX6_fill 173 = .ok (.getfield 46, 3) := by decide +kernel
theorem dX6_fill_176 : decode cX6_fill 176 = .ok (.iconst 4, 1) := by decide +kernel
theorem dX6_fill_177 : decode cX6_fill 177 = .ok (.iload_n 1, 1) := by decide +kernel
theorem dX6_fill_178 : decode cX6_fill 178 = .ok (.imul, 1) := by decide +kernel
theorem dX6_fill_179 : decode cX6_fill 179 = .ok (.iload 4, 2) := by decide +kernel
theorem dX6_fill_181 : decode cX6_fill 181 = .ok (.iadd, 1) := by decide +kernel
theorem dX6_fill_182 : decode cX6_fill 182 = .ok (.dup2, 1) := by decide +kernel
theorem dX6_fill_183 : decode cX6_fill 183 = .ok (.iaload, 1) := by decide +kernel
theorem dX6_fill_184 : decode cX6_fill 184 = .ok (.iload 6, 2) := by decide +kernel
theorem dX6_fill_186 : decode cX6_fill 186 = .ok (.iadd, 1) := by decide +kernel
theorem dX6_fill_187 : decode cX6_fill 187 = .ok (.iastore, 1) := by decide +kernel
theorem dX6_fill_188 : decode cX6_fill 188 = .ok (.aload_n 0, 1) := by decide +kernel
theorem dX6_fill_189 : decode cX6_fill 189 = .ok (.getfield 46, 3) := by decide +kernel
theorem dX6_fill_192 : decode cX6_fill 192 = .ok (.iconst 4, 1) := by decide +kernel
theorem dX6_fill_193 : decode cX6_fill 193 = .ok (.iload_n 2, 1) := by decide +kernel
theorem dX6_fill_194 : decode cX6_fill 194 = .ok (.imul, 1) := by decide +kernel
theorem dX6_fill_195 : decode cX6_fill 195 = .ok (.iload 4, 2) := by decide +kernel
theorem dX6_fill_197 : decode cX6_fill 197 = .ok (.iadd, 1) := by decide +kernel
theorem dX6_fill_198 : decode cX6_fill 198 = .ok (.dup2, 1) := by decide +kernel
theorem dX6_fill_199 : decode cX6_fill 199 = .ok (.iaload, 1) := by decide +kernel
theorem dX6_fill_200 : decode cX6_fill 200 = .ok (.iload 6, 2) := by decide +kernel
theorem dX6_fill_202 : decode cX6_fill 202 = .ok (.isub, 1) := by decide +kernel
theorem dX6_fill_203 : decode cX6_fill 203 = .ok (.iastore, 1) := by decide +kernel
theorem dX6_fill_204 : decode cX6_fill 204 = .ok (.iload_n 3, 1) := by decide +kernel
theorem dX6_fill_205 : decode cX6_fill 205 = .ok (.iload 6, 2) := by decide +kernel
theorem dX6_fill_207 : decode cX6_fill 207 = .ok (.iadd, 1) := by decide +kernel
theorem dX6_fill_208 : decode cX6_fill 208 = .ok (.istore_n 3, 1) := by decide +kernel
theorem dX6_fill_209 : decode cX6_fill 209 = .ok (.iinc 4 1, 3) := by decide +kernel
theorem dX6_fill_212 : decode cX6_fill 212 = .ok (.goto (-123), 3) := by decide +kernel
theorem dX6_fill_215 : decode cX6_fill 215 = .ok (.iload_n 3, 1) := by decide +kernel
theorem dX6_fill_216 : decode cX6_fill 216 = .ok (.ireturn, 1) := by decide +kernel
theorem dX6_playable_0 : decode cX6_playable 0 = .ok (.iconst 1, 1) := by decide +kernel
theorem dX6_playable_1 : decode cX6_playable 1 = .ok (.istore_n 2, 1) := by decide +kernel
theorem dX6_playable_2 : decode cX6_playable 2 = .ok (.iconst 0, 1) := by decide +kernel
theorem dX6_playable_3 : decode cX6_playable 3 = .ok (.istore_n 3, 1) := by decide +kernel
theorem dX6_playable_4 : decode cX6_playable 4 = .ok (.iload_n 3, 1) := by decide +kernel
theorem dX6_playable_5 : decode cX6_playable 5 = .ok (.iconst 4, 1) := by decide +kernel
theorem dX6_playable_6 : decode cX6_playable 6 = .ok (.if_icmp .ge 47, 3) := by decide +kernel
theorem dX6_playable_9 : decode cX6_playable 9 = .ok (.iload_n 2, 1) := by decide +kernel
theorem dX6_playable_10 : decode cX6_playable 10 = .ok (.ifCond .eq 35, 3) := by decide +kernel
theorem dX6_playable_13 : decode cX6_playable 13 = .ok (.aload_n 0, 1) := by decide +kernel
theorem dX6_playable_14 : decode cX6_playable 14 = .ok (.getfield 46, 3) := by decide +kernel
theorem dX6_playable_17 : decode cX6_playable 17 = .ok (.iconst 4, 1) := by decide +kernel
theorem dX6_playable_18 : decode cX6_playable 18 = .ok (.iload_n 1, 1) := by decide +kernel
theorem dX6_playable_19 : decode cX6_playable 19 = .ok (.imul, 1) := by decide +kernel
theorem dX6_playable_20 : decode cX6_playable 20 = .ok (.iload_n 3, 1) := by decide +kernel
theorem dX6_playable_21 : decode cX6_playable 21 = .ok (.iadd, 1) := by decide +kernel
theorem dX6_playable_22 : decode cX6_playable 22 = .ok (.iaload, 1) := by decide +kernel
theorem dX6_playable_23 : decode cX6_playable 23 = .ok (.aload_n 0, 1) := by decide +kernel
theorem dX6_playable_24 : decode cX6_playable 24 = .ok (.getfield 22, 3) := by decide +kernel
theorem dX6_playable_27 : decode cX6_playable 27 = .ok (.iconst 4, 1) := by decide +kernel
theorem dX6_playable_28 : decode cX6_playable 28 = .ok (.aload_n 0, 1) := by decide +kernel
theorem dX6_playable_29 : decode cX6_playable 29 = .ok (.getfield 40, 3) := by decide +kernel
theorem dX6_playable_32 : decode cX6_playable 32 = .ok (.iload_n 1, 1) := by decide +kernel
theorem dX6_playable_33 : decode cX6_playable 33 = .ok (.iaload, 1) := by decide +kernel
theorem dX6_playable_34 : decode cX6_playable 34 = .ok (.imul, 1) := by decide +kernel
theorem dX6_playable_35 : decode cX6_playable 35 = .ok (.iload_n 3, 1) := by decide +kernel
theorem dX6_playable_36 : decode cX6_playable 36 = .ok (.iadd, 1) := by decide +kernel
theorem dX6_playable_37 : decode cX6_playable 37 = .ok (.iaload, 1) := by decide +kernel
theorem dX6_playable_38 : decode cX6_playable 38 = .ok (.if_icmp .lt 7, 3) := by decide +kernel
theorem dX6_playable_41 : decode cX6_playable 41 = .ok (.iconst 1, 1) := by decide +kernel
theorem dX6_playable_42 : decode cX6_playable 42 = .ok (.goto 4, 3) := by decide +kernel
theorem dX6_playable_45 : decode cX6_playable 45 = .ok (.iconst 0, 1) := by decide +kernel
theorem dX6_playable_46 : decode cX6_playable 46 = .ok (.istore_n 2, 1) := by decide +kernel
theorem dX6_playable_47 : decode cX6_playable 47 = .ok (.iinc 3 1, 3) := by decide +kernel
theorem dX6_playable_50 : decode cX6_playable 50 = .ok (.goto (-46), 3) := by decide +kernel
theorem dX6_playable_53 : decode cX6_playable 53 = .ok (.iload_n 2, 1) := by decide +kernel
theorem dX6_playable_54 : decode cX6_playable 54 = .ok (.ireturn, 1) := by decide +kernel
theorem dX6_tableFor_0 : decode cX6_tableFor 0 = .ok (.iconst (-1), 1) := by decide +kernel
theorem dX6_tableFor_1 : decode cX6_tableFor 1 = .ok (.istore_n 2, 1) := by decide +kernel
theorem dX6_tableFor_2 : decode cX6_tableFor 2 = .ok (.iconst 0, 1) := by decide +kernel
theorem dX6_tableFor_3 : decode cX6_tableFor 3 = .ok (.istore_n 3, 1) := by decide +kernel
theorem dX6_tableFor_4 : decode cX6_tableFor 4 = .ok (.iload_n 3, 1) := by decide +kernel
theorem dX6_tableFor_5 : decode cX6_tableFor 5 = .ok (.bipush 6, 2) := by decide +kernel
theorem dX6_tableFor_7 : decode cX6_tableFor 7 = .ok (.if_icmp .ge 66, 3) := by decide +kernel
theorem dX6_tableFor_10 : decode cX6_tableFor 10 = .ok (.aload_n 0, 1) := by decide +kernel
theorem dX6_tableFor_11 : decode cX6_tableFor 11 = .ok (.getfield 31, 3) := by decide +kernel
theorem dX6_tableFor_14 : decode cX6_tableFor 14 = .ok (.iload_n 3, 1) := by decide +kernel
theorem dX6_tableFor_15 : decode cX6_tableFor 15 = .ok (.iaload, 1) := by decide +kernel
theorem dX6_tableFor_16 : decode cX6_tableFor 16 = .ok (.ifCond .ne 17, 3) := by decide +kernel
theorem dX6_tableFor_19 : decode cX6_tableFor 19 = .ok (.aload_n 0, 1) := by decide +kernel
theorem dX6_tableFor_20 : decode cX6_tableFor 20 = .ok (.getfield 28, 3) := by decide +kernel
theorem dX6_tableFor_23 : decode cX6_tableFor 23 = .ok (.iload_n 3, 1) := by decide +kernel
theorem dX6_tableFor_24 : decode cX6_tableFor 24 = .ok (.iaload, 1) := by decide +kernel
theorem dX6_tableFor_25 : decode cX6_tableFor 25 = .ok (.iload_n 1, 1) := by decide +kernel
theorem dX6_tableFor_26 : decode cX6_tableFor 26 = .ok (.if_icmp .lt 7, 3) := by decide +kernel
theorem dX6_tableFor_29 : decode cX6_tableFor 29 = .ok (.iconst 1, 1) := by decide +kernel
theorem dX6_tableFor_30 : decode cX6_tableFor 30 = .ok (.goto 4, 3) := by decide +kernel
theorem dX6_tableFor_33 : decode cX6_tableFor 33 = .ok (.iconst 0, 1) := by decide +kernel
theorem dX6_tableFor_34 : decode cX6_tableFor 34 = .ok (.istore 4, 2) := by decide +kernel
theorem dX6_tableFor_36 : decode cX6_tableFor 36 = .ok (.iload 4, 2) := by decide +kernel
theorem dX6_tableFor_38 : decode cX6_tableFor 38 = .ok (.ifCond .eq 27, 3) := by decide +kernel
theorem dX6_tableFor_41 : decode cX6_tableFor 41 = .ok (.iload_n 2, 1) := by decide +kernel
theorem dX6_tableFor_42 : decode cX6_tableFor 42 = .ok (.iconst (-1), 1) := by decide +kernel
theorem dX6_tableFor_43 : decode cX6_tableFor 43 = .ok (.if_icmp .eq 18, 3) := by decide +kernel
theorem dX6_tableFor_46 : decode cX6_tableFor 46 = .ok (.aload_n 0, 1) := by decide +kernel
theorem dX6_tableFor_47 : decode cX6_tableFor 47 = .ok (.getfield 28, 3) := by decide +kernel
theorem dX6_tableFor_50 : decode cX6_tableFor 50 = .ok (.iload_n 3, 1) := by decide +kernel
theorem dX6_tableFor_51 : decode cX6_tableFor 51 = .ok (.iaload, 1) := by decide +kernel
theorem dX6_tableFor_52 : decode cX6_tableFor 52 = .ok (.aload_n 0, 1) := by decide +kernel
theorem dX6_tableFor_53 : decode cX6_tableFor 53 = .ok (.getfield 28, 3) := by decide +kernel
theorem dX6_tableFor_56 : decode cX6_tableFor 56 = .ok (.iload_n 2, 1) := by decide +kernel
theorem dX6_tableFor_57 : decode cX6_tableFor 57 = .ok (.iaload, 1) := by decide +kernel
theorem dX6_tableFor_58 : decode cX6_tableFor 58 = .ok (.if_icmp .ge 7, 3) := by decide +kernel
theorem dX6_tableFor_61 : decode cX6_tableFor 61 = .ok (.iload_n 3, 1) := by decide +kernel
theorem dX6_tableFor_62 : decode cX6_tableFor 62 = .ok (.goto 4, 3) := by decide +kernel
theorem dX6_tableFor_65 : decode cX6_tableFor 65 = .ok (.iload_n 2, 1) := by decide +kernel
theorem dX6_tableFor_66 : decode cX6_tableFor 66 = .ok (.istore_n 2, 1) := by decide +kernel
theorem dX6_tableFor_67 : decode cX6_tableFor 67 = .ok (.iinc 3 1, 3) := by decide +kernel
theorem dX6_tableFor_70 : decode cX6_tableFor 70 = .ok (.goto (-66), 3) := by decide +kernel
theorem dX6_tableFor_73 : decode cX6_tableFor 73 = .ok (.iload_n 2, 1) := by decide +kernel
theorem dX6_tableFor_74 : decode cX6_tableFor 74 = .ok (.ireturn, 1) := by decide +kernel
set_option maxRecDepth 20000 in
theorem ggX6_copyFor_X6_playable : GoodIn wsX6_copyFor wsX6_playable := goodIn_r _ [8, 9, 10, 2, 11, 12, 13, 14, 15, 16, 17, 18, 19, 20, 21, 22, 23, 24, 25, 26, 27, 28, 29, 30, 31, 32, 33, 34] (by decide +kernel) (by decide +kernel)
set_option maxRecDepth 20000 in
theorem gX6_copyFor_X6_playable : GoodIn wsX6_copyFor (wsV RX6 95 RX6 yX6_playable wsX6_playable) := goodIn_app (goodIn_of _ (by decide +kernel)) ggX6_copyFor_X6_playable
theorem dX6_copyFor_0 : decode cX6_copyFor 0 = .ok (.iconst 0, 1) := by decide +kernel
theorem dX6_copyFor_1 : decode cX6_copyFor 1 = .ok (.istore_n 2, 1) := by decide +kernel
theorem dX6_copyFor_2 : decode cX6_copyFor 2 = .ok (.iload_n 2, 1) := by decide +kernel
theorem dX6_copyFor_3 : decode cX6_copyFor 3 = .ok (.aload_n 0, 1) := by decide +kernel
theorem dX6_copyFor_4 : decode cX6_copyFor 4 = .ok (.getfield 78, 3) := by decide +kernel
theorem dX6_copyFor_7 : decode cX6_copyFor 7 = .ok (.if_icmp .ge 36, 3) := by decide +kernel
theorem dX6_copyFor_10 : decode cX6_copyFor 10 = .ok (.aload_n 0, 1) := by decide +kernel
theorem dX6_copyFor_11 : decode cX6_copyFor 11 = .ok (.getfield 40, 3) := by decide +kernel
theorem dX6_copyFor_14 : decode cX6_copyFor 14 = .ok (.iload_n 2, 1) := by decide +kernel
theorem dX6_copyFor_15 : decode cX6_copyFor 15 = .ok (.iaload, 1) := by decide +kernel
theorem dX6_copyFor_16 : decode cX6_copyFor 16 = .ok (.iload_n 1, 1) := by decide +kernel
theorem dX6_copyFor_17 : decode cX6_copyFor 17 = .ok (.if_icmp .ne 20, 3) := by decide +kernel
theorem dX6_copyFor_20 : decode cX6_copyFor 20 = .ok (.aload_n 0, 1) := by decide +kernel
theorem dX6_copyFor_21 : decode cX6_copyFor 21 = .ok (.getfield 43, 3) := by decide +kernel
theorem dX6_copyFor_24 : decode cX6_copyFor 24 = .ok (.iload_n 2, 1) := by decide +kernel
theorem dX6_copyFor_25 : decode cX6_copyFor 25 = .ok (.iaload, 1) := by decide +kernel
theorem dX6_copyFor_26 : decode cX6_copyFor 26 = .ok (.ifCond .ne 11, 3) := by decide +kernel
theorem dX6_copyFor_29 : decode cX6_copyFor 29 = .ok (.aload_n 0, 1) := by decide +kernel
theorem dX6_copyFor_30 : decode cX6_copyFor 30 = .ok (.iload_n 2, 1) := by decide +kernel
theorem dX6_copyFor_31 : decode cX6_copyFor 31 = .ok (.invokevirtual 95, 3) := by decide +kernel
theorem dX6_copyFor_34 : decode cX6_copyFor 34 = .ok (.ifCond .ne 9, 3) := by decide +kernel
theorem dX6_copyFor_37 : decode cX6_copyFor 37 = .ok (.iinc 2 1, 3) := by decide +kernel
theorem dX6_copyFor_40 : decode cX6_copyFor 40 = .ok (.goto (-38), 3) := by decide +kernel
theorem dX6_copyFor_43 : decode cX6_copyFor 43 = .ok (.iload_n 2, 1) := by decide +kernel
theorem dX6_copyFor_44 : decode cX6_copyFor 44 = .ok (.aload_n 0, 1) := by decide +kernel
theorem dX6_copyFor_45 : decode cX6_copyFor 45 = .ok (.getfield 78, 3) := by decide +kernel
theorem dX6_copyFor_48 : decode cX6_copyFor 48 = .ok (.if_icmp .ge 7, 3) := by decide +kernel
theorem dX6_copyFor_51 : decode cX6_copyFor 51 = .ok (.iload_n 2, 1) := by decide +kernel
theorem dX6_copyFor_52 : decode cX6_copyFor 52 = .ok (.goto 4, 3) := by decide +kernel
theorem dX6_copyFor_55 : decode cX6_copyFor 55 = .ok (.iconst (-1), 1) := by decide +kernel
theorem dX6_copyFor_56 : decode cX6_copyFor 56 = .ok (.ireturn, 1) := by decide +kernel
theorem dX6_teacherFor_0 : decode cX6_teacherFor 0 = .ok (.iconst 0, 1) := by decide +kernel
theorem dX6_teacherFor_1 : decode cX6_teacherFor 1 = .ok (.istore_n 2, 1) := by decide +kernel
theorem dX6_teacherFor_2 : decode cX6_teacherFor 2 = .ok (.iload_n 2, 1) := by decide +kernel
theorem dX6_teacherFor_3 : decode cX6_teacherFor 3 = .ok (.iconst 3, 1) := by decide +kernel
theorem dX6_teacherFor_4 : decode cX6_teacherFor 4 = .ok (.if_icmp .ge 36, 3) := by decide +kernel
theorem dX6_teacherFor_7 : decode cX6_teacherFor 7 = .ok (.aload_n 0, 1) := by decide +kernel
theorem dX6_teacherFor_8 : decode cX6_teacherFor 8 = .ok (.getfield 34, 3) := by decide +kernel
theorem dX6_teacherFor_11 : decode cX6_teacherFor 11 = .ok (.iconst 5, 1) := by decide +kernel
theorem dX6_teacherFor_12 : decode cX6_teacherFor 12 = .ok (.iload_n 2, 1) := by decide +kernel
theorem dX6_teacherFor_13 : decode cX6_teacherFor 13 = .ok (.imul, 1) := by decide +kernel
theorem dX6_teacherFor_14 : decode cX6_teacherFor 14 = .ok (.iload_n 1, 1) := by decide +kernel
theorem dX6_teacherFor_15 : decode cX6_teacherFor 15 = .ok (.iadd, 1) := by decide +kernel
theorem dX6_teacherFor_16 : decode cX6_teacherFor 16 = .ok (.iaload, 1) := by decide +kernel
theorem dX6_teacherFor_17 : decode cX6_teacherFor 17 = .ok (.iconst 1, 1) := by decide +kernel
theorem dX6_teacherFor_18 : decode cX6_teacherFor 18 = .ok (.if_icmp .eq 16, 3) := by decide +kernel
theorem dX6_teacherFor_21 : decode cX6_teacherFor 21 = .ok (.aload_n 0, 1) := by decide +kernel
theorem dX6_teacherFor_22 : decode cX6_teacherFor 22 = .ok (.getfield 37, 3) := by decide +kernel
theorem dX6_teacherFor_25 : decode cX6_teacherFor 25 = .ok (.iload_n 2, 1) := by decide +kernel
theorem dX6_teacherFor_26 : decode cX6_teacherFor 26 = .ok (.iaload, 1) := by decide +kernel
theorem dX6_teacherFor_27 : decode cX6_teacherFor 27 = .ok (.aload_n 0, 1) := by decide +kernel
theorem dX6_teacherFor_28 : decode cX6_teacherFor 28 = .ok (.getfield 98, 3) := by decide +kernel
theorem dX6_teacherFor_31 : decode cX6_teacherFor 31 = .ok (.if_icmp .le 9, 3) := by decide +kernel
theorem dX6_teacherFor_34 : decode cX6_teacherFor 34 = .ok (.iinc 2 1, 3) := by decide +kernel
theorem dX6_teacherFor_37 : decode cX6_teacherFor 37 = .ok (.goto (-35), 3) := by decide +kernel
theorem dX6_teacherFor_40 : decode cX6_teacherFor 40 = .ok (.iload_n 2, 1) := by decide +kernel
theorem dX6_teacherFor_41 : decode cX6_teacherFor 41 = .ok (.iconst 3, 1) := by decide +kernel
theorem dX6_teacherFor_42 : decode cX6_teacherFor 42 = .ok (.if_icmp .ge 7, 3) := by decide +kernel
theorem dX6_teacherFor_45 : decode cX6_teacherFor 45 = .ok (.iload_n 2, 1) := by decide +kernel
theorem dX6_teacherFor_46 : decode cX6_teacherFor 46 = .ok (.goto 4, 3) := by decide +kernel
theorem dX6_teacherFor_49 : decode cX6_teacherFor 49 = .ok (.iconst (-1), 1) := by decide +kernel
theorem dX6_teacherFor_50 : decode cX6_teacherFor 50 = .ok (.ireturn, 1) := by decide +kernel
set_option maxRecDepth 20000 in
theorem ggX6_seat_X6_isGame : GoodIn wsX6_seat wsX6_isGame := goodIn_r _ [17, 18, 19, 16, 20] (by decide +kernel) (by decide +kernel)
set_option maxRecDepth 20000 in
theorem gX6_seat_X6_isGame : GoodIn wsX6_seat (va_wsS RX6 84 yX6_isGame wsX6_isGame) := goodIn_app (goodIn_of _ (by decide +kernel)) ggX6_seat_X6_isGame
set_option maxRecDepth 20000 in
theorem ggX6_seat_X6_in : GoodIn wsX6_seat wsX6_in := goodIn_r _ [20] (by decide +kernel) (by decide +kernel)
set_option maxRecDepth 20000 in
theorem gX6_seat_X6_in : GoodIn wsX6_seat (va_wsS RX6 74 yX6_in wsX6_in) := goodIn_app (goodIn_of _ (by decide +kernel)) ggX6_seat_X6_in
set_option maxRecDepth 20000 in
theorem ggX6_seat_X6_tableFor : GoodIn wsX6_seat wsX6_tableFor := goodIn_r _ [24, 8, 25, 47, 48, 49, 50, 51, 52, 53, 54, 55, 56, 57, 58, 59, 60, 61, 62, 63, 64, 65, 66, 67, 68, 69, 70] (by decide +kernel) (by decide +kernel)
set_option maxRecDepth 20000 in
theorem gX6_seat_X6_tableFor : GoodIn wsX6_seat (wsV RX6 101 RX6 yX6_tableFor wsX6_tableFor) := goodIn_app (goodIn_of _ (by decide +kernel)) ggX6_seat_X6_tableFor
set_option maxRecDepth 20000 in
theorem ggX6_seat_X6_copyFor : GoodIn wsX6_seat wsX6_copyFor := goodIn_r _ [29, 30, 31, 9, 32, 33, 34, 16, 35, 36, 37, 47, 48, 49, 50, 51, 52, 53, 54, 55, 56, 57, 58, 59, 60, 61, 62, 63, 64, 65, 66, 67, 68, 69, 70] (by decide +kernel) (by decide +kernel)
set_option maxRecDepth 20000 in
theorem gX6_seat_X6_copyFor : GoodIn wsX6_seat (wsV RX6 104 RX6 yX6_copyFor wsX6_copyFor) := goodIn_app (goodIn_of _ (by decide +kernel)) ggX6_seat_X6_copyFor
set_option maxRecDepth 20000 in
theorem ggX6_seat_X6_teacherFor : GoodIn wsX6_seat wsX6_teacherFor := goodIn_r _ [41, 42, 5, 6, 47, 48, 49, 50, 51, 52, 53, 54, 55, 56, 57, 58, 59, 60, 61, 62, 63, 64, 65, 66, 67, 68, 69, 70] (by decide +kernel) (by decide +kernel)
set_option maxRecDepth 20000 in
theorem gX6_seat_X6_teacherFor : GoodIn wsX6_seat (wsV RX6 107 RX6 yX6_teacherFor wsX6_teacherFor) := goodIn_app (goodIn_of _ (by decide +kernel)) ggX6_seat_X6_teacherFor
set_option maxRecDepth 20000 in
theorem ggX6_seat_X6_fails : GoodIn wsX6_seat wsX6_fails := goodIn_r _ [46, 3, 47, 48, 49, 50, 51, 52, 53, 54, 55, 56, 57, 58, 59, 60, 61, 62, 63, 64, 65, 66, 67, 68, 69, 70] (by decide +kernel) (by decide +kernel)
set_option maxRecDepth 20000 in
theorem gX6_seat_X6_fails : GoodIn wsX6_seat (wsV RX6 91 RX6 yX6_fails wsX6_fails) := goodIn_app (goodIn_of _ (by decide +kernel)) ggX6_seat_X6_fails
theorem dX6_seat_0 : decode cX6_seat 0 = .ok (.aload_n 0, 1) := by decide +kernel
theorem dX6_seat_1 : decode cX6_seat 1 = .ok (.iload_n 2, 1) := by decide +kernel
theorem dX6_seat_2 : decode cX6_seat 2 = .ok (.invokestatic 84, 3) := by decide +kernel
theorem dX6_seat_5 : decode cX6_seat 5 = .ok (.ifCond .ne 7, 3) := by decide +kernel
theorem dX6_seat_8 : decode cX6_seat 8 = .ok (.iconst 1, 1) := by decide +kernel
theorem dX6_seat_9 : decode cX6_seat 9 = .ok (.goto 37, 3) := by decide +kernel
theorem dX6_seat_12 : decode cX6_seat 12 = .ok (.iload_n 1, 1) := by decide +kernel
theorem dX6_seat_13 : decode cX6_seat 13 = .ok (.iconst 1, 1) := by decide +kernel
theorem dX6_seat_14 : decode cX6_seat 14 = .ok (.bipush 8, 2) := by decide +kernel
theorem dX6_seat_16 : decode cX6_seat 16 = .ok (.invokestatic 74, 3) := by decide +kernel
theorem dX6_seat_19 : decode cX6_seat 19 = .ok (.ifCond .eq 22, 3) := by decide +kernel
theorem dX6_seat_22 : decode cX6_seat 22 = .ok (.iload_n 1, 1) := by decide +kernel
theorem dX6_seat_23 : decode cX6_seat 23 = .ok (.aload_n 0, 1) := by decide +kernel
theorem dX6_seat_24 : decode cX6_seat 24 = .ok (.getfield 7, 3) := by decide +kernel
theorem dX6_seat_27 : decode cX6_seat 27 = .ok (.iload_n 2, 1) := by decide +kernel
theorem dX6_seat_28 : decode cX6_seat 28 = .ok (.iaload, 1) := by decide +kernel
theorem dX6_seat_29 : decode cX6_seat 29 = .ok (.aload_n 0, 1) := by decide +kernel
theorem dX6_seat_30 : decode cX6_seat 30 = .ok (.getfield 13, 3) := by decide +kernel
theorem dX6_seat_33 : decode cX6_seat 33 = .ok (.iload_n 2, 1) := by decide +kernel
theorem dX6_seat_34 : decode cX6_seat 34 = .ok (.iaload, 1) := by decide +kernel
theorem dX6_seat_35 : decode cX6_seat 35 = .ok (.invokestatic 74, 3) := by decide +kernel
theorem dX6_seat_38 : decode cX6_seat 38 = .ok (.ifCond .ne 7, 3) := by decide +kernel
theorem dX6_seat_41 : decode cX6_seat 41 = .ok (.iconst 2, 1) := by decide +kernel
theorem dX6_seat_42 : decode cX6_seat 42 = .ok (.goto 4, 3) := by decide +kernel
theorem dX6_seat_45 : decode cX6_seat 45 = .ok (.iconst 0, 1) := by decide +kernel
theorem dX6_seat_46 : decode cX6_seat 46 = .ok (.putfield 70, 3) := by decide +kernel
theorem dX6_seat_49 : decode cX6_seat 49 = .ok (.aload_n 0, 1) := by decide +kernel
theorem dX6_seat_50 : decode cX6_seat 50 = .ok (.getfield 70, 3) := by decide +kernel
theorem dX6_seat_53 : decode cX6_seat 53 = .ok (.ifCond .le 5, 3) := by decide +kernel
theorem dX6_seat_56 : decode cX6_seat 56 = .ok (.iconst 0, 1) := by decide +kernel
theorem dX6_seat_57 : decode cX6_seat 57 = .ok (.ireturn, 1) := by decide +kernel
theorem dX6_seat_58 : decode cX6_seat 58 = .ok (.aload_n 0, 1) := by decide +kernel
theorem dX6_seat_59 : decode cX6_seat 59 = .ok (.iload_n 1, 1) := by decide +kernel
theorem dX6_seat_60 : decode cX6_seat 60 = .ok (.invokevirtual 101, 3) := by decide +kernel
theorem dX6_seat_63 : decode cX6_seat 63 = .ok (.istore 4, 2) := by decide +kernel
theorem dX6_seat_65 : decode cX6_seat 65 = .ok (.aload_n 0, 1) := by decide +kernel
theorem dX6_seat_66 : decode cX6_seat 66 = .ok (.iload_n 2, 1) := by decide +kernel
theorem dX6_seat_67 : decode cX6_seat 67 = .ok (.invokevirtual 104, 3) := by decide +kernel
theorem dX6_seat_70 : decode cX6_seat 70 = .ok (.istore 5, 2) := by decide +kernel
theorem dX6_seat_72 : decode cX6_seat 72 = .ok (.iload_n 3, 1) := by decide +kernel
theorem dX6_seat_73 : decode cX6_seat 73 = .ok (.ifCond .eq 7, 3) := by decide +kernel
theorem dX6_seat_76 : decode cX6_seat 76 = .ok (.iconst 0, 1) := by decide +kernel
theorem dX6_seat_77 : decode cX6_seat 77 = .ok (.goto 8, 3) := by decide +kernel
theorem dX6_seat_80 : decode cX6_seat 80 = .ok (.aload_n 0, 1) := by decide +kernel
theorem dX6_seat_81 : decode cX6_seat 81 = .ok (.iload_n 2, 1) := by decide +kernel
theorem dX6_seat_82 : decode cX6_seat 82 = .ok (.invokevirtual 107, 3) := by decide +kernel
theorem dX6_seat_85 : decode cX6_seat 85 = .ok (.istore 6, 2) := by decide +kernel
theorem dX6_seat_87 : decode cX6_seat 87 = .ok (.aload_n 0, 1) := by decide +kernel
theorem dX6_seat_88 : decode cX6_seat 88 = .ok (.getfield 81, 3) := by decide +kernel
theorem dX6_seat_91 : decode cX6_seat 91 = .ok (.bipush 60, 2) := by decide +kernel
theorem dX6_seat_93 : decode cX6_seat 93 = .ok (.if_icmp .eq 21, 3) := by decide +kernel
theorem dX6_seat_96 : decode cX6_seat 96 = .ok (.iload 4, 2) := by decide +kernel
theorem dX6_seat_98 : decode cX6_seat 98 = .ok (.iconst (-1), 1) := by decide +kernel
theorem dX6_seat_99 : decode cX6_seat 99 = .ok (.if_icmp .eq 15, 3) := by decide +kernel
theorem dX6_seat_102 : decode cX6_seat 102 = .ok (.iload 5, 2) := by decide +kernel
theorem dX6_seat_104 : decode cX6_seat 104 = .ok (.iconst (-1), 1) := by decide +kernel
theorem dX6_seat_105 : decode cX6_seat 105 = .ok (.if_icmp .eq 9, 3) := by decide +kernel
theorem dX6_seat_108 : decode cX6_seat 108 = .ok (.iload 6, 2) := by decide +kernel
theorem dX6_seat_110 : decode cX6_seat 110 = .ok (.iconst (-1), 1) := by decide +kernel
theorem dX6_seat_111 : decode cX6_seat 111 = .ok (.if_icmp .ne 9, 3) := by decide +kernel
theorem dX6_seat_114 : decode cX6_seat 114 = .ok (.aload_n 0, 1) := by decide +kernel
theorem dX6_seat_115 : decode cX6_seat 115 = .ok (.iconst 3, 1) := by decide +kernel
theorem dX6_seat_116 : decode cX6_seat 116 = .ok (.invokevirtual 91, 3) := by decide +kernel
theorem dX6_seat_119 : decode cX6_seat 119 = .ok (.ireturn, 1) := by decide +kernel
theorem dX6_seat_120 : decode cX6_seat 120 = .ok (.iload_n 3, 1) := by decide +kernel
theorem dX6_seat_121 : decode cX6_seat 121 = .ok (.ifCond .ne 21, 3) := by decide +kernel
theorem dX6_seat_124 : decode cX6_seat 124 = .ok (.aload_n 0, 1) := by decide +kernel
theorem dX6_seat_125 : decode cX6_seat 125 = .ok (.getfield 37, 3) := by decide +kernel
theorem dX6_seat_128 : decode cX6_seat 128 = .ok (.iload 6, 2) := by decide +kernel
theorem dX6_seat_130 : decode cX6_seat 130 = .ok (.aload_n 0, 1) := by decide +kernel
theorem dX6_seat_131 : decode cX6_seat 131 = .ok (.getfield 98, 3) := by decide +kernel
theorem dX6_seat_134 : decode cX6_seat 134 = .ok (.aload_n 0, 1) := by decide +kernel
theorem dX6_seat_135 : decode cX6_seat 135 = .ok (.getfield 16, 3) := by decide +kernel
theorem dX6_seat_138 : decode cX6_seat 138 = .ok (.iload_n 2, 1) := by decide +kernel
theorem dX6_seat_139 : decode cX6_seat 139 = .ok (.iaload, 1) := by decide +kernel
theorem dX6_seat_140 : decode cX6_seat 140 = .ok (.iadd, 1) := by decide +kernel
theorem dX6_seat_141 : decode cX6_seat 141 = .ok (.iastore, 1) := by decide +kernel
theorem dX6_seat_142 : decode cX6_seat 142 = .ok (.aload_n 0, 1) := by decide +kernel
theorem dX6_seat_143 : decode cX6_seat 143 = .ok (.getfield 31, 3) := by decide +kernel
theorem dX6_seat_146 : decode cX6_seat 146 = .ok (.iload 4, 2) := by decide +kernel
theorem dX6_seat_148 : decode cX6_seat 148 = .ok (.aload_n 0, 1) := by decide +kernel
theorem dX6_seat_149 : decode cX6_seat 149 = .ok (.getfield 81, 3) := by decide +kernel
theorem dX6_seat_152 : decode cX6_seat 152 = .ok (.iconst 1, 1) := by decide +kernel
theorem dX6_seat_153 : decode cX6_seat 153 = .ok (.iadd, 1) := by decide +kernel
theorem dX6_seat_154 : decode cX6_seat 154 = .ok (.iastore, 1) := by decide +kernel
theorem dX6_seat_155 : decode cX6_seat 155 = .ok (.aload_n 0, 1) := by decide +kernel
theorem dX6_seat_156 : decode cX6_seat 156 = .ok (.getfield 43, 3) := by decide +kernel
theorem dX6_seat_159 : decode cX6_seat 159 = .ok (.iload 5, 2) := by decide +kernel
theorem dX6_seat_161 : decode cX6_seat 161 = .ok (.iconst 1, 1) := by decide +kernel
theorem dX6_seat_162 : decode cX6_seat 162 = .ok (.iastore, 1) := by decide +kernel
theorem dX6_seat_163 : decode cX6_seat 163 = .ok (.aload_n 0, 1) := by decide +kernel
theorem dX6_seat_164 : decode cX6_seat 164 = .ok (.getfield 49, 3) := by decide +kernel
theorem dX6_seat_167 : decode cX6_seat 167 = .ok (.aload_n 0, 1) := by decide +kernel
theorem dX6_seat_168 : decode cX6_seat 168 = .ok (.getfield 81, 3) := by decide +kernel
theorem dX6_seat_171 : decode cX6_seat 171 = .ok (.iload_n 1, 1) := by decide +kernel
theorem dX6_seat_172 : decode cX6_seat 172 = .ok (.iastore, 1) := by decide +kernel
theorem dX6_seat_173 : decode cX6_seat 173 = .ok (.aload_n 0, 1) := by decide +kernel
theorem dX6_seat_174 : decode cX6_seat 174 = .ok (.getfield 52, 3) := by decide +kernel
theorem dX6_seat_177 : decode cX6_seat 177 = .ok (.aload_n 0, 1) := by decide +kernel
theorem dX6_seat_178 : decode cX6_seat 178 = .ok (.getfield 81, 3) := by decide +kernel
theorem dX6_seat_181 : decode cX6_seat 181 = .ok (.iload 4, 2) := by decide +kernel
theorem dX6_seat_183 : decode cX6_seat 183 = .ok (.iastore, 1) := by decide +kernel
theorem dX6_seat_184 : decode cX6_seat 184 = .ok (.aload_n 0, 1) := by decide +kernel
theorem dX6_seat_185 : decode cX6_seat 185 = .ok (.getfield 55, 3) := by decide +kernel
theorem dX6_seat_188 : decode cX6_seat 188 = .ok (.aload_n 0, 1) := by decide +kernel
theorem dX6_seat_189 : decode cX6_seat 189 = .ok (.getfield 81, 3) := by decide +kernel
theorem dX6_seat_192 : decode cX6_seat 192 = .ok (.iload 5, 2) := by decide +kernel
theorem dX6_seat_194 : decode cX6_seat 194 = .ok (.iastore, 1) := by decide +kernel
theorem dX6_seat_195 : decode cX6_seat 195 = .ok (.aload_n 0, 1) := by decide +kernel
theorem dX6_seat_196 : decode cX6_seat 196 = .ok (.getfield 58, 3) := by decide +kernel
theorem dX6_seat_199 : decode cX6_seat 199 = .ok (.aload_n 0, 1) := by decide +kernel
theorem dX6_seat_200 : decode cX6_seat 200 = .ok (.getfield 81, 3) := by decide +kernel
theorem dX6_seat_203 : decode cX6_seat 203 = .ok (.aload_n 0, 1) := by decide +kernel
theorem dX6_seat_204 : decode cX6_seat 204 = .ok (.getfield 98, 3) := by decide +kernel
theorem dX6_seat_207 : decode cX6_seat 207 = .ok (.iastore, 1) := by decide +kernel
theorem dX6_seat_208 : decode cX6_seat 208 = .ok (.aload_n 0, 1) := by decide +kernel
theorem dX6_seat_209 : decode cX6_seat 209 = .ok (.dup, 1) := by decide +kernel
theorem dX6_seat_210 : decode cX6_seat 210 = .ok (.getfield 81, 3) := by decide +kernel
theorem dX6_seat_213 : decode cX6_seat 213 = .ok (.iconst 1, 1) := by decide +kernel
theorem dX6_seat_214 : decode cX6_seat 214 = .ok (.iadd, 1) := by decide +kernel
theorem dX6_seat_215 : decode cX6_seat 215 = .ok (.putfield 81, 3) := by decide +kernel
theorem dX6_seat_218 : decode cX6_seat 218 = .ok (.aload_n 0, 1) := by decide +kernel
theorem dX6_seat_219 : decode cX6_seat 219 = .ok (.getfield 81, 3) := by decide +kernel
theorem dX6_seat_222 : decode cX6_seat 222 = .ok (.iconst 1, 1) := by decide +kernel
theorem dX6_seat_223 : decode cX6_seat 223 = .ok (.isub, 1) := by decide +kernel
theorem dX6_seat_224 : decode cX6_seat 224 = .ok (.ireturn, 1) := by decide +kernel
set_option maxRecDepth 20000 in
theorem ggX6_grow_X6_isThere : GoodIn wsX6_grow wsX6_isThere := goodIn_r _ [12, 13, 14, 15, 16, 17, 11, 18, 27, 28, 29, 30, 31, 32, 33, 34, 35, 36, 37, 38, 39, 40, 41, 42, 43, 44, 45, 46, 47, 48, 49, 50] (by decide +kernel) (by decide +kernel)
set_option maxRecDepth 20000 in
theorem gX6_grow_X6_isThere : GoodIn wsX6_grow (wsV RX6 110 RX6 yX6_isThere wsX6_isThere) := goodIn_app (goodIn_of _ (by decide +kernel)) ggX6_grow_X6_isThere
set_option maxRecDepth 20000 in
theorem ggX6_grow_X6_in : GoodIn wsX6_grow wsX6_in := goodIn_r _ [18] (by decide +kernel) (by decide +kernel)
set_option maxRecDepth 20000 in
theorem gX6_grow_X6_in : GoodIn wsX6_grow (va_wsS RX6 74 yX6_in wsX6_in) := goodIn_app (goodIn_of _ (by decide +kernel)) ggX6_grow_X6_in
set_option maxRecDepth 20000 in
theorem ggX6_grow_X6_fails : GoodIn wsX6_grow wsX6_fails := goodIn_r _ [22, 15, 27, 28, 29, 30, 31, 32, 33, 34, 35, 36, 37, 38, 39, 40, 41, 42, 43, 44, 45, 46, 47, 48, 49, 50] (by decide +kernel) (by decide +kernel)
set_option maxRecDepth 20000 in
theorem gX6_grow_X6_fails : GoodIn wsX6_grow (wsV RX6 91 RX6 yX6_fails wsX6_fails) := goodIn_app (goodIn_of _ (by decide +kernel)) ggX6_grow_X6_fails
set_option maxRecDepth 20000 in
theorem ggX6_grow_X6_tableFor : GoodIn wsX6_grow wsX6_tableFor := goodIn_r _ [26, 7, 2, 27, 28, 29, 30, 31, 32, 33, 34, 35, 36, 37, 38, 39, 40, 41, 42, 43, 44, 45, 46, 47, 48, 49, 50] (by decide +kernel) (by decide +kernel)
set_option maxRecDepth 20000 in
theorem gX6_grow_X6_tableFor : GoodIn wsX6_grow (wsV RX6 101 RX6 yX6_tableFor wsX6_tableFor) := goodIn_app (goodIn_of _ (by decide +kernel)) ggX6_grow_X6_tableFor
theorem dX6_grow_0 : decode cX6_grow 0 = .ok (.aload_n 0, 1) := by decide +kernel
theorem dX6_grow_1 : decode cX6_grow 1 = .ok (.iload_n 1, 1) := by decide +kernel
theorem dX6_grow_2 : decode cX6_grow 2 = .ok (.invokevirtual 110, 3) := by decide +kernel
theorem dX6_grow_5 : decode cX6_grow 5 = .ok (.ifCond .ne 5, 3) := by decide +kernel
theorem dX6_grow_8 : decode cX6_grow 8 = .ok (.iconst 0, 1) := by decide +kernel
theorem dX6_grow_9 : decode cX6_grow 9 = .ok (.ireturn, 1) := by decide +kernel
theorem dX6_grow_10 : decode cX6_grow 10 = .ok (.iload_n 2, 1) := by decide +kernel
theorem dX6_grow_11 : decode cX6_grow 11 = .ok (.iconst 1, 1) := by decide +kernel
theorem dX6_grow_12 : decode cX6_grow 12 = .ok (.bipush 7, 2) := by decide +kernel
theorem dX6_grow_14 : decode cX6_grow 14 = .ok (.invokestatic 74, 3) := by decide +kernel
theorem dX6_grow_17 : decode cX6_grow 17 = .ok (.ifCond .ne 9, 3) := by decide +kernel
theorem dX6_grow_20 : decode cX6_grow 20 = .ok (.aload_n 0, 1) := by decide +kernel
theorem dX6_grow_21 : decode cX6_grow 21 = .ok (.iconst 2, 1) := by decide +kernel
theorem dX6_grow_22 : decode cX6_grow 22 = .ok (.invokevirtual 91, 3) := by decide +kernel
theorem dX6_grow_25 : decode cX6_grow 25 = .ok (.ireturn, 1) := by decide +kernel
theorem dX6_grow_26 : decode cX6_grow 26 = .ok (.aload_n 0, 1) := by decide +kernel
theorem dX6_grow_27 : decode cX6_grow 27 = .ok (.getfield 49, 3) := by decide +kernel
theorem dX6_grow_30 : decode cX6_grow 30 = .ok (.iload_n 1, 1) := by decide +kernel
theorem dX6_grow_31 : decode cX6_grow 31 = .ok (.iaload, 1) := by decide +kernel
theorem dX6_grow_32 : decode cX6_grow 32 = .ok (.iload_n 2, 1) := by decide +kernel
theorem dX6_grow_33 : decode cX6_grow 33 = .ok (.iadd, 1) := by decide +kernel
theorem dX6_grow_34 : decode cX6_grow 34 = .ok (.istore_n 3, 1) := by decide +kernel
theorem dX6_grow_35 : decode cX6_grow 35 = .ok (.aload_n 0, 1) := by decide +kernel
theorem dX6_grow_36 : decode cX6_grow 36 = .ok (.getfield 28, 3) := by decide +kernel
theorem dX6_grow_39 : decode cX6_grow 39 = .ok (.aload_n 0, 1) := by decide +kernel
theorem dX6_grow_40 : decode cX6_grow 40 = .ok (.getfield 52, 3) := by decide +kernel
theorem dX6_grow_43 : decode cX6_grow 43 = .ok (.iload_n 1, 1) := by decide +kernel
theorem dX6_grow_44 : decode cX6_grow 44 = .ok (.iaload, 1) := by decide +kernel
theorem dX6_grow_45 : decode cX6_grow 45 = .ok (.iaload, 1) := by decide +kernel
theorem dX6_grow_46 : decode cX6_grow 46 = .ok (.iload_n 3, 1) := by decide +kernel
theorem dX6_grow_47 : decode cX6_grow 47 = .ok (.if_icmp .lt 12, 3) := by decide +kernel
theorem dX6_grow_50 : decode cX6_grow 50 = .ok (.aload_n 0, 1) := by decide +kernel
theorem dX6_grow_51 : decode cX6_grow 51 = .ok (.getfield 52, 3) := by decide +kernel
theorem dX6_grow_54 : decode cX6_grow 54 = .ok (.iload_n 1, 1) := by decide +kernel
theorem dX6_grow_55 : decode cX6_grow 55 = .ok (.iaload, 1) := by decide +kernel
theorem dX6_grow_56 : decode cX6_grow 56 = .ok (.goto 8, 3) := by decide +kernel
theorem dX6_grow_59 : decode cX6_grow 59 = .ok (.aload_n 0, 1) := by decide +kernel
theorem dX6_grow_60 : decode cX6_grow 60 = .ok (.iload_n 3, 1) := by decide +kernel
theorem dX6_grow_61 : decode cX6_grow 61 = .ok (.invokevirtual 101, 3) := by decide +kernel
theorem dX6_grow_64 : decode cX6_grow 64 = .ok (.istore 4, 2) := by decide +kernel
theorem dX6_grow_66 : decode cX6_grow 66 = .ok (.iload_n 3, 1) := by decide +kernel
theorem dX6_grow_67 : decode cX6_grow 67 = .ok (.aload_n 0, 1) := by decide +kernel
theorem dX6_grow_68 : decode cX6_grow 68 = .ok (.getfield 13, 3) := by decide +kernel
theorem dX6_grow_71 : decode cX6_grow 71 = .ok (.aload_n 0, 1) := by decide +kernel
theorem dX6_grow_72 : decode cX6_grow 72 = .ok (.getfield 40, 3) := by decide +kernel
theorem dX6_grow_75 : decode cX6_grow 75 = .ok (.aload_n 0, 1) := by decide +kernel
theorem dX6_grow_76 : decode cX6_grow 76 = .ok (.getfield 55, 3) := by decide +kernel
theorem dX6_grow_79 : decode cX6_grow 79 = .ok (.iload_n 1, 1) := by decide +kernel
theorem dX6_grow_80 : decode cX6_grow 80 = .ok (.iaload, 1) := by decide +kernel
theorem dX6_grow_81 : decode cX6_grow 81 = .ok (.iaload, 1) := by decide +kernel
theorem dX6_grow_82 : decode cX6_grow 82 = .ok (.iaload, 1) := by decide +kernel
theorem dX6_grow_83 : decode cX6_grow 83 = .ok (.if_icmp .gt 9, 3) := by decide +kernel
theorem dX6_grow_86 : decode cX6_grow 86 = .ok (.iload 4, 2) := by decide +kernel
theorem dX6_grow_88 : decode cX6_grow 88 = .ok (.iconst (-1), 1) := by decide +kernel
theorem dX6_grow_89 : decode cX6_grow 89 = .ok (.if_icmp .ne 9, 3) := by decide +kernel
theorem dX6_grow_92 : decode cX6_grow 92 = .ok (.aload_n 0, 1) := by decide +kernel
theorem dX6_grow_93 : decode cX6_grow 93 = .ok (.iconst 3, 1) := by decide +kernel
theorem dX6_grow_94 : decode cX6_grow 94 = .ok (.invokevirtual 91, 3) := by decide +kernel
theorem dX6_grow_97 : decode cX6_grow 97 = .ok (.ireturn, 1) := by decide +kernel
theorem dX6_grow_98 : decode cX6_grow 98 = .ok (.aload_n 0, 1) := by decide +kernel
theorem dX6_grow_99 : decode cX6_grow 99 = .ok (.getfield 31, 3) := by decide +kernel
theorem dX6_grow_102 : decode cX6_grow 102 = .ok (.aload_n 0, 1) := by decide +kernel
theorem dX6_grow_103 : decode cX6_grow 103 = .ok (.getfield 52, 3) := by decide +kernel
theorem dX6_grow_106 : decode cX6_grow 106 = .ok (.iload_n 1, 1) := by decide +kernel
theorem dX6_grow_107 : decode cX6_grow 107 = .ok (.iaload, 1) := by decide +kernel
theorem dX6_grow_108 : decode cX6_grow 108 = .ok (.iconst 0, 1) := by decide +kernel
theorem dX6_grow_109 : decode cX6_grow 109 = .ok (.iastore, 1) := by decide +kernel
theorem dX6_grow_110 : decode cX6_grow 110 = .ok (.aload_n 0, 1) := by decide +kernel
theorem dX6_grow_111 : decode cX6_grow 111 = .ok (.getfield 31, 3) := by decide +kernel
theorem dX6_grow_114 : decode cX6_grow 114 = .ok (.iload 4, 2) := by decide +kernel
theorem dX6_grow_116 : decode cX6_grow 116 = .ok (.iload_n 1, 1) := by decide +kernel
theorem dX6_grow_117 : decode cX6_grow 117 = .ok (.iconst 1, 1) := by decide +kernel
theorem dX6_grow_118 : decode cX6_grow 118 = .ok (.iadd, 1) := by decide +kernel
theorem dX6_grow_119 : decode cX6_grow 119 = .ok (.iastore, 1) := by decide +kernel
theorem dX6_grow_120 : decode cX6_grow 120 = .ok (.aload_n 0, 1) := by decide +kernel
theorem dX6_grow_121 : decode cX6_grow 121 = .ok (.getfield 52, 3) := by decide +kernel
theorem dX6_grow_124 : decode cX6_grow 124 = .ok (.iload_n 1, 1) := by decide +kernel
theorem dX6_grow_125 : decode cX6_grow 125 = .ok (.iload 4, 2) := by decide +kernel
theorem dX6_grow_127 : decode cX6_grow 127 = .ok (.iastore, 1) := by decide +kernel
theorem dX6_grow_128 : decode cX6_grow 128 = .ok (.aload_n 0, 1) := by decide +kernel
theorem dX6_grow_129 : decode cX6_grow 129 = .ok (.getfield 49, 3) := by decide +kernel
theorem dX6_grow_132 : decode cX6_grow 132 = .ok (.iload_n 1, 1) := by decide +kernel
theorem dX6_grow_133 : decode cX6_grow 133 = .ok (.iload_n 3, 1) := by decide +kernel
theorem dX6_grow_134 : decode cX6_grow 134 = .ok (.iastore, 1) := by decide +kernel
theorem dX6_grow_135 : decode cX6_grow 135 = .ok (.iload 4, 2) := by decide +kernel
theorem dX6_grow_137 : decode cX6_grow 137 = .ok (.ireturn, 1) := by decide +kernel
set_option maxRecDepth 20000 in
theorem ggX6_go_X6_isThere : GoodIn wsX6_go wsX6_isThere := goodIn_r _ [14, 15, 1, 16, 17, 18, 13, 19, 20, 21, 22, 23, 24, 25, 26, 27, 28, 29, 30, 31, 32, 33, 34, 35, 36, 37, 38, 39, 40, 41, 42, 43] (by decide +kernel) (by decide +kernel)
set_option maxRecDepth 20000 in
theorem gX6_go_X6_isThere : GoodIn wsX6_go (wsV RX6 110 RX6 yX6_isThere wsX6_isThere) := goodIn_app (goodIn_of _ (by decide +kernel)) ggX6_go_X6_isThere
theorem dX6_go_0 : decode cX6_go 0 = .ok (.aload_n 0, 1) := by decide +kernel
theorem dX6_go_1 : decode cX6_go 1 = .ok (.iload_n 1, 1) := by decide +kernel
theorem dX6_go_2 : decode cX6_go 2 = .ok (.invokevirtual 110, 3) := by decide +kernel
theorem dX6_go_5 : decode cX6_go 5 = .ok (.ifCond .ne 5, 3) := by decide +kernel
theorem dX6_go_8 : decode cX6_go 8 = .ok (.iconst 0, 1) := by decide +kernel
theorem dX6_go_9 : decode cX6_go 9 = .ok (.ireturn, 1) := by decide +kernel
theorem dX6_go_10 : decode cX6_go 10 = .ok (.aload_n 0, 1) := by decide +kernel
theorem dX6_go_11 : decode cX6_go 11 = .ok (.getfield 61, 3) := by decide +kernel
theorem dX6_go_14 : decode cX6_go 14 = .ok (.iload_n 1, 1) := by decide +kernel
theorem dX6_go_15 : decode cX6_go 15 = .ok (.iconst 1, 1) := by decide +kernel
theorem dX6_go_16 : decode cX6_go 16 = .ok (.iastore, 1) := by decide +kernel
theorem dX6_go_17 : decode cX6_go 17 = .ok (.aload_n 0, 1) := by decide +kernel
theorem dX6_go_18 : decode cX6_go 18 = .ok (.getfield 31, 3) := by decide +kernel
theorem dX6_go_21 : decode cX6_go 21 = .ok (.aload_n 0, 1) := by decide +kernel
theorem dX6_go_22 : decode cX6_go 22 = .ok (.getfield 52, 3) := by decide +kernel
theorem dX6_go_25 : decode cX6_go 25 = .ok (.iload_n 1, 1) := by decide +kernel
theorem dX6_go_26 : decode cX6_go 26 = .ok (.iaload, 1) := by decide +kernel
theorem dX6_go_27 : decode cX6_go 27 = .ok (.iconst 0, 1) := by decide +kernel
theorem dX6_go_28 : decode cX6_go 28 = .ok (.iastore, 1) := by decide +kernel
theorem dX6_go_29 : decode cX6_go 29 = .ok (.aload_n 0, 1) := by decide +kernel
theorem dX6_go_30 : decode cX6_go 30 = .ok (.getfield 43, 3) := by decide +kernel
theorem dX6_go_33 : decode cX6_go 33 = .ok (.aload_n 0, 1) := by decide +kernel
theorem dX6_go_34 : decode cX6_go 34 = .ok (.getfield 55, 3) := by decide +kernel
theorem dX6_go_37 : decode cX6_go 37 = .ok (.iload_n 1, 1) := by decide +kernel
theorem dX6_go_38 : decode cX6_go 38 = .ok (.iaload, 1) := by decide +kernel
theorem dX6_go_39 : decode cX6_go 39 = .ok (.iconst 0, 1) := by decide +kernel
theorem dX6_go_40 : decode cX6_go 40 = .ok (.iastore, 1) := by decide +kernel
theorem dX6_go_41 : decode cX6_go 41 = .ok (.aload_n 0, 1) := by decide +kernel
theorem dX6_go_42 : decode cX6_go 42 = .ok (.getfield 25, 3) := by decide +kernel
theorem dX6_go_45 : decode cX6_go 45 = .ok (.aload_n 0, 1) := by decide +kernel
theorem dX6_go_46 : decode cX6_go 46 = .ok (.getfield 40, 3) := by decide +kernel
theorem dX6_go_49 : decode cX6_go 49 = .ok (.aload_n 0, 1) := by decide +kernel
theorem dX6_go_50 : decode cX6_go 50 = .ok (.getfield 55, 3) := by decide +kernel
theorem dX6_go_53 : decode cX6_go 53 = .ok (.iload_n 1, 1) := by decide +kernel
theorem dX6_go_54 : decode cX6_go 54 = .ok (.iaload, 1) := by decide +kernel
theorem dX6_go_55 : decode cX6_go 55 = .ok (.iaload, 1) := by decide +kernel
theorem dX6_go_56 : decode cX6_go 56 = .ok (.dup2, 1) := by decide +kernel
theorem dX6_go_57 : decode cX6_go 57 = .ok (.iaload, 1) := by decide +kernel
theorem dX6_go_58 : decode cX6_go 58 = .ok (.iconst 1, 1) := by decide +kernel
theorem dX6_go_59 : decode cX6_go 59 = .ok (.iadd, 1) := by decide +kernel
theorem dX6_go_60 : decode cX6_go 60 = .ok (.iastore, 1) := by decide +kernel
theorem dX6_go_61 : decode cX6_go 61 = .ok (.aload_n 0, 1) := by decide +kernel
theorem dX6_go_62 : decode cX6_go 62 = .ok (.getfield 98, 3) := by decide +kernel
theorem dX6_go_65 : decode cX6_go 65 = .ok (.aload_n 0, 1) := by decide +kernel
theorem dX6_go_66 : decode cX6_go 66 = .ok (.getfield 58, 3) := by decide +kernel
theorem dX6_go_69 : decode cX6_go 69 = .ok (.iload_n 1, 1) := by decide +kernel
theorem dX6_go_70 : decode cX6_go 70 = .ok (.iaload, 1) := by decide +kernel
theorem dX6_go_71 : decode cX6_go 71 = .ok (.isub, 1) := by decide +kernel
theorem dX6_go_72 : decode cX6_go 72 = .ok (.ireturn, 1) := by decide +kernel
set_option maxRecDepth 20000 in
theorem ggX6_advance_X6_in : GoodIn wsX6_advance wsX6_in := goodIn_r _ [7] (by decide +kernel) (by decide +kernel)
set_option maxRecDepth 20000 in
theorem gX6_advance_X6_in : GoodIn wsX6_advance (va_wsS RX6 74 yX6_in wsX6_in) := goodIn_app (goodIn_of _ (by decide +kernel)) ggX6_advance_X6_in
theorem dX6_advance_0 : decode cX6_advance 0 = .ok (.aload_n 0, 1) := by decide +kernel
theorem dX6_advance_1 : decode cX6_advance 1 = .ok (.iload_n 1, 1) := by decide +kernel
theorem dX6_advance_2 : decode cX6_advance 2 = .ok (.iconst 1, 1) := by decide +kernel
theorem dX6_advance_3 : decode cX6_advance 3 = .ok (.sipush 1000, 3) := by decide +kernel
theorem dX6_advance_6 : decode cX6_advance 6 = .ok (.invokestatic 74, 3) := by decide +kernel
theorem dX6_advance_9 : decode cX6_advance 9 = .ok (.ifCond .ne 7, 3) := by decide +kernel
theorem dX6_advance_12 : decode cX6_advance 12 = .ok (.iconst 1, 1) := by decide +kernel
theorem dX6_advance_13 : decode cX6_advance 13 = .ok (.goto 19, 3) := by decide +kernel
theorem dX6_advance_16 : decode cX6_advance 16 = .ok (.aload_n 0, 1) := by decide +kernel
theorem dX6_advance_17 : decode cX6_advance 17 = .ok (.getfield 98, 3) := by decide +kernel
theorem dX6_advance_20 : decode cX6_advance 20 = .ok (.iload_n 1, 1) := by decide +kernel
theorem dX6_advance_21 : decode cX6_advance 21 = .ok (.iadd, 1) := by decide +kernel
theorem dX6_advance_22 : decode cX6_advance 22 = .ok (.ldc 113, 2) := by decide +kernel
theorem dX6_advance_24 : decode cX6_advance 24 = .ok (.if_icmp .le 7, 3) := by decide +kernel
theorem dX6_advance_27 : decode cX6_advance 27 = .ok (.iconst 2, 1) := by decide +kernel
theorem dX6_advance_28 : decode cX6_advance 28 = .ok (.goto 4, 3) := by decide +kernel
theorem dX6_advance_31 : decode cX6_advance 31 = .ok (.iconst 0, 1) := by decide +kernel
theorem dX6_advance_32 : decode cX6_advance 32 = .ok (.putfield 70, 3) := by decide +kernel
theorem dX6_advance_35 : decode cX6_advance 35 = .ok (.aload_n 0, 1) := by decide +kernel
theorem dX6_advance_36 : decode cX6_advance 36 = .ok (.dup, 1) := by decide +kernel
theorem dX6_advance_37 : decode cX6_advance 37 = .ok (.getfield 98, 3) := by decide +kernel
theorem dX6_advance_40 : decode cX6_advance 40 = .ok (.aload_n 0, 1) := by decide +kernel
theorem dX6_advance_41 : decode cX6_advance 41 = .ok (.getfield 70, 3) := by decide +kernel
theorem dX6_advance_44 : decode cX6_advance 44 = .ok (.ifCond .ne 7, 3) := by decide +kernel
theorem dX6_advance_47 : decode cX6_advance 47 = .ok (.iload_n 1, 1) := by decide +kernel
theorem dX6_advance_48 : decode cX6_advance 48 = .ok (.goto 4, 3) := by decide +kernel
theorem dX6_advance_51 : decode cX6_advance 51 = .ok (.iconst 0, 1) := by decide +kernel
theorem dX6_advance_52 : decode cX6_advance 52 = .ok (.iadd, 1) := by decide +kernel
theorem dX6_advance_53 : decode cX6_advance 53 = .ok (.putfield 98, 3) := by decide +kernel
theorem dX6_advance_56 : decode cX6_advance 56 = .ok (.aload_n 0, 1) := by decide +kernel
theorem dX6_advance_57 : decode cX6_advance 57 = .ok (.getfield 70, 3) := by decide +kernel
theorem dX6_advance_60 : decode cX6_advance 60 = .ok (.ifCond .ne 10, 3) := by decide +kernel
theorem dX6_advance_63 : decode cX6_advance 63 = .ok (.aload_n 0, 1) := by decide +kernel
theorem dX6_advance_64 : decode cX6_advance 64 = .ok (.getfield 98, 3) := by decide +kernel
theorem dX6_advance_67 : decode cX6_advance 67 = .ok (.goto 4, 3) := by decide +kernel
theorem dX6_advance_70 : decode cX6_advance 70 = .ok (.iconst 0, 1) := by decide +kernel
theorem dX6_advance_71 : decode cX6_advance 71 = .ok (.ireturn, 1) := by decide +kernel
set_option maxRecDepth 20000 in
theorem ggX6_lend_X6_isCopy : GoodIn wsX6_lend wsX6_isCopy := goodIn_r _ [10, 11, 12, 13, 9, 14, 15, 16, 17, 18, 19, 20, 21, 22, 23, 24, 25, 26, 27, 28, 29, 30, 31, 32, 33, 34, 35, 36, 37, 38] (by decide +kernel) (by decide +kernel)
set_option maxRecDepth 20000 in
theorem gX6_lend_X6_isCopy : GoodIn wsX6_lend (wsV RX6 88 RX6 yX6_isCopy wsX6_isCopy) := goodIn_app (goodIn_of _ (by decide +kernel)) ggX6_lend_X6_isCopy
set_option maxRecDepth 20000 in
theorem ggX6_lend_X6_in : GoodIn wsX6_lend wsX6_in := goodIn_r _ [14] (by decide +kernel) (by decide +kernel)
set_option maxRecDepth 20000 in
theorem gX6_lend_X6_in : GoodIn wsX6_lend (va_wsS RX6 74 yX6_in wsX6_in) := goodIn_app (goodIn_of _ (by decide +kernel)) ggX6_lend_X6_in
theorem dX6_lend_0 : decode cX6_lend 0 = .ok (.aload_n 0, 1) := by decide +kernel
theorem dX6_lend_1 : decode cX6_lend 1 = .ok (.aload_n 0, 1) := by decide +kernel
theorem dX6_lend_2 : decode cX6_lend 2 = .ok (.iload_n 1, 1) := by decide +kernel
theorem dX6_lend_3 : decode cX6_lend 3 = .ok (.invokevirtual 88, 3) := by decide +kernel
theorem dX6_lend_6 : decode cX6_lend 6 = .ok (.ifCond .eq 12, 3) := by decide +kernel
theorem dX6_lend_9 : decode cX6_lend 9 = .ok (.iload_n 2, 1) := by decide +kernel
theorem dX6_lend_10 : decode cX6_lend 10 = .ok (.iconst 0, 1) := by decide +kernel
theorem dX6_lend_11 : decode cX6_lend 11 = .ok (.iconst 5, 1) := by decide +kernel
theorem dX6_lend_12 : decode cX6_lend 12 = .ok (.invokestatic 74, 3) := by decide +kernel
theorem dX6_lend_15 : decode cX6_lend 15 = .ok (.ifCond .ne 7, 3) := by decide +kernel
theorem dX6_lend_18 : decode cX6_lend 18 = .ok (.iconst 1, 1) := by decide +kernel
theorem dX6_lend_19 : decode cX6_lend 19 = .ok (.goto 26, 3) := by decide +kernel
theorem dX6_lend_22 : decode cX6_lend 22 = .ok (.aload_n 0, 1) := by decide +kernel
theorem dX6_lend_23 : decode cX6_lend 23 = .ok (.getfield 43, 3) := by decide +kernel
theorem dX6_lend_26 : decode cX6_lend 26 = .ok (.iload_n 1, 1) := by decide +kernel
theorem dX6_lend_27 : decode cX6_lend 27 = .ok (.iaload, 1) := by decide +kernel
theorem dX6_lend_28 : decode cX6_lend 28 = .ok (.ifCond .ne 12, 3) := by decide +kernel
theorem dX6_lend_31 : decode cX6_lend 31 = .ok (.aload_n 0, 1) := by decide +kernel
theorem dX6_lend_32 : decode cX6_lend 32 = .ok (.getfield 64, 3) := by decide +kernel
theorem dX6_lend_35 : decode cX6_lend 35 = .ok (.iload_n 2, 1) := by decide +kernel
theorem dX6_lend_36 : decode cX6_lend 36 = .ok (.iaload, 1) := by decide +kernel
theorem dX6_lend_37 : decode cX6_lend 37 = .ok (.ifCond .le 7, 3) := by decide +kernel
theorem dX6_lend_40 : decode cX6_lend 40 = .ok (.iconst 2, 1) := by decide +kernel
theorem dX6_lend_41 : decode cX6_lend 41 = .ok (.goto 4, 3) := by decide +kernel
theorem dX6_lend_44 : decode cX6_lend 44 = .ok (.iconst 0, 1) := by decide +kernel
theorem dX6_lend_45 : decode cX6_lend 45 = .ok (.putfield 70, 3) := by decide +kernel
theorem dX6_lend_48 : decode cX6_lend 48 = .ok (.aload_n 0, 1) := by decide +kernel
theorem dX6_lend_49 : decode cX6_lend 49 = .ok (.getfield 70, 3) := by decide +kernel
theorem dX6_lend_52 : decode cX6_lend 52 = .ok (.ifCond .le 5, 3) := by decide +kernel
theorem dX6_lend_55 : decode cX6_lend 55 = .ok (.iconst 0, 1) := by decide +kernel
theorem dX6_lend_56 : decode cX6_lend 56 = .ok (.ireturn, 1) := by decide +kernel
theorem dX6_lend_57 : decode cX6_lend 57 = .ok (.iconst 0, 1) := by decide +kernel
theorem dX6_lend_58 : decode cX6_lend 58 = .ok (.istore_n 3, 1) := by decide +kernel
theorem dX6_lend_59 : decode cX6_lend 59 = .ok (.iconst 0, 1) := by decide +kernel
theorem dX6_lend_60 : decode cX6_lend 60 = .ok (.istore 4, 2) := by decide +kernel
theorem dX6_lend_62 : decode cX6_lend 62 = .ok (.iload 4, 2) := by decide +kernel
theorem dX6_lend_64 : decode cX6_lend 64 = .ok (.iconst 4, 1) := by decide +kernel
theorem dX6_lend_65 : decode cX6_lend 65 = .ok (.if_icmp .ge 31, 3) := by decide +kernel
theorem dX6_lend_68 : decode cX6_lend 68 = .ok (.iload_n 3, 1) := by decide +kernel
theorem dX6_lend_69 : decode cX6_lend 69 = .ok (.bipush 100, 2) := by decide +kernel
theorem dX6_lend_71 : decode cX6_lend 71 = .ok (.iload 4, 2) := by decide +kernel
theorem dX6_lend_73 : decode cX6_lend 73 = .ok (.iconst 1, 1) := by decide +kernel
theorem dX6_lend_74 : decode cX6_lend 74 = .ok (.iadd, 1) := by decide +kernel
theorem dX6_lend_75 : decode cX6_lend 75 = .ok (.imul, 1) := by decide +kernel
theorem dX6_lend_76 : decode cX6_lend 76 = .ok (.aload_n 0, 1) := by decide +kernel
theorem dX6_lend_77 : decode cX6_lend 77 = .ok (.getfield 46, 3) := by decide +kernel
theorem dX6_lend_80 : decode cX6_lend 80 = .ok (.iconst 4, 1) := by decide +kernel
theorem dX6_lend_81 : decode cX6_lend 81 = .ok (.iload_n 1, 1) := by decide +kernel
theorem dX6_lend_82 : decode cX6_lend 82 = .ok (.imul, 1) := by decide +kernel
theorem dX6_lend_83 : decode cX6_lend 83 = .ok (.iload 4, 2) := by decide +kernel
theorem dX6_lend_85 : decode cX6_lend 85 = .ok (.iadd, 1) := by decide +kernel
theorem dX6_lend_86 : decode cX6_lend 86 = .ok (.iaload, 1) := by decide +kernel
theorem dX6_lend_87 : decode cX6_lend 87 = .ok (.imul, 1) := by decide +kernel
theorem dX6_lend_88 : decode cX6_lend 88 = .ok (.iadd, 1) := by decide +kernel
theorem dX6_lend_89 : decode cX6_lend 89 = .ok (.istore_n 3, 1) := by decide +kernel
theorem dX6_lend_90 : decode cX6_lend 90 = .ok (.iinc 4 1, 3) := by decide +kernel
theorem dX6_lend_93 : decode cX6_lend 93 = .ok (.goto (-31), 3) := by decide +kernel
theorem dX6_lend_96 : decode cX6_lend 96 = .ok (.aload_n 0, 1) := by decide +kernel
theorem dX6_lend_97 : decode cX6_lend 97 = .ok (.getfield 43, 3) := by decide +kernel
theorem dX6_lend_100 : decode cX6_lend 100 = .ok (.iload_n 1, 1) := by decide +kernel
theorem dX6_lend_101 : decode cX6_lend 101 = .ok (.iconst 2, 1) := by decide +kernel
theorem dX6_lend_102 : decode cX6_lend 102 = .ok (.iastore, 1) := by decide +kernel
theorem dX6_lend_103 : decode cX6_lend 103 = .ok (.aload_n 0, 1) := by decide +kernel
theorem dX6_lend_104 : decode cX6_lend 104 = .ok (.getfield 64, 3) := by decide +kernel
theorem dX6_lend_107 : decode cX6_lend 107 = .ok (.iload_n 2, 1) := by decide +kernel
theorem dX6_lend_108 : decode cX6_lend 108 = .ok (.iload_n 1, 1) := by decide +kernel
theorem dX6_lend_109 : decode cX6_lend 109 = .ok (.iconst 1, 1) := by decide +kernel
theorem dX6_lend_110 : decode cX6_lend 110 = .ok (.iadd, 1) := by decide +kernel
theorem dX6_lend_111 : decode cX6_lend 111 = .ok (.iastore, 1) := by decide +kernel
theorem dX6_lend_112 : decode cX6_lend 112 = .ok (.aload_n 0, 1) := by decide +kernel
theorem dX6_lend_113 : decode cX6_lend 113 = .ok (.getfield 67, 3) := by decide +kernel
theorem dX6_lend_116 : decode cX6_lend 116 = .ok (.iload_n 2, 1) := by decide +kernel
theorem dX6_lend_117 : decode cX6_lend 117 = .ok (.iload_n 3, 1) := by decide +kernel
theorem dX6_lend_118 : decode cX6_lend 118 = .ok (.iastore, 1) := by decide +kernel
theorem dX6_lend_119 : decode cX6_lend 119 = .ok (.iload_n 3, 1) := by decide +kernel
theorem dX6_lend_120 : decode cX6_lend 120 = .ok (.ireturn, 1) := by decide +kernel
set_option maxRecDepth 20000 in
theorem ggX6_giveBack_X6_in : GoodIn wsX6_giveBack wsX6_in := goodIn_r _ [9] (by decide +kernel) (by decide +kernel)
set_option maxRecDepth 20000 in
theorem gX6_giveBack_X6_in : GoodIn wsX6_giveBack (va_wsS RX6 74 yX6_in wsX6_in) := goodIn_app (goodIn_of _ (by decide +kernel)) ggX6_giveBack_X6_in
set_option maxRecDepth 20000 in
theorem ggX6_giveBack_X6_fails : GoodIn wsX6_giveBack wsX6_fails := goodIn_r _ [13, 1, 14, 15, 16, 17, 18, 19, 20, 21, 22, 23, 24, 25, 26, 27, 28, 29, 30, 31, 32, 33, 34, 35, 36, 37] (by decide +kernel) (by decide +kernel)
set_option maxRecDepth 20000 in
theorem gX6_giveBack_X6_fails : GoodIn wsX6_giveBack (wsV RX6 91 RX6 yX6_fails wsX6_fails) := goodIn_app (goodIn_of _ (by decide +kernel)) ggX6_giveBack_X6_fails
theorem dX6_giveBack_0 : decode cX6_giveBack 0 = .ok (.aload_n 0, 1) := by decide +kernel
theorem dX6_giveBack_1 : decode cX6_giveBack 1 = .ok (.iload_n 1, 1) := by decide +kernel
theorem dX6_giveBack_2 : decode cX6_giveBack 2 = .ok (.iconst 0, 1) := by decide +kernel
theorem dX6_giveBack_3 : decode cX6_giveBack 3 = .ok (.iconst 5, 1) := by decide +kernel
theorem dX6_giveBack_4 : decode cX6_giveBack 4 = .ok (.invokestatic 74, 3) := by decide +kernel
theorem dX6_giveBack_7 : decode cX6_giveBack 7 = .ok (.ifCond .eq 12, 3) := by decide +kernel
theorem dX6_giveBack_10 : decode cX6_giveBack 10 = .ok (.iload_n 2, 1) := by decide +kernel
theorem dX6_giveBack_11 : decode cX6_giveBack 11 = .ok (.iconst 0, 1) := by decide +kernel
theorem dX6_giveBack_12 : decode cX6_giveBack 12 = .ok (.iconst 3, 1) := by decide +kernel
theorem dX6_giveBack_13 : decode cX6_giveBack 13 = .ok (.invokestatic 74, 3) := by decide +kernel
theorem dX6_giveBack_16 : decode cX6_giveBack 16 = .ok (.ifCond .ne 7, 3) := by decide +kernel
theorem dX6_giveBack_19 : decode cX6_giveBack 19 = .ok (.iconst 1, 1) := by decide +kernel
theorem dX6_giveBack_20 : decode cX6_giveBack 20 = .ok (.goto 18, 3) := by decide +kernel
theorem dX6_giveBack_23 : decode cX6_giveBack 23 = .ok (.iload_n 3, 1) := by decide +kernel
theorem dX6_giveBack_24 : decode cX6_giveBack 24 = .ok (.iconst 0, 1) := by decide +kernel
theorem dX6_giveBack_25 : decode cX6_giveBack 25 = .ok (.bipush 20, 2) := by decide +kernel
theorem dX6_giveBack_27 : decode cX6_giveBack 27 = .ok (.invokestatic 74, 3) := by decide +kernel
theorem dX6_giveBack_30 : decode cX6_giveBack 30 = .ok (.ifCond .ne 7, 3) := by decide +kernel
theorem dX6_giveBack_33 : decode cX6_giveBack 33 = .ok (.iconst 2, 1) := by decide +kernel
theorem dX6_giveBack_34 : decode cX6_giveBack 34 = .ok (.goto 4, 3) := by decide +kernel
theorem dX6_giveBack_37 : decode cX6_giveBack 37 = .ok (.iconst 0, 1) := by decide +kernel
theorem dX6_giveBack_38 : decode cX6_giveBack 38 = .ok (.putfield 70, 3) := by decide +kernel
theorem dX6_giveBack_41 : decode cX6_giveBack 41 = .ok (.aload_n 0, 1) := by decide +kernel
theorem dX6_giveBack_42 : decode cX6_giveBack 42 = .ok (.getfield 70, 3) := by decide +kernel
theorem dX6_giveBack_45 : decode cX6_giveBack 45 = .ok (.ifCond .le 5, 3) := by decide +kernel
theorem dX6_giveBack_48 : decode cX6_giveBack 48 = .ok (.iconst 0, 1) := by decide +kernel
theorem dX6_giveBack_49 : decode cX6_giveBack 49 = .ok (.ireturn, 1) := by decide +kernel
theorem dX6_giveBack_50 : decode cX6_giveBack 50 = .ok (.aload_n 0, 1) := by decide +kernel
theorem dX6_giveBack_51 : decode cX6_giveBack 51 = .ok (.getfield 64, 3) := by decide +kernel
theorem dX6_giveBack_54 : decode cX6_giveBack 54 = .ok (.iload_n 1, 1) := by decide +kernel
theorem dX6_giveBack_55 : decode cX6_giveBack 55 = .ok (.iaload, 1) := by decide +kernel
theorem dX6_giveBack_56 : decode cX6_giveBack 56 = .ok (.iconst 1, 1) := by decide +kernel
theorem dX6_giveBack_57 : decode cX6_giveBack 57 = .ok (.isub, 1) := by decide +kernel
theorem dX6_giveBack_58 : decode cX6_giveBack 58 = .ok (.istore 4, 2) := by decide +kernel
theorem dX6_giveBack_60 : decode cX6_giveBack 60 = .ok (.iload 4, 2) := by decide +kernel
theorem dX6_giveBack_62 : decode cX6_giveBack 62 = .ok (.iconst (-1), 1) := by decide +kernel
theorem dX6_giveBack_63 : decode cX6_giveBack 63 = .ok (.if_icmp .eq 18, 3) := by decide +kernel
theorem dX6_giveBack_66 : decode cX6_giveBack 66 = .ok (.aload_n 0, 1) := by decide +kernel
theorem dX6_giveBack_67 : decode cX6_giveBack 67 = .ok (.getfield 46, 3) := by decide +kernel
theorem dX6_giveBack_70 : decode cX6_giveBack 70 = .ok (.iconst 4, 1) := by decide +kernel
theorem dX6_giveBack_71 : decode cX6_giveBack 71 = .ok (.iload 4, 2) := by decide +kernel
theorem dX6_giveBack_73 : decode cX6_giveBack 73 = .ok (.imul, 1) := by decide +kernel
theorem dX6_giveBack_74 : decode cX6_giveBack 74 = .ok (.iload_n 2, 1) := by decide +kernel
theorem dX6_giveBack_75 : decode cX6_giveBack 75 = .ok (.iadd, 1) := by decide +kernel
theorem dX6_giveBack_76 : decode cX6_giveBack 76 = .ok (.iaload, 1) := by decide +kernel
theorem dX6_giveBack_77 : decode cX6_giveBack 77 = .ok (.iload_n 3, 1) := by decide +kernel
theorem dX6_giveBack_78 : decode cX6_giveBack 78 = .ok (.if_icmp .ge 9, 3) := by decide +kernel
theorem dX6_giveBack_81 : decode cX6_giveBack 81 = .ok (.aload_n 0, 1) := by decide +kernel
theorem dX6_giveBack_82 : decode cX6_giveBack 82 = .ok (.iconst 3, 1) := by decide +kernel
theorem dX6_giveBack_83 : decode cX6_giveBack 83 = .ok (.invokevirtual 91, 3) := by decide +kernel
theorem dX6_giveBack_86 : decode cX6_giveBack 86 = .ok (.ireturn, 1) := by decide +kernel
theorem dX6_giveBack_87 : decode cX6_giveBack 87 = .ok (.aload_n 0, 1) := by decide +kernel
theorem dX6_giveBack_88 : decode cX6_giveBack 88 = .ok (.getfield 46, 3) := by decide +kernel
theorem dX6_giveBack_91 : decode cX6_giveBack 91 = .ok (.iconst 4, 1) := by decide +kernel
theorem dX6_giveBack_92 : decode cX6_giveBack 92 = .ok (.iload 4, 2) := by decide +kernel
theorem dX6_giveBack_94 : decode cX6_giveBack 94 = .ok (.imul, 1) := by decide +kernel
theorem dX6_giveBack_95 : decode cX6_giveBack 95 = .ok (.iload_n 2, 1) := by decide +kernel
theorem dX6_giveBack_96 : decode cX6_giveBack 96 = .ok (.iadd, 1) := by decide +kernel
theorem dX6_giveBack_97 : decode cX6_giveBack 97 = .ok (.dup2, 1) := by decide +kernel
theorem dX6_giveBack_98 : decode cX6_giveBack 98 = .ok (.iaload, 1) := by decide +kernel
theorem dX6_giveBack_99 : decode cX6_giveBack 99 = .ok (.iload_n 3, 1) := by decide +kernel
theorem dX6_giveBack_100 : decode cX6_giveBack 100 = .ok (.isub, 1) := by decide +kernel
theorem dX6_giveBack_101 : decode cX6_giveBack 101 = .ok (.iastore, 1) := by decide +kernel
theorem dX6_giveBack_102 : decode cX6_giveBack 102 = .ok (.aload_n 0, 1) := by decide +kernel
theorem dX6_giveBack_103 : decode cX6_giveBack 103 = .ok (.getfield 43, 3) := by decide +kernel
theorem dX6_giveBack_106 : decode cX6_giveBack 106 = .ok (.iload 4, 2) := by decide +kernel
theorem dX6_giveBack_108 : decode cX6_giveBack 108 = .ok (.iconst 0, 1) := by decide +kernel
theorem dX6_giveBack_109 : decode cX6_giveBack 109 = .ok (.iastore, 1) := by decide +kernel
theorem dX6_giveBack_110 : decode cX6_giveBack 110 = .ok (.aload_n 0, 1) := by decide +kernel
theorem dX6_giveBack_111 : decode cX6_giveBack 111 = .ok (.getfield 64, 3) := by decide +kernel
theorem dX6_giveBack_114 : decode cX6_giveBack 114 = .ok (.iload_n 1, 1) := by decide +kernel
theorem dX6_giveBack_115 : decode cX6_giveBack 115 = .ok (.iconst 0, 1) := by decide +kernel
theorem dX6_giveBack_116 : decode cX6_giveBack 116 = .ok (.iastore, 1) := by decide +kernel
theorem dX6_giveBack_117 : decode cX6_giveBack 117 = .ok (.aload_n 0, 1) := by decide +kernel
theorem dX6_giveBack_118 : decode cX6_giveBack 118 = .ok (.getfield 67, 3) := by decide +kernel
theorem dX6_giveBack_121 : decode cX6_giveBack 121 = .ok (.iload_n 1, 1) := by decide +kernel
theorem dX6_giveBack_122 : decode cX6_giveBack 122 = .ok (.iaload, 1) := by decide +kernel
theorem dX6_giveBack_123 : decode cX6_giveBack 123 = .ok (.bipush 100, 2) := by decide +kernel
theorem dX6_giveBack_125 : decode cX6_giveBack 125 = .ok (.iload_n 2, 1) := by decide +kernel
theorem dX6_giveBack_126 : decode cX6_giveBack 126 = .ok (.iconst 1, 1) := by decide +kernel
theorem dX6_giveBack_127 : decode cX6_giveBack 127 = .ok (.iadd, 1) := by decide +kernel
theorem dX6_giveBack_128 : decode cX6_giveBack 128 = .ok (.imul, 1) := by decide +kernel
theorem dX6_giveBack_129 : decode cX6_giveBack 129 = .ok (.iload_n 3, 1) := by decide +kernel
theorem dX6_giveBack_130 : decode cX6_giveBack 130 = .ok (.imul, 1) := by decide +kernel
theorem dX6_giveBack_131 : decode cX6_giveBack 131 = .ok (.isub, 1) := by decide +kernel
theorem dX6_giveBack_132 : decode cX6_giveBack 132 = .ok (.ireturn, 1) := by decide +kernel
theorem dX6_minute_0 : decode cX6_minute 0 = .ok (.aload_n 0, 1) := by decide +kernel
theorem dX6_minute_1 : decode cX6_minute 1 = .ok (.iconst 0, 1) := by decide +kernel
theorem dX6_minute_2 : decode cX6_minute 2 = .ok (.putfield 70, 3) := by decide +kernel
theorem dX6_minute_5 : decode cX6_minute 5 = .ok (.aload_n 0, 1) := by decide +kernel
theorem dX6_minute_6 : decode cX6_minute 6 = .ok (.getfield 98, 3) := by decide +kernel
theorem dX6_minute_9 : decode cX6_minute 9 = .ok (.ireturn, 1) := by decide +kernel
theorem dX6_copies_0 : decode cX6_copies 0 = .ok (.aload_n 0, 1) := by decide +kernel
theorem dX6_copies_1 : decode cX6_copies 1 = .ok (.iconst 0, 1) := by decide +kernel
theorem dX6_copies_2 : decode cX6_copies 2 = .ok (.putfield 70, 3) := by decide +kernel
theorem dX6_copies_5 : decode cX6_copies 5 = .ok (.aload_n 0, 1) := by decide +kernel
theorem dX6_copies_6 : decode cX6_copies 6 = .ok (.getfield 78, 3) := by decide +kernel
theorem dX6_copies_9 : decode cX6_copies 9 = .ok (.ireturn, 1) := by decide +kernel
set_option maxRecDepth 20000 in
theorem ggX6_parts_X6_isCopy : GoodIn wsX6_parts wsX6_isCopy := goodIn_r _ [7, 8, 9, 10, 6, 11, 12, 13, 14, 15, 16, 17, 18, 19, 20, 21, 22, 23, 24, 25, 26, 27, 28, 29, 30, 31, 32, 33, 34, 35] (by decide +kernel) (by decide +kernel)
set_option maxRecDepth 20000 in
theorem gX6_parts_X6_isCopy : GoodIn wsX6_parts (wsV RX6 88 RX6 yX6_isCopy wsX6_isCopy) := goodIn_app (goodIn_of _ (by decide +kernel)) ggX6_parts_X6_isCopy
set_option maxRecDepth 20000 in
theorem ggX6_parts_X6_in : GoodIn wsX6_parts wsX6_in := goodIn_r _ [11] (by decide +kernel) (by decide +kernel)
set_option maxRecDepth 20000 in
theorem gX6_parts_X6_in : GoodIn wsX6_parts (va_wsS RX6 74 yX6_in wsX6_in) := goodIn_app (goodIn_of _ (by decide +kernel)) ggX6_parts_X6_in
theorem dX6_parts_0 : decode cX6_parts 0 = .ok (.aload_n 0, 1) := by decide +kernel
theorem dX6_parts_1 : decode cX6_parts 1 = .ok (.aload_n 0, 1) := by decide +kernel
theorem dX6_parts_2 : decode cX6_parts 2 = .ok (.iload_n 1, 1) := by decide +kernel
theorem dX6_parts_3 : decode cX6_parts 3 = .ok (.invokevirtual 88, 3) := by decide +kernel
theorem dX6_parts_6 : decode cX6_parts 6 = .ok (.ifCond .eq 16, 3) := by decide +kernel
theorem dX6_parts_9 : decode cX6_parts 9 = .ok (.iload_n 2, 1) := by decide +kernel
theorem dX6_parts_10 : decode cX6_parts 10 = .ok (.iconst 0, 1) := by decide +kernel
theorem dX6_parts_11 : decode cX6_parts 11 = .ok (.iconst 3, 1) := by decide +kernel
theorem dX6_parts_12 : decode cX6_parts 12 = .ok (.invokestatic 74, 3) := by decide +kernel
theorem dX6_parts_15 : decode cX6_parts 15 = .ok (.ifCond .eq 7, 3) := by decide +kernel
theorem dX6_parts_18 : decode cX6_parts 18 = .ok (.iconst 0, 1) := by decide +kernel
theorem dX6_parts_19 : decode cX6_parts 19 = .ok (.goto 4, 3) := by decide +kernel
theorem dX6_parts_22 : decode cX6_parts 22 = .ok (.iconst 1, 1) := by decide +kernel
theorem dX6_parts_23 : decode cX6_parts 23 = .ok (.putfield 70, 3) := by decide +kernel
theorem dX6_parts_26 : decode cX6_parts 26 = .ok (.aload_n 0, 1) := by decide +kernel
theorem dX6_parts_27 : decode cX6_parts 27 = .ok (.getfield 70, 3) := by decide +kernel
theorem dX6_parts_30 : decode cX6_parts 30 = .ok (.ifCond .ne 16, 3) := by decide +kernel
theorem dX6_parts_33 : decode cX6_parts 33 = .ok (.aload_n 0, 1) := by decide +kernel
theorem dX6_parts_34 : decode cX6_parts 34 = .ok (.getfield 46, 3) := by decide +kernel
theorem dX6_parts_37 : decode cX6_parts 37 = .ok (.iconst 4, 1) := by decide +kernel
theorem dX6_parts_38 : decode cX6_parts 38 = .ok (.iload_n 1, 1) := by decide +kernel
theorem dX6_parts_39 : decode cX6_parts 39 = .ok (.imul, 1) := by decide +kernel
theorem dX6_parts_40 : decode cX6_parts 40 = .ok (.iload_n 2, 1) := by decide +kernel
theorem dX6_parts_41 : decode cX6_parts 41 = .ok (.iadd, 1) := by decide +kernel
theorem dX6_parts_42 : decode cX6_parts 42 = .ok (.iaload, 1) := by decide +kernel
theorem dX6_parts_43 : decode cX6_parts 43 = .ok (.goto 4, 3) := by decide +kernel
theorem dX6_parts_46 : decode cX6_parts 46 = .ok (.iconst 0, 1) := by decide +kernel
theorem dX6_parts_47 : decode cX6_parts 47 = .ok (.ireturn, 1) := by decide +kernel
set_option maxRecDepth 20000 in
theorem ggX6_canBePlayed_X6_isCopy : GoodIn wsX6_canBePlayed wsX6_isCopy := goodIn_r _ [6, 7, 8, 9, 5, 10, 18, 19, 20, 21, 22, 23, 24, 25, 26, 27, 28, 29, 30, 31, 32, 33, 34, 35, 36, 37, 38, 39, 40, 41] (by decide +kernel) (by decide +kernel)
set_option maxRecDepth 20000 in
theorem gX6_canBePlayed_X6_isCopy : GoodIn wsX6_canBePlayed (wsV RX6 88 RX6 yX6_isCopy wsX6_isCopy) := goodIn_app (goodIn_of _ (by decide +kernel)) ggX6_canBePlayed_X6_isCopy
set_option maxRecDepth 20000 in
theorem ggX6_canBePlayed_X6_playable : GoodIn wsX6_canBePlayed wsX6_playable := goodIn_r _ [14, 15, 16, 17, 18, 19, 20, 21, 22, 23, 24, 25, 26, 27, 28, 29, 30, 31, 32, 33, 34, 35, 36, 37, 38, 39, 40, 41] (by decide +kernel) (by decide +kernel)
set_option maxRecDepth 20000 in
theorem gX6_canBePlayed_X6_playable : GoodIn wsX6_canBePlayed (wsV RX6 95 RX6 yX6_playable wsX6_playable) := goodIn_app (goodIn_of _ (by decide +kernel)) ggX6_canBePlayed_X6_playable
theorem dX6_canBePlayed_0 : decode cX6_canBePlayed 0 = .ok (.aload_n 0, 1) := by decide +kernel
theorem dX6_canBePlayed_1 : decode cX6_canBePlayed 1 = .ok (.aload_n 0, 1) := by decide +kernel
theorem dX6_canBePlayed_2 : decode cX6_canBePlayed 2 = .ok (.iload_n 1, 1) := by decide +kernel
theorem dX6_canBePlayed_3 : decode cX6_canBePlayed 3 = .ok (.invokevirtual 88, 3) := by decide +kernel
theorem dX6_canBePlayed_6 : decode cX6_canBePlayed 6 = .ok (.ifCond .eq 7, 3) := by decide +kernel
theorem dX6_canBePlayed_9 : decode cX6_canBePlayed 9 = .ok (.iconst 0, 1) := by decide +kernel
theorem dX6_canBePlayed_10 : decode cX6_canBePlayed 10 = .ok (.goto 4, 3) := by decide +kernel
theorem dX6_canBePlayed_13 : decode cX6_canBePlayed 13 = .ok (.iconst 1, 1) := by decide +kernel
theorem dX6_canBePlayed_14 : decode cX6_canBePlayed 14 = .ok (.putfield 70, 3) := by decide +kernel
theorem dX6_canBePlayed_17 : decode cX6_canBePlayed 17 = .ok (.aload_n 0, 1) := by decide +kernel
theorem dX6_canBePlayed_18 : decode cX6_canBePlayed 18 = .ok (.getfield 70, 3) := by decide +kernel
theorem dX6_canBePlayed_21 : decode cX6_canBePlayed 21 = .ok (.ifCond .ne 15, 3) := by decide +kernel
theorem dX6_canBePlayed_24 : decode cX6_canBePlayed 24 = .ok (.aload_n 0, 1) := by decide +kernel
theorem dX6_canBePlayed_25 : decode cX6_canBePlayed 25 = .ok (.iload_n 1, 1) := by decide +kernel
theorem dX6_canBePlayed_26 : decode cX6_canBePlayed 26 = .ok (.invokevirtual 95, 3) := by decide +kernel
theorem dX6_canBePlayed_29 : decode cX6_canBePlayed 29 = .ok (.ifCond .eq 7, 3) := by decide +kernel
theorem dX6_canBePlayed_32 : decode cX6_canBePlayed 32 = .ok (.iconst 1, 1) := by decide +kernel
theorem dX6_canBePlayed_33 : decode cX6_canBePlayed 33 = .ok (.goto 4, 3) := by decide +kernel
theorem dX6_canBePlayed_36 : decode cX6_canBePlayed 36 = .ok (.iconst 0, 1) := by decide +kernel
theorem dX6_canBePlayed_37 : decode cX6_canBePlayed 37 = .ok (.ireturn, 1) := by decide +kernel
set_option maxRecDepth 20000 in
theorem ggX6_whereIs_X6_isCopy : GoodIn wsX6_whereIs wsX6_isCopy := goodIn_r _ [7, 8, 9, 10, 6, 11, 12, 13, 14, 15, 16, 17, 18, 19, 20, 21, 22, 23, 24, 25, 26, 27, 28, 29, 30, 31, 32, 33, 34, 35] (by decide +kernel) (by decide +kernel)
set_option maxRecDepth 20000 in
theorem gX6_whereIs_X6_isCopy : GoodIn wsX6_whereIs (wsV RX6 88 RX6 yX6_isCopy wsX6_isCopy) := goodIn_app (goodIn_of _ (by decide +kernel)) ggX6_whereIs_X6_isCopy
theorem dX6_whereIs_0 : decode cX6_whereIs 0 = .ok (.aload_n 0, 1) := by decide +kernel
theorem dX6_whereIs_1 : decode cX6_whereIs 1 = .ok (.aload_n 0, 1) := by decide +kernel
theorem dX6_whereIs_2 : decode cX6_whereIs 2 = .ok (.iload_n 1, 1) := by decide +kernel
theorem dX6_whereIs_3 : decode cX6_whereIs 3 = .ok (.invokevirtual 88, 3) := by decide +kernel
theorem dX6_whereIs_6 : decode cX6_whereIs 6 = .ok (.ifCond .eq 7, 3) := by decide +kernel
theorem dX6_whereIs_9 : decode cX6_whereIs 9 = .ok (.iconst 0, 1) := by decide +kernel
theorem dX6_whereIs_10 : decode cX6_whereIs 10 = .ok (.goto 4, 3) := by decide +kernel
theorem dX6_whereIs_13 : decode cX6_whereIs 13 = .ok (.iconst 1, 1) := by decide +kernel
theorem dX6_whereIs_14 : decode cX6_whereIs 14 = .ok (.putfield 70, 3) := by decide +kernel
theorem dX6_whereIs_17 : decode cX6_whereIs 17 = .ok (.aload_n 0, 1) := by decide +kernel
theorem dX6_whereIs_18 : decode cX6_whereIs 18 = .ok (.getfield 70, 3) := by decide +kernel
theorem dX6_whereIs_21 : decode cX6_whereIs 21 = .ok (.ifCond .ne 12, 3) := by decide +kernel
theorem dX6_whereIs_24 : decode cX6_whereIs 24 = .ok (.aload_n 0, 1) := by decide +kernel
theorem dX6_whereIs_25 : decode cX6_whereIs 25 = .ok (.getfield 43, 3) := by decide +kernel
theorem dX6_whereIs_28 : decode cX6_whereIs 28 = .ok (.iload_n 1, 1) := by decide +kernel
theorem dX6_whereIs_29 : decode cX6_whereIs 29 = .ok (.iaload, 1) := by decide +kernel
theorem dX6_whereIs_30 : decode cX6_whereIs 30 = .ok (.goto 4, 3) := by decide +kernel
theorem dX6_whereIs_33 : decode cX6_whereIs 33 = .ok (.iconst 0, 1) := by decide +kernel
theorem dX6_whereIs_34 : decode cX6_whereIs 34 = .ok (.ireturn, 1) := by decide +kernel
set_option maxRecDepth 20000 in
theorem ggX6_at_X6_in : GoodIn wsX6_at wsX6_in := goodIn_r _ [6] (by decide +kernel) (by decide +kernel)
set_option maxRecDepth 20000 in
theorem gX6_at_X6_in : GoodIn wsX6_at (va_wsS RX6 74 yX6_in wsX6_in) := goodIn_app (goodIn_of _ (by decide +kernel)) ggX6_at_X6_in
theorem dX6_at_0 : decode cX6_at 0 = .ok (.aload_n 0, 1) := by decide +kernel
theorem dX6_at_1 : decode cX6_at 1 = .ok (.iload_n 1, 1) := by decide +kernel
theorem dX6_at_2 : decode cX6_at 2 = .ok (.iconst 0, 1) := by decide +kernel
theorem dX6_at_3 : decode cX6_at 3 = .ok (.iconst 5, 1) := by decide +kernel
theorem dX6_at_4 : decode cX6_at 4 = .ok (.invokestatic 74, 3) := by decide +kernel
theorem dX6_at_7 : decode cX6_at 7 = .ok (.ifCond .eq 7, 3) := by decide +kernel
theorem dX6_at_10 : decode cX6_at 10 = .ok (.iconst 0, 1) := by decide +kernel
theorem dX6_at_11 : decode cX6_at 11 = .ok (.goto 4, 3) := by decide +kernel
theorem dX6_at_14 : decode cX6_at 14 = .ok (.iconst 1, 1) := by decide +kernel
theorem dX6_at_15 : decode cX6_at 15 = .ok (.putfield 70, 3) := by decide +kernel
theorem dX6_at_18 : decode cX6_at 18 = .ok (.aload_n 0, 1) := by decide +kernel
theorem dX6_at_19 : decode cX6_at 19 = .ok (.getfield 70, 3) := by decide +kernel
theorem dX6_at_22 : decode cX6_at 22 = .ok (.ifCond .ne 14, 3) := by decide +kernel
theorem dX6_at_25 : decode cX6_at 25 = .ok (.aload_n 0, 1) := by decide +kernel
theorem dX6_at_26 : decode cX6_at 26 = .ok (.getfield 31, 3) := by decide +kernel
theorem dX6_at_29 : decode cX6_at 29 = .ok (.iload_n 1, 1) := by decide +kernel
theorem dX6_at_30 : decode cX6_at 30 = .ok (.iaload, 1) := by decide +kernel
theorem dX6_at_31 : decode cX6_at 31 = .ok (.iconst 1, 1) := by decide +kernel
theorem dX6_at_32 : decode cX6_at 32 = .ok (.isub, 1) := by decide +kernel
theorem dX6_at_33 : decode cX6_at 33 = .ok (.goto 4, 3) := by decide +kernel
theorem dX6_at_36 : decode cX6_at 36 = .ok (.iconst 0, 1) := by decide +kernel
theorem dX6_at_37 : decode cX6_at 37 = .ok (.ireturn, 1) := by decide +kernel
set_option maxRecDepth 20000 in
theorem ggX6_copyOf_X6_isThere : GoodIn wsX6_copyOf wsX6_isThere := goodIn_r _ [6, 7, 8, 9, 10, 11, 5, 12, 13, 14, 15, 16, 17, 18, 19, 20, 21, 22, 23, 24, 25, 26, 27, 28, 29, 30, 31, 32, 33, 34, 35, 36] (by decide +kernel) (by decide +kernel)
set_option maxRecDepth 20000 in
theorem gX6_copyOf_X6_isThere : GoodIn wsX6_copyOf (wsV RX6 110 RX6 yX6_isThere wsX6_isThere) := goodIn_app (goodIn_of _ (by decide +kernel)) ggX6_copyOf_X6_isThere
theorem dX6_copyOf_0 : decode cX6_copyOf 0 = .ok (.aload_n 0, 1) := by decide +kernel
theorem dX6_copyOf_1 : decode cX6_copyOf 1 = .ok (.iload_n 1, 1) := by decide +kernel
theorem dX6_copyOf_2 : decode cX6_copyOf 2 = .ok (.invokevirtual 110, 3) := by decide +kernel
theorem dX6_copyOf_5 : decode cX6_copyOf 5 = .ok (.ifCond .eq 12, 3) := by decide +kernel
theorem dX6_copyOf_8 : decode cX6_copyOf 8 = .ok (.aload_n 0, 1) := by decide +kernel
theorem dX6_copyOf_9 : decode cX6_copyOf 9 = .ok (.getfield 55, 3) := by decide +kernel
theorem dX6_copyOf_12 : decode cX6_copyOf 12 = .ok (.iload_n 1, 1) := by decide +kernel
theorem dX6_copyOf_13 : decode cX6_copyOf 13 = .ok (.iaload, 1) := by decide +kernel
theorem dX6_copyOf_14 : decode cX6_copyOf 14 = .ok (.goto 4, 3) := by decide +kernel
theorem dX6_copyOf_17 : decode cX6_copyOf 17 = .ok (.iconst 0, 1) := by decide +kernel
theorem dX6_copyOf_18 : decode cX6_copyOf 18 = .ok (.ireturn, 1) := by decide +kernel
set_option maxRecDepth 20000 in
theorem ggX6_teaching_X6_in : GoodIn wsX6_teaching wsX6_in := goodIn_r _ [7] (by decide +kernel) (by decide +kernel)
set_option maxRecDepth 20000 in
theorem gX6_teaching_X6_in : GoodIn wsX6_teaching (va_wsS RX6 74 yX6_in wsX6_in) := goodIn_app (goodIn_of _ (by decide +kernel)) ggX6_teaching_X6_in
theorem dX6_teaching_0 : decode cX6_teaching 0 = .ok (.aload_n 0, 1) := by decide +kernel
theorem dX6_teaching_1 : decode cX6_teaching 1 = .ok (.iload_n 1, 1) := by decide +kernel
theorem dX6_teaching_2 : decode cX6_teaching 2 = .ok (.iconst 0, 1) := by decide +kernel
theorem dX6_teaching_3 : decode cX6_teaching 3 = .ok (.iconst 2, 1) := by decide +kernel
theorem dX6_teaching_4 : decode cX6_teaching 4 = .ok (.invokestatic 74, 3) := by decide +kernel
theorem dX6_teaching_7 : decode cX6_teaching 7 = .ok (.ifCond .eq 7, 3) := by decide +kernel
theorem dX6_teaching_10 : decode cX6_teaching 10 = .ok (.iconst 0, 1) := by decide +kernel
theorem dX6_teaching_11 : decode cX6_teaching 11 = .ok (.goto 4, 3) := by decide +kernel
theorem dX6_teaching_14 : decode cX6_teaching 14 = .ok (.iconst 1, 1) := by decide +kernel
theorem dX6_teaching_15 : decode cX6_teaching 15 = .ok (.putfield 70, 3) := by decide +kernel
theorem dX6_teaching_18 : decode cX6_teaching 18 = .ok (.aload_n 0, 1) := by decide +kernel
theorem dX6_teaching_19 : decode cX6_teaching 19 = .ok (.getfield 70, 3) := by decide +kernel
theorem dX6_teaching_22 : decode cX6_teaching 22 = .ok (.ifCond .ne 30, 3) := by decide +kernel
theorem dX6_teaching_25 : decode cX6_teaching 25 = .ok (.aload_n 0, 1) := by decide +kernel
theorem dX6_teaching_26 : decode cX6_teaching 26 = .ok (.getfield 37, 3) := by decide +kernel
theorem dX6_teaching_29 : decode cX6_teaching 29 = .ok (.iload_n 1, 1) := by decide +kernel
theorem dX6_teaching_30 : decode cX6_teaching 30 = .ok (.iaload, 1) := by decide +kernel
theorem dX6_teaching_31 : decode cX6_teaching 31 = .ok (.aload_n 0, 1) := by decide +kernel
theorem dX6_teaching_32 : decode cX6_teaching 32 = .ok (.getfield 98, 3) := by decide +kernel
theorem dX6_teaching_35 : decode cX6_teaching 35 = .ok (.if_icmp .le 17, 3) := by decide +kernel
theorem dX6_teaching_38 : decode cX6_teaching 38 = .ok (.aload_n 0, 1) := by decide +kernel
theorem dX6_teaching_39 : decode cX6_teaching 39 = .ok (.getfield 37, 3) := by decide +kernel
theorem dX6_teaching_42 : decode cX6_teaching 42 = .ok (.iload_n 1, 1) := by decide +kernel
theorem dX6_teaching_43 : decode cX6_teaching 43 = .ok (.iaload, 1) := by decide +kernel
theorem dX6_teaching_44 : decode cX6_teaching 44 = .ok (.aload_n 0, 1) := by decide +kernel
theorem dX6_teaching_45 : decode cX6_teaching 45 = .ok (.getfield 98, 3) := by decide +kernel
theorem dX6_teaching_48 : decode cX6_teaching 48 = .ok (.isub, 1) := by decide +kernel
theorem dX6_teaching_49 : decode cX6_teaching 49 = .ok (.goto 4, 3) := by decide +kernel
theorem dX6_teaching_52 : decode cX6_teaching 52 = .ok (.iconst 0, 1) := by decide +kernel
theorem dX6_teaching_53 : decode cX6_teaching 53 = .ok (.ireturn, 1) := by decide +kernel
set_option maxRecDepth 20000 in
theorem ggX6_plays_X6_isGame : GoodIn wsX6_plays wsX6_isGame := goodIn_r _ [6, 7, 8, 5, 9] (by decide +kernel) (by decide +kernel)
set_option maxRecDepth 20000 in
theorem gX6_plays_X6_isGame : GoodIn wsX6_plays (va_wsS RX6 84 yX6_isGame wsX6_isGame) := goodIn_app (goodIn_of _ (by decide +kernel)) ggX6_plays_X6_isGame
theorem dX6_plays_0 : decode cX6_plays 0 = .ok (.aload_n 0, 1) := by decide +kernel
theorem dX6_plays_1 : decode cX6_plays 1 = .ok (.iload_n 1, 1) := by decide +kernel
theorem dX6_plays_2 : decode cX6_plays 2 = .ok (.invokestatic 84, 3) := by decide +kernel
theorem dX6_plays_5 : decode cX6_plays 5 = .ok (.ifCond .eq 7, 3) := by decide +kernel
theorem dX6_plays_8 : decode cX6_plays 8 = .ok (.iconst 0, 1) := by decide +kernel
theorem dX6_plays_9 : decode cX6_plays 9 = .ok (.goto 4, 3) := by decide +kernel
theorem dX6_plays_12 : decode cX6_plays 12 = .ok (.iconst 1, 1) := by decide +kernel
theorem dX6_plays_13 : decode cX6_plays 13 = .ok (.putfield 70, 3) := by decide +kernel
theorem dX6_plays_16 : decode cX6_plays 16 = .ok (.aload_n 0, 1) := by decide +kernel
theorem dX6_plays_17 : decode cX6_plays 17 = .ok (.getfield 70, 3) := by decide +kernel
theorem dX6_plays_20 : decode cX6_plays 20 = .ok (.ifCond .ne 12, 3) := by decide +kernel
theorem dX6_plays_23 : decode cX6_plays 23 = .ok (.aload_n 0, 1) := by decide +kernel
theorem dX6_plays_24 : decode cX6_plays 24 = .ok (.getfield 25, 3) := by decide +kernel
theorem dX6_plays_27 : decode cX6_plays 27 = .ok (.iload_n 1, 1) := by decide +kernel
theorem dX6_plays_28 : decode cX6_plays 28 = .ok (.iaload, 1) := by decide +kernel
theorem dX6_plays_29 : decode cX6_plays 29 = .ok (.goto 4, 3) := by decide +kernel
theorem dX6_plays_32 : decode cX6_plays 32 = .ok (.iconst 0, 1) := by decide +kernel
theorem dX6_plays_33 : decode cX6_plays 33 = .ok (.ireturn, 1) := by decide +kernel
set_option maxRecDepth 20000 in
theorem ggX6_propose_X6_in : GoodIn wsX6_propose wsX6_in := goodIn_r _ [9] (by decide +kernel) (by decide +kernel)
set_option maxRecDepth 20000 in
theorem gX6_propose_X6_in : GoodIn wsX6_propose (va_wsS RX6 74 yX6_in wsX6_in) := goodIn_app (goodIn_of _ (by decide +kernel)) ggX6_propose_X6_in
set_option maxRecDepth 20000 in
theorem ggX6_propose_X6_tableFor : GoodIn wsX6_propose wsX6_tableFor := goodIn_r _ [13, 14, 15, 29, 30, 31, 32, 33, 34, 35, 36, 37, 38, 39, 40, 41, 42, 43, 44, 45, 46, 47, 48, 49, 50, 51, 52] (by decide +kernel) (by decide +kernel)
set_option maxRecDepth 20000 in
theorem gX6_propose_X6_tableFor : GoodIn wsX6_propose (wsV RX6 101 RX6 yX6_tableFor wsX6_tableFor) := goodIn_app (goodIn_of _ (by decide +kernel)) ggX6_propose_X6_tableFor
set_option maxRecDepth 20000 in
theorem ggX6_propose_X6_copyFor : GoodIn wsX6_propose wsX6_copyFor := goodIn_r _ [19, 20, 21, 22, 23, 24, 25, 8, 26, 27, 28, 29, 30, 31, 32, 33, 34, 35, 36, 37, 38, 39, 40, 41, 42, 43, 44, 45, 46, 47, 48, 49, 50, 51, 52] (by decide +kernel) (by decide +kernel)
set_option maxRecDepth 20000 in
theorem gX6_propose_X6_copyFor : GoodIn wsX6_propose (wsV RX6 104 RX6 yX6_copyFor wsX6_copyFor) := goodIn_app (goodIn_of _ (by decide +kernel)) ggX6_propose_X6_copyFor
theorem dX6_propose_0 : decode cX6_propose 0 = .ok (.aload_n 0, 1) := by decide +kernel
theorem dX6_propose_1 : decode cX6_propose 1 = .ok (.iload_n 1, 1) := by decide +kernel
theorem dX6_propose_2 : decode cX6_propose 2 = .ok (.iconst 1, 1) := by decide +kernel
theorem dX6_propose_3 : decode cX6_propose 3 = .ok (.bipush 8, 2) := by decide +kernel
theorem dX6_propose_5 : decode cX6_propose 5 = .ok (.invokestatic 74, 3) := by decide +kernel
theorem dX6_propose_8 : decode cX6_propose 8 = .ok (.ifCond .eq 7, 3) := by decide +kernel
theorem dX6_propose_11 : decode cX6_propose 11 = .ok (.iconst 0, 1) := by decide +kernel
theorem dX6_propose_12 : decode cX6_propose 12 = .ok (.goto 4, 3) := by decide +kernel
theorem dX6_propose_15 : decode cX6_propose 15 = .ok (.iconst 1, 1) := by decide +kernel
theorem dX6_propose_16 : decode cX6_propose 16 = .ok (.putfield 70, 3) := by decide +kernel
theorem dX6_propose_19 : decode cX6_propose 19 = .ok (.aload_n 0, 1) := by decide +kernel
theorem dX6_propose_20 : decode cX6_propose 20 = .ok (.getfield 70, 3) := by decide +kernel
theorem dX6_propose_23 : decode cX6_propose 23 = .ok (.ifCond .le 5, 3) := by decide +kernel
theorem dX6_propose_26 : decode cX6_propose 26 = .ok (.iconst 0, 1) := by decide +kernel
theorem dX6_propose_27 : decode cX6_propose 27 = .ok (.ireturn, 1) := by decide +kernel
theorem dX6_propose_28 : decode cX6_propose 28 = .ok (.iconst (-1), 1) := by decide +kernel
theorem dX6_propose_29 : decode cX6_propose 29 = .ok (.istore_n 2, 1) := by decide +kernel
theorem dX6_propose_30 : decode cX6_propose 30 = .ok (.iconst 0, 1) := by decide +kernel
theorem dX6_propose_31 : decode cX6_propose 31 = .ok (.istore_n 3, 1) := by decide +kernel
theorem dX6_propose_32 : decode cX6_propose 32 = .ok (.iload_n 3, 1) := by decide +kernel
theorem dX6_propose_33 : decode cX6_propose 33 = .ok (.iconst 5, 1) := by decide +kernel
theorem dX6_propose_34 : decode cX6_propose 34 = .ok (.if_icmp .ge 93, 3) := by decide +kernel
theorem dX6_propose_37 : decode cX6_propose 37 = .ok (.aload_n 0, 1) := by decide +kernel
theorem dX6_propose_38 : decode cX6_propose 38 = .ok (.getfield 81, 3) := by decide +kernel
theorem dX6_propose_41 : decode cX6_propose 41 = .ok (.bipush 60, 2) := by decide +kernel
theorem dX6_propose_43 : decode cX6_propose 43 = .ok (.if_icmp .ge 84, 3) := by decide +kernel
theorem dX6_propose_46 : decode cX6_propose 46 = .ok (.aload_n 0, 1) := by decide +kernel
theorem dX6_propose_47 : decode cX6_propose 47 = .ok (.iload_n 1, 1) := by decide +kernel
theorem dX6_propose_48 : decode cX6_propose 48 = .ok (.invokevirtual 101, 3) := by decide +kernel
theorem dX6_propose_51 : decode cX6_propose 51 = .ok (.iconst (-1), 1) := by decide +kernel
theorem dX6_propose_52 : decode cX6_propose 52 = .ok (.if_icmp .eq 75, 3) := by decide +kernel
theorem dX6_propose_55 : decode cX6_propose 55 = .ok (.iload_n 1, 1) := by decide +kernel
theorem dX6_propose_56 : decode cX6_propose 56 = .ok (.aload_n 0, 1) := by decide +kernel
theorem dX6_propose_57 : decode cX6_propose 57 = .ok (.getfield 7, 3) := by decide +kernel
theorem dX6_propose_60 : decode cX6_propose 60 = .ok (.iload_n 3, 1) := by decide +kernel
theorem dX6_propose_61 : decode cX6_propose 61 = .ok (.iaload, 1) := by decide +kernel
theorem dX6_propose_62 : decode cX6_propose 62 = .ok (.aload_n 0, 1) := by decide +kernel
theorem dX6_propose_63 : decode cX6_propose 63 = .ok (.getfield 13, 3) := by decide +kernel
theorem dX6_propose_66 : decode cX6_propose 66 = .ok (.iload_n 3, 1) := by decide +kernel
theorem dX6_propose_67 : decode cX6_propose 67 = .ok (.iaload, 1) := by decide +kernel
theorem dX6_propose_68 : decode cX6_propose 68 = .ok (.invokestatic 74, 3) := by decide +kernel
theorem dX6_propose_71 : decode cX6_propose 71 = .ok (.ifCond .eq 16, 3) := by decide +kernel
theorem dX6_propose_74 : decode cX6_propose 74 = .ok (.aload_n 0, 1) := by decide +kernel
theorem dX6_propose_75 : decode cX6_propose 75 = .ok (.iload_n 3, 1) := by decide +kernel
theorem dX6_propose_76 : decode cX6_propose 76 = .ok (.invokevirtual 104, 3) := by decide +kernel
theorem dX6_propose_79 : decode cX6_propose 79 = .ok (.iconst (-1), 1) := by decide +kernel
theorem dX6_propose_80 : decode cX6_propose 80 = .ok (.if_icmp .eq 7, 3) := by decide +kernel
theorem dX6_propose_83 : decode cX6_propose 83 = .ok (.iconst 1, 1) := by decide +kernel
theorem dX6_propose_84 : decode cX6_propose 84 = .ok (.goto 4, 3) := by decide +kernel
theorem dX6_propose_87 : decode cX6_propose 87 = .ok (.iconst 0, 1) := by decide +kernel
theorem dX6_propose_88 : decode cX6_propose 88 = .ok (.istore 4, 2) := by decide +kernel
theorem dX6_propose_90 : decode cX6_propose 90 = .ok (.iload 4, 2) := by decide +kernel
theorem dX6_propose_92 : decode cX6_propose 92 = .ok (.ifCond .eq 27, 3) := by decide +kernel
theorem dX6_propose_95 : decode cX6_propose 95 = .ok (.iload_n 2, 1) := by decide +kernel
theorem dX6_propose_96 : decode cX6_propose 96 = .ok (.iconst (-1), 1) := by decide +kernel
theorem dX6_propose_97 : decode cX6_propose 97 = .ok (.if_icmp .eq 18, 3) := by decide +kernel
theorem dX6_propose_100 : decode cX6_propose 100 = .ok (.aload_n 0, 1) := by decide +kernel
theorem dX6_propose_101 : decode cX6_propose 101 = .ok (.getfield 25, 3) := by decide +kernel
theorem dX6_propose_104 : decode cX6_propose 104 = .ok (.iload_n 3, 1) := by decide +kernel
theorem dX6_propose_105 : decode cX6_propose 105 = .ok (.iaload, 1) := by decide +kernel
theorem dX6_propose_106 : decode cX6_propose 106 = .ok (.aload_n 0, 1) := by decide +kernel
theorem dX6_propose_107 : decode cX6_propose 107 = .ok (.getfield 25, 3) := by decide +kernel
theorem dX6_propose_110 : decode cX6_propose 110 = .ok (.iload_n 2, 1) := by decide +kernel
theorem dX6_propose_111 : decode cX6_propose 111 = .ok (.iaload, 1) := by decide +kernel
theorem dX6_propose_112 : decode cX6_propose 112 = .ok (.if_icmp .le 7, 3) := by decide +kernel
theorem dX6_propose_115 : decode cX6_propose 115 = .ok (.iload_n 3, 1) := by decide +kernel
theorem dX6_propose_116 : decode cX6_propose 116 = .ok (.goto 4, 3) := by decide +kernel
theorem dX6_propose_119 : decode cX6_propose 119 = .ok (.iload_n 2, 1) := by decide +kernel
theorem dX6_propose_120 : decode cX6_propose 120 = .ok (.istore_n 2, 1) := by decide +kernel
theorem dX6_propose_121 : decode cX6_propose 121 = .ok (.iinc 3 1, 3) := by decide +kernel
theorem dX6_propose_124 : decode cX6_propose 124 = .ok (.goto (-92), 3) := by decide +kernel
theorem dX6_propose_127 : decode cX6_propose 127 = .ok (.iload_n 2, 1) := by decide +kernel
theorem dX6_propose_128 : decode cX6_propose 128 = .ok (.ireturn, 1) := by decide +kernel
theorem dJ9_max_7cf53_0 : decode cJ9_max_7cf53 0 = .ok (.iload_n 0, 1) := by decide +kernel
theorem dJ9_max_7cf53_1 : decode cJ9_max_7cf53 1 = .ok (.iload_n 1, 1) := by decide +kernel
theorem dJ9_max_7cf53_2 : decode cJ9_max_7cf53 2 = .ok (.if_icmp .lt 7, 3) := by decide +kernel
theorem dJ9_max_7cf53_5 : decode cJ9_max_7cf53 5 = .ok (.iload_n 0, 1) := by decide +kernel
theorem dJ9_max_7cf53_6 : decode cJ9_max_7cf53 6 = .ok (.goto 4, 3) := by decide +kernel
theorem dJ9_max_7cf53_9 : decode cJ9_max_7cf53 9 = .ok (.iload_n 1, 1) := by decide +kernel
theorem dJ9_max_7cf53_10 : decode cJ9_max_7cf53 10 = .ok (.ireturn, 1) := by decide +kernel
theorem dJ9_min_7cf53_0 : decode cJ9_min_7cf53 0 = .ok (.iload_n 0, 1) := by decide +kernel
theorem dJ9_min_7cf53_1 : decode cJ9_min_7cf53 1 = .ok (.iload_n 1, 1) := by decide +kernel
theorem dJ9_min_7cf53_2 : decode cJ9_min_7cf53 2 = .ok (.if_icmp .gt 7, 3) := by decide +kernel
theorem dJ9_min_7cf53_5 : decode cJ9_min_7cf53 5 = .ok (.iload_n 0, 1) := by decide +kernel
theorem dJ9_min_7cf53_6 : decode cJ9_min_7cf53 6 = .ok (.goto 4, 3) := by decide +kernel
theorem dJ9_min_7cf53_9 : decode cJ9_min_7cf53 9 = .ok (.iload_n 1, 1) := by decide +kernel
theorem dJ9_min_7cf53_10 : decode cJ9_min_7cf53 10 = .ok (.ireturn, 1) := by decide +kernel
set_option maxRecDepth 20000 in
theorem ggL_setGame_X5_setGame : GoodIn wsL_setGame wsX5_setGame := goodIn_ca (goodIn_ca (goodIn_r _ [7, 8, 9, 10, 11, 12, 13, 6, 14, 15, 16, 17, 18, 19, 20, 21, 22, 23, 24, 25, 26, 27, 28, 29, 30, 31, 32, 33, 34, 35, 36] (by decide +kernel) (by decide +kernel)) (goodIn_sub (fun _ h => List.mem_cons_of_mem _ (List.mem_append_left _ (List.mem_append_right _ h))) (by decide +kernel))) (goodIn_sub (fun _ h => List.mem_cons_of_mem _ (List.mem_append_right _ h)) (by decide +kernel))
set_option maxRecDepth 20000 in
theorem gL_setGame_X5_setGame : GoodIn wsL_setGame (wsV RL 7 RX5 yX5_setGame wsX5_setGame) := goodIn_app (goodIn_of _ (by decide +kernel)) ggL_setGame_X5_setGame
