theorem dX7_told_218 : decode cX7_told 218 = .ok (.getfield 10, 3) := by decide +kernel
theorem dX7_told_221 : decode cX7_told 221 = .ok (.getfield 177, 3) := by decide +kernel
theorem dX7_told_224 : decode cX7_told 224 = .ok (.invokestatic 180, 3) := by decide +kernel
theorem dX7_told_227 : decode cX7_told 227 = .ok (.ireturn, 1) := by decide +kernel
theorem dX7_told_228 : decode cX7_told 228 = .ok (.aload_n 0, 1) := by decide +kernel
theorem dX7_told_229 : decode cX7_told 229 = .ok (.getfield 10, 3) := by decide +kernel
theorem dX7_told_232 : decode cX7_told 232 = .ok (.getfield 40, 3) := by decide +kernel
theorem dX7_told_235 : decode cX7_told 235 = .ok (.aload_n 0, 1) := by decide +kernel
theorem dX7_told_236 : decode cX7_told 236 = .ok (.getfield 10, 3) := by decide +kernel
theorem dX7_told_239 : decode cX7_told 239 = .ok (.getfield 111, 3) := by decide +kernel
theorem dX7_told_242 : decode cX7_told 242 = .ok (.getfield 115, 3) := by decide +kernel
theorem dX7_told_245 : decode cX7_told 245 = .ok (.invokevirtual 185, 3) := by decide +kernel
theorem dX7_told_248 : decode cX7_told 248 = .ok (.ireturn, 1) := by decide +kernel
theorem dX7_told_249 : decode cX7_told 249 = .ok (.aload_n 0, 1) := by decide +kernel
theorem dX7_told_250 : decode cX7_told 250 = .ok (.getfield 10, 3) := by decide +kernel
theorem dX7_told_253 : decode cX7_told 253 = .ok (.getfield 111, 3) := by decide +kernel
theorem dX7_told_256 : decode cX7_told 256 = .ok (.aload_n 0, 1) := by decide +kernel
theorem dX7_told_257 : decode cX7_told 257 = .ok (.getfield 10, 3) := by decide +kernel
theorem dX7_told_260 : decode cX7_told 260 = .ok (.getfield 111, 3) := by decide +kernel
theorem dX7_told_263 : decode cX7_told 263 = .ok (.getfield 115, 3) := by decide +kernel
theorem dX7_told_266 : decode cX7_told 266 = .ok (.invokevirtual 188, 3) := by decide +kernel
theorem dX7_told_269 : decode cX7_told 269 = .ok (.ifCond .eq 7, 3) := by decide +kernel
theorem dX7_told_272 : decode cX7_told 272 = .ok (.iconst 1, 1) := by decide +kernel
theorem dX7_told_273 : decode cX7_told 273 = .ok (.goto 4, 3) := by decide +kernel
theorem dX7_told_276 : decode cX7_told 276 = .ok (.iconst 0, 1) := by decide +kernel
theorem dX7_told_277 : decode cX7_told 277 = .ok (.ireturn, 1) := by decide +kernel
theorem dX7_told_278 : decode cX7_told 278 = .ok (.aload_n 0, 1) := by decide +kernel
theorem dX7_told_279 : decode cX7_told 279 = .ok (.getfield 145, 3) := by decide +kernel
theorem dX7_told_282 : decode cX7_told 282 = .ok (.ireturn, 1) := by decide +kernel
theorem dX7_told_283 : decode cX7_told 283 = .ok (.ldc 110, 2) := by decide +kernel
theorem dX7_told_285 : decode cX7_told 285 = .ok (.ireturn, 1) := by decide +kernel
set_option maxRecDepth 20000 in
theorem ggX7_copyOf_X7_isCopy : GoodIn wsX7_copyOf wsX7_isCopy := goodIn_r _ [8, 2, 9, 10, 7, 11, 52, 53, 54, 55, 56, 57, 58, 59, 60, 61, 66, 67] (by decide +kernel) (by decide +kernel)
set_option maxRecDepth 20000 in
theorem gX7_copyOf_X7_isCopy : GoodIn wsX7_copyOf (wsV RX7 70 RX7 yX7_isCopy wsX7_isCopy) := goodIn_app (goodIn_of _ (by decide +kernel)) ggX7_copyOf_X7_isCopy
theorem dX7_copyOf_0 : decode cX7_copyOf 0 = .ok (.aload_n 0, 1) := by decide +kernel
theorem dX7_copyOf_1 : decode cX7_copyOf 1 = .ok (.iload_n 1, 1) := by decide +kernel
theorem dX7_copyOf_2 : decode cX7_copyOf 2 = .ok (.invokevirtual 70, 3) := by decide +kernel
theorem dX7_copyOf_5 : decode cX7_copyOf 5 = .ok (.ifCond .ne 6, 3) := by decide +kernel
theorem dX7_copyOf_8 : decode cX7_copyOf 8 = .ok (.ldc 39, 2) := by decide +kernel
theorem dX7_copyOf_10 : decode cX7_copyOf 10 = .ok (.ireturn, 1) := by decide +kernel
theorem dX7_copyOf_11 : decode cX7_copyOf 11 = .ok (.iload_n 2, 1) := by decide +kernel
theorem dX7_copyOf_12 : decode cX7_copyOf 12 = .ok (.tableswitch 122 0 5 #[40, 52, 64, 76, 88, 100], 40) := by decide +kernel
theorem dX7_copyOf_52 : decode cX7_copyOf 52 = .ok (.aload_n 0, 1) := by decide +kernel
theorem dX7_copyOf_53 : decode cX7_copyOf 53 = .ok (.getfield 10, 3) := by decide +kernel
theorem dX7_copyOf_56 : decode cX7_copyOf 56 = .ok (.getfield 40, 3) := by decide +kernel
theorem dX7_copyOf_59 : decode cX7_copyOf 59 = .ok (.iload_n 1, 1) := by decide +kernel
theorem dX7_copyOf_60 : decode cX7_copyOf 60 = .ok (.invokevirtual 82, 3) := by decide +kernel
theorem dX7_copyOf_63 : decode cX7_copyOf 63 = .ok (.ireturn, 1) := by decide +kernel
theorem dX7_copyOf_64 : decode cX7_copyOf 64 = .ok (.aload_n 0, 1) := by decide +kernel
theorem dX7_copyOf_65 : decode cX7_copyOf 65 = .ok (.getfield 10, 3) := by decide +kernel
theorem dX7_copyOf_68 : decode cX7_copyOf 68 = .ok (.getfield 40, 3) := by decide +kernel
theorem dX7_copyOf_71 : decode cX7_copyOf 71 = .ok (.iload_n 1, 1) := by decide +kernel
theorem dX7_copyOf_72 : decode cX7_copyOf 72 = .ok (.invokevirtual 191, 3) := by decide +kernel
theorem dX7_copyOf_75 : decode cX7_copyOf 75 = .ok (.ireturn, 1) := by decide +kernel
theorem dX7_copyOf_76 : decode cX7_copyOf 76 = .ok (.aload_n 0, 1) := by decide +kernel
theorem dX7_copyOf_77 : decode cX7_copyOf 77 = .ok (.getfield 10, 3) := by decide +kernel
theorem dX7_copyOf_80 : decode cX7_copyOf 80 = .ok (.getfield 40, 3) := by decide +kernel
theorem dX7_copyOf_83 : decode cX7_copyOf 83 = .ok (.iload_n 1, 1) := by decide +kernel
theorem dX7_copyOf_84 : decode cX7_copyOf 84 = .ok (.invokevirtual 74, 3) := by decide +kernel
theorem dX7_copyOf_87 : decode cX7_copyOf 87 = .ok (.ireturn, 1) := by decide +kernel
theorem dX7_copyOf_88 : decode cX7_copyOf 88 = .ok (.aload_n 0, 1) := by decide +kernel
theorem dX7_copyOf_89 : decode cX7_copyOf 89 = .ok (.getfield 10, 3) := by decide +kernel
theorem dX7_copyOf_92 : decode cX7_copyOf 92 = .ok (.getfield 40, 3) := by decide +kernel
theorem dX7_copyOf_95 : decode cX7_copyOf 95 = .ok (.iload_n 1, 1) := by decide +kernel
theorem dX7_copyOf_96 : decode cX7_copyOf 96 = .ok (.invokevirtual 194, 3) := by decide +kernel
theorem dX7_copyOf_99 : decode cX7_copyOf 99 = .ok (.ireturn, 1) := by decide +kernel
theorem dX7_copyOf_100 : decode cX7_copyOf 100 = .ok (.aload_n 0, 1) := by decide +kernel
theorem dX7_copyOf_101 : decode cX7_copyOf 101 = .ok (.getfield 10, 3) := by decide +kernel
theorem dX7_copyOf_104 : decode cX7_copyOf 104 = .ok (.getfield 40, 3) := by decide +kernel
theorem dX7_copyOf_107 : decode cX7_copyOf 107 = .ok (.iload_n 1, 1) := by decide +kernel
theorem dX7_copyOf_108 : decode cX7_copyOf 108 = .ok (.invokevirtual 197, 3) := by decide +kernel
theorem dX7_copyOf_111 : decode cX7_copyOf 111 = .ok (.ireturn, 1) := by decide +kernel
theorem dX7_copyOf_112 : decode cX7_copyOf 112 = .ok (.aload_n 0, 1) := by decide +kernel
theorem dX7_copyOf_113 : decode cX7_copyOf 113 = .ok (.getfield 10, 3) := by decide +kernel
theorem dX7_copyOf_116 : decode cX7_copyOf 116 = .ok (.getfield 40, 3) := by decide +kernel
theorem dX7_copyOf_119 : decode cX7_copyOf 119 = .ok (.iload_n 1, 1) := by decide +kernel
theorem dX7_copyOf_120 : decode cX7_copyOf 120 = .ok (.aload_n 0, 1) := by decide +kernel
theorem dX7_copyOf_121 : decode cX7_copyOf 121 = .ok (.getfield 10, 3) := by decide +kernel
theorem dX7_copyOf_124 : decode cX7_copyOf 124 = .ok (.getfield 111, 3) := by decide +kernel
theorem dX7_copyOf_127 : decode cX7_copyOf 127 = .ok (.getfield 115, 3) := by decide +kernel
theorem dX7_copyOf_130 : decode cX7_copyOf 130 = .ok (.invokevirtual 200, 3) := by decide +kernel
theorem dX7_copyOf_133 : decode cX7_copyOf 133 = .ok (.ireturn, 1) := by decide +kernel
theorem dX7_copyOf_134 : decode cX7_copyOf 134 = .ok (.ldc 110, 2) := by decide +kernel
theorem dX7_copyOf_136 : decode cX7_copyOf 136 = .ok (.ireturn, 1) := by decide +kernel
set_option maxRecDepth 20000 in
theorem ggX7_holdOf_X3_slotOf : GoodIn wsX7_holdOf wsX3_slotOf := goodIn_r _ [8, 9, 10, 11, 12, 7, 13, 14, 15, 16, 17, 18, 19, 20, 21, 22, 122, 123, 124, 125, 126, 127] (by decide +kernel) (by decide +kernel)
set_option maxRecDepth 20000 in
theorem gX7_holdOf_X3_slotOf : GoodIn wsX7_holdOf (wsV RX7 104 RX3 yX3_slotOf wsX3_slotOf) := goodIn_app (goodIn_of _ (by decide +kernel)) ggX7_holdOf_X3_slotOf
set_option maxRecDepth 20000 in
theorem ggX7_holdOf_X3_reader : GoodIn wsX7_holdOf wsX3_reader := goodIn_r _ [26, 14, 15, 16, 17, 18, 19, 20, 21, 22, 122, 123, 124, 125, 126, 127] (by decide +kernel) (by decide +kernel)
set_option maxRecDepth 20000 in
theorem gX7_holdOf_X3_reader : GoodIn wsX7_holdOf (wsV RX7 203 RX3 yX3_reader wsX3_reader) := goodIn_app (goodIn_of _ (by decide +kernel)) ggX7_holdOf_X3_reader
set_option maxRecDepth 20000 in
theorem ggX7_holdOf_X3_title : GoodIn wsX7_holdOf wsX3_title := goodIn_r _ [30, 14, 15, 16, 17, 18, 19, 20, 21, 22, 122, 123, 124, 125, 126, 127] (by decide +kernel) (by decide +kernel)
set_option maxRecDepth 20000 in
theorem gX7_holdOf_X3_title : GoodIn wsX7_holdOf (wsV RX7 206 RX3 yX3_title wsX3_title) := goodIn_app (goodIn_of _ (by decide +kernel)) ggX7_holdOf_X3_title
set_option maxRecDepth 20000 in
theorem ggX7_holdOf_X3_branch : GoodIn wsX7_holdOf wsX3_branch := goodIn_r _ [34, 14, 15, 16, 17, 18, 19, 20, 21, 22, 122, 123, 124, 125, 126, 127] (by decide +kernel) (by decide +kernel)
set_option maxRecDepth 20000 in
theorem gX7_holdOf_X3_branch : GoodIn wsX7_holdOf (wsV RX7 207 RX3 yX3_branch wsX3_branch) := goodIn_app (goodIn_of _ (by decide +kernel)) ggX7_holdOf_X3_branch
set_option maxRecDepth 20000 in
theorem ggX7_holdOf_X3_need : GoodIn wsX7_holdOf wsX3_need := goodIn_r _ [38, 14, 15, 16, 17, 18, 19, 20, 21, 22, 122, 123, 124, 125, 126, 127] (by decide +kernel) (by decide +kernel)
set_option maxRecDepth 20000 in
theorem gX7_holdOf_X3_need : GoodIn wsX7_holdOf (wsV RX7 208 RX3 yX3_need wsX3_need) := goodIn_app (goodIn_of _ (by decide +kernel)) ggX7_holdOf_X3_need
theorem dX7_holdOf_0 : decode cX7_holdOf 0 = .ok (.aload_n 0, 1) := by decide +kernel
theorem dX7_holdOf_1 : decode cX7_holdOf 1 = .ok (.getfield 10, 3) := by decide +kernel
theorem dX7_holdOf_4 : decode cX7_holdOf 4 = .ok (.getfield 78, 3) := by decide +kernel
theorem dX7_holdOf_7 : decode cX7_holdOf 7 = .ok (.iload_n 1, 1) := by decide +kernel
theorem dX7_holdOf_8 : decode cX7_holdOf 8 = .ok (.invokevirtual 104, 3) := by decide +kernel
theorem dX7_holdOf_11 : decode cX7_holdOf 11 = .ok (.istore_n 3, 1) := by decide +kernel
theorem dX7_holdOf_12 : decode cX7_holdOf 12 = .ok (.iload_n 3, 1) := by decide +kernel
theorem dX7_holdOf_13 : decode cX7_holdOf 13 = .ok (.iconst (-1), 1) := by decide +kernel
theorem dX7_holdOf_14 : decode cX7_holdOf 14 = .ok (.if_icmp .ne 6, 3) := by decide +kernel
theorem dX7_holdOf_17 : decode cX7_holdOf 17 = .ok (.ldc 39, 2) := by decide +kernel
theorem dX7_holdOf_19 : decode cX7_holdOf 19 = .ok (.ireturn, 1) := by decide +kernel
theorem dX7_holdOf_20 : decode cX7_holdOf 20 = .ok (.iload_n 2, 1) := by decide +kernel
theorem dX7_holdOf_21 : decode cX7_holdOf 21 = .ok (.tableswitch 153 0 8 #[51, 63, 75, 87, 99, 111, 120, 132, 144], 51) := by decide +kernel
theorem dX7_holdOf_72 : decode cX7_holdOf 72 = .ok (.aload_n 0, 1) := by decide +kernel
theorem dX7_holdOf_73 : decode cX7_holdOf 73 = .ok (.getfield 10, 3) := by decide +kernel
theorem dX7_holdOf_76 : decode cX7_holdOf 76 = .ok (.getfield 78, 3) := by decide +kernel
theorem dX7_holdOf_79 : decode cX7_holdOf 79 = .ok (.iload_n 3, 1) := by decide +kernel
theorem dX7_holdOf_80 : decode cX7_holdOf 80 = .ok (.invokevirtual 203, 3) := by decide +kernel
theorem dX7_holdOf_83 : decode cX7_holdOf 83 = .ok (.ireturn, 1) := by decide +kernel
theorem dX7_holdOf_84 : decode cX7_holdOf 84 = .ok (.aload_n 0, 1) := by decide +kernel
theorem dX7_holdOf_85 : decode cX7_holdOf 85 = .ok (.getfield 10, 3) := by decide +kernel
theorem dX7_holdOf_88 : decode cX7_holdOf 88 = .ok (.getfield 78, 3) := by decide +kernel
theorem dX7_holdOf_91 : decode cX7_holdOf 91 = .ok (.iload_n 3, 1) := by decide +kernel
theorem dX7_holdOf_92 : decode cX7_holdOf 92 = .ok (.invokevirtual 206, 3) := by decide +kernel
theorem dX7_holdOf_95 : decode cX7_holdOf 95 = .ok (.ireturn, 1) := by decide +kernel
theorem dX7_holdOf_96 : decode cX7_holdOf 96 = .ok (.aload_n 0, 1) := by decide +kernel
theorem dX7_holdOf_97 : decode cX7_holdOf 97 = .ok (.getfield 10, 3) := by decide +kernel
theorem dX7_holdOf_100 : decode cX7_holdOf 100 = .ok (.getfield 78, 3) := by decide +kernel
theorem dX7_holdOf_103 : decode cX7_holdOf 103 = .ok (.iload_n 3, 1) := by decide +kernel
theorem dX7_holdOf_104 : decode cX7_holdOf 104 = .ok (.invokevirtual 207, 3) := by decide +kernel
theorem dX7_holdOf_107 : decode cX7_holdOf 107 = .ok (.ireturn, 1) := by decide +kernel
theorem dX7_holdOf_108 : decode cX7_holdOf 108 = .ok (.aload_n 0, 1) := by decide +kernel
theorem dX7_holdOf_109 : decode cX7_holdOf 109 = .ok (.getfield 10, 3) := by decide +kernel
theorem dX7_holdOf_112 : decode cX7_holdOf 112 = .ok (.getfield 78, 3) := by decide +kernel
theorem dX7_holdOf_115 : decode cX7_holdOf 115 = .ok (.iload_n 3, 1) := by decide +kernel
theorem dX7_holdOf_116 : decode cX7_holdOf 116 = .ok (.invokevirtual 208, 3) := by decide +kernel
theorem dX7_holdOf_119 : decode cX7_holdOf 119 = .ok (.ireturn, 1) := by decide +kernel
theorem dX7_holdOf_120 : decode cX7_holdOf 120 = .ok (.aload_n 0, 1) := by decide +kernel
theorem dX7_holdOf_121 : decode cX7_holdOf 121 = .ok (.getfield 10, 3) := by decide +kernel
theorem dX7_holdOf_124 : decode cX7_holdOf 124 = .ok (.getfield 78, 3) := by decide +kernel
theorem dX7_holdOf_127 : decode cX7_holdOf 127 = .ok (.iload_n 3, 1) := by decide +kernel
theorem dX7_holdOf_128 : decode cX7_holdOf 128 = .ok (.invokevirtual 211, 3) := by decide +kernel
theorem dX7_holdOf_131 : decode cX7_holdOf 131 = .ok (.ireturn, 1) := by decide +kernel
theorem dX7_holdOf_132 : decode cX7_holdOf 132 = .ok (.aload_n 0, 1) := by decide +kernel
theorem dX7_holdOf_133 : decode cX7_holdOf 133 = .ok (.getfield 10, 3) := by decide +kernel
theorem dX7_holdOf_136 : decode cX7_holdOf 136 = .ok (.iload_n 3, 1) := by decide +kernel
theorem dX7_holdOf_137 : decode cX7_holdOf 137 = .ok (.invokevirtual 214, 3) := by decide +kernel
theorem dX7_holdOf_140 : decode cX7_holdOf 140 = .ok (.ireturn, 1) := by decide +kernel
theorem dX7_holdOf_141 : decode cX7_holdOf 141 = .ok (.aload_n 0, 1) := by decide +kernel
theorem dX7_holdOf_142 : decode cX7_holdOf 142 = .ok (.getfield 10, 3) := by decide +kernel
theorem dX7_holdOf_145 : decode cX7_holdOf 145 = .ok (.getfield 78, 3) := by decide +kernel
theorem dX7_holdOf_148 : decode cX7_holdOf 148 = .ok (.iload_n 3, 1) := by decide +kernel
theorem dX7_holdOf_149 : decode cX7_holdOf 149 = .ok (.invokevirtual 217, 3) := by decide +kernel
theorem dX7_holdOf_152 : decode cX7_holdOf 152 = .ok (.ireturn, 1) := by decide +kernel
theorem dX7_holdOf_153 : decode cX7_holdOf 153 = .ok (.aload_n 0, 1) := by decide +kernel
theorem dX7_holdOf_154 : decode cX7_holdOf 154 = .ok (.getfield 10, 3) := by decide +kernel
theorem dX7_holdOf_157 : decode cX7_holdOf 157 = .ok (.getfield 78, 3) := by decide +kernel
theorem dX7_holdOf_160 : decode cX7_holdOf 160 = .ok (.iload_n 3, 1) := by decide +kernel
theorem dX7_holdOf_161 : decode cX7_holdOf 161 = .ok (.invokevirtual 220, 3) := by decide +kernel
theorem dX7_holdOf_164 : decode cX7_holdOf 164 = .ok (.ireturn, 1) := by decide +kernel
theorem dX7_holdOf_165 : decode cX7_holdOf 165 = .ok (.aload_n 0, 1) := by decide +kernel
theorem dX7_holdOf_166 : decode cX7_holdOf 166 = .ok (.getfield 10, 3) := by decide +kernel
theorem dX7_holdOf_169 : decode cX7_holdOf 169 = .ok (.iload_n 3, 1) := by decide +kernel
theorem dX7_holdOf_170 : decode cX7_holdOf 170 = .ok (.invokevirtual 223, 3) := by decide +kernel
theorem dX7_holdOf_173 : decode cX7_holdOf 173 = .ok (.ireturn, 1) := by decide +kernel
theorem dX7_holdOf_174 : decode cX7_holdOf 174 = .ok (.ldc 110, 2) := by decide +kernel
theorem dX7_holdOf_176 : decode cX7_holdOf 176 = .ok (.ireturn, 1) := by decide +kernel
set_option maxRecDepth 20000 in
theorem ggX7_titleOf_X7_isBelow : GoodIn wsX7_titleOf wsX7_isBelow := goodIn_r _ [7] (by decide +kernel) (by decide +kernel)
set_option maxRecDepth 20000 in
theorem gX7_titleOf_X7_isBelow : GoodIn wsX7_titleOf (va_wsS RX7 35 yX7_isBelow wsX7_isBelow) := goodIn_app (goodIn_of _ (by decide +kernel)) ggX7_titleOf_X7_isBelow
set_option maxRecDepth 20000 in
theorem ggX7_titleOf_X1_ofTitle : GoodIn wsX7_titleOf wsX1_ofTitle := goodIn_r _ [12, 13, 14, 15, 16, 11, 17, 18, 19, 20, 21, 22, 23, 24, 25, 26, 85, 86, 87, 88, 89] (by decide +kernel) (by decide +kernel)
set_option maxRecDepth 20000 in
theorem gX7_titleOf_X1_ofTitle : GoodIn wsX7_titleOf (wsV RX7 226 RX1 yX1_ofTitle wsX1_ofTitle) := goodIn_app (goodIn_of _ (by decide +kernel)) ggX7_titleOf_X1_ofTitle
set_option maxRecDepth 20000 in
theorem ggX7_titleOf_X1_thatAre : GoodIn wsX7_titleOf wsX1_thatAre := goodIn_r _ [30, 13, 31, 32, 33, 11, 34, 18, 19, 20, 21, 22, 23, 24, 25, 26, 85, 86, 87, 88, 89] (by decide +kernel) (by decide +kernel)
set_option maxRecDepth 20000 in
theorem gX7_titleOf_X1_thatAre : GoodIn wsX7_titleOf (wsV RX7 169 RX1 yX1_thatAre wsX1_thatAre) := goodIn_app (goodIn_of _ (by decide +kernel)) ggX7_titleOf_X1_thatAre
set_option maxRecDepth 20000 in
theorem ggX7_titleOf_X3_rowLength : GoodIn wsX7_titleOf wsX3_rowLength := goodIn_r _ [39, 40, 41, 42, 43, 38, 44, 45, 46, 20, 21, 22, 23, 24, 25, 26, 90, 91, 92, 87, 88, 89] (by decide +kernel) (by decide +kernel)
set_option maxRecDepth 20000 in
theorem gX7_titleOf_X3_rowLength : GoodIn wsX7_titleOf (wsV RX7 85 RX3 yX3_rowLength wsX3_rowLength) := goodIn_app (goodIn_of _ (by decide +kernel)) ggX7_titleOf_X3_rowLength
set_option maxRecDepth 20000 in
theorem ggX7_titleOf_X3_firstOfRow : GoodIn wsX7_titleOf wsX3_firstOfRow := goodIn_r _ [50, 40, 41, 42, 43, 38, 44, 45, 46, 20, 21, 22, 23, 24, 25, 26, 51, 52, 53, 54, 90, 91, 92, 87, 88, 89] (by decide +kernel) (by decide +kernel)
set_option maxRecDepth 20000 in
theorem gX7_titleOf_X3_firstOfRow : GoodIn wsX7_titleOf (wsV RX7 229 RX3 yX3_firstOfRow wsX3_firstOfRow) := goodIn_app (goodIn_of _ (by decide +kernel)) ggX7_titleOf_X3_firstOfRow
set_option maxRecDepth 20000 in
theorem ggX7_titleOf_X3_number : GoodIn wsX7_titleOf wsX3_number := goodIn_r _ [58, 45, 46, 20, 21, 22, 23, 24, 25, 26, 90, 91, 92, 87, 88, 89] (by decide +kernel) (by decide +kernel)
set_option maxRecDepth 20000 in
theorem gX7_titleOf_X3_number : GoodIn wsX7_titleOf (wsV RX7 232 RX3 yX3_number wsX3_number) := goodIn_app (goodIn_of _ (by decide +kernel)) ggX7_titleOf_X3_number
set_option maxRecDepth 20000 in
theorem ggX7_titleOf_X3_longestWait : GoodIn wsX7_titleOf wsX3_longestWait := goodIn_r _ [62, 40, 63, 64, 65, 66, 41, 42, 43, 38, 44, 45, 46, 20, 21, 22, 23, 24, 25, 26, 67, 68, 69, 70, 90, 91, 92, 87, 88, 89] (by decide +kernel) (by decide +kernel)
set_option maxRecDepth 20000 in
theorem gX7_titleOf_X3_longestWait : GoodIn wsX7_titleOf (wsV RX7 235 RX3 yX3_longestWait wsX3_longestWait) := goodIn_app (goodIn_of _ (by decide +kernel)) ggX7_titleOf_X3_longestWait
theorem dX7_titleOf_0 : decode cX7_titleOf 0 = .ok (.iload_n 1, 1) := by decide +kernel
theorem dX7_titleOf_1 : decode cX7_titleOf 1 = .ok (.bipush 6, 2) := by decide +kernel
theorem dX7_titleOf_3 : decode cX7_titleOf 3 = .ok (.invokestatic 35, 3) := by decide +kernel
theorem dX7_titleOf_6 : decode cX7_titleOf 6 = .ok (.ifCond .ne 6, 3) := by decide +kernel
theorem dX7_titleOf_9 : decode cX7_titleOf 9 = .ok (.ldc 39, 2) := by decide +kernel
theorem dX7_titleOf_11 : decode cX7_titleOf 11 = .ok (.ireturn, 1) := by decide +kernel
theorem dX7_titleOf_12 : decode cX7_titleOf 12 = .ok (.iload_n 2, 1) := by decide +kernel
theorem dX7_titleOf_13 : decode cX7_titleOf 13 = .ok (.tableswitch 127 0 4 #[35, 47, 71, 83, 105], 35) := by decide +kernel
theorem dX7_titleOf_48 : decode cX7_titleOf 48 = .ok (.aload_n 0, 1) := by decide +kernel
theorem dX7_titleOf_49 : decode cX7_titleOf 49 = .ok (.getfield 10, 3) := by decide +kernel
theorem dX7_titleOf_52 : decode cX7_titleOf 52 = .ok (.getfield 40, 3) := by decide +kernel
theorem dX7_titleOf_55 : decode cX7_titleOf 55 = .ok (.iload_n 1, 1) := by decide +kernel
theorem dX7_titleOf_56 : decode cX7_titleOf 56 = .ok (.invokevirtual 226, 3) := by decide +kernel
theorem dX7_titleOf_59 : decode cX7_titleOf 59 = .ok (.ireturn, 1) := by decide +kernel
theorem dX7_titleOf_60 : decode cX7_titleOf 60 = .ok (.aload_n 0, 1) := by decide +kernel
theorem dX7_titleOf_61 : decode cX7_titleOf 61 = .ok (.getfield 10, 3) := by decide +kernel
theorem dX7_titleOf_64 : decode cX7_titleOf 64 = .ok (.getfield 40, 3) := by decide +kernel
theorem dX7_titleOf_67 : decode cX7_titleOf 67 = .ok (.iload_n 1, 1) := by decide +kernel
theorem dX7_titleOf_68 : decode cX7_titleOf 68 = .ok (.invokevirtual 226, 3) := by decide +kernel
theorem dX7_titleOf_71 : decode cX7_titleOf 71 = .ok (.aload_n 0, 1) := by decide +kernel
theorem dX7_titleOf_72 : decode cX7_titleOf 72 = .ok (.getfield 10, 3) := by decide +kernel
theorem dX7_titleOf_75 : decode cX7_titleOf 75 = .ok (.getfield 40, 3) := by decide +kernel
theorem dX7_titleOf_78 : decode cX7_titleOf 78 = .ok (.iconst 0, 1) := by decide +kernel
theorem dX7_titleOf_79 : decode cX7_titleOf 79 = .ok (.invokevirtual 169, 3) := by decide +kernel
theorem dX7_titleOf_82 : decode cX7_titleOf 82 = .ok (.iand, 1) := by decide +kernel
theorem dX7_titleOf_83 : decode cX7_titleOf 83 = .ok (.ireturn, 1) := by decide +kernel
theorem dX7_titleOf_84 : decode cX7_titleOf 84 = .ok (.aload_n 0, 1) := by decide +kernel
theorem dX7_titleOf_85 : decode cX7_titleOf 85 = .ok (.getfield 10, 3) := by decide +kernel
theorem dX7_titleOf_88 : decode cX7_titleOf 88 = .ok (.getfield 78, 3) := by decide +kernel
theorem dX7_titleOf_91 : decode cX7_titleOf 91 = .ok (.iload_n 1, 1) := by decide +kernel
theorem dX7_titleOf_92 : decode cX7_titleOf 92 = .ok (.invokevirtual 85, 3) := by decide +kernel
theorem dX7_titleOf_95 : decode cX7_titleOf 95 = .ok (.ireturn, 1) := by decide +kernel
theorem dX7_titleOf_96 : decode cX7_titleOf 96 = .ok (.aload_n 0, 1) := by decide +kernel
theorem dX7_titleOf_97 : decode cX7_titleOf 97 = .ok (.getfield 10, 3) := by decide +kernel
theorem dX7_titleOf_100 : decode cX7_titleOf 100 = .ok (.getfield 78, 3) := by decide +kernel
theorem dX7_titleOf_103 : decode cX7_titleOf 103 = .ok (.aload_n 0, 1) := by decide +kernel
theorem dX7_titleOf_104 : decode cX7_titleOf 104 = .ok (.getfield 10, 3) := by decide +kernel
theorem dX7_titleOf_107 : decode cX7_titleOf 107 = .ok (.getfield 78, 3) := by decide +kernel
theorem dX7_titleOf_110 : decode cX7_titleOf 110 = .ok (.iload_n 1, 1) := by decide +kernel
theorem dX7_titleOf_111 : decode cX7_titleOf 111 = .ok (.invokevirtual 229, 3) := by decide +kernel
theorem dX7_titleOf_114 : decode cX7_titleOf 114 = .ok (.invokevirtual 232, 3) := by decide +kernel
theorem dX7_titleOf_117 : decode cX7_titleOf 117 = .ok (.ireturn, 1) := by decide +kernel
theorem dX7_titleOf_118 : decode cX7_titleOf 118 = .ok (.aload_n 0, 1) := by decide +kernel
theorem dX7_titleOf_119 : decode cX7_titleOf 119 = .ok (.getfield 10, 3) := by decide +kernel
theorem dX7_titleOf_122 : decode cX7_titleOf 122 = .ok (.getfield 78, 3) := by decide +kernel
theorem dX7_titleOf_125 : decode cX7_titleOf 125 = .ok (.iload_n 1, 1) := by decide +kernel
theorem dX7_titleOf_126 : decode cX7_titleOf 126 = .ok (.aload_n 0, 1) := by decide +kernel
theorem dX7_titleOf_127 : decode cX7_titleOf 127 = .ok (.getfield 10, 3) := by decide +kernel
theorem dX7_titleOf_130 : decode cX7_titleOf 130 = .ok (.getfield 111, 3) := by decide +kernel
theorem dX7_titleOf_133 : decode cX7_titleOf 133 = .ok (.getfield 115, 3) := by decide +kernel
theorem dX7_titleOf_136 : decode cX7_titleOf 136 = .ok (.invokevirtual 235, 3) := by decide +kernel
theorem dX7_titleOf_139 : decode cX7_titleOf 139 = .ok (.ireturn, 1) := by decide +kernel
theorem dX7_titleOf_140 : decode cX7_titleOf 140 = .ok (.ldc 110, 2) := by decide +kernel
theorem dX7_titleOf_142 : decode cX7_titleOf 142 = .ok (.ireturn, 1) := by decide +kernel
set_option maxRecDepth 20000 in
theorem ggX7_readerOf_X7_isBelow : GoodIn wsX7_readerOf wsX7_isBelow := goodIn_r _ [7] (by decide +kernel) (by decide +kernel)
set_option maxRecDepth 20000 in
theorem gX7_readerOf_X7_isBelow : GoodIn wsX7_readerOf (va_wsS RX7 35 yX7_isBelow wsX7_isBelow) := goodIn_app (goodIn_of _ (by decide +kernel)) ggX7_readerOf_X7_isBelow
set_option maxRecDepth 20000 in
theorem ggX7_readerOf_X1_outTo : GoodIn wsX7_readerOf wsX1_outTo := goodIn_r _ [12, 13, 14, 15, 16, 11, 17, 18, 19, 20, 21, 22, 23, 24, 25, 26, 27, 28, 29, 30, 31, 32, 33, 34, 84, 85, 86, 87, 88] (by decide +kernel) (by decide +kernel)
set_option maxRecDepth 20000 in
theorem gX7_readerOf_X1_outTo : GoodIn wsX7_readerOf (wsV RX7 238 RX1 yX1_outTo wsX1_outTo) := goodIn_app (goodIn_of _ (by decide +kernel)) ggX7_readerOf_X1_outTo
set_option maxRecDepth 20000 in
theorem ggX7_readerOf_X3_ofReader : GoodIn wsX7_readerOf wsX3_ofReader := goodIn_r _ [39, 40, 41, 42, 43, 38, 44, 45, 46, 24, 25, 26, 27, 28, 29, 30, 89, 90, 91, 86, 87, 88] (by decide +kernel) (by decide +kernel)
set_option maxRecDepth 20000 in
theorem gX7_readerOf_X3_ofReader : GoodIn wsX7_readerOf (wsV RX7 241 RX3 yX3_ofReader wsX3_ofReader) := goodIn_app (goodIn_of _ (by decide +kernel)) ggX7_readerOf_X3_ofReader
set_option maxRecDepth 20000 in
theorem ggX7_readerOf_X1_owedBy : GoodIn wsX7_readerOf wsX1_owedBy := goodIn_r _ [50, 13, 51, 52, 53, 54, 14, 15, 16, 11, 17, 18, 19, 20, 21, 22, 23, 24, 25, 26, 27, 28, 29, 30, 31, 32, 33, 34, 55, 56, 57, 58, 84, 85, 86, 87, 88] (by decide +kernel) (by decide +kernel)
set_option maxRecDepth 20000 in
theorem gX7_readerOf_X1_owedBy : GoodIn wsX7_readerOf (wsV RX7 244 RX1 yX1_owedBy wsX1_owedBy) := goodIn_app (goodIn_of _ (by decide +kernel)) ggX7_readerOf_X1_owedBy
set_option maxRecDepth 20000 in
theorem ggX7_readerOf_X1_greatestStep : GoodIn wsX7_readerOf wsX1_greatestStep := goodIn_r _ [62, 13, 51, 52, 53, 54, 14, 15, 16, 11, 17, 18, 19, 20, 21, 22, 23, 24, 25, 26, 27, 28, 29, 30, 31, 32, 33, 34, 63, 64, 65, 66, 67, 68, 69, 55, 56, 57, 58, 84, 85, 86, 87, 88] (by decide +kernel) (by decide +kernel)
set_option maxRecDepth 20000 in
theorem gX7_readerOf_X1_greatestStep : GoodIn wsX7_readerOf (wsV RX7 247 RX1 yX1_greatestStep wsX1_greatestStep) := goodIn_app (goodIn_of _ (by decide +kernel)) ggX7_readerOf_X1_greatestStep
theorem dX7_readerOf_0 : decode cX7_readerOf 0 = .ok (.iload_n 1, 1) := by decide +kernel
theorem dX7_readerOf_1 : decode cX7_readerOf 1 = .ok (.bipush 10, 2) := by decide +kernel
theorem dX7_readerOf_3 : decode cX7_readerOf 3 = .ok (.invokestatic 35, 3) := by decide +kernel
theorem dX7_readerOf_6 : decode cX7_readerOf 6 = .ok (.ifCond .ne 6, 3) := by decide +kernel
theorem dX7_readerOf_9 : decode cX7_readerOf 9 = .ok (.ldc 39, 2) := by decide +kernel
theorem dX7_readerOf_11 : decode cX7_readerOf 11 = .ok (.ireturn, 1) := by decide +kernel
theorem dX7_readerOf_12 : decode cX7_readerOf 12 = .ok (.iload_n 2, 1) := by decide +kernel
theorem dX7_readerOf_13 : decode cX7_readerOf 13 = .ok (.tableswitch 107 0 4 #[35, 47, 59, 81, 103], 35) := by decide +kernel
theorem dX7_readerOf_48 : decode cX7_readerOf 48 = .ok (.aload_n 0, 1) := by decide +kernel
theorem dX7_readerOf_49 : decode cX7_readerOf 49 = .ok (.getfield 10, 3) := by decide +kernel
theorem dX7_readerOf_52 : decode cX7_readerOf 52 = .ok (.getfield 40, 3) := by decide +kernel
theorem dX7_readerOf_55 : decode cX7_readerOf 55 = .ok (.iload_n 1, 1) := by decide +kernel
theorem dX7_readerOf_56 : decode cX7_readerOf 56 = .ok (.invokevirtual 238, 3) := by decide +kernel
theorem dX7_readerOf_59 : decode cX7_readerOf 59 = .ok (.ireturn, 1) := by decide +kernel
theorem dX7_readerOf_60 : decode cX7_readerOf 60 = .ok (.aload_n 0, 1) := by decide +kernel
theorem dX7_readerOf_61 : decode cX7_readerOf 61 = .ok (.getfield 10, 3) := by decide +kernel
theorem dX7_readerOf_64 : decode cX7_readerOf 64 = .ok (.getfield 78, 3) := by decide +kernel
theorem dX7_readerOf_67 : decode cX7_readerOf 67 = .ok (.iload_n 1, 1) := by decide +kernel
theorem dX7_readerOf_68 : decode cX7_readerOf 68 = .ok (.invokevirtual 241, 3) := by decide +kernel
theorem dX7_readerOf_71 : decode cX7_readerOf 71 = .ok (.ireturn, 1) := by decide +kernel
theorem dX7_readerOf_72 : decode cX7_readerOf 72 = .ok (.aload_n 0, 1) := by decide +kernel
theorem dX7_readerOf_73 : decode cX7_readerOf 73 = .ok (.getfield 10, 3) := by decide +kernel
theorem dX7_readerOf_76 : decode cX7_readerOf 76 = .ok (.getfield 40, 3) := by decide +kernel
theorem dX7_readerOf_79 : decode cX7_readerOf 79 = .ok (.iload_n 1, 1) := by decide +kernel
theorem dX7_readerOf_80 : decode cX7_readerOf 80 = .ok (.aload_n 0, 1) := by decide +kernel
theorem dX7_readerOf_81 : decode cX7_readerOf 81 = .ok (.getfield 10, 3) := by decide +kernel
theorem dX7_readerOf_84 : decode cX7_readerOf 84 = .ok (.getfield 111, 3) := by decide +kernel
theorem dX7_readerOf_87 : decode cX7_readerOf 87 = .ok (.getfield 115, 3) := by decide +kernel
theorem dX7_readerOf_90 : decode cX7_readerOf 90 = .ok (.invokevirtual 244, 3) := by decide +kernel
theorem dX7_readerOf_93 : decode cX7_readerOf 93 = .ok (.ireturn, 1) := by decide +kernel
theorem dX7_readerOf_94 : decode cX7_readerOf 94 = .ok (.aload_n 0, 1) := by decide +kernel
theorem dX7_readerOf_95 : decode cX7_readerOf 95 = .ok (.getfield 10, 3) := by decide +kernel
theorem dX7_readerOf_98 : decode cX7_readerOf 98 = .ok (.getfield 40, 3) := by decide +kernel
theorem dX7_readerOf_101 : decode cX7_readerOf 101 = .ok (.iload_n 1, 1) := by decide +kernel
theorem dX7_readerOf_102 : decode cX7_readerOf 102 = .ok (.aload_n 0, 1) := by decide +kernel
theorem dX7_readerOf_103 : decode cX7_readerOf 103 = .ok (.getfield 10, 3) := by decide +kernel
theorem dX7_readerOf_106 : decode cX7_readerOf 106 = .ok (.getfield 111, 3) := by decide +kernel
theorem dX7_readerOf_109 : decode cX7_readerOf 109 = .ok (.getfield 115, 3) := by decide +kernel
theorem dX7_readerOf_112 : decode cX7_readerOf 112 = .ok (.invokevirtual 247, 3) := by decide +kernel
theorem dX7_readerOf_115 : decode cX7_readerOf 115 = .ok (.ireturn, 1) := by decide +kernel
theorem dX7_readerOf_116 : decode cX7_readerOf 116 = .ok (.iload_n 1, 1) := by decide +kernel
theorem dX7_readerOf_117 : decode cX7_readerOf 117 = .ok (.iconst 4, 1) := by decide +kernel
theorem dX7_readerOf_118 : decode cX7_readerOf 118 = .ok (.irem, 1) := by decide +kernel
theorem dX7_readerOf_119 : decode cX7_readerOf 119 = .ok (.ireturn, 1) := by decide +kernel
theorem dX7_readerOf_120 : decode cX7_readerOf 120 = .ok (.ldc 110, 2) := by decide +kernel
theorem dX7_readerOf_122 : decode cX7_readerOf 122 = .ok (.ireturn, 1) := by decide +kernel
set_option maxRecDepth 20000 in
theorem ggX7_keep_X7_isBelow : GoodIn wsX7_keep wsX7_isBelow := goodIn_r _ [8] (by decide +kernel) (by decide +kernel)
set_option maxRecDepth 20000 in
theorem gX7_keep_X7_isBelow : GoodIn wsX7_keep (va_wsS RX7 35 yX7_isBelow wsX7_isBelow) := goodIn_app (goodIn_of _ (by decide +kernel)) ggX7_keep_X7_isBelow
set_option maxRecDepth 20000 in
theorem ggX7_keep_X6_take : GoodIn wsX7_keep wsX6_take := goodIn_r _ [13, 14, 15, 16, 17, 6, 7, 8, 18, 19, 20, 21, 22, 23, 24, 25, 26, 27, 28, 29, 30, 31, 32, 33, 34, 35, 36, 37, 38, 39, 40, 41, 42, 43, 44, 45, 46, 47, 48, 49, 50, 51, 52, 53, 54, 55, 56, 57, 58, 59, 60, 61, 62, 63, 64, 65, 66, 67, 68, 69, 70, 71, 72, 73, 74, 75, 76, 77, 78, 79, 80, 81, 82, 83, 84, 85, 86, 87, 88, 89, 90, 91, 92, 93, 94, 95, 96, 97, 98, 113, 105, 106, 107, 108, 109, 110, 111, 112, 114, 115, 116, 117, 118, 119, 120, 121] (by decide +kernel) (by decide +kernel)
set_option maxRecDepth 20000 in
theorem gX7_keep_X6_take : GoodIn wsX7_keep (wsV RX7 250 RX6 yX6_take wsX6_take) := goodIn_app (goodIn_of _ (by decide +kernel)) ggX7_keep_X6_take
theorem dX7_keep_0 : decode cX7_keep 0 = .ok (.iload_n 1, 1) := by decide +kernel
theorem dX7_keep_1 : decode cX7_keep 1 = .ok (.iconst 2, 1) := by decide +kernel
theorem dX7_keep_2 : decode cX7_keep 2 = .ok (.invokestatic 35, 3) := by decide +kernel
theorem dX7_keep_5 : decode cX7_keep 5 = .ok (.ifCond .ne 6, 3) := by decide +kernel
theorem dX7_keep_8 : decode cX7_keep 8 = .ok (.ldc 39, 2) := by decide +kernel
theorem dX7_keep_10 : decode cX7_keep 10 = .ok (.ireturn, 1) := by decide +kernel
theorem dX7_keep_11 : decode cX7_keep 11 = .ok (.aload_n 0, 1) := by decide +kernel
theorem dX7_keep_12 : decode cX7_keep 12 = .ok (.getfield 25, 3) := by decide +kernel
theorem dX7_keep_15 : decode cX7_keep 15 = .ok (.iload_n 1, 1) := by decide +kernel
theorem dX7_keep_16 : decode cX7_keep 16 = .ok (.aload_n 0, 1) := by decide +kernel
theorem dX7_keep_17 : decode cX7_keep 17 = .ok (.getfield 10, 3) := by decide +kernel
theorem dX7_keep_20 : decode cX7_keep 20 = .ok (.invokevirtual 250, 3) := by decide +kernel
theorem dX7_keep_23 : decode cX7_keep 23 = .ok (.aload_n 0, 1) := by decide +kernel
theorem dX7_keep_24 : decode cX7_keep 24 = .ok (.iconst 0, 1) := by decide +kernel
theorem dX7_keep_25 : decode cX7_keep 25 = .ok (.putfield 145, 3) := by decide +kernel
theorem dX7_keep_28 : decode cX7_keep 28 = .ok (.aload_n 0, 1) := by decide +kernel
theorem dX7_keep_29 : decode cX7_keep 29 = .ok (.getfield 10, 3) := by decide +kernel
theorem dX7_keep_32 : decode cX7_keep 32 = .ok (.getfield 111, 3) := by decide +kernel
theorem dX7_keep_35 : decode cX7_keep 35 = .ok (.getfield 115, 3) := by decide +kernel
theorem dX7_keep_38 : decode cX7_keep 38 = .ok (.ireturn, 1) := by decide +kernel
set_option maxRecDepth 20000 in
theorem ggX7_goBack_X7_isBelow : GoodIn wsX7_goBack wsX7_isBelow := goodIn_r _ [9] (by decide +kernel) (by decide +kernel)
set_option maxRecDepth 20000 in
theorem gX7_goBack_X7_isBelow : GoodIn wsX7_goBack (va_wsS RX7 35 yX7_isBelow wsX7_isBelow) := goodIn_app (goodIn_of _ (by decide +kernel)) ggX7_goBack_X7_isBelow
set_option maxRecDepth 20000 in
theorem ggX7_goBack_X6_has : GoodIn wsX7_goBack wsX6_has := goodIn_r _ [14, 15, 7, 8, 9, 82] (by decide +kernel) (by decide +kernel)
set_option maxRecDepth 20000 in
theorem gX7_goBack_X6_has : GoodIn wsX7_goBack (wsV RX7 253 RX6 yX6_has wsX6_has) := goodIn_app (goodIn_of _ (by decide +kernel)) ggX7_goBack_X6_has
theorem dX7_goBack_0 : decode cX7_goBack 0 = .ok (.iload_n 1, 1) := by decide +kernel
theorem dX7_goBack_1 : decode cX7_goBack 1 = .ok (.iconst 2, 1) := by decide +kernel
theorem dX7_goBack_2 : decode cX7_goBack 2 = .ok (.invokestatic 35, 3) := by decide +kernel
theorem dX7_goBack_5 : decode cX7_goBack 5 = .ok (.ifCond .ne 6, 3) := by decide +kernel
theorem dX7_goBack_8 : decode cX7_goBack 8 = .ok (.ldc 39, 2) := by decide +kernel
theorem dX7_goBack_10 : decode cX7_goBack 10 = .ok (.ireturn, 1) := by decide +kernel
theorem dX7_goBack_11 : decode cX7_goBack 11 = .ok (.aload_n 0, 1) := by decide +kernel
theorem dX7_goBack_12 : decode cX7_goBack 12 = .ok (.getfield 25, 3) := by decide +kernel
theorem dX7_goBack_15 : decode cX7_goBack 15 = .ok (.iload_n 1, 1) := by decide +kernel
theorem dX7_goBack_16 : decode cX7_goBack 16 = .ok (.invokevirtual 253, 3) := by decide +kernel
theorem dX7_goBack_19 : decode cX7_goBack 19 = .ok (.ifCond .ne 6, 3) := by decide +kernel
theorem dX7_goBack_22 : decode cX7_goBack 22 = .ok (.ldc 90, 2) := by decide +kernel
theorem dX7_goBack_24 : decode cX7_goBack 24 = .ok (.ireturn, 1) := by decide +kernel
theorem dX7_goBack_25 : decode cX7_goBack 25 = .ok (.aload_n 0, 1) := by decide +kernel
theorem dX7_goBack_26 : decode cX7_goBack 26 = .ok (.getfield 25, 3) := by decide +kernel
theorem dX7_goBack_29 : decode cX7_goBack 29 = .ok (.iload_n 1, 1) := by decide +kernel
theorem dX7_goBack_30 : decode cX7_goBack 30 = .ok (.aload_n 0, 1) := by decide +kernel
theorem dX7_goBack_31 : decode cX7_goBack 31 = .ok (.getfield 10, 3) := by decide +kernel
theorem dX7_goBack_34 : decode cX7_goBack 34 = .ok (.invokevirtual 156, 3) := by decide +kernel
theorem dX7_goBack_37 : decode cX7_goBack 37 = .ok (.aload_n 0, 1) := by decide +kernel
theorem dX7_goBack_38 : decode cX7_goBack 38 = .ok (.iconst 0, 1) := by decide +kernel
theorem dX7_goBack_39 : decode cX7_goBack 39 = .ok (.putfield 145, 3) := by decide +kernel
theorem dX7_goBack_42 : decode cX7_goBack 42 = .ok (.aload_n 0, 1) := by decide +kernel
theorem dX7_goBack_43 : decode cX7_goBack 43 = .ok (.getfield 10, 3) := by decide +kernel
theorem dX7_goBack_46 : decode cX7_goBack 46 = .ok (.getfield 111, 3) := by decide +kernel
theorem dX7_goBack_49 : decode cX7_goBack 49 = .ok (.getfield 115, 3) := by decide +kernel
theorem dX7_goBack_52 : decode cX7_goBack 52 = .ok (.ireturn, 1) := by decide +kernel
set_option maxRecDepth 20000 in
theorem ggX7_remember_X6_take : GoodIn wsX7_remember wsX6_take := goodIn_r _ [13, 14, 15, 16, 17, 18, 19, 20, 21, 22, 23, 24, 25, 26, 27, 28, 29, 30, 31, 32, 33, 34, 35, 36, 37, 38, 39, 40, 41, 42, 43, 44, 45, 46, 47, 48, 49, 50, 51, 52, 53, 54, 55, 56, 7, 57, 58, 59, 60, 61, 62, 63, 64, 65, 66, 67, 68, 69, 70, 71, 72, 73, 74, 75, 76, 77, 78, 79, 80, 81, 82, 83, 84, 85, 86, 87, 6, 8, 88, 89, 90, 91, 92, 93, 94, 95, 96, 97, 98, 109, 110, 111, 112, 113, 114, 115, 116, 117, 118, 119, 120, 121, 122, 123, 124, 125] (by decide +kernel) (by decide +kernel)
set_option maxRecDepth 20000 in
theorem gX7_remember_X6_take : GoodIn wsX7_remember (wsV RX7 250 RX6 yX6_take wsX6_take) := goodIn_app (goodIn_of _ (by decide +kernel)) ggX7_remember_X6_take
set_option maxRecDepth 20000 in
theorem ggX7_remember_J9_floorMod_7cf53 : GoodIn wsX7_remember wsJ9_floorMod_7cf53 := goodIn_r _ [102] (by decide +kernel) (by decide +kernel)
set_option maxRecDepth 20000 in
theorem gX7_remember_J9_floorMod_7cf53 : GoodIn wsX7_remember (va_wsS RX7 151 yJ9_floorMod_7cf53 wsJ9_floorMod_7cf53) := goodIn_app (goodIn_of _ (by decide +kernel)) ggX7_remember_J9_floorMod_7cf53
theorem dX7_remember_0 : decode cX7_remember 0 = .ok (.aload_n 0, 1) := by decide +kernel
theorem dX7_remember_1 : decode cX7_remember 1 = .ok (.getfield 21, 3) := by decide +kernel
theorem dX7_remember_4 : decode cX7_remember 4 = .ok (.aload_n 0, 1) := by decide +kernel
theorem dX7_remember_5 : decode cX7_remember 5 = .ok (.getfield 148, 3) := by decide +kernel
theorem dX7_remember_8 : decode cX7_remember 8 = .ok (.aload_n 0, 1) := by decide +kernel
theorem dX7_remember_9 : decode cX7_remember 9 = .ok (.getfield 10, 3) := by decide +kernel
theorem dX7_remember_12 : decode cX7_remember 12 = .ok (.invokevirtual 250, 3) := by decide +kernel
theorem dX7_remember_15 : decode cX7_remember 15 = .ok (.aload_n 0, 1) := by decide +kernel
theorem dX7_remember_16 : decode cX7_remember 16 = .ok (.aload_n 0, 1) := by decide +kernel
theorem dX7_remember_17 : decode cX7_remember 17 = .ok (.getfield 148, 3) := by decide +kernel
theorem dX7_remember_20 : decode cX7_remember 20 = .ok (.iconst 1, 1) := by decide +kernel
theorem dX7_remember_21 : decode cX7_remember 21 = .ok (.iadd, 1) := by decide +kernel
theorem dX7_remember_22 : decode cX7_remember 22 = .ok (.bipush 8, 2) := by decide +kernel
theorem dX7_remember_24 : decode cX7_remember 24 = .ok (.invokestatic 151, 3) := by decide +kernel
theorem dX7_remember_27 : decode cX7_remember 27 = .ok (.putfield 148, 3) := by decide +kernel
theorem dX7_remember_30 : decode cX7_remember 30 = .ok (.aload_n 0, 1) := by decide +kernel
theorem dX7_remember_31 : decode cX7_remember 31 = .ok (.aload_n 0, 1) := by decide +kernel
theorem dX7_remember_32 : decode cX7_remember 32 = .ok (.getfield 145, 3) := by decide +kernel
theorem dX7_remember_35 : decode cX7_remember 35 = .ok (.iconst 1, 1) := by decide +kernel
theorem dX7_remember_36 : decode cX7_remember 36 = .ok (.iadd, 1) := by decide +kernel
theorem dX7_remember_37 : decode cX7_remember 37 = .ok (.bipush 8, 2) := by decide +kernel
theorem dX7_remember_39 : decode cX7_remember 39 = .ok (.invokestatic 256, 3) := by decide +kernel
theorem dX7_remember_42 : decode cX7_remember 42 = .ok (.putfield 145, 3) := by decide +kernel
theorem dX7_remember_45 : decode cX7_remember 45 = .ok (.return_, 1) := by decide +kernel
set_option maxRecDepth 20000 in
theorem ggX7_isCopy_X7_isBelow : GoodIn wsX7_isCopy wsX7_isBelow := goodIn_r _ [5] (by decide +kernel) (by decide +kernel)
set_option maxRecDepth 20000 in
theorem gX7_isCopy_X7_isBelow : GoodIn wsX7_isCopy (va_wsS RX7 35 yX7_isBelow wsX7_isBelow) := goodIn_app (goodIn_of _ (by decide +kernel)) ggX7_isCopy_X7_isBelow
theorem dX7_isCopy_0 : decode cX7_isCopy 0 = .ok (.iload_n 1, 1) := by decide +kernel
theorem dX7_isCopy_1 : decode cX7_isCopy 1 = .ok (.aload_n 0, 1) := by decide +kernel
theorem dX7_isCopy_2 : decode cX7_isCopy 2 = .ok (.getfield 10, 3) := by decide +kernel
theorem dX7_isCopy_5 : decode cX7_isCopy 5 = .ok (.getfield 40, 3) := by decide +kernel
theorem dX7_isCopy_8 : decode cX7_isCopy 8 = .ok (.getfield 44, 3) := by decide +kernel
theorem dX7_isCopy_11 : decode cX7_isCopy 11 = .ok (.invokestatic 35, 3) := by decide +kernel
theorem dX7_isCopy_14 : decode cX7_isCopy 14 = .ok (.ireturn, 1) := by decide +kernel
set_option maxRecDepth 20000 in
theorem ggX7_refusalToLend_X7_isCopy : GoodIn wsX7_refusalToLend wsX7_isCopy := goodIn_r _ [8, 2, 9, 10, 7, 11, 71, 72, 73, 74, 75, 76, 77, 78, 79, 80, 81, 82] (by decide +kernel) (by decide +kernel)
set_option maxRecDepth 20000 in
theorem gX7_refusalToLend_X7_isCopy : GoodIn wsX7_refusalToLend (wsV RX7 70 RX7 yX7_isCopy wsX7_isCopy) := goodIn_app (goodIn_of _ (by decide +kernel)) ggX7_refusalToLend_X7_isCopy
set_option maxRecDepth 20000 in
theorem ggX7_refusalToLend_X7_isBelow : GoodIn wsX7_refusalToLend wsX7_isBelow := goodIn_r _ [11] (by decide +kernel) (by decide +kernel)
set_option maxRecDepth 20000 in
theorem gX7_refusalToLend_X7_isBelow : GoodIn wsX7_refusalToLend (va_wsS RX7 35 yX7_isBelow wsX7_isBelow) := goodIn_app (goodIn_of _ (by decide +kernel)) ggX7_refusalToLend_X7_isBelow
set_option maxRecDepth 20000 in
theorem ggX7_refusalToLend_X1_outTo : GoodIn wsX7_refusalToLend wsX1_outTo := goodIn_r _ [56, 57, 58, 59, 60, 22, 61, 62, 20, 21, 23, 24, 25, 26, 27, 28, 29, 30, 31, 32, 63, 34, 35, 36, 81, 82, 83, 84, 85] (by decide +kernel) (by decide +kernel)
set_option maxRecDepth 20000 in
theorem gX7_refusalToLend_X1_outTo : GoodIn wsX7_refusalToLend (wsV RX7 238 RX1 yX1_outTo wsX1_outTo) := goodIn_app (goodIn_of _ (by decide +kernel)) ggX7_refusalToLend_X1_outTo
set_option maxRecDepth 20000 in
theorem ggX7_refusalToLend_J6_bitCount_0f7a4 : GoodIn wsX7_refusalToLend wsJ6_bitCount_0f7a4 := goodIn_r _ [67, 68, 69, 70] (by decide +kernel) (by decide +kernel)
set_option maxRecDepth 20000 in
theorem gX7_refusalToLend_J6_bitCount_0f7a4 : GoodIn wsX7_refusalToLend (va_wsS RX7 180 yJ6_bitCount_0f7a4 wsJ6_bitCount_0f7a4) := goodIn_app (goodIn_of _ (by decide +kernel)) ggX7_refusalToLend_J6_bitCount_0f7a4
theorem dX7_refusalToLend_0 : decode cX7_refusalToLend 0 = .ok (.aload_n 0, 1) := by decide +kernel
theorem dX7_refusalToLend_1 : decode cX7_refusalToLend 1 = .ok (.iload_n 1, 1) := by decide +kernel
theorem dX7_refusalToLend_2 : decode cX7_refusalToLend 2 = .ok (.invokevirtual 70, 3) := by decide +kernel
theorem dX7_refusalToLend_5 : decode cX7_refusalToLend 5 = .ok (.ifCond .eq 12, 3) := by decide +kernel
theorem dX7_refusalToLend_8 : decode cX7_refusalToLend 8 = .ok (.iload_n 2, 1) := by decide +kernel
theorem dX7_refusalToLend_9 : decode cX7_refusalToLend 9 = .ok (.bipush 10, 2) := by decide +kernel
theorem dX7_refusalToLend_11 : decode cX7_refusalToLend 11 = .ok (.invokestatic 35, 3) := by decide +kernel
theorem dX7_refusalToLend_14 : decode cX7_refusalToLend 14 = .ok (.ifCond .ne 6, 3) := by decide +kernel
theorem dX7_refusalToLend_17 : decode cX7_refusalToLend 17 = .ok (.ldc 39, 2) := by decide +kernel
theorem dX7_refusalToLend_19 : decode cX7_refusalToLend 19 = .ok (.ireturn, 1) := by decide +kernel
theorem dX7_refusalToLend_20 : decode cX7_refusalToLend 20 = .ok (.aload_n 0, 1) := by decide +kernel
theorem dX7_refusalToLend_21 : decode cX7_refusalToLend 21 = .ok (.getfield 10, 3) := by decide +kernel
theorem dX7_refusalToLend_24 : decode cX7_refusalToLend 24 = .ok (.iload_n 1, 1) := by decide +kernel
theorem dX7_refusalToLend_25 : decode cX7_refusalToLend 25 = .ok (.iload_n 2, 1) := by decide +kernel
theorem dX7_refusalToLend_26 : decode cX7_refusalToLend 26 = .ok (.invokevirtual 259, 3) := by decide +kernel
theorem dX7_refusalToLend_29 : decode cX7_refusalToLend 29 = .ok (.ifCond .eq 21, 3) := by decide +kernel
theorem dX7_refusalToLend_32 : decode cX7_refusalToLend 32 = .ok (.aload_n 0, 1) := by decide +kernel
theorem dX7_refusalToLend_33 : decode cX7_refusalToLend 33 = .ok (.getfield 10, 3) := by decide +kernel
theorem dX7_refusalToLend_36 : decode cX7_refusalToLend 36 = .ok (.getfield 40, 3) := by decide +kernel
theorem dX7_refusalToLend_39 : decode cX7_refusalToLend 39 = .ok (.iload_n 2, 1) := by decide +kernel
theorem dX7_refusalToLend_40 : decode cX7_refusalToLend 40 = .ok (.invokevirtual 238, 3) := by decide +kernel
theorem dX7_refusalToLend_43 : decode cX7_refusalToLend 43 = .ok (.invokestatic 180, 3) := by decide +kernel
theorem dX7_refusalToLend_46 : decode cX7_refusalToLend 46 = .ok (.iconst 3, 1) := by decide +kernel
theorem dX7_refusalToLend_47 : decode cX7_refusalToLend 47 = .ok (.if_icmp .lt 6, 3) := by decide +kernel
theorem dX7_refusalToLend_50 : decode cX7_refusalToLend 50 = .ok (.ldc 90, 2) := by decide +kernel
theorem dX7_refusalToLend_52 : decode cX7_refusalToLend 52 = .ok (.ireturn, 1) := by decide +kernel
theorem dX7_refusalToLend_53 : decode cX7_refusalToLend 53 = .ok (.iconst 0, 1) := by decide +kernel
theorem dX7_refusalToLend_54 : decode cX7_refusalToLend 54 = .ok (.ireturn, 1) := by decide +kernel
set_option maxRecDepth 20000 in
theorem ggX7_refusalToTakeBack_X7_isCopy : GoodIn wsX7_refusalToTakeBack wsX7_isCopy := goodIn_r _ [8, 2, 9, 10, 7, 11, 26, 27, 28, 29, 30, 31, 32, 33, 34, 35, 36, 37] (by decide +kernel) (by decide +kernel)
set_option maxRecDepth 20000 in
theorem gX7_refusalToTakeBack_X7_isCopy : GoodIn wsX7_refusalToTakeBack (wsV RX7 70 RX7 yX7_isCopy wsX7_isCopy) := goodIn_app (goodIn_of _ (by decide +kernel)) ggX7_refusalToTakeBack_X7_isCopy
set_option maxRecDepth 20000 in
theorem ggX7_refusalToTakeBack_X7_isBelow : GoodIn wsX7_refusalToTakeBack wsX7_isBelow := goodIn_r _ [11] (by decide +kernel) (by decide +kernel)
set_option maxRecDepth 20000 in
theorem gX7_refusalToTakeBack_X7_isBelow : GoodIn wsX7_refusalToTakeBack (va_wsS RX7 35 yX7_isBelow wsX7_isBelow) := goodIn_app (goodIn_of _ (by decide +kernel)) ggX7_refusalToTakeBack_X7_isBelow
theorem dX7_refusalToTakeBack_0 : decode cX7_refusalToTakeBack 0 = .ok (.aload_n 0, 1) := by decide +kernel
theorem dX7_refusalToTakeBack_1 : decode cX7_refusalToTakeBack 1 = .ok (.iload_n 1, 1) := by decide +kernel
theorem dX7_refusalToTakeBack_2 : decode cX7_refusalToTakeBack 2 = .ok (.invokevirtual 70, 3) := by decide +kernel
theorem dX7_refusalToTakeBack_5 : decode cX7_refusalToTakeBack 5 = .ok (.ifCond .eq 11, 3) := by decide +kernel
theorem dX7_refusalToTakeBack_8 : decode cX7_refusalToTakeBack 8 = .ok (.iload_n 2, 1) := by decide +kernel
theorem dX7_refusalToTakeBack_9 : decode cX7_refusalToTakeBack 9 = .ok (.iconst 4, 1) := by decide +kernel
theorem dX7_refusalToTakeBack_10 : decode cX7_refusalToTakeBack 10 = .ok (.invokestatic 35, 3) := by decide +kernel
theorem dX7_refusalToTakeBack_13 : decode cX7_refusalToTakeBack 13 = .ok (.ifCond .ne 6, 3) := by decide +kernel
theorem dX7_refusalToTakeBack_16 : decode cX7_refusalToTakeBack 16 = .ok (.ldc 39, 2) := by decide +kernel
theorem dX7_refusalToTakeBack_18 : decode cX7_refusalToTakeBack 18 = .ok (.ireturn, 1) := by decide +kernel
theorem dX7_refusalToTakeBack_19 : decode cX7_refusalToTakeBack 19 = .ok (.aload_n 0, 1) := by decide +kernel
theorem dX7_refusalToTakeBack_20 : decode cX7_refusalToTakeBack 20 = .ok (.getfield 10, 3) := by decide +kernel
theorem dX7_refusalToTakeBack_23 : decode cX7_refusalToTakeBack 23 = .ok (.getfield 40, 3) := by decide +kernel
theorem dX7_refusalToTakeBack_26 : decode cX7_refusalToTakeBack 26 = .ok (.iload_n 1, 1) := by decide +kernel
theorem dX7_refusalToTakeBack_27 : decode cX7_refusalToTakeBack 27 = .ok (.invokevirtual 74, 3) := by decide +kernel
theorem dX7_refusalToTakeBack_30 : decode cX7_refusalToTakeBack 30 = .ok (.istore_n 3, 1) := by decide +kernel
theorem dX7_refusalToTakeBack_31 : decode cX7_refusalToTakeBack 31 = .ok (.iload_n 3, 1) := by decide +kernel
theorem dX7_refusalToTakeBack_32 : decode cX7_refusalToTakeBack 32 = .ok (.iconst 1, 1) := by decide +kernel
theorem dX7_refusalToTakeBack_33 : decode cX7_refusalToTakeBack 33 = .ok (.if_icmp .eq 8, 3) := by decide +kernel
theorem dX7_refusalToTakeBack_36 : decode cX7_refusalToTakeBack 36 = .ok (.iload_n 3, 1) := by decide +kernel
theorem dX7_refusalToTakeBack_37 : decode cX7_refusalToTakeBack 37 = .ok (.iconst 4, 1) := by decide +kernel
theorem dX7_refusalToTakeBack_38 : decode cX7_refusalToTakeBack 38 = .ok (.if_icmp .ne 7, 3) := by decide +kernel
theorem dX7_refusalToTakeBack_41 : decode cX7_refusalToTakeBack 41 = .ok (.iconst 0, 1) := by decide +kernel
theorem dX7_refusalToTakeBack_42 : decode cX7_refusalToTakeBack 42 = .ok (.goto 5, 3) := by decide +kernel
theorem dX7_refusalToTakeBack_45 : decode cX7_refusalToTakeBack 45 = .ok (.ldc 90, 2) := by decide +kernel
theorem dX7_refusalToTakeBack_47 : decode cX7_refusalToTakeBack 47 = .ok (.ireturn, 1) := by decide +kernel
set_option maxRecDepth 20000 in
theorem ggX7_refusalToHold_X7_isBelow : GoodIn wsX7_refusalToHold wsX7_isBelow := goodIn_r _ [9] (by decide +kernel) (by decide +kernel)
set_option maxRecDepth 20000 in
theorem gX7_refusalToHold_X7_isBelow : GoodIn wsX7_refusalToHold (va_wsS RX7 35 yX7_isBelow wsX7_isBelow) := goodIn_app (goodIn_of _ (by decide +kernel)) ggX7_refusalToHold_X7_isBelow
set_option maxRecDepth 20000 in
theorem ggX7_refusalToHold_X1_outTo : GoodIn wsX7_refusalToHold wsX1_outTo := goodIn_r _ [14, 15, 16, 17, 18, 13, 19, 20, 21, 22, 23, 24, 25, 26, 27, 28, 29, 30, 31, 32, 33, 34, 35, 36, 74, 75, 76, 77, 78] (by decide +kernel) (by decide +kernel)
set_option maxRecDepth 20000 in
theorem gX7_refusalToHold_X1_outTo : GoodIn wsX7_refusalToHold (wsV RX7 238 RX1 yX1_outTo wsX1_outTo) := goodIn_app (goodIn_of _ (by decide +kernel)) ggX7_refusalToHold_X1_outTo
set_option maxRecDepth 20000 in
theorem ggX7_refusalToHold_X1_ofTitle : GoodIn wsX7_refusalToHold wsX1_ofTitle := goodIn_r _ [40, 15, 41, 42, 43, 13, 44, 24, 25, 26, 27, 28, 29, 30, 31, 32, 74, 75, 76, 77, 78] (by decide +kernel) (by decide +kernel)
set_option maxRecDepth 20000 in
theorem gX7_refusalToHold_X1_ofTitle : GoodIn wsX7_refusalToHold (wsV RX7 226 RX1 yX1_ofTitle wsX1_ofTitle) := goodIn_app (goodIn_of _ (by decide +kernel)) ggX7_refusalToHold_X1_ofTitle
set_option maxRecDepth 20000 in
theorem ggX7_refusalToHold_X3_has : GoodIn wsX7_refusalToHold wsX3_has := goodIn_r _ [49, 50, 51, 52, 53, 48, 54, 55, 56, 26, 27, 28, 29, 30, 31, 32, 57, 58, 59, 60, 71, 72, 73, 76, 77, 78] (by decide +kernel) (by decide +kernel)
set_option maxRecDepth 20000 in
theorem gX7_refusalToHold_X3_has : GoodIn wsX7_refusalToHold (wsV RX7 262 RX3 yX3_has wsX3_has) := goodIn_app (goodIn_of _ (by decide +kernel)) ggX7_refusalToHold_X3_has
