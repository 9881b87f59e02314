theorem dX6_digest_107 : decode cX6_digest 107 = .ok (.invokevirtual 254, 3) := by decide +kernel
theorem dX6_digest_110 : decode cX6_digest 110 = .ok (.i2l, 1) := by decide +kernel
theorem dX6_digest_111 : decode cX6_digest 111 = .ok (.ladd, 1) := by decide +kernel
theorem dX6_digest_112 : decode cX6_digest 112 = .ok (.lstore_n 1, 1) := by decide +kernel
theorem dX6_digest_113 : decode cX6_digest 113 = .ok (.iinc 4 1, 3) := by decide +kernel
theorem dX6_digest_116 : decode cX6_digest 116 = .ok (.goto (-25), 3) := by decide +kernel
theorem dX6_digest_119 : decode cX6_digest 119 = .ok (.aload_n 0, 1) := by decide +kernel
theorem dX6_digest_120 : decode cX6_digest 120 = .ok (.getfield 21, 3) := by decide +kernel
theorem dX6_digest_123 : decode cX6_digest 123 = .ok (.iload_n 3, 1) := by decide +kernel
theorem dX6_digest_124 : decode cX6_digest 124 = .ok (.aaload, 1) := by decide +kernel
theorem dX6_digest_125 : decode cX6_digest 125 = .ok (.getfield 125, 3) := by decide +kernel
theorem dX6_digest_128 : decode cX6_digest 128 = .ok (.ifCond .ne 17, 3) := by decide +kernel
theorem dX6_digest_131 : decode cX6_digest 131 = .ok (.lload_n 1, 1) := by decide +kernel
theorem dX6_digest_132 : decode cX6_digest 132 = .ok (.ldc2_w 246, 3) := by decide +kernel
theorem dX6_digest_135 : decode cX6_digest 135 = .ok (.lmul, 1) := by decide +kernel
theorem dX6_digest_136 : decode cX6_digest 136 = .ok (.aload_n 0, 1) := by decide +kernel
theorem dX6_digest_137 : decode cX6_digest 137 = .ok (.iload_n 3, 1) := by decide +kernel
theorem dX6_digest_138 : decode cX6_digest 138 = .ok (.iconst 2, 1) := by decide +kernel
theorem dX6_digest_139 : decode cX6_digest 139 = .ok (.invokevirtual 257, 3) := by decide +kernel
theorem dX6_digest_142 : decode cX6_digest 142 = .ok (.i2l, 1) := by decide +kernel
theorem dX6_digest_143 : decode cX6_digest 143 = .ok (.ladd, 1) := by decide +kernel
theorem dX6_digest_144 : decode cX6_digest 144 = .ok (.lstore_n 1, 1) := by decide +kernel
theorem dX6_digest_145 : decode cX6_digest 145 = .ok (.iinc 3 1, 3) := by decide +kernel
theorem dX6_digest_148 : decode cX6_digest 148 = .ok (.goto (-71), 3) := by decide +kernel
theorem dX6_digest_151 : decode cX6_digest 151 = .ok (.iconst 0, 1) := by decide +kernel
theorem dX6_digest_152 : decode cX6_digest 152 = .ok (.istore_n 3, 1) := by decide +kernel
theorem dX6_digest_153 : decode cX6_digest 153 = .ok (.iload_n 3, 1) := by decide +kernel
theorem dX6_digest_154 : decode cX6_digest 154 = .ok (.iconst 3, 1) := by decide +kernel
theorem dX6_digest_155 : decode cX6_digest 155 = .ok (.if_icmp .ge 52, 3) := by decide +kernel
theorem dX6_digest_158 : decode cX6_digest 158 = .ok (.iconst 0, 1) := by decide +kernel
theorem dX6_digest_159 : decode cX6_digest 159 = .ok (.istore 4, 2) := by decide +kernel
theorem dX6_digest_161 : decode cX6_digest 161 = .ok (.iload 4, 2) := by decide +kernel
theorem dX6_digest_163 : decode cX6_digest 163 = .ok (.iconst 3, 1) := by decide +kernel
theorem dX6_digest_164 : decode cX6_digest 164 = .ok (.if_icmp .gt 24, 3) := by decide +kernel
theorem dX6_digest_167 : decode cX6_digest 167 = .ok (.lload_n 1, 1) := by decide +kernel
theorem dX6_digest_168 : decode cX6_digest 168 = .ok (.ldc2_w 246, 3) := by decide +kernel
theorem dX6_digest_171 : decode cX6_digest 171 = .ok (.lmul, 1) := by decide +kernel
theorem dX6_digest_172 : decode cX6_digest 172 = .ok (.aload_n 0, 1) := by decide +kernel
theorem dX6_digest_173 : decode cX6_digest 173 = .ok (.iload_n 3, 1) := by decide +kernel
theorem dX6_digest_174 : decode cX6_digest 174 = .ok (.iload 4, 2) := by decide +kernel
theorem dX6_digest_176 : decode cX6_digest 176 = .ok (.invokevirtual 260, 3) := by decide +kernel
theorem dX6_digest_179 : decode cX6_digest 179 = .ok (.i2l, 1) := by decide +kernel
theorem dX6_digest_180 : decode cX6_digest 180 = .ok (.ladd, 1) := by decide +kernel
theorem dX6_digest_181 : decode cX6_digest 181 = .ok (.lstore_n 1, 1) := by decide +kernel
theorem dX6_digest_182 : decode cX6_digest 182 = .ok (.iinc 4 1, 3) := by decide +kernel
theorem dX6_digest_185 : decode cX6_digest 185 = .ok (.goto (-24), 3) := by decide +kernel
theorem dX6_digest_188 : decode cX6_digest 188 = .ok (.lload_n 1, 1) := by decide +kernel
theorem dX6_digest_189 : decode cX6_digest 189 = .ok (.ldc2_w 246, 3) := by decide +kernel
theorem dX6_digest_192 : decode cX6_digest 192 = .ok (.lmul, 1) := by decide +kernel
theorem dX6_digest_193 : decode cX6_digest 193 = .ok (.aload_n 0, 1) := by decide +kernel
theorem dX6_digest_194 : decode cX6_digest 194 = .ok (.iload_n 3, 1) := by decide +kernel
theorem dX6_digest_195 : decode cX6_digest 195 = .ok (.invokevirtual 163, 3) := by decide +kernel
theorem dX6_digest_198 : decode cX6_digest 198 = .ok (.i2l, 1) := by decide +kernel
theorem dX6_digest_199 : decode cX6_digest 199 = .ok (.ladd, 1) := by decide +kernel
theorem dX6_digest_200 : decode cX6_digest 200 = .ok (.lstore_n 1, 1) := by decide +kernel
theorem dX6_digest_201 : decode cX6_digest 201 = .ok (.iinc 3 1, 3) := by decide +kernel
theorem dX6_digest_204 : decode cX6_digest 204 = .ok (.goto (-51), 3) := by decide +kernel
theorem dX6_digest_207 : decode cX6_digest 207 = .ok (.iconst 0, 1) := by decide +kernel
theorem dX6_digest_208 : decode cX6_digest 208 = .ok (.istore_n 3, 1) := by decide +kernel
theorem dX6_digest_209 : decode cX6_digest 209 = .ok (.iload_n 3, 1) := by decide +kernel
theorem dX6_digest_210 : decode cX6_digest 210 = .ok (.iconst 4, 1) := by decide +kernel
theorem dX6_digest_211 : decode cX6_digest 211 = .ok (.if_icmp .gt 22, 3) := by decide +kernel
theorem dX6_digest_214 : decode cX6_digest 214 = .ok (.lload_n 1, 1) := by decide +kernel
theorem dX6_digest_215 : decode cX6_digest 215 = .ok (.ldc2_w 246, 3) := by decide +kernel
theorem dX6_digest_218 : decode cX6_digest 218 = .ok (.lmul, 1) := by decide +kernel
theorem dX6_digest_219 : decode cX6_digest 219 = .ok (.aload_n 0, 1) := by decide +kernel
theorem dX6_digest_220 : decode cX6_digest 220 = .ok (.iload_n 3, 1) := by decide +kernel
theorem dX6_digest_221 : decode cX6_digest 221 = .ok (.invokevirtual 263, 3) := by decide +kernel
theorem dX6_digest_224 : decode cX6_digest 224 = .ok (.i2l, 1) := by decide +kernel
theorem dX6_digest_225 : decode cX6_digest 225 = .ok (.ladd, 1) := by decide +kernel
theorem dX6_digest_226 : decode cX6_digest 226 = .ok (.lstore_n 1, 1) := by decide +kernel
theorem dX6_digest_227 : decode cX6_digest 227 = .ok (.iinc 3 1, 3) := by decide +kernel
theorem dX6_digest_230 : decode cX6_digest 230 = .ok (.goto (-21), 3) := by decide +kernel
theorem dX6_digest_233 : decode cX6_digest 233 = .ok (.lload_n 1, 1) := by decide +kernel
theorem dX6_digest_234 : decode cX6_digest 234 = .ok (.ldc2_w 246, 3) := by decide +kernel
theorem dX6_digest_237 : decode cX6_digest 237 = .ok (.lmul, 1) := by decide +kernel
theorem dX6_digest_238 : decode cX6_digest 238 = .ok (.aload_n 0, 1) := by decide +kernel
theorem dX6_digest_239 : decode cX6_digest 239 = .ok (.iconst 3, 1) := by decide +kernel
theorem dX6_digest_240 : decode cX6_digest 240 = .ok (.invokevirtual 266, 3) := by decide +kernel
theorem dX6_digest_243 : decode cX6_digest 243 = .ok (.i2l, 1) := by decide +kernel
theorem dX6_digest_244 : decode cX6_digest 244 = .ok (.ladd, 1) := by decide +kernel
theorem dX6_digest_245 : decode cX6_digest 245 = .ok (.lstore_n 1, 1) := by decide +kernel
theorem dX6_digest_246 : decode cX6_digest 246 = .ok (.lload_n 1, 1) := by decide +kernel
theorem dX6_digest_247 : decode cX6_digest 247 = .ok (.ldc2_w 246, 3) := by decide +kernel
theorem dX6_digest_250 : decode cX6_digest 250 = .ok (.lmul, 1) := by decide +kernel
theorem dX6_digest_251 : decode cX6_digest 251 = .ok (.aload_n 0, 1) := by decide +kernel
theorem dX6_digest_252 : decode cX6_digest 252 = .ok (.iconst 5, 1) := by decide +kernel
theorem dX6_digest_253 : decode cX6_digest 253 = .ok (.iconst 1, 1) := by decide +kernel
theorem dX6_digest_254 : decode cX6_digest 254 = .ok (.iconst 2, 1) := by decide +kernel
theorem dX6_digest_255 : decode cX6_digest 255 = .ok (.invokevirtual 269, 3) := by decide +kernel
theorem dX6_digest_258 : decode cX6_digest 258 = .ok (.i2l, 1) := by decide +kernel
theorem dX6_digest_259 : decode cX6_digest 259 = .ok (.ladd, 1) := by decide +kernel
theorem dX6_digest_260 : decode cX6_digest 260 = .ok (.lstore_n 1, 1) := by decide +kernel
theorem dX6_digest_261 : decode cX6_digest 261 = .ok (.lload_n 1, 1) := by decide +kernel
theorem dX6_digest_262 : decode cX6_digest 262 = .ok (.ldc2_w 246, 3) := by decide +kernel
theorem dX6_digest_265 : decode cX6_digest 265 = .ok (.lmul, 1) := by decide +kernel
theorem dX6_digest_266 : decode cX6_digest 266 = .ok (.aload_n 0, 1) := by decide +kernel
theorem dX6_digest_267 : decode cX6_digest 267 = .ok (.iconst 5, 1) := by decide +kernel
theorem dX6_digest_268 : decode cX6_digest 268 = .ok (.iconst 0, 1) := by decide +kernel
theorem dX6_digest_269 : decode cX6_digest 269 = .ok (.iconst 2, 1) := by decide +kernel
theorem dX6_digest_270 : decode cX6_digest 270 = .ok (.invokevirtual 269, 3) := by decide +kernel
theorem dX6_digest_273 : decode cX6_digest 273 = .ok (.i2l, 1) := by decide +kernel
theorem dX6_digest_274 : decode cX6_digest 274 = .ok (.ladd, 1) := by decide +kernel
theorem dX6_digest_275 : decode cX6_digest 275 = .ok (.lreturn, 1) := by decide +kernel
theorem dX6_needIndex_0 : decode cX6_needIndex 0 = .ok (.iload_n 0, 1) := by decide +kernel
theorem dX6_needIndex_1 : decode cX6_needIndex 1 = .ok (.ifCond .lt 8, 3) := by decide +kernel
theorem dX6_needIndex_4 : decode cX6_needIndex 4 = .ok (.iload_n 0, 1) := by decide +kernel
theorem dX6_needIndex_5 : decode cX6_needIndex 5 = .ok (.iload_n 1, 1) := by decide +kernel
theorem dX6_needIndex_6 : decode cX6_needIndex 6 = .ok (.if_icmp .lt 14, 3) := by decide +kernel
theorem dX6_needIndex_9 : decode cX6_needIndex 9 = .ok (.new 273, 3) := by decide +kernel
theorem dX6_needIndex_12 : decode cX6_needIndex 12 = .ok (.dup, 1) := by decide +kernel
theorem dX6_needIndex_13 : decode cX6_needIndex 13 = .ok (.ldc_w 275, 3) := by decide +kernel
theorem dX6_needIndex_16 : decode cX6_needIndex 16 = .ok (.invokespecial 277, 3) := by decide +kernel
theorem dX6_needIndex_19 : decode cX6_needIndex 19 = .ok (.athrow, 1) := by decide +kernel
theorem dX6_needIndex_20 : decode cX6_needIndex 20 = .ok (.return_, 1) := by decide +kernel
set_option maxRecDepth 20000 in
theorem ggX6_needNeighbour_X6_needIndex : GoodIn wsX6_needNeighbour wsX6_needIndex := goodIn_ca (goodIn_r _ [6, 1, 2] (by decide +kernel) (by decide +kernel)) (goodIn_sub (fun _ h => List.mem_cons_of_mem _ (List.mem_append_right _ h)) (by decide +kernel))
set_option maxRecDepth 20000 in
theorem gX6_needNeighbour_X6_needIndex : GoodIn wsX6_needNeighbour (va_wsS RX6 51 yX6_needIndex wsX6_needIndex) := goodIn_app (goodIn_of _ (by decide +kernel)) ggX6_needNeighbour_X6_needIndex
set_option maxRecDepth 20000 in
theorem ggX6_needNeighbour_X6_neighbour : GoodIn wsX6_needNeighbour wsX6_neighbour := goodIn_r _ [9] (by decide +kernel) (by decide +kernel)
set_option maxRecDepth 20000 in
theorem gX6_needNeighbour_X6_neighbour : GoodIn wsX6_needNeighbour (va_wsS RX6 278 yX6_neighbour wsX6_neighbour) := goodIn_app (goodIn_of _ (by decide +kernel)) ggX6_needNeighbour_X6_neighbour
theorem dX6_needNeighbour_0 : decode cX6_needNeighbour 0 = .ok (.iload_n 0, 1) := by decide +kernel
theorem dX6_needNeighbour_1 : decode cX6_needNeighbour 1 = .ok (.bipush 16, 2) := by decide +kernel
theorem dX6_needNeighbour_3 : decode cX6_needNeighbour 3 = .ok (.invokestatic 51, 3) := by decide +kernel
theorem dX6_needNeighbour_6 : decode cX6_needNeighbour 6 = .ok (.iload_n 0, 1) := by decide +kernel
theorem dX6_needNeighbour_7 : decode cX6_needNeighbour 7 = .ok (.iload_n 1, 1) := by decide +kernel
theorem dX6_needNeighbour_8 : decode cX6_needNeighbour 8 = .ok (.invokestatic 278, 3) := by decide +kernel
theorem dX6_needNeighbour_11 : decode cX6_needNeighbour 11 = .ok (.iconst (-1), 1) := by decide +kernel
theorem dX6_needNeighbour_12 : decode cX6_needNeighbour 12 = .ok (.if_icmp .ne 14, 3) := by decide +kernel
theorem dX6_needNeighbour_15 : decode cX6_needNeighbour 15 = .ok (.new 273, 3) := by decide +kernel
theorem dX6_needNeighbour_18 : decode cX6_needNeighbour 18 = .ok (.dup, 1) := by decide +kernel
theorem dX6_needNeighbour_19 : decode cX6_needNeighbour 19 = .ok (.ldc_w 282, 3) := by decide +kernel
theorem dX6_needNeighbour_22 : decode cX6_needNeighbour 22 = .ok (.invokespecial 277, 3) := by decide +kernel
theorem dX6_needNeighbour_25 : decode cX6_needNeighbour 25 = .ok (.athrow, 1) := by decide +kernel
theorem dX6_needNeighbour_26 : decode cX6_needNeighbour 26 = .ok (.return_, 1) := by decide +kernel
theorem dX6_needWithin_0 : decode cX6_needWithin 0 = .ok (.iload_n 0, 1) := by decide +kernel
theorem dX6_needWithin_1 : decode cX6_needWithin 1 = .ok (.iload_n 1, 1) := by decide +kernel
theorem dX6_needWithin_2 : decode cX6_needWithin 2 = .ok (.if_icmp .lt 8, 3) := by decide +kernel
theorem dX6_needWithin_5 : decode cX6_needWithin 5 = .ok (.iload_n 0, 1) := by decide +kernel
theorem dX6_needWithin_6 : decode cX6_needWithin 6 = .ok (.iload_n 2, 1) := by decide +kernel
theorem dX6_needWithin_7 : decode cX6_needWithin 7 = .ok (.if_icmp .le 14, 3) := by decide +kernel
theorem dX6_needWithin_10 : decode cX6_needWithin 10 = .ok (.new 284, 3) := by decide +kernel
theorem dX6_needWithin_13 : decode cX6_needWithin 13 = .ok (.dup, 1) := by decide +kernel
theorem dX6_needWithin_14 : decode cX6_needWithin 14 = .ok (.ldc_w 286, 3) := by decide +kernel
theorem dX6_needWithin_17 : decode cX6_needWithin 17 = .ok (.invokespecial 288, 3) := by decide +kernel
theorem dX6_needWithin_20 : decode cX6_needWithin 20 = .ok (.athrow, 1) := by decide +kernel
theorem dX6_needWithin_21 : decode cX6_needWithin 21 = .ok (.return_, 1) := by decide +kernel
theorem dX6_needOpen_0 : decode cX6_needOpen 0 = .ok (.aload_n 0, 1) := by decide +kernel
theorem dX6_needOpen_1 : decode cX6_needOpen 1 = .ok (.getfield 21, 3) := by decide +kernel
theorem dX6_needOpen_4 : decode cX6_needOpen 4 = .ok (.iload_n 1, 1) := by decide +kernel
theorem dX6_needOpen_5 : decode cX6_needOpen 5 = .ok (.aaload, 1) := by decide +kernel
theorem dX6_needOpen_6 : decode cX6_needOpen 6 = .ok (.getfield 125, 3) := by decide +kernel
theorem dX6_needOpen_9 : decode cX6_needOpen 9 = .ok (.ifCond .eq 14, 3) := by decide +kernel
theorem dX6_needOpen_12 : decode cX6_needOpen 12 = .ok (.new 90, 3) := by decide +kernel
theorem dX6_needOpen_15 : decode cX6_needOpen 15 = .ok (.dup, 1) := by decide +kernel
theorem dX6_needOpen_16 : decode cX6_needOpen 16 = .ok (.ldc_w 289, 3) := by decide +kernel
theorem dX6_needOpen_19 : decode cX6_needOpen 19 = .ok (.invokespecial 94, 3) := by decide +kernel
theorem dX6_needOpen_22 : decode cX6_needOpen 22 = .ok (.athrow, 1) := by decide +kernel
theorem dX6_needOpen_23 : decode cX6_needOpen 23 = .ok (.return_, 1) := by decide +kernel
theorem dX6_neighbour_0 : decode cX6_neighbour 0 = .ok (.iload_n 1, 1) := by decide +kernel
theorem dX6_neighbour_1 : decode cX6_neighbour 1 = .ok (.ifCond .eq 18, 3) := by decide +kernel
theorem dX6_neighbour_4 : decode cX6_neighbour 4 = .ok (.iload_n 0, 1) := by decide +kernel
theorem dX6_neighbour_5 : decode cX6_neighbour 5 = .ok (.iconst 4, 1) := by decide +kernel
theorem dX6_neighbour_6 : decode cX6_neighbour 6 = .ok (.irem, 1) := by decide +kernel
theorem dX6_neighbour_7 : decode cX6_neighbour 7 = .ok (.iconst 3, 1) := by decide +kernel
theorem dX6_neighbour_8 : decode cX6_neighbour 8 = .ok (.if_icmp .ne 7, 3) := by decide +kernel
theorem dX6_neighbour_11 : decode cX6_neighbour 11 = .ok (.iconst (-1), 1) := by decide +kernel
theorem dX6_neighbour_12 : decode cX6_neighbour 12 = .ok (.goto 6, 3) := by decide +kernel
theorem dX6_neighbour_15 : decode cX6_neighbour 15 = .ok (.iload_n 0, 1) := by decide +kernel
theorem dX6_neighbour_16 : decode cX6_neighbour 16 = .ok (.iconst 1, 1) := by decide +kernel
theorem dX6_neighbour_17 : decode cX6_neighbour 17 = .ok (.iadd, 1) := by decide +kernel
theorem dX6_neighbour_18 : decode cX6_neighbour 18 = .ok (.ireturn, 1) := by decide +kernel
theorem dX6_neighbour_19 : decode cX6_neighbour 19 = .ok (.iload_n 0, 1) := by decide +kernel
theorem dX6_neighbour_20 : decode cX6_neighbour 20 = .ok (.iconst 4, 1) := by decide +kernel
theorem dX6_neighbour_21 : decode cX6_neighbour 21 = .ok (.iadd, 1) := by decide +kernel
theorem dX6_neighbour_22 : decode cX6_neighbour 22 = .ok (.bipush 16, 2) := by decide +kernel
theorem dX6_neighbour_24 : decode cX6_neighbour 24 = .ok (.if_icmp .lt 7, 3) := by decide +kernel
theorem dX6_neighbour_27 : decode cX6_neighbour 27 = .ok (.iconst (-1), 1) := by decide +kernel
theorem dX6_neighbour_28 : decode cX6_neighbour 28 = .ok (.goto 6, 3) := by decide +kernel
theorem dX6_neighbour_31 : decode cX6_neighbour 31 = .ok (.iload_n 0, 1) := by decide +kernel
theorem dX6_neighbour_32 : decode cX6_neighbour 32 = .ok (.iconst 4, 1) := by decide +kernel
theorem dX6_neighbour_33 : decode cX6_neighbour 33 = .ok (.iadd, 1) := by decide +kernel
theorem dX6_neighbour_34 : decode cX6_neighbour 34 = .ok (.ireturn, 1) := by decide +kernel
theorem dX6_countMonth_0 : decode cX6_countMonth 0 = .ok (.iconst 0, 1) := by decide +kernel
theorem dX6_countMonth_1 : decode cX6_countMonth 1 = .ok (.istore_n 1, 1) := by decide +kernel
theorem dX6_countMonth_2 : decode cX6_countMonth 2 = .ok (.iload_n 1, 1) := by decide +kernel
theorem dX6_countMonth_3 : decode cX6_countMonth 3 = .ok (.iconst 3, 1) := by decide +kernel
theorem dX6_countMonth_4 : decode cX6_countMonth 4 = .ok (.if_icmp .ge 27, 3) := by decide +kernel
theorem dX6_countMonth_7 : decode cX6_countMonth 7 = .ok (.aload_n 0, 1) := by decide +kernel
theorem dX6_countMonth_8 : decode cX6_countMonth 8 = .ok (.getfield 38, 3) := by decide +kernel
theorem dX6_countMonth_11 : decode cX6_countMonth 11 = .ok (.iload_n 1, 1) := by decide +kernel
theorem dX6_countMonth_12 : decode cX6_countMonth 12 = .ok (.dup2, 1) := by decide +kernel
theorem dX6_countMonth_13 : decode cX6_countMonth 13 = .ok (.iaload, 1) := by decide +kernel
theorem dX6_countMonth_14 : decode cX6_countMonth 14 = .ok (.aload_n 0, 1) := by decide +kernel
theorem dX6_countMonth_15 : decode cX6_countMonth 15 = .ok (.getfield 10, 3) := by decide +kernel
theorem dX6_countMonth_18 : decode cX6_countMonth 18 = .ok (.getfield 151, 3) := by decide +kernel
theorem dX6_countMonth_21 : decode cX6_countMonth 21 = .ok (.iload_n 1, 1) := by decide +kernel
theorem dX6_countMonth_22 : decode cX6_countMonth 22 = .ok (.iaload, 1) := by decide +kernel
theorem dX6_countMonth_23 : decode cX6_countMonth 23 = .ok (.iadd, 1) := by decide +kernel
theorem dX6_countMonth_24 : decode cX6_countMonth 24 = .ok (.iastore, 1) := by decide +kernel
theorem dX6_countMonth_25 : decode cX6_countMonth 25 = .ok (.iinc 1 1, 3) := by decide +kernel
theorem dX6_countMonth_28 : decode cX6_countMonth 28 = .ok (.goto (-26), 3) := by decide +kernel
theorem dX6_countMonth_31 : decode cX6_countMonth 31 = .ok (.aload_n 0, 1) := by decide +kernel
theorem dX6_countMonth_32 : decode cX6_countMonth 32 = .ok (.dup, 1) := by decide +kernel
theorem dX6_countMonth_33 : decode cX6_countMonth 33 = .ok (.getfield 223, 3) := by decide +kernel
theorem dX6_countMonth_36 : decode cX6_countMonth 36 = .ok (.aload_n 0, 1) := by decide +kernel
theorem dX6_countMonth_37 : decode cX6_countMonth 37 = .ok (.getfield 10, 3) := by decide +kernel
theorem dX6_countMonth_40 : decode cX6_countMonth 40 = .ok (.getfield 291, 3) := by decide +kernel
theorem dX6_countMonth_43 : decode cX6_countMonth 43 = .ok (.iadd, 1) := by decide +kernel
theorem dX6_countMonth_44 : decode cX6_countMonth 44 = .ok (.putfield 223, 3) := by decide +kernel
theorem dX6_countMonth_47 : decode cX6_countMonth 47 = .ok (.aload_n 0, 1) := by decide +kernel
theorem dX6_countMonth_48 : decode cX6_countMonth 48 = .ok (.dup, 1) := by decide +kernel
theorem dX6_countMonth_49 : decode cX6_countMonth 49 = .ok (.getfield 226, 3) := by decide +kernel
theorem dX6_countMonth_52 : decode cX6_countMonth 52 = .ok (.aload_n 0, 1) := by decide +kernel
theorem dX6_countMonth_53 : decode cX6_countMonth 53 = .ok (.getfield 10, 3) := by decide +kernel
theorem dX6_countMonth_56 : decode cX6_countMonth 56 = .ok (.getfield 294, 3) := by decide +kernel
theorem dX6_countMonth_59 : decode cX6_countMonth 59 = .ok (.iadd, 1) := by decide +kernel
theorem dX6_countMonth_60 : decode cX6_countMonth 60 = .ok (.putfield 226, 3) := by decide +kernel
theorem dX6_countMonth_63 : decode cX6_countMonth 63 = .ok (.aload_n 0, 1) := by decide +kernel
theorem dX6_countMonth_64 : decode cX6_countMonth 64 = .ok (.dup, 1) := by decide +kernel
theorem dX6_countMonth_65 : decode cX6_countMonth 65 = .ok (.getfield 229, 3) := by decide +kernel
theorem dX6_countMonth_68 : decode cX6_countMonth 68 = .ok (.aload_n 0, 1) := by decide +kernel
theorem dX6_countMonth_69 : decode cX6_countMonth 69 = .ok (.getfield 10, 3) := by decide +kernel
theorem dX6_countMonth_72 : decode cX6_countMonth 72 = .ok (.getfield 297, 3) := by decide +kernel
theorem dX6_countMonth_75 : decode cX6_countMonth 75 = .ok (.iadd, 1) := by decide +kernel
theorem dX6_countMonth_76 : decode cX6_countMonth 76 = .ok (.putfield 229, 3) := by decide +kernel
theorem dX6_countMonth_79 : decode cX6_countMonth 79 = .ok (.iconst 0, 1) := by decide +kernel
theorem dX6_countMonth_80 : decode cX6_countMonth 80 = .ok (.istore_n 1, 1) := by decide +kernel
theorem dX6_countMonth_81 : decode cX6_countMonth 81 = .ok (.iload_n 1, 1) := by decide +kernel
theorem dX6_countMonth_82 : decode cX6_countMonth 82 = .ok (.aload_n 0, 1) := by decide +kernel
theorem dX6_countMonth_83 : decode cX6_countMonth 83 = .ok (.getfield 10, 3) := by decide +kernel
theorem dX6_countMonth_86 : decode cX6_countMonth 86 = .ok (.getfield 87, 3) := by decide +kernel
theorem dX6_countMonth_89 : decode cX6_countMonth 89 = .ok (.if_icmp .ge 52, 3) := by decide +kernel
theorem dX6_countMonth_92 : decode cX6_countMonth 92 = .ok (.aload_n 0, 1) := by decide +kernel
theorem dX6_countMonth_93 : decode cX6_countMonth 93 = .ok (.getfield 10, 3) := by decide +kernel
theorem dX6_countMonth_96 : decode cX6_countMonth 96 = .ok (.getfield 97, 3) := by decide +kernel
theorem dX6_countMonth_99 : decode cX6_countMonth 99 = .ok (.iload_n 1, 1) := by decide +kernel
theorem dX6_countMonth_100 : decode cX6_countMonth 100 = .ok (.aaload, 1) := by decide +kernel
theorem dX6_countMonth_101 : decode cX6_countMonth 101 = .ok (.getfield 101, 3) := by decide +kernel
theorem dX6_countMonth_104 : decode cX6_countMonth 104 = .ok (.ifCond .ne 31, 3) := by decide +kernel
theorem dX6_countMonth_107 : decode cX6_countMonth 107 = .ok (.aload_n 0, 1) := by decide +kernel
theorem dX6_countMonth_108 : decode cX6_countMonth 108 = .ok (.getfield 21, 3) := by decide +kernel
theorem dX6_countMonth_111 : decode cX6_countMonth 111 = .ok (.iload_n 1, 1) := by decide +kernel
theorem dX6_countMonth_112 : decode cX6_countMonth 112 = .ok (.aaload, 1) := by decide +kernel
theorem dX6_countMonth_113 : decode cX6_countMonth 113 = .ok (.dup, 1) := by decide +kernel
theorem dX6_countMonth_114 : decode cX6_countMonth 114 = .ok (.getfield 211, 3) := by decide +kernel
theorem dX6_countMonth_117 : decode cX6_countMonth 117 = .ok (.aload_n 0, 1) := by decide +kernel
theorem dX6_countMonth_118 : decode cX6_countMonth 118 = .ok (.getfield 10, 3) := by decide +kernel
theorem dX6_countMonth_121 : decode cX6_countMonth 121 = .ok (.getfield 97, 3) := by decide +kernel
theorem dX6_countMonth_124 : decode cX6_countMonth 124 = .ok (.iload_n 1, 1) := by decide +kernel
theorem dX6_countMonth_125 : decode cX6_countMonth 125 = .ok (.aaload, 1) := by decide +kernel
theorem dX6_countMonth_126 : decode cX6_countMonth 126 = .ok (.getfield 208, 3) := by decide +kernel
theorem dX6_countMonth_129 : decode cX6_countMonth 129 = .ok (.iconst 0, 1) := by decide +kernel
theorem dX6_countMonth_130 : decode cX6_countMonth 130 = .ok (.iaload, 1) := by decide +kernel
theorem dX6_countMonth_131 : decode cX6_countMonth 131 = .ok (.iadd, 1) := by decide +kernel
theorem dX6_countMonth_132 : decode cX6_countMonth 132 = .ok (.putfield 211, 3) := by decide +kernel
theorem dX6_countMonth_135 : decode cX6_countMonth 135 = .ok (.iinc 1 1, 3) := by decide +kernel
theorem dX6_countMonth_138 : decode cX6_countMonth 138 = .ok (.goto (-57), 3) := by decide +kernel
theorem dX6_countMonth_141 : decode cX6_countMonth 141 = .ok (.return_, 1) := by decide +kernel
set_option maxRecDepth 20000 in
theorem ggX6_allocate_X4_hasProduced : GoodIn wsX6_allocate wsX4_hasProduced := goodIn_r _ [11, 12, 13, 47, 48, 49, 50, 51] (by decide +kernel) (by decide +kernel)
set_option maxRecDepth 20000 in
theorem gX6_allocate_X4_hasProduced : GoodIn wsX6_allocate (wsV RX6 300 RX4 yX4_hasProduced wsX4_hasProduced) := goodIn_app (goodIn_of _ (by decide +kernel)) ggX6_allocate_X4_hasProduced
set_option maxRecDepth 20000 in
theorem ggX6_allocate_X6_allocateOneByOne : GoodIn wsX6_allocate wsX6_allocateOneByOne := goodIn_r _ [18, 1, 2, 3, 4, 6, 7, 8, 9, 10, 11, 12, 13, 19, 20, 21, 22, 23, 24, 25, 26, 27, 28, 29, 30, 31, 32, 33, 34, 35, 36, 37, 38, 39, 40, 41, 42, 43, 44, 45, 46, 47, 48, 49, 50, 51] (by decide +kernel) (by decide +kernel)
set_option maxRecDepth 20000 in
theorem gX6_allocate_X6_allocateOneByOne : GoodIn wsX6_allocate (wsV RX6 304 RX6 yX6_allocateOneByOne wsX6_allocateOneByOne) := goodIn_app (goodIn_of _ (by decide +kernel)) ggX6_allocate_X6_allocateOneByOne
theorem dX6_allocate_0 : decode cX6_allocate 0 = .ok (.iconst 0, 1) := by decide +kernel
theorem dX6_allocate_1 : decode cX6_allocate 1 = .ok (.istore_n 2, 1) := by decide +kernel
theorem dX6_allocate_2 : decode cX6_allocate 2 = .ok (.iconst 0, 1) := by decide +kernel
theorem dX6_allocate_3 : decode cX6_allocate 3 = .ok (.istore_n 3, 1) := by decide +kernel
theorem dX6_allocate_4 : decode cX6_allocate 4 = .ok (.iload_n 3, 1) := by decide +kernel
theorem dX6_allocate_5 : decode cX6_allocate 5 = .ok (.aload_n 0, 1) := by decide +kernel
theorem dX6_allocate_6 : decode cX6_allocate 6 = .ok (.getfield 10, 3) := by decide +kernel
theorem dX6_allocate_9 : decode cX6_allocate 9 = .ok (.getfield 87, 3) := by decide +kernel
theorem dX6_allocate_12 : decode cX6_allocate 12 = .ok (.if_icmp .ge 38, 3) := by decide +kernel
theorem dX6_allocate_15 : decode cX6_allocate 15 = .ok (.aload_n 0, 1) := by decide +kernel
theorem dX6_allocate_16 : decode cX6_allocate 16 = .ok (.getfield 10, 3) := by decide +kernel
theorem dX6_allocate_19 : decode cX6_allocate 19 = .ok (.getfield 97, 3) := by decide +kernel
theorem dX6_allocate_22 : decode cX6_allocate 22 = .ok (.iload_n 3, 1) := by decide +kernel
theorem dX6_allocate_23 : decode cX6_allocate 23 = .ok (.aaload, 1) := by decide +kernel
theorem dX6_allocate_24 : decode cX6_allocate 24 = .ok (.invokevirtual 300, 3) := by decide +kernel
theorem dX6_allocate_27 : decode cX6_allocate 27 = .ok (.ifCond .eq 17, 3) := by decide +kernel
theorem dX6_allocate_30 : decode cX6_allocate 30 = .ok (.iload_n 2, 1) := by decide +kernel
theorem dX6_allocate_31 : decode cX6_allocate 31 = .ok (.aload_n 0, 1) := by decide +kernel
theorem dX6_allocate_32 : decode cX6_allocate 32 = .ok (.getfield 21, 3) := by decide +kernel
theorem dX6_allocate_35 : decode cX6_allocate 35 = .ok (.iload_n 3, 1) := by decide +kernel
theorem dX6_allocate_36 : decode cX6_allocate 36 = .ok (.aaload, 1) := by decide +kernel
theorem dX6_allocate_37 : decode cX6_allocate 37 = .ok (.getfield 205, 3) := by decide +kernel
theorem dX6_allocate_40 : decode cX6_allocate 40 = .ok (.iconst 0, 1) := by decide +kernel
theorem dX6_allocate_41 : decode cX6_allocate 41 = .ok (.iaload, 1) := by decide +kernel
theorem dX6_allocate_42 : decode cX6_allocate 42 = .ok (.iadd, 1) := by decide +kernel
theorem dX6_allocate_43 : decode cX6_allocate 43 = .ok (.istore_n 2, 1) := by decide +kernel
theorem dX6_allocate_44 : decode cX6_allocate 44 = .ok (.iinc 3 1, 3) := by decide +kernel
theorem dX6_allocate_47 : decode cX6_allocate 47 = .ok (.goto (-43), 3) := by decide +kernel
theorem dX6_allocate_50 : decode cX6_allocate 50 = .ok (.iload_n 1, 1) := by decide +kernel
theorem dX6_allocate_51 : decode cX6_allocate 51 = .ok (.istore_n 3, 1) := by decide +kernel
theorem dX6_allocate_52 : decode cX6_allocate 52 = .ok (.iconst 0, 1) := by decide +kernel
theorem dX6_allocate_53 : decode cX6_allocate 53 = .ok (.istore 4, 2) := by decide +kernel
theorem dX6_allocate_55 : decode cX6_allocate 55 = .ok (.iload 4, 2) := by decide +kernel
theorem dX6_allocate_57 : decode cX6_allocate 57 = .ok (.aload_n 0, 1) := by decide +kernel
theorem dX6_allocate_58 : decode cX6_allocate 58 = .ok (.getfield 10, 3) := by decide +kernel
theorem dX6_allocate_61 : decode cX6_allocate 61 = .ok (.getfield 87, 3) := by decide +kernel
theorem dX6_allocate_64 : decode cX6_allocate 64 = .ok (.if_icmp .ge 69, 3) := by decide +kernel
theorem dX6_allocate_67 : decode cX6_allocate 67 = .ok (.iload_n 2, 1) := by decide +kernel
theorem dX6_allocate_68 : decode cX6_allocate 68 = .ok (.ifCond .le 65, 3) := by decide +kernel
theorem dX6_allocate_71 : decode cX6_allocate 71 = .ok (.aload_n 0, 1) := by decide +kernel
theorem dX6_allocate_72 : decode cX6_allocate 72 = .ok (.getfield 10, 3) := by decide +kernel
theorem dX6_allocate_75 : decode cX6_allocate 75 = .ok (.getfield 97, 3) := by decide +kernel
theorem dX6_allocate_78 : decode cX6_allocate 78 = .ok (.iload 4, 2) := by decide +kernel
theorem dX6_allocate_80 : decode cX6_allocate 80 = .ok (.aaload, 1) := by decide +kernel
theorem dX6_allocate_81 : decode cX6_allocate 81 = .ok (.invokevirtual 300, 3) := by decide +kernel
theorem dX6_allocate_84 : decode cX6_allocate 84 = .ok (.ifCond .eq 43, 3) := by decide +kernel
theorem dX6_allocate_87 : decode cX6_allocate 87 = .ok (.iload_n 1, 1) := by decide +kernel
theorem dX6_allocate_88 : decode cX6_allocate 88 = .ok (.aload_n 0, 1) := by decide +kernel
theorem dX6_allocate_89 : decode cX6_allocate 89 = .ok (.getfield 21, 3) := by decide +kernel
theorem dX6_allocate_92 : decode cX6_allocate 92 = .ok (.iload 4, 2) := by decide +kernel
theorem dX6_allocate_94 : decode cX6_allocate 94 = .ok (.aaload, 1) := by decide +kernel
theorem dX6_allocate_95 : decode cX6_allocate 95 = .ok (.getfield 205, 3) := by decide +kernel
theorem dX6_allocate_98 : decode cX6_allocate 98 = .ok (.iconst 0, 1) := by decide +kernel
theorem dX6_allocate_99 : decode cX6_allocate 99 = .ok (.iaload, 1) := by decide +kernel
theorem dX6_allocate_100 : decode cX6_allocate 100 = .ok (.imul, 1) := by decide +kernel
theorem dX6_allocate_101 : decode cX6_allocate 101 = .ok (.iload_n 2, 1) := by decide +kernel
theorem dX6_allocate_102 : decode cX6_allocate 102 = .ok (.idiv, 1) := by decide +kernel
theorem dX6_allocate_103 : decode cX6_allocate 103 = .ok (.istore 5, 2) := by decide +kernel
theorem dX6_allocate_105 : decode cX6_allocate 105 = .ok (.aload_n 0, 1) := by decide +kernel
theorem dX6_allocate_106 : decode cX6_allocate 106 = .ok (.getfield 21, 3) := by decide +kernel
theorem dX6_allocate_109 : decode cX6_allocate 109 = .ok (.iload 4, 2) := by decide +kernel
theorem dX6_allocate_111 : decode cX6_allocate 111 = .ok (.aaload, 1) := by decide +kernel
theorem dX6_allocate_112 : decode cX6_allocate 112 = .ok (.dup, 1) := by decide +kernel
theorem dX6_allocate_113 : decode cX6_allocate 113 = .ok (.getfield 214, 3) := by decide +kernel
theorem dX6_allocate_116 : decode cX6_allocate 116 = .ok (.iload 5, 2) := by decide +kernel
theorem dX6_allocate_118 : decode cX6_allocate 118 = .ok (.iadd, 1) := by decide +kernel
theorem dX6_allocate_119 : decode cX6_allocate 119 = .ok (.putfield 214, 3) := by decide +kernel
theorem dX6_allocate_122 : decode cX6_allocate 122 = .ok (.iload_n 3, 1) := by decide +kernel
theorem dX6_allocate_123 : decode cX6_allocate 123 = .ok (.iload 5, 2) := by decide +kernel
theorem dX6_allocate_125 : decode cX6_allocate 125 = .ok (.isub, 1) := by decide +kernel
theorem dX6_allocate_126 : decode cX6_allocate 126 = .ok (.istore_n 3, 1) := by decide +kernel
theorem dX6_allocate_127 : decode cX6_allocate 127 = .ok (.iinc 4 1, 3) := by decide +kernel
theorem dX6_allocate_130 : decode cX6_allocate 130 = .ok (.goto (-75), 3) := by decide +kernel
theorem dX6_allocate_133 : decode cX6_allocate 133 = .ok (.aload_n 0, 1) := by decide +kernel
theorem dX6_allocate_134 : decode cX6_allocate 134 = .ok (.iload_n 3, 1) := by decide +kernel
theorem dX6_allocate_135 : decode cX6_allocate 135 = .ok (.invokevirtual 304, 3) := by decide +kernel
theorem dX6_allocate_138 : decode cX6_allocate 138 = .ok (.return_, 1) := by decide +kernel
set_option maxRecDepth 20000 in
theorem ggX6_allocateOneByOne_X4_hasProduced : GoodIn wsX6_allocateOneByOne wsX4_hasProduced := goodIn_r _ [10, 11, 12, 41, 42, 43, 44, 45] (by decide +kernel) (by decide +kernel)
set_option maxRecDepth 20000 in
theorem gX6_allocateOneByOne_X4_hasProduced : GoodIn wsX6_allocateOneByOne (wsV RX6 300 RX4 yX4_hasProduced wsX4_hasProduced) := goodIn_app (goodIn_of _ (by decide +kernel)) ggX6_allocateOneByOne_X4_hasProduced
theorem dX6_allocateOneByOne_0 : decode cX6_allocateOneByOne 0 = .ok (.iload_n 1, 1) := by decide +kernel
theorem dX6_allocateOneByOne_1 : decode cX6_allocateOneByOne 1 = .ok (.istore_n 2, 1) := by decide +kernel
theorem dX6_allocateOneByOne_2 : decode cX6_allocateOneByOne 2 = .ok (.iconst 0, 1) := by decide +kernel
theorem dX6_allocateOneByOne_3 : decode cX6_allocateOneByOne 3 = .ok (.istore_n 3, 1) := by decide +kernel
theorem dX6_allocateOneByOne_4 : decode cX6_allocateOneByOne 4 = .ok (.iload_n 3, 1) := by decide +kernel
theorem dX6_allocateOneByOne_5 : decode cX6_allocateOneByOne 5 = .ok (.iload_n 1, 1) := by decide +kernel
theorem dX6_allocateOneByOne_6 : decode cX6_allocateOneByOne 6 = .ok (.if_icmp .ge 73, 3) := by decide +kernel
theorem dX6_allocateOneByOne_9 : decode cX6_allocateOneByOne 9 = .ok (.iload_n 2, 1) := by decide +kernel
theorem dX6_allocateOneByOne_10 : decode cX6_allocateOneByOne 10 = .ok (.ifCond .le 69, 3) := by decide +kernel
theorem dX6_allocateOneByOne_13 : decode cX6_allocateOneByOne 13 = .ok (.iconst 0, 1) := by decide +kernel
theorem dX6_allocateOneByOne_14 : decode cX6_allocateOneByOne 14 = .ok (.istore 4, 2) := by decide +kernel
theorem dX6_allocateOneByOne_16 : decode cX6_allocateOneByOne 16 = .ok (.iload 4, 2) := by decide +kernel
theorem dX6_allocateOneByOne_18 : decode cX6_allocateOneByOne 18 = .ok (.aload_n 0, 1) := by decide +kernel
theorem dX6_allocateOneByOne_19 : decode cX6_allocateOneByOne 19 = .ok (.getfield 10, 3) := by decide +kernel
theorem dX6_allocateOneByOne_22 : decode cX6_allocateOneByOne 22 = .ok (.getfield 87, 3) := by decide +kernel
theorem dX6_allocateOneByOne_25 : decode cX6_allocateOneByOne 25 = .ok (.if_icmp .ge 48, 3) := by decide +kernel
theorem dX6_allocateOneByOne_28 : decode cX6_allocateOneByOne 28 = .ok (.iload_n 2, 1) := by decide +kernel
theorem dX6_allocateOneByOne_29 : decode cX6_allocateOneByOne 29 = .ok (.ifCond .le 44, 3) := by decide +kernel
theorem dX6_allocateOneByOne_32 : decode cX6_allocateOneByOne 32 = .ok (.aload_n 0, 1) := by decide +kernel
theorem dX6_allocateOneByOne_33 : decode cX6_allocateOneByOne 33 = .ok (.getfield 10, 3) := by decide +kernel
theorem dX6_allocateOneByOne_36 : decode cX6_allocateOneByOne 36 = .ok (.getfield 97, 3) := by decide +kernel
theorem dX6_allocateOneByOne_39 : decode cX6_allocateOneByOne 39 = .ok (.iload 4, 2) := by decide +kernel
theorem dX6_allocateOneByOne_41 : decode cX6_allocateOneByOne 41 = .ok (.aaload, 1) := by decide +kernel
theorem dX6_allocateOneByOne_42 : decode cX6_allocateOneByOne 42 = .ok (.invokevirtual 300, 3) := by decide +kernel
theorem dX6_allocateOneByOne_45 : decode cX6_allocateOneByOne 45 = .ok (.ifCond .eq 22, 3) := by decide +kernel
theorem dX6_allocateOneByOne_48 : decode cX6_allocateOneByOne 48 = .ok (.aload_n 0, 1) := by decide +kernel
theorem dX6_allocateOneByOne_49 : decode cX6_allocateOneByOne 49 = .ok (.getfield 21, 3) := by decide +kernel
theorem dX6_allocateOneByOne_52 : decode cX6_allocateOneByOne 52 = .ok (.iload 4, 2) := by decide +kernel
theorem dX6_allocateOneByOne_54 : decode cX6_allocateOneByOne 54 = .ok (.aaload, 1) := by decide +kernel
theorem dX6_allocateOneByOne_55 : decode cX6_allocateOneByOne 55 = .ok (.dup, 1) := by decide +kernel
theorem dX6_allocateOneByOne_56 : decode cX6_allocateOneByOne 56 = .ok (.getfield 214, 3) := by decide +kernel
theorem dX6_allocateOneByOne_59 : decode cX6_allocateOneByOne 59 = .ok (.iconst 1, 1) := by decide +kernel
theorem dX6_allocateOneByOne_60 : decode cX6_allocateOneByOne 60 = .ok (.iadd, 1) := by decide +kernel
theorem dX6_allocateOneByOne_61 : decode cX6_allocateOneByOne 61 = .ok (.putfield 214, 3) := by decide +kernel
theorem dX6_allocateOneByOne_64 : decode cX6_allocateOneByOne 64 = .ok (.iinc 2 (-1), 3) := by decide +kernel
theorem dX6_allocateOneByOne_67 : decode cX6_allocateOneByOne 67 = .ok (.iinc 4 1, 3) := by decide +kernel
theorem dX6_allocateOneByOne_70 : decode cX6_allocateOneByOne 70 = .ok (.goto (-54), 3) := by decide +kernel
theorem dX6_allocateOneByOne_73 : decode cX6_allocateOneByOne 73 = .ok (.iinc 3 1, 3) := by decide +kernel
theorem dX6_allocateOneByOne_76 : decode cX6_allocateOneByOne 76 = .ok (.goto (-72), 3) := by decide +kernel
theorem dX6_allocateOneByOne_79 : decode cX6_allocateOneByOne 79 = .ok (.return_, 1) := by decide +kernel
theorem dX6_keepTests_0 : decode cX6_keepTests 0 = .ok (.iconst 0, 1) := by decide +kernel
theorem dX6_keepTests_1 : decode cX6_keepTests 1 = .ok (.istore_n 1, 1) := by decide +kernel
theorem dX6_keepTests_2 : decode cX6_keepTests 2 = .ok (.iload_n 1, 1) := by decide +kernel
theorem dX6_keepTests_3 : decode cX6_keepTests 3 = .ok (.aload_n 0, 1) := by decide +kernel
theorem dX6_keepTests_4 : decode cX6_keepTests 4 = .ok (.getfield 10, 3) := by decide +kernel
theorem dX6_keepTests_7 : decode cX6_keepTests 7 = .ok (.getfield 87, 3) := by decide +kernel
theorem dX6_keepTests_10 : decode cX6_keepTests 10 = .ok (.if_icmp .ge 58, 3) := by decide +kernel
theorem dX6_keepTests_13 : decode cX6_keepTests 13 = .ok (.aload_n 0, 1) := by decide +kernel
theorem dX6_keepTests_14 : decode cX6_keepTests 14 = .ok (.getfield 21, 3) := by decide +kernel
theorem dX6_keepTests_17 : decode cX6_keepTests 17 = .ok (.iload_n 1, 1) := by decide +kernel
theorem dX6_keepTests_18 : decode cX6_keepTests 18 = .ok (.aaload, 1) := by decide +kernel
theorem dX6_keepTests_19 : decode cX6_keepTests 19 = .ok (.getfield 121, 3) := by decide +kernel
theorem dX6_keepTests_22 : decode cX6_keepTests 22 = .ok (.ifCond .eq 40, 3) := by decide +kernel
theorem dX6_keepTests_25 : decode cX6_keepTests 25 = .ok (.aload_n 0, 1) := by decide +kernel
theorem dX6_keepTests_26 : decode cX6_keepTests 26 = .ok (.getfield 10, 3) := by decide +kernel
theorem dX6_keepTests_29 : decode cX6_keepTests 29 = .ok (.getfield 97, 3) := by decide +kernel
theorem dX6_keepTests_32 : decode cX6_keepTests 32 = .ok (.iload_n 1, 1) := by decide +kernel
theorem dX6_keepTests_33 : decode cX6_keepTests 33 = .ok (.aaload, 1) := by decide +kernel
theorem dX6_keepTests_34 : decode cX6_keepTests 34 = .ok (.getfield 208, 3) := by decide +kernel
theorem dX6_keepTests_37 : decode cX6_keepTests 37 = .ok (.iconst 0, 1) := by decide +kernel
theorem dX6_keepTests_38 : decode cX6_keepTests 38 = .ok (.aload_n 0, 1) := by decide +kernel
theorem dX6_keepTests_39 : decode cX6_keepTests 39 = .ok (.getfield 21, 3) := by decide +kernel
theorem dX6_keepTests_42 : decode cX6_keepTests 42 = .ok (.iload_n 1, 1) := by decide +kernel
theorem dX6_keepTests_43 : decode cX6_keepTests 43 = .ok (.aaload, 1) := by decide +kernel
theorem dX6_keepTests_44 : decode cX6_keepTests 44 = .ok (.getfield 205, 3) := by decide +kernel
theorem dX6_keepTests_47 : decode cX6_keepTests 47 = .ok (.iconst 0, 1) := by decide +kernel
theorem dX6_keepTests_48 : decode cX6_keepTests 48 = .ok (.iconst 3, 1) := by decide +kernel
theorem dX6_keepTests_49 : decode cX6_keepTests 49 = .ok (.invokestatic 307, 3) := by decide +kernel
theorem dX6_keepTests_52 : decode cX6_keepTests 52 = .ok (.aload_n 0, 1) := by decide +kernel
theorem dX6_keepTests_53 : decode cX6_keepTests 53 = .ok (.getfield 21, 3) := by decide +kernel
theorem dX6_keepTests_56 : decode cX6_keepTests 56 = .ok (.iload_n 1, 1) := by decide +kernel
theorem dX6_keepTests_57 : decode cX6_keepTests 57 = .ok (.aaload, 1) := by decide +kernel
theorem dX6_keepTests_58 : decode cX6_keepTests 58 = .ok (.iconst 0, 1) := by decide +kernel
theorem dX6_keepTests_59 : decode cX6_keepTests 59 = .ok (.putfield 121, 3) := by decide +kernel
theorem dX6_keepTests_62 : decode cX6_keepTests 62 = .ok (.iinc 1 1, 3) := by decide +kernel
theorem dX6_keepTests_65 : decode cX6_keepTests 65 = .ok (.goto (-63), 3) := by decide +kernel
theorem dX6_keepTests_68 : decode cX6_keepTests 68 = .ok (.return_, 1) := by decide +kernel
theorem dX6_entitle_0 : decode cX6_entitle 0 = .ok (.iload_n 1, 1) := by decide +kernel
theorem dX6_entitle_1 : decode cX6_entitle 1 = .ok (.istore_n 2, 1) := by decide +kernel
theorem dX6_entitle_2 : decode cX6_entitle 2 = .ok (.iconst 0, 1) := by decide +kernel
theorem dX6_entitle_3 : decode cX6_entitle 3 = .ok (.istore_n 3, 1) := by decide +kernel
theorem dX6_entitle_4 : decode cX6_entitle 4 = .ok (.iload_n 3, 1) := by decide +kernel
theorem dX6_entitle_5 : decode cX6_entitle 5 = .ok (.iconst 3, 1) := by decide +kernel
theorem dX6_entitle_6 : decode cX6_entitle 6 = .ok (.if_icmp .ge 46, 3) := by decide +kernel
theorem dX6_entitle_9 : decode cX6_entitle 9 = .ok (.iload_n 1, 1) := by decide +kernel
theorem dX6_entitle_10 : decode cX6_entitle 10 = .ok (.aload_n 0, 1) := by decide +kernel
theorem dX6_entitle_11 : decode cX6_entitle 11 = .ok (.getfield 27, 3) := by decide +kernel
theorem dX6_entitle_14 : decode cX6_entitle 14 = .ok (.iload_n 3, 1) := by decide +kernel
theorem dX6_entitle_15 : decode cX6_entitle 15 = .ok (.aaload, 1) := by decide +kernel
theorem dX6_entitle_16 : decode cX6_entitle 16 = .ok (.getfield 48, 3) := by decide +kernel
theorem dX6_entitle_19 : decode cX6_entitle 19 = .ok (.imul, 1) := by decide +kernel
theorem dX6_entitle_20 : decode cX6_entitle 20 = .ok (.bipush 100, 2) := by decide +kernel
theorem dX6_entitle_22 : decode cX6_entitle 22 = .ok (.idiv, 1) := by decide +kernel
theorem dX6_entitle_23 : decode cX6_entitle 23 = .ok (.istore 4, 2) := by decide +kernel
theorem dX6_entitle_25 : decode cX6_entitle 25 = .ok (.aload_n 0, 1) := by decide +kernel
theorem dX6_entitle_26 : decode cX6_entitle 26 = .ok (.getfield 27, 3) := by decide +kernel
theorem dX6_entitle_29 : decode cX6_entitle 29 = .ok (.iload_n 3, 1) := by decide +kernel
theorem dX6_entitle_30 : decode cX6_entitle 30 = .ok (.aaload, 1) := by decide +kernel
theorem dX6_entitle_31 : decode cX6_entitle 31 = .ok (.dup, 1) := by decide +kernel
theorem dX6_entitle_32 : decode cX6_entitle 32 = .ok (.getfield 217, 3) := by decide +kernel
theorem dX6_entitle_35 : decode cX6_entitle 35 = .ok (.iload 4, 2) := by decide +kernel
theorem dX6_entitle_37 : decode cX6_entitle 37 = .ok (.iadd, 1) := by decide +kernel
theorem dX6_entitle_38 : decode cX6_entitle 38 = .ok (.putfield 217, 3) := by decide +kernel
theorem dX6_entitle_41 : decode cX6_entitle 41 = .ok (.iload_n 2, 1) := by decide +kernel
theorem dX6_entitle_42 : decode cX6_entitle 42 = .ok (.iload 4, 2) := by decide +kernel
theorem dX6_entitle_44 : decode cX6_entitle 44 = .ok (.isub, 1) := by decide +kernel
theorem dX6_entitle_45 : decode cX6_entitle 45 = .ok (.istore_n 2, 1) := by decide +kernel
theorem dX6_entitle_46 : decode cX6_entitle 46 = .ok (.iinc 3 1, 3) := by decide +kernel
theorem dX6_entitle_49 : decode cX6_entitle 49 = .ok (.goto (-45), 3) := by decide +kernel
theorem dX6_entitle_52 : decode cX6_entitle 52 = .ok (.aload_n 0, 1) := by decide +kernel
theorem dX6_entitle_53 : decode cX6_entitle 53 = .ok (.getfield 27, 3) := by decide +kernel
theorem dX6_entitle_56 : decode cX6_entitle 56 = .ok (.iconst 0, 1) := by decide +kernel
theorem dX6_entitle_57 : decode cX6_entitle 57 = .ok (.aaload, 1) := by decide +kernel
theorem dX6_entitle_58 : decode cX6_entitle 58 = .ok (.dup, 1) := by decide +kernel
theorem dX6_entitle_59 : decode cX6_entitle 59 = .ok (.getfield 217, 3) := by decide +kernel
theorem dX6_entitle_62 : decode cX6_entitle 62 = .ok (.iload_n 2, 1) := by decide +kernel
theorem dX6_entitle_63 : decode cX6_entitle 63 = .ok (.iadd, 1) := by decide +kernel
theorem dX6_entitle_64 : decode cX6_entitle 64 = .ok (.putfield 217, 3) := by decide +kernel
theorem dX6_entitle_67 : decode cX6_entitle 67 = .ok (.return_, 1) := by decide +kernel
set_option maxRecDepth 20000 in
theorem ggX6_reservesOf_X2_take : GoodIn wsX6_reservesOf wsX2_take := goodIn_r _ [12, 13, 14, 15, 16, 17, 18, 19, 20, 21, 22, 23, 24, 25, 26, 27, 28, 29, 30, 31, 32, 33, 34, 35, 36, 37, 38, 39, 40, 41, 42, 145, 146, 147, 148, 149, 150, 151, 152, 153, 154, 155, 156, 162, 163, 164, 165, 157, 158, 159, 160, 161] (by decide +kernel) (by decide +kernel)
set_option maxRecDepth 20000 in
theorem gX6_reservesOf_X2_take : GoodIn wsX6_reservesOf (wsV RX6 237 RX2 yX2_take wsX2_take) := goodIn_app (goodIn_of _ (by decide +kernel)) ggX6_reservesOf_X2_take
set_option maxRecDepth 20000 in
theorem ggX6_reservesOf_X2_passMonths : GoodIn wsX6_reservesOf wsX2_passMonths := goodIn_r _ [46, 47, 48, 49, 11, 50, 15, 14, 51, 52, 53, 54, 55, 56, 57, 58, 59, 21, 60, 61, 62, 63, 64, 37, 65, 66, 67, 68, 69, 70, 13, 71, 72, 73, 74, 75, 76, 77, 78, 79, 23, 80, 81, 82, 27, 83, 29, 84, 85, 86, 87, 30, 88, 89, 90, 91, 16, 22, 92, 93, 94, 95, 96, 97, 98, 99, 100, 101, 102, 103, 104, 105, 106, 107, 108, 109, 110, 111, 112, 113, 114, 115, 116, 117, 118, 119, 120, 121, 122, 123, 124, 125, 126, 127, 128, 129, 130, 131, 132, 133, 32, 33, 145, 146, 147, 148, 149, 150, 151, 152, 153, 154, 155, 156, 157, 158, 159, 160, 161, 162, 163, 164, 165] (by decide +kernel) (by decide +kernel)
set_option maxRecDepth 20000 in
theorem gX6_reservesOf_X2_passMonths : GoodIn wsX6_reservesOf (wsV RX6 241 RX2 yX2_passMonths wsX2_passMonths) := goodIn_app (goodIn_of _ (by decide +kernel)) ggX6_reservesOf_X2_passMonths
theorem dX6_reservesOf_0 : decode cX6_reservesOf 0 = .ok (.aload_n 0, 1) := by decide +kernel
theorem dX6_reservesOf_1 : decode cX6_reservesOf 1 = .ok (.getfield 16, 3) := by decide +kernel
theorem dX6_reservesOf_4 : decode cX6_reservesOf 4 = .ok (.aload_n 0, 1) := by decide +kernel
theorem dX6_reservesOf_5 : decode cX6_reservesOf 5 = .ok (.getfield 10, 3) := by decide +kernel
theorem dX6_reservesOf_8 : decode cX6_reservesOf 8 = .ok (.invokevirtual 237, 3) := by decide +kernel
theorem dX6_reservesOf_11 : decode cX6_reservesOf 11 = .ok (.aload_n 0, 1) := by decide +kernel
theorem dX6_reservesOf_12 : decode cX6_reservesOf 12 = .ok (.getfield 16, 3) := by decide +kernel
theorem dX6_reservesOf_15 : decode cX6_reservesOf 15 = .ok (.ldc_w 313, 3) := by decide +kernel
theorem dX6_reservesOf_18 : decode cX6_reservesOf 18 = .ok (.putfield 139, 3) := by decide +kernel
theorem dX6_reservesOf_21 : decode cX6_reservesOf 21 = .ok (.iload_n 1, 1) := by decide +kernel
theorem dX6_reservesOf_22 : decode cX6_reservesOf 22 = .ok (.istore_n 2, 1) := by decide +kernel
theorem dX6_reservesOf_23 : decode cX6_reservesOf 23 = .ok (.iload_n 2, 1) := by decide +kernel
theorem dX6_reservesOf_24 : decode cX6_reservesOf 24 = .ok (.aload_n 0, 1) := by decide +kernel
theorem dX6_reservesOf_25 : decode cX6_reservesOf 25 = .ok (.getfield 16, 3) := by decide +kernel
theorem dX6_reservesOf_28 : decode cX6_reservesOf 28 = .ok (.getfield 87, 3) := by decide +kernel
theorem dX6_reservesOf_31 : decode cX6_reservesOf 31 = .ok (.if_icmp .ge 22, 3) := by decide +kernel
theorem dX6_reservesOf_34 : decode cX6_reservesOf 34 = .ok (.aload_n 0, 1) := by decide +kernel
theorem dX6_reservesOf_35 : decode cX6_reservesOf 35 = .ok (.getfield 16, 3) := by decide +kernel
theorem dX6_reservesOf_38 : decode cX6_reservesOf 38 = .ok (.getfield 97, 3) := by decide +kernel
theorem dX6_reservesOf_41 : decode cX6_reservesOf 41 = .ok (.iload_n 2, 1) := by decide +kernel
theorem dX6_reservesOf_42 : decode cX6_reservesOf 42 = .ok (.aaload, 1) := by decide +kernel
theorem dX6_reservesOf_43 : decode cX6_reservesOf 43 = .ok (.iconst 0, 1) := by decide +kernel
theorem dX6_reservesOf_44 : decode cX6_reservesOf 44 = .ok (.putfield 113, 3) := by decide +kernel
theorem dX6_reservesOf_47 : decode cX6_reservesOf 47 = .ok (.iinc 2 1, 3) := by decide +kernel
theorem dX6_reservesOf_50 : decode cX6_reservesOf 50 = .ok (.goto (-27), 3) := by decide +kernel
theorem dX6_reservesOf_53 : decode cX6_reservesOf 53 = .ok (.aload_n 0, 1) := by decide +kernel
theorem dX6_reservesOf_54 : decode cX6_reservesOf 54 = .ok (.getfield 16, 3) := by decide +kernel
theorem dX6_reservesOf_57 : decode cX6_reservesOf 57 = .ok (.bipush 12, 2) := by decide +kernel
theorem dX6_reservesOf_59 : decode cX6_reservesOf 59 = .ok (.invokevirtual 241, 3) := by decide +kernel
theorem dX6_reservesOf_62 : decode cX6_reservesOf 62 = .ok (.ireturn, 1) := by decide +kernel
theorem dX7_init_0 : decode cX7_init 0 = .ok (.aload_n 0, 1) := by decide +kernel
theorem dX7_init_1 : decode cX7_init 1 = .ok (.invokespecial 3, 3) := by decide +kernel
theorem dX7_init_4 : decode cX7_init 4 = .ok (.aload_n 0, 1) := by decide +kernel
theorem dX7_init_5 : decode cX7_init 5 = .ok (.bipush 16, 2) := by decide +kernel
theorem dX7_init_7 : decode cX7_init 7 = .ok (.newarray .int, 2) := by decide +kernel
theorem dX7_init_9 : decode cX7_init 9 = .ok (.putfield 9, 3) := by decide +kernel
theorem dX7_init_12 : decode cX7_init 12 = .ok (.aload_n 0, 1) := by decide +kernel
theorem dX7_init_13 : decode cX7_init 13 = .ok (.bipush 48, 2) := by decide +kernel
theorem dX7_init_15 : decode cX7_init 15 = .ok (.newarray .int, 2) := by decide +kernel
theorem dX7_init_17 : decode cX7_init 17 = .ok (.putfield 15, 3) := by decide +kernel
theorem dX7_init_20 : decode cX7_init 20 = .ok (.aload_n 0, 1) := by decide +kernel
theorem dX7_init_21 : decode cX7_init 21 = .ok (.bipush 16, 2) := by decide +kernel
theorem dX7_init_23 : decode cX7_init 23 = .ok (.newarray .boolean, 2) := by decide +kernel
