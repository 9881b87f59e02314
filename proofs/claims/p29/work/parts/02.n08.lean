set_option maxRecDepth 20000 in
theorem gX7_turn_X6_rank : GoodIn wsX7_turn (wsV RX7 136 RX6 yX6_rank wsX6_rank) := goodIn_app (goodIn_of _ (by decide +kernel)) ggX7_turn_X6_rank
set_option maxRecDepth 20000 in
theorem ggX7_turn_X6_capacity : GoodIn wsX7_turn wsX6_capacity := goodIn_ca (goodIn_ca (goodIn_r _ [58, 28, 59, 32, 33, 26, 34, 35, 36, 37, 38, 39, 40, 41, 115, 116, 117, 118, 119, 120, 121, 122, 123, 124, 125, 126, 127, 128, 129, 130, 131, 132, 133, 134, 135, 136, 137] (by decide +kernel) (by decide +kernel)) (goodIn_sub (fun _ h => List.mem_cons_of_mem _ (List.mem_append_left _ (List.mem_append_left _ (List.mem_append_right _ h)))) (by decide +kernel))) (goodIn_sub (fun _ h => List.mem_cons_of_mem _ (List.mem_append_left _ (List.mem_append_right _ h))) (by decide +kernel))
set_option maxRecDepth 20000 in
theorem gX7_turn_X6_capacity : GoodIn wsX7_turn (wsV RX7 139 RX6 yX6_capacity wsX6_capacity) := goodIn_app (goodIn_of _ (by decide +kernel)) ggX7_turn_X6_capacity
set_option maxRecDepth 20000 in
theorem ggX7_turn_X6_permit : GoodIn wsX7_turn wsX6_permit := goodIn_ca (goodIn_r _ [63, 28, 64, 37, 38, 26, 39, 40, 41, 115, 116, 117, 118, 119, 120, 121, 122, 123, 124, 125, 126, 127, 128, 129, 130, 131, 132, 133, 134, 135, 136, 137] (by decide +kernel) (by decide +kernel)) (goodIn_sub (fun _ h => List.mem_cons_of_mem _ (List.mem_append_left _ (List.mem_append_right _ h))) (by decide +kernel))
set_option maxRecDepth 20000 in
theorem gX7_turn_X6_permit : GoodIn wsX7_turn (wsV RX7 142 RX6 yX6_permit wsX6_permit) := goodIn_app (goodIn_of _ (by decide +kernel)) ggX7_turn_X6_permit
set_option maxRecDepth 20000 in
theorem ggX7_turn_X7_fault : GoodIn wsX7_turn wsX7_fault := goodIn_ca (goodIn_r _ [68, 69, 2, 70, 71, 72, 26, 73, 28, 74, 75, 76, 77, 35, 36, 32, 33, 34, 78, 79, 80, 81, 82, 83, 84, 85, 86, 87, 88, 89, 90, 91, 102, 103, 104, 105, 106, 107, 108, 109, 110, 111, 112, 113, 114, 115, 116, 117, 118, 119, 120, 121, 122, 123, 124, 125, 126, 127, 128, 129, 130, 131, 132, 133, 134, 135, 136, 137, 148, 149, 150, 151] (by decide +kernel) (by decide +kernel)) (goodIn_sub (fun _ h => List.mem_cons_of_mem _ (List.mem_append_left _ (List.mem_append_left _ (List.mem_append_right _ h)))) (by decide +kernel))
set_option maxRecDepth 20000 in
theorem gX7_turn_X7_fault : GoodIn wsX7_turn (wsV RX7 130 RX7 yX7_fault wsX7_fault) := goodIn_app (goodIn_of _ (by decide +kernel)) ggX7_turn_X7_fault
set_option maxRecDepth 20000 in
theorem ggX7_turn_X6_plug : GoodIn wsX7_turn wsX6_plug := goodIn_ca (goodIn_ca (goodIn_r _ [95, 28, 29, 30, 31, 48, 49, 32, 33, 26, 34, 35, 36, 42, 43, 44, 45, 46, 47, 115, 116, 117, 118, 119, 120, 121, 122, 123, 124, 125, 126, 127, 128, 129, 130, 131, 132, 133, 134, 135, 136, 137, 138, 139, 140, 141, 142, 143, 144, 145, 146, 147] (by decide +kernel) (by decide +kernel)) (goodIn_sub (fun _ h => List.mem_cons_of_mem _ (List.mem_append_left _ (List.mem_append_left _ (List.mem_append_right _ h)))) (by decide +kernel))) (goodIn_sub (fun _ h => List.mem_cons_of_mem _ (List.mem_append_right _ h)) (by decide +kernel))
set_option maxRecDepth 20000 in
theorem gX7_turn_X6_plug : GoodIn wsX7_turn (wsV RX7 144 RX6 yX6_plug wsX6_plug) := goodIn_app (goodIn_of _ (by decide +kernel)) ggX7_turn_X6_plug
set_option maxRecDepth 20000 in
theorem ggX7_turn_X6_test : GoodIn wsX7_turn wsX6_test := goodIn_ca (goodIn_ca (goodIn_r _ [99, 46, 47, 28, 29, 30, 100, 48, 101, 32, 33, 26, 34, 35, 36, 42, 43, 44, 45, 49, 115, 116, 117, 118, 119, 120, 121, 122, 123, 124, 125, 126, 127, 128, 129, 130, 131, 132, 133, 134, 135, 136, 137, 138, 139, 140, 141, 142, 143, 144, 145, 146, 147] (by decide +kernel) (by decide +kernel)) (goodIn_sub (fun _ h => List.mem_cons_of_mem _ (List.mem_append_right _ h)) (by decide +kernel))) (goodIn_sub (fun _ h => List.mem_cons_of_mem _ (List.mem_append_left _ (List.mem_append_left _ (List.mem_append_right _ h)))) (by decide +kernel))
set_option maxRecDepth 20000 in
theorem gX7_turn_X6_test : GoodIn wsX7_turn (wsV RX7 147 RX6 yX6_test wsX6_test) := goodIn_app (goodIn_of _ (by decide +kernel)) ggX7_turn_X6_test
theorem dX7_turn_0 : decode cX7_turn 0 = .ok (.aload_n 0, 1) := by decide +kernel
theorem dX7_turn_1 : decode cX7_turn 1 = .ok (.aload_n 0, 1) := by decide +kernel
theorem dX7_turn_2 : decode cX7_turn 2 = .ok (.getfield 31, 3) := by decide +kernel
theorem dX7_turn_5 : decode cX7_turn 5 = .ok (.arraylength, 1) := by decide +kernel
theorem dX7_turn_6 : decode cX7_turn 6 = .ok (.invokevirtual 123, 3) := by decide +kernel
theorem dX7_turn_9 : decode cX7_turn 9 = .ok (.istore_n 1, 1) := by decide +kernel
theorem dX7_turn_10 : decode cX7_turn 10 = .ok (.aload_n 0, 1) := by decide +kernel
theorem dX7_turn_11 : decode cX7_turn 11 = .ok (.getfield 31, 3) := by decide +kernel
theorem dX7_turn_14 : decode cX7_turn 14 = .ok (.iload_n 1, 1) := by decide +kernel
theorem dX7_turn_15 : decode cX7_turn 15 = .ok (.aaload, 1) := by decide +kernel
theorem dX7_turn_16 : decode cX7_turn 16 = .ok (.astore_n 2, 1) := by decide +kernel
theorem dX7_turn_17 : decode cX7_turn 17 = .ok (.aload_n 0, 1) := by decide +kernel
theorem dX7_turn_18 : decode cX7_turn 18 = .ok (.bipush 8, 2) := by decide +kernel
theorem dX7_turn_20 : decode cX7_turn 20 = .ok (.invokevirtual 123, 3) := by decide +kernel
theorem dX7_turn_23 : decode cX7_turn 23 = .ok (.tableswitch 314 0 6 #[41, 41, 68, 104, 160, 198, 265], 41) := by decide +kernel
theorem dX7_turn_64 : decode cX7_turn 64 = .ok (.aload_n 2, 1) := by decide +kernel
theorem dX7_turn_65 : decode cX7_turn 65 = .ok (.iconst 4, 1) := by decide +kernel
theorem dX7_turn_66 : decode cX7_turn 66 = .ok (.iaload, 1) := by decide +kernel
theorem dX7_turn_67 : decode cX7_turn 67 = .ok (.iconst 1, 1) := by decide +kernel
theorem dX7_turn_68 : decode cX7_turn 68 = .ok (.if_icmp .eq 17, 3) := by decide +kernel
theorem dX7_turn_71 : decode cX7_turn 71 = .ok (.aload_n 0, 1) := by decide +kernel
theorem dX7_turn_72 : decode cX7_turn 72 = .ok (.iload_n 1, 1) := by decide +kernel
theorem dX7_turn_73 : decode cX7_turn 73 = .ok (.aload_n 0, 1) := by decide +kernel
theorem dX7_turn_74 : decode cX7_turn 74 = .ok (.bipush 10, 2) := by decide +kernel
theorem dX7_turn_76 : decode cX7_turn 76 = .ok (.invokevirtual 123, 3) := by decide +kernel
theorem dX7_turn_79 : decode cX7_turn 79 = .ok (.invokevirtual 134, 3) := by decide +kernel
theorem dX7_turn_82 : decode cX7_turn 82 = .ok (.ifCond .eq 7, 3) := by decide +kernel
theorem dX7_turn_85 : decode cX7_turn 85 = .ok (.iconst 1, 1) := by decide +kernel
theorem dX7_turn_86 : decode cX7_turn 86 = .ok (.goto 4, 3) := by decide +kernel
theorem dX7_turn_89 : decode cX7_turn 89 = .ok (.iconst 0, 1) := by decide +kernel
theorem dX7_turn_90 : decode cX7_turn 90 = .ok (.ireturn, 1) := by decide +kernel
theorem dX7_turn_91 : decode cX7_turn 91 = .ok (.aload_n 2, 1) := by decide +kernel
theorem dX7_turn_92 : decode cX7_turn 92 = .ok (.iconst 3, 1) := by decide +kernel
theorem dX7_turn_93 : decode cX7_turn 93 = .ok (.iaload, 1) := by decide +kernel
theorem dX7_turn_94 : decode cX7_turn 94 = .ok (.istore_n 3, 1) := by decide +kernel
theorem dX7_turn_95 : decode cX7_turn 95 = .ok (.aload_n 2, 1) := by decide +kernel
theorem dX7_turn_96 : decode cX7_turn 96 = .ok (.iconst 3, 1) := by decide +kernel
theorem dX7_turn_97 : decode cX7_turn 97 = .ok (.iconst 1, 1) := by decide +kernel
theorem dX7_turn_98 : decode cX7_turn 98 = .ok (.aload_n 0, 1) := by decide +kernel
theorem dX7_turn_99 : decode cX7_turn 99 = .ok (.bipush 9, 2) := by decide +kernel
theorem dX7_turn_101 : decode cX7_turn 101 = .ok (.invokevirtual 123, 3) := by decide +kernel
theorem dX7_turn_104 : decode cX7_turn 104 = .ok (.iadd, 1) := by decide +kernel
theorem dX7_turn_105 : decode cX7_turn 105 = .ok (.iastore, 1) := by decide +kernel
theorem dX7_turn_106 : decode cX7_turn 106 = .ok (.aload_n 0, 1) := by decide +kernel
theorem dX7_turn_107 : decode cX7_turn 107 = .ok (.getfield 10, 3) := by decide +kernel
theorem dX7_turn_110 : decode cX7_turn 110 = .ok (.iload_n 1, 1) := by decide +kernel
theorem dX7_turn_111 : decode cX7_turn 111 = .ok (.aload_n 2, 1) := by decide +kernel
theorem dX7_turn_112 : decode cX7_turn 112 = .ok (.iconst 3, 1) := by decide +kernel
theorem dX7_turn_113 : decode cX7_turn 113 = .ok (.iaload, 1) := by decide +kernel
theorem dX7_turn_114 : decode cX7_turn 114 = .ok (.invokevirtual 136, 3) := by decide +kernel
theorem dX7_turn_117 : decode cX7_turn 117 = .ok (.iload_n 3, 1) := by decide +kernel
theorem dX7_turn_118 : decode cX7_turn 118 = .ok (.if_icmp .ne 7, 3) := by decide +kernel
theorem dX7_turn_121 : decode cX7_turn 121 = .ok (.iconst 1, 1) := by decide +kernel
theorem dX7_turn_122 : decode cX7_turn 122 = .ok (.goto 4, 3) := by decide +kernel
theorem dX7_turn_125 : decode cX7_turn 125 = .ok (.iconst 0, 1) := by decide +kernel
theorem dX7_turn_126 : decode cX7_turn 126 = .ok (.ireturn, 1) := by decide +kernel
theorem dX7_turn_127 : decode cX7_turn 127 = .ok (.aload_n 0, 1) := by decide +kernel
theorem dX7_turn_128 : decode cX7_turn 128 = .ok (.iconst 3, 1) := by decide +kernel
theorem dX7_turn_129 : decode cX7_turn 129 = .ok (.invokevirtual 123, 3) := by decide +kernel
theorem dX7_turn_132 : decode cX7_turn 132 = .ok (.istore 4, 2) := by decide +kernel
theorem dX7_turn_134 : decode cX7_turn 134 = .ok (.aload_n 0, 1) := by decide +kernel
theorem dX7_turn_135 : decode cX7_turn 135 = .ok (.getfield 34, 3) := by decide +kernel
theorem dX7_turn_138 : decode cX7_turn 138 = .ok (.iload 4, 2) := by decide +kernel
theorem dX7_turn_140 : decode cX7_turn 140 = .ok (.iaload, 1) := by decide +kernel
theorem dX7_turn_141 : decode cX7_turn 141 = .ok (.istore 5, 2) := by decide +kernel
theorem dX7_turn_143 : decode cX7_turn 143 = .ok (.aload_n 0, 1) := by decide +kernel
theorem dX7_turn_144 : decode cX7_turn 144 = .ok (.getfield 34, 3) := by decide +kernel
theorem dX7_turn_147 : decode cX7_turn 147 = .ok (.iload 4, 2) := by decide +kernel
theorem dX7_turn_149 : decode cX7_turn 149 = .ok (.aload_n 0, 1) := by decide +kernel
theorem dX7_turn_150 : decode cX7_turn 150 = .ok (.bipush 60, 2) := by decide +kernel
theorem dX7_turn_152 : decode cX7_turn 152 = .ok (.invokevirtual 123, 3) := by decide +kernel
theorem dX7_turn_155 : decode cX7_turn 155 = .ok (.iastore, 1) := by decide +kernel
theorem dX7_turn_156 : decode cX7_turn 156 = .ok (.aload_n 0, 1) := by decide +kernel
theorem dX7_turn_157 : decode cX7_turn 157 = .ok (.getfield 10, 3) := by decide +kernel
theorem dX7_turn_160 : decode cX7_turn 160 = .ok (.iload 4, 2) := by decide +kernel
theorem dX7_turn_162 : decode cX7_turn 162 = .ok (.aload_n 0, 1) := by decide +kernel
theorem dX7_turn_163 : decode cX7_turn 163 = .ok (.getfield 34, 3) := by decide +kernel
theorem dX7_turn_166 : decode cX7_turn 166 = .ok (.iload 4, 2) := by decide +kernel
theorem dX7_turn_168 : decode cX7_turn 168 = .ok (.iaload, 1) := by decide +kernel
theorem dX7_turn_169 : decode cX7_turn 169 = .ok (.invokevirtual 139, 3) := by decide +kernel
theorem dX7_turn_172 : decode cX7_turn 172 = .ok (.iload 5, 2) := by decide +kernel
theorem dX7_turn_174 : decode cX7_turn 174 = .ok (.if_icmp .ne 7, 3) := by decide +kernel
theorem dX7_turn_177 : decode cX7_turn 177 = .ok (.iconst 1, 1) := by decide +kernel
theorem dX7_turn_178 : decode cX7_turn 178 = .ok (.goto 4, 3) := by decide +kernel
theorem dX7_turn_181 : decode cX7_turn 181 = .ok (.iconst 0, 1) := by decide +kernel
theorem dX7_turn_182 : decode cX7_turn 182 = .ok (.ireturn, 1) := by decide +kernel
theorem dX7_turn_183 : decode cX7_turn 183 = .ok (.aload_n 0, 1) := by decide +kernel
theorem dX7_turn_184 : decode cX7_turn 184 = .ok (.getfield 37, 3) := by decide +kernel
theorem dX7_turn_187 : decode cX7_turn 187 = .ok (.istore 6, 2) := by decide +kernel
theorem dX7_turn_189 : decode cX7_turn 189 = .ok (.aload_n 0, 1) := by decide +kernel
theorem dX7_turn_190 : decode cX7_turn 190 = .ok (.aload_n 0, 1) := by decide +kernel
theorem dX7_turn_191 : decode cX7_turn 191 = .ok (.bipush 30, 2) := by decide +kernel
theorem dX7_turn_193 : decode cX7_turn 193 = .ok (.invokevirtual 123, 3) := by decide +kernel
theorem dX7_turn_196 : decode cX7_turn 196 = .ok (.putfield 37, 3) := by decide +kernel
theorem dX7_turn_199 : decode cX7_turn 199 = .ok (.aload_n 0, 1) := by decide +kernel
theorem dX7_turn_200 : decode cX7_turn 200 = .ok (.getfield 10, 3) := by decide +kernel
theorem dX7_turn_203 : decode cX7_turn 203 = .ok (.aload_n 0, 1) := by decide +kernel
theorem dX7_turn_204 : decode cX7_turn 204 = .ok (.getfield 37, 3) := by decide +kernel
theorem dX7_turn_207 : decode cX7_turn 207 = .ok (.invokevirtual 142, 3) := by decide +kernel
theorem dX7_turn_210 : decode cX7_turn 210 = .ok (.iload 6, 2) := by decide +kernel
theorem dX7_turn_212 : decode cX7_turn 212 = .ok (.if_icmp .ne 7, 3) := by decide +kernel
theorem dX7_turn_215 : decode cX7_turn 215 = .ok (.iconst 1, 1) := by decide +kernel
theorem dX7_turn_216 : decode cX7_turn 216 = .ok (.goto 4, 3) := by decide +kernel
theorem dX7_turn_219 : decode cX7_turn 219 = .ok (.iconst 0, 1) := by decide +kernel
theorem dX7_turn_220 : decode cX7_turn 220 = .ok (.ireturn, 1) := by decide +kernel
theorem dX7_turn_221 : decode cX7_turn 221 = .ok (.aload_n 0, 1) := by decide +kernel
theorem dX7_turn_222 : decode cX7_turn 222 = .ok (.aload_n 0, 1) := by decide +kernel
theorem dX7_turn_223 : decode cX7_turn 223 = .ok (.iconst 3, 1) := by decide +kernel
theorem dX7_turn_224 : decode cX7_turn 224 = .ok (.invokevirtual 123, 3) := by decide +kernel
theorem dX7_turn_227 : decode cX7_turn 227 = .ok (.iconst 4, 1) := by decide +kernel
theorem dX7_turn_228 : decode cX7_turn 228 = .ok (.aload_n 0, 1) := by decide +kernel
theorem dX7_turn_229 : decode cX7_turn 229 = .ok (.iconst 4, 1) := by decide +kernel
theorem dX7_turn_230 : decode cX7_turn 230 = .ok (.invokevirtual 123, 3) := by decide +kernel
theorem dX7_turn_233 : decode cX7_turn 233 = .ok (.imul, 1) := by decide +kernel
theorem dX7_turn_234 : decode cX7_turn 234 = .ok (.iadd, 1) := by decide +kernel
theorem dX7_turn_235 : decode cX7_turn 235 = .ok (.iconst 1, 1) := by decide +kernel
theorem dX7_turn_236 : decode cX7_turn 236 = .ok (.aload_n 0, 1) := by decide +kernel
theorem dX7_turn_237 : decode cX7_turn 237 = .ok (.iconst 2, 1) := by decide +kernel
theorem dX7_turn_238 : decode cX7_turn 238 = .ok (.invokevirtual 123, 3) := by decide +kernel
theorem dX7_turn_241 : decode cX7_turn 241 = .ok (.ifCond .ne 7, 3) := by decide +kernel
theorem dX7_turn_244 : decode cX7_turn 244 = .ok (.iconst 1, 1) := by decide +kernel
theorem dX7_turn_245 : decode cX7_turn 245 = .ok (.goto 4, 3) := by decide +kernel
theorem dX7_turn_248 : decode cX7_turn 248 = .ok (.iconst 0, 1) := by decide +kernel
theorem dX7_turn_249 : decode cX7_turn 249 = .ok (.invokevirtual 130, 3) := by decide +kernel
theorem dX7_turn_252 : decode cX7_turn 252 = .ok (.ifCond .eq 34, 3) := by decide +kernel
theorem dX7_turn_255 : decode cX7_turn 255 = .ok (.aload_n 0, 1) := by decide +kernel
theorem dX7_turn_256 : decode cX7_turn 256 = .ok (.aload_n 0, 1) := by decide +kernel
theorem dX7_turn_257 : decode cX7_turn 257 = .ok (.bipush 12, 2) := by decide +kernel
theorem dX7_turn_259 : decode cX7_turn 259 = .ok (.invokevirtual 123, 3) := by decide +kernel
theorem dX7_turn_262 : decode cX7_turn 262 = .ok (.iconst 0, 1) := by decide +kernel
theorem dX7_turn_263 : decode cX7_turn 263 = .ok (.aload_n 0, 1) := by decide +kernel
theorem dX7_turn_264 : decode cX7_turn 264 = .ok (.iconst 2, 1) := by decide +kernel
theorem dX7_turn_265 : decode cX7_turn 265 = .ok (.invokevirtual 123, 3) := by decide +kernel
theorem dX7_turn_268 : decode cX7_turn 268 = .ok (.ifCond .ne 7, 3) := by decide +kernel
theorem dX7_turn_271 : decode cX7_turn 271 = .ok (.iconst 1, 1) := by decide +kernel
theorem dX7_turn_272 : decode cX7_turn 272 = .ok (.goto 4, 3) := by decide +kernel
theorem dX7_turn_275 : decode cX7_turn 275 = .ok (.iconst 0, 1) := by decide +kernel
theorem dX7_turn_276 : decode cX7_turn 276 = .ok (.invokevirtual 130, 3) := by decide +kernel
theorem dX7_turn_279 : decode cX7_turn 279 = .ok (.ifCond .eq 7, 3) := by decide +kernel
theorem dX7_turn_282 : decode cX7_turn 282 = .ok (.iconst 1, 1) := by decide +kernel
theorem dX7_turn_283 : decode cX7_turn 283 = .ok (.goto 4, 3) := by decide +kernel
theorem dX7_turn_286 : decode cX7_turn 286 = .ok (.iconst 0, 1) := by decide +kernel
theorem dX7_turn_287 : decode cX7_turn 287 = .ok (.ireturn, 1) := by decide +kernel
theorem dX7_turn_288 : decode cX7_turn 288 = .ok (.aload_n 0, 1) := by decide +kernel
theorem dX7_turn_289 : decode cX7_turn 289 = .ok (.iconst 5, 1) := by decide +kernel
theorem dX7_turn_290 : decode cX7_turn 290 = .ok (.invokevirtual 123, 3) := by decide +kernel
theorem dX7_turn_293 : decode cX7_turn 293 = .ok (.ifCond .gt 10, 3) := by decide +kernel
theorem dX7_turn_296 : decode cX7_turn 296 = .ok (.aload_n 2, 1) := by decide +kernel
theorem dX7_turn_297 : decode cX7_turn 297 = .ok (.iconst 4, 1) := by decide +kernel
theorem dX7_turn_298 : decode cX7_turn 298 = .ok (.iaload, 1) := by decide +kernel
theorem dX7_turn_299 : decode cX7_turn 299 = .ok (.iconst 1, 1) := by decide +kernel
theorem dX7_turn_300 : decode cX7_turn 300 = .ok (.if_icmp .ne 5, 3) := by decide +kernel
theorem dX7_turn_303 : decode cX7_turn 303 = .ok (.iconst 1, 1) := by decide +kernel
theorem dX7_turn_304 : decode cX7_turn 304 = .ok (.ireturn, 1) := by decide +kernel
theorem dX7_turn_305 : decode cX7_turn 305 = .ok (.aload_n 2, 1) := by decide +kernel
theorem dX7_turn_306 : decode cX7_turn 306 = .ok (.iconst 2, 1) := by decide +kernel
theorem dX7_turn_307 : decode cX7_turn 307 = .ok (.iaload, 1) := by decide +kernel
theorem dX7_turn_308 : decode cX7_turn 308 = .ok (.istore 7, 2) := by decide +kernel
theorem dX7_turn_310 : decode cX7_turn 310 = .ok (.aload_n 2, 1) := by decide +kernel
theorem dX7_turn_311 : decode cX7_turn 311 = .ok (.iconst 2, 1) := by decide +kernel
theorem dX7_turn_312 : decode cX7_turn 312 = .ok (.iconst 0, 1) := by decide +kernel
theorem dX7_turn_313 : decode cX7_turn 313 = .ok (.iastore, 1) := by decide +kernel
theorem dX7_turn_314 : decode cX7_turn 314 = .ok (.aload_n 2, 1) := by decide +kernel
theorem dX7_turn_315 : decode cX7_turn 315 = .ok (.iconst 4, 1) := by decide +kernel
theorem dX7_turn_316 : decode cX7_turn 316 = .ok (.iconst 1, 1) := by decide +kernel
theorem dX7_turn_317 : decode cX7_turn 317 = .ok (.iastore, 1) := by decide +kernel
theorem dX7_turn_318 : decode cX7_turn 318 = .ok (.aload_n 0, 1) := by decide +kernel
theorem dX7_turn_319 : decode cX7_turn 319 = .ok (.getfield 10, 3) := by decide +kernel
theorem dX7_turn_322 : decode cX7_turn 322 = .ok (.iload_n 1, 1) := by decide +kernel
theorem dX7_turn_323 : decode cX7_turn 323 = .ok (.invokevirtual 144, 3) := by decide +kernel
theorem dX7_turn_326 : decode cX7_turn 326 = .ok (.iload 7, 2) := by decide +kernel
theorem dX7_turn_328 : decode cX7_turn 328 = .ok (.if_icmp .ne 7, 3) := by decide +kernel
theorem dX7_turn_331 : decode cX7_turn 331 = .ok (.iconst 1, 1) := by decide +kernel
theorem dX7_turn_332 : decode cX7_turn 332 = .ok (.goto 4, 3) := by decide +kernel
theorem dX7_turn_335 : decode cX7_turn 335 = .ok (.iconst 0, 1) := by decide +kernel
theorem dX7_turn_336 : decode cX7_turn 336 = .ok (.ireturn, 1) := by decide +kernel
theorem dX7_turn_337 : decode cX7_turn 337 = .ok (.aload_n 2, 1) := by decide +kernel
theorem dX7_turn_338 : decode cX7_turn 338 = .ok (.iconst 0, 1) := by decide +kernel
theorem dX7_turn_339 : decode cX7_turn 339 = .ok (.iaload, 1) := by decide +kernel
theorem dX7_turn_340 : decode cX7_turn 340 = .ok (.ifCond .ne 10, 3) := by decide +kernel
theorem dX7_turn_343 : decode cX7_turn 343 = .ok (.aload_n 2, 1) := by decide +kernel
theorem dX7_turn_344 : decode cX7_turn 344 = .ok (.iconst 4, 1) := by decide +kernel
theorem dX7_turn_345 : decode cX7_turn 345 = .ok (.iaload, 1) := by decide +kernel
theorem dX7_turn_346 : decode cX7_turn 346 = .ok (.iconst 1, 1) := by decide +kernel
theorem dX7_turn_347 : decode cX7_turn 347 = .ok (.if_icmp .ne 5, 3) := by decide +kernel
theorem dX7_turn_350 : decode cX7_turn 350 = .ok (.iconst 1, 1) := by decide +kernel
theorem dX7_turn_351 : decode cX7_turn 351 = .ok (.ireturn, 1) := by decide +kernel
theorem dX7_turn_352 : decode cX7_turn 352 = .ok (.aload_n 2, 1) := by decide +kernel
theorem dX7_turn_353 : decode cX7_turn 353 = .ok (.bipush 13, 2) := by decide +kernel
theorem dX7_turn_355 : decode cX7_turn 355 = .ok (.iaload, 1) := by decide +kernel
theorem dX7_turn_356 : decode cX7_turn 356 = .ok (.iconst 1, 1) := by decide +kernel
theorem dX7_turn_357 : decode cX7_turn 357 = .ok (.if_icmp .ne 7, 3) := by decide +kernel
theorem dX7_turn_360 : decode cX7_turn 360 = .ok (.iconst 1, 1) := by decide +kernel
theorem dX7_turn_361 : decode cX7_turn 361 = .ok (.goto 4, 3) := by decide +kernel
theorem dX7_turn_364 : decode cX7_turn 364 = .ok (.iconst 0, 1) := by decide +kernel
theorem dX7_turn_365 : decode cX7_turn 365 = .ok (.istore 8, 2) := by decide +kernel
theorem dX7_turn_367 : decode cX7_turn 367 = .ok (.aload_n 2, 1) := by decide +kernel
theorem dX7_turn_368 : decode cX7_turn 368 = .ok (.bipush 13, 2) := by decide +kernel
theorem dX7_turn_370 : decode cX7_turn 370 = .ok (.iconst 1, 1) := by decide +kernel
theorem dX7_turn_371 : decode cX7_turn 371 = .ok (.iastore, 1) := by decide +kernel
theorem dX7_turn_372 : decode cX7_turn 372 = .ok (.aload_n 0, 1) := by decide +kernel
theorem dX7_turn_373 : decode cX7_turn 373 = .ok (.getfield 10, 3) := by decide +kernel
theorem dX7_turn_376 : decode cX7_turn 376 = .ok (.iload_n 1, 1) := by decide +kernel
theorem dX7_turn_377 : decode cX7_turn 377 = .ok (.invokevirtual 147, 3) := by decide +kernel
theorem dX7_turn_380 : decode cX7_turn 380 = .ok (.iload 8, 2) := by decide +kernel
theorem dX7_turn_382 : decode cX7_turn 382 = .ok (.if_icmp .ne 7, 3) := by decide +kernel
theorem dX7_turn_385 : decode cX7_turn 385 = .ok (.iconst 1, 1) := by decide +kernel
theorem dX7_turn_386 : decode cX7_turn 386 = .ok (.goto 4, 3) := by decide +kernel
theorem dX7_turn_389 : decode cX7_turn 389 = .ok (.iconst 0, 1) := by decide +kernel
theorem dX7_turn_390 : decode cX7_turn 390 = .ok (.ireturn, 1) := by decide +kernel
theorem dJ9_max_7cf53_0 : decode cJ9_max_7cf53 0 = .ok (.iload_n 0, 1) := by decide +kernel
theorem dJ9_max_7cf53_1 : decode cJ9_max_7cf53 1 = .ok (.iload_n 1, 1) := by decide +kernel
theorem dJ9_max_7cf53_2 : decode cJ9_max_7cf53 2 = .ok (.if_icmp .lt 7, 3) := by decide +kernel
theorem dJ9_max_7cf53_5 : decode cJ9_max_7cf53 5 = .ok (.iload_n 0, 1) := by decide +kernel
theorem dJ9_max_7cf53_6 : decode cJ9_max_7cf53 6 = .ok (.goto 4, 3) := by decide +kernel
theorem dJ9_max_7cf53_9 : decode cJ9_max_7cf53 9 = .ok (.iload_n 1, 1) := by decide +kernel
theorem dJ9_max_7cf53_10 : decode cJ9_max_7cf53 10 = .ok (.ireturn, 1) := by decide +kernel
theorem dJ9_min_7cf53_0 : decode cJ9_min_7cf53 0 = .ok (.iload_n 0, 1) := by decide +kernel
theorem dJ9_min_7cf53_1 : decode cJ9_min_7cf53 1 = .ok (.iload_n 1, 1) := by decide +kernel
theorem dJ9_min_7cf53_2 : decode cJ9_min_7cf53 2 = .ok (.if_icmp .gt 7, 3) := by decide +kernel
theorem dJ9_min_7cf53_5 : decode cJ9_min_7cf53 5 = .ok (.iload_n 0, 1) := by decide +kernel
theorem dJ9_min_7cf53_6 : decode cJ9_min_7cf53 6 = .ok (.goto 4, 3) := by decide +kernel
theorem dJ9_min_7cf53_9 : decode cJ9_min_7cf53 9 = .ok (.iload_n 1, 1) := by decide +kernel
theorem dJ9_min_7cf53_10 : decode cJ9_min_7cf53 10 = .ok (.ireturn, 1) := by decide +kernel
theorem dJ9_min_f86c9_0 : decode cJ9_min_f86c9 0 = .ok (.lload_n 0, 1) := by decide +kernel
theorem dJ9_min_f86c9_1 : decode cJ9_min_f86c9 1 = .ok (.lload_n 2, 1) := by decide +kernel
theorem dJ9_min_f86c9_2 : decode cJ9_min_f86c9 2 = .ok (.lcmp, 1) := by decide +kernel
theorem dJ9_min_f86c9_3 : decode cJ9_min_f86c9 3 = .ok (.ifCond .gt 7, 3) := by decide +kernel
theorem dJ9_min_f86c9_6 : decode cJ9_min_f86c9 6 = .ok (.lload_n 0, 1) := by decide +kernel
theorem dJ9_min_f86c9_7 : decode cJ9_min_f86c9 7 = .ok (.goto 4, 3) := by decide +kernel
theorem dJ9_min_f86c9_10 : decode cJ9_min_f86c9 10 = .ok (.lload_n 2, 1) := by decide +kernel
theorem dJ9_min_f86c9_11 : decode cJ9_min_f86c9 11 = .ok (.lreturn, 1) := by decide +kernel
theorem dL_below_0 : decode cL_below 0 = .ok (.iload_n 0, 1) := by decide +kernel
theorem dL_below_1 : decode cL_below 1 = .ok (.ldc 7, 2) := by decide +kernel
theorem dL_below_3 : decode cL_below 3 = .ok (.iand, 1) := by decide +kernel
theorem dL_below_4 : decode cL_below 4 = .ok (.iload_n 1, 1) := by decide +kernel
theorem dL_below_5 : decode cL_below 5 = .ok (.irem, 1) := by decide +kernel
theorem dL_below_6 : decode cL_below 6 = .ok (.ireturn, 1) := by decide +kernel
theorem dL_cell_0 : decode cL_cell 0 = .ok (.iload_n 1, 1) := by decide +kernel
theorem dL_cell_1 : decode cL_cell 1 = .ok (.aload_n 0, 1) := by decide +kernel
theorem dL_cell_2 : decode cL_cell 2 = .ok (.arraylength, 1) := by decide +kernel
theorem dL_cell_3 : decode cL_cell 3 = .ok (.if_icmp .ge 9, 3) := by decide +kernel
theorem dL_cell_6 : decode cL_cell 6 = .ok (.aload_n 0, 1) := by decide +kernel
theorem dL_cell_7 : decode cL_cell 7 = .ok (.iload_n 1, 1) := by decide +kernel
theorem dL_cell_8 : decode cL_cell 8 = .ok (.iaload, 1) := by decide +kernel
theorem dL_cell_9 : decode cL_cell 9 = .ok (.goto 9, 3) := by decide +kernel
theorem dL_cell_12 : decode cL_cell 12 = .ok (.ldc 8, 2) := by decide +kernel
theorem dL_cell_14 : decode cL_cell 14 = .ok (.iload_n 1, 1) := by decide +kernel
theorem dL_cell_15 : decode cL_cell 15 = .ok (.iconst 3, 1) := by decide +kernel
theorem dL_cell_16 : decode cL_cell 16 = .ok (.iadd, 1) := by decide +kernel
theorem dL_cell_17 : decode cL_cell 17 = .ok (.imul, 1) := by decide +kernel
theorem dL_cell_18 : decode cL_cell 18 = .ok (.ireturn, 1) := by decide +kernel
set_option maxRecDepth 20000 in
theorem ggL_law_X7_init : GoodIn wsL_law wsX7_init := goodIn_r _ [8, 9, 10, 11, 12, 13, 14, 15, 16, 17, 18, 19, 20, 21, 22, 23, 24, 25, 26, 27, 28, 29, 30, 31, 32, 33, 34, 35, 36, 37, 38, 39, 40, 41, 42, 43, 44, 45, 46, 47, 48, 49, 50, 51, 52, 53, 54, 55, 56, 57, 58, 59, 60, 61, 62, 63, 64, 65, 66, 67, 68, 69, 70, 71, 72, 73, 74, 75, 76, 77, 78, 79, 80, 81, 82, 83, 84, 85, 86, 87, 88, 89, 90, 91, 460, 461, 462, 463, 464, 465, 466, 467, 468, 469, 470, 447, 448, 449, 450, 451, 452, 453, 454, 455, 456, 457, 458, 459, 471, 472, 473, 474, 475, 476, 477, 478, 479, 480, 481, 482, 483, 484, 485, 486, 487, 488, 489, 490, 491, 492, 493, 494, 495, 496, 497, 498, 499, 500, 501, 502, 503, 504, 505, 506, 507, 508] (by decide +kernel) (by decide +kernel)
set_option maxRecDepth 20000 in
theorem gL_law_X7_init : GoodIn wsL_law (wsX7_init) := ggL_law_X7_init
set_option maxRecDepth 20000 in
theorem ggL_law_X7_found : GoodIn wsL_law wsX7_found := goodIn_ca (goodIn_ca (goodIn_ca (goodIn_r _ [95, 96, 97, 98, 2, 99, 29, 30, 100, 101, 102, 103, 104, 105, 106, 107, 108, 109, 110, 16, 17, 19, 15, 111, 112, 113, 14, 114, 38, 115, 116, 117, 118, 119, 120, 121, 122, 123, 124, 125, 126, 127, 128, 129, 130, 68, 131, 74, 132, 133, 134, 135, 75, 136, 137, 138, 139, 140, 141, 142, 143, 144, 145, 146, 147, 22, 148, 149, 150, 151, 152, 153, 154, 155, 156, 157, 158, 159, 160, 161, 162, 163, 164, 165, 166, 167, 168, 169, 170, 171, 24, 23, 172, 173, 174, 175, 176, 177, 178, 179, 180, 181, 182, 183, 184, 185, 186, 187, 188, 189, 190, 191, 192, 193, 194, 195, 196, 197, 198, 41, 199, 447, 448, 449, 450, 451, 452, 453, 454, 455, 456, 457, 458, 459, 460, 461, 462, 463, 464, 465, 466, 467, 468, 469, 470, 471, 472, 473, 474, 475, 476, 477, 478, 479, 480, 481, 482, 500, 501, 502, 503, 504, 505, 506, 507, 508, 491, 492, 493, 494, 495] (by decide +kernel) (by decide +kernel)) (goodIn_sub (fun _ h => List.mem_append_left _ (List.mem_append_left _ (List.mem_append_right _ h))) (by decide +kernel))) (goodIn_sub (fun _ h => List.mem_append_left _ (List.mem_append_right _ h)) (by decide +kernel))) (goodIn_sub (fun _ h => List.mem_append_right _ h) (by decide +kernel))
set_option maxRecDepth 20000 in
theorem gL_law_X7_found : GoodIn wsL_law (wsV RL 18 RX7 yX7_found wsX7_found) := goodIn_app (goodIn_of _ (by decide +kernel)) ggL_law_X7_found
set_option maxRecDepth 20000 in
theorem ggL_law_X7_turn : GoodIn wsL_law wsX7_turn := goodIn_ca (goodIn_ca (goodIn_ca (goodIn_r _ [203, 24, 15, 25, 26, 96, 97, 98, 2, 99, 29, 30, 100, 101, 102, 103, 104, 105, 106, 186, 187, 188, 189, 190, 191, 192, 14, 193, 38, 182, 183, 194, 118, 119, 120, 121, 122, 123, 124, 125, 126, 127, 195, 196, 197, 198, 180, 181, 41, 199, 204, 205, 206, 207, 208, 209, 210, 211, 212, 213, 214, 215, 216, 217, 218, 144, 145, 146, 147, 22, 148, 149, 150, 151, 115, 152, 153, 154, 155, 156, 157, 158, 159, 160, 68, 161, 162, 163, 164, 165, 166, 167, 219, 220, 221, 222, 223, 224, 225, 226, 184, 227, 447, 448, 449, 450, 451, 452, 453, 454, 455, 456, 457, 458, 459, 460, 461, 462, 463, 464, 465, 466, 467, 468, 469, 470, 471, 472, 473, 474, 475, 476, 477, 478, 479, 480, 481, 482, 504, 505, 506, 507, 508, 491, 492, 493, 494, 495, 500, 501, 502, 503] (by decide +kernel) (by decide +kernel)) (goodIn_sub (fun _ h => List.mem_append_left _ (List.mem_append_left _ (List.mem_append_right _ h))) (by decide +kernel))) (goodIn_sub (fun _ h => List.mem_append_left _ (List.mem_append_right _ h)) (by decide +kernel))) (goodIn_sub (fun _ h => List.mem_append_right _ h) (by decide +kernel))
set_option maxRecDepth 20000 in
theorem gL_law_X7_turn : GoodIn wsL_law (wsV RL 22 RX7 yX7_turn wsX7_turn) := goodIn_app (goodIn_of _ (by decide +kernel)) ggL_law_X7_turn
set_option maxRecDepth 20000 in
theorem ggL_law_X7_draw : GoodIn wsL_law wsX7_draw := goodIn_r _ [99, 29, 30, 100, 101, 102, 103, 104, 105, 106, 447, 448, 449, 450, 451, 452, 453, 454, 455, 456, 457, 458, 459] (by decide +kernel) (by decide +kernel)
set_option maxRecDepth 20000 in
theorem gL_law_X7_draw : GoodIn wsL_law (wsV RL 26 RX7 yX7_draw wsX7_draw) := goodIn_app (goodIn_of _ (by decide +kernel)) ggL_law_X7_draw
set_option maxRecDepth 20000 in
theorem ggL_law_X6_digest : GoodIn wsL_law wsX6_digest := goodIn_ca (goodIn_ca (goodIn_ca (goodIn_r _ [232, 233, 234, 38, 182, 41, 199, 235, 236, 237, 14, 238, 239, 48, 240, 241, 242, 243, 47, 244, 123, 124, 125, 126, 127, 245, 246, 247, 37, 248, 60, 249, 250, 251, 252, 253, 254, 159, 160, 68, 161, 162, 163, 255, 256, 257, 258, 115, 116, 117, 118, 119, 120, 121, 122, 128, 129, 130, 131, 74, 132, 133, 134, 135, 75, 259, 260, 261, 262, 183, 184, 185, 194, 208, 263, 264, 265, 266, 227, 267, 268, 269, 270, 39, 195, 196, 197, 198, 180, 181, 271, 272, 273, 274, 62, 275, 63, 276, 173, 174, 175, 64, 65, 277, 278, 279, 280, 281, 282, 283, 284, 285, 70, 286, 287, 288, 289, 79, 290, 291, 292, 293, 294, 295, 296, 297, 298, 299, 66, 300, 301, 302, 303, 304, 305, 306, 307, 308, 309, 310, 311, 80, 312, 313, 314, 315, 316, 317, 318, 319, 320, 321, 322, 323, 324, 325, 326, 327, 328, 329, 330, 331, 332, 333, 334, 335, 336, 337, 338, 339, 340, 341, 342, 343, 344, 345, 346, 347, 348, 349, 350, 351, 352, 353, 354, 355, 356, 357, 358, 359, 360, 361, 362, 363, 156, 157, 364, 365, 366, 367, 43, 54, 368, 369, 370, 371, 372, 373, 374, 375, 376, 377, 378, 379, 380, 381, 382, 383, 384, 385, 386, 387, 388, 389, 390, 391, 392, 152, 153, 154, 155, 158, 164, 165, 166, 167, 460, 461, 462, 463, 464, 465, 466, 467, 468, 469, 470, 471, 472, 473, 474, 475, 476, 477, 478, 479, 480, 481, 482, 491, 492, 493, 494, 495, 483, 484, 485, 486, 487, 488, 489, 490, 500, 501, 502, 503, 504, 505, 506, 507, 508, 496, 497, 498, 499] (by decide +kernel) (by decide +kernel)) (goodIn_sub (fun _ h => List.mem_append_left _ (List.mem_append_right _ h)) (by decide +kernel))) (goodIn_sub (fun _ h => List.mem_append_left _ (List.mem_append_left _ (List.mem_append_right _ h))) (by decide +kernel))) (goodIn_sub (fun _ h => List.mem_append_right _ h) (by decide +kernel))
set_option maxRecDepth 20000 in
theorem gL_law_X6_digest : GoodIn wsL_law (wsV RL 34 RX6 yX6_digest wsX6_digest) := goodIn_app (goodIn_of _ (by decide +kernel)) ggL_law_X6_digest
set_option maxRecDepth 20000 in
theorem ggL_law_X6_keptBack : GoodIn wsL_law wsX6_keptBack := goodIn_ca (goodIn_ca (goodIn_r _ [392, 38, 115, 39, 152, 153, 14, 154, 121, 122, 118, 119, 120, 155, 156, 157, 123, 124, 125, 126, 127, 158, 159, 160, 68, 161, 162, 163, 271, 272, 273, 37, 274, 60, 62, 275, 63, 276, 173, 174, 175, 64, 65, 277, 278, 279, 280, 281, 74, 75, 282, 283, 284, 285, 70, 286, 287, 288, 289, 79, 290, 291, 292, 293, 294, 295, 296, 297, 298, 299, 66, 300, 301, 302, 303, 304, 305, 306, 307, 308, 309, 310, 311, 80, 312, 313, 314, 315, 316, 317, 318, 319, 320, 321, 322, 323, 324, 325, 129, 130, 131, 132, 133, 134, 135, 326, 327, 328, 329, 330, 331, 332, 333, 334, 335, 336, 337, 338, 339, 340, 341, 342, 343, 344, 345, 346, 347, 348, 349, 350, 351, 352, 353, 354, 355, 249, 356, 357, 358, 359, 360, 361, 362, 363, 254, 164, 165, 166, 167, 460, 461, 462, 463, 464, 465, 466, 467, 468, 469, 470, 471, 472, 473, 474, 475, 476, 477, 478, 479, 480, 481, 482, 500, 501, 502, 503, 504, 505, 506, 507, 508] (by decide +kernel) (by decide +kernel)) (goodIn_sub (fun _ h => List.mem_append_left _ (List.mem_append_left _ (List.mem_append_right _ h))) (by decide +kernel))) (goodIn_sub (fun _ h => List.mem_append_left _ (List.mem_append_right _ h)) (by decide +kernel))
set_option maxRecDepth 20000 in
theorem gL_law_X6_keptBack : GoodIn wsL_law (wsV RL 40 RX6 yX6_keptBack wsX6_keptBack) := goodIn_app (goodIn_of _ (by decide +kernel)) ggL_law_X6_keptBack
set_option maxRecDepth 20000 in
theorem ggL_law_X6_wouldGive : GoodIn wsL_law wsX6_wouldGive := goodIn_ca (goodIn_r _ [388, 39, 38, 123, 124, 14, 125, 126, 127, 271, 272, 273, 37, 274, 60, 62, 275, 63, 276, 173, 174, 175, 64, 65, 277, 278, 279, 280, 68, 281, 74, 75, 282, 162, 163, 283, 284, 285, 70, 286, 287, 288, 289, 79, 290, 291, 292, 293, 294, 295, 296, 297, 298, 299, 66, 300, 301, 302, 303, 304, 305, 306, 307, 308, 309, 310, 311, 80, 312, 313, 314, 315, 316, 317, 318, 319, 320, 321, 322, 323, 324, 325, 129, 130, 131, 132, 133, 134, 135, 326, 327, 328, 329, 330, 331, 332, 333, 334, 335, 336, 337, 338, 339, 340, 341, 342, 343, 344, 345, 346, 347, 348, 349, 350, 351, 352, 353, 354, 355, 249, 356, 357, 358, 359, 360, 361, 362, 363, 156, 157, 254, 159, 160, 161, 460, 461, 462, 463, 464, 465, 466, 467, 468, 469, 470, 471, 472, 473, 474, 475, 476, 477, 478, 479, 480, 481, 482, 500, 501, 502, 503, 504, 505, 506, 507, 508] (by decide +kernel) (by decide +kernel)) (goodIn_sub (fun _ h => List.mem_append_left _ (List.mem_append_right _ h)) (by decide +kernel))
set_option maxRecDepth 20000 in
theorem gL_law_X6_wouldGive : GoodIn wsL_law (wsV RL 44 RX6 yX6_wouldGive wsX6_wouldGive) := goodIn_app (goodIn_of _ (by decide +kernel)) ggL_law_X6_wouldGive
set_option maxRecDepth 20000 in
theorem ggL_law_X6_ofWell : GoodIn wsL_law wsX6_ofWell := goodIn_ca (goodIn_ca (goodIn_r _ [262, 38, 182, 183, 41, 184, 185, 194, 208, 199, 263, 264, 265, 266, 227, 118, 119, 14, 120, 121, 122, 123, 124, 125, 126, 127, 460, 461, 462, 463, 464, 465, 466, 467, 468, 469, 470, 471, 472, 473, 474, 475, 476, 477, 478, 479, 480, 481, 482, 504, 505, 506, 507, 508, 491, 492, 493, 494, 495] (by decide +kernel) (by decide +kernel)) (goodIn_sub (fun _ h => List.mem_append_left _ (List.mem_append_left _ (List.mem_append_right _ h))) (by decide +kernel))) (goodIn_sub (fun _ h => List.mem_append_left _ (List.mem_append_right _ h)) (by decide +kernel))
set_option maxRecDepth 20000 in
theorem gL_law_X6_ofWell : GoodIn wsL_law (wsV RL 47 RX6 yX6_ofWell wsX6_ofWell) := goodIn_app (goodIn_of _ (by decide +kernel)) ggL_law_X6_ofWell
set_option maxRecDepth 20000 in
theorem ggL_law_X6_bestChoke : GoodIn wsL_law wsX6_bestChoke := goodIn_ca (goodIn_ca (goodIn_ca (goodIn_r _ [270, 38, 182, 39, 183, 194, 118, 119, 14, 120, 121, 122, 123, 124, 125, 126, 127, 195, 196, 197, 198, 180, 181, 41, 199, 271, 272, 273, 37, 274, 60, 62, 275, 63, 276, 173, 174, 175, 64, 65, 277, 278, 279, 280, 68, 281, 74, 75, 282, 162, 163, 283, 284, 285, 70, 286, 287, 288, 289, 79, 290, 291, 292, 293, 294, 295, 296, 297, 298, 299, 66, 300, 301, 302, 303, 304, 305, 306, 307, 308, 309, 310, 311, 80, 312, 313, 314, 315, 316, 317, 318, 319, 320, 321, 322, 323, 324, 325, 129, 130, 131, 132, 133, 134, 135, 326, 327, 328, 329, 330, 331, 332, 333, 334, 335, 336, 337, 338, 339, 340, 341, 342, 343, 344, 345, 346, 347, 348, 349, 350, 351, 352, 353, 354, 355, 249, 356, 357, 358, 359, 360, 361, 362, 363, 156, 157, 254, 159, 160, 161, 460, 461, 462, 463, 464, 465, 466, 467, 468, 469, 470, 471, 472, 473, 474, 475, 476, 477, 478, 479, 480, 481, 482, 504, 505, 506, 507, 508, 491, 492, 493, 494, 495, 500, 501, 502, 503] (by decide +kernel) (by decide +kernel)) (goodIn_sub (fun _ h => List.mem_append_left _ (List.mem_append_left _ (List.mem_append_right _ h))) (by decide +kernel))) (goodIn_sub (fun _ h => List.mem_append_left _ (List.mem_append_right _ h)) (by decide +kernel))) (goodIn_sub (fun _ h => List.mem_append_right _ h) (by decide +kernel))
set_option maxRecDepth 20000 in
theorem gL_law_X6_bestChoke : GoodIn wsL_law (wsV RL 51 RX6 yX6_bestChoke wsX6_bestChoke) := goodIn_app (goodIn_of _ (by decide +kernel)) ggL_law_X6_bestChoke
set_option maxRecDepth 20000 in
theorem ggL_law_X6_booked : GoodIn wsL_law wsX6_booked := goodIn_ca (goodIn_r _ [379, 47, 380, 381, 382, 383, 384, 123, 124, 14, 125, 126, 127, 460, 461, 462, 463, 464, 465, 466, 467, 468, 469, 470, 483, 484, 485, 486, 487, 488, 489, 490] (by decide +kernel) (by decide +kernel)) (goodIn_sub (fun _ h => List.mem_append_left _ (List.mem_append_right _ h)) (by decide +kernel))
set_option maxRecDepth 20000 in
theorem gL_law_X6_booked : GoodIn wsL_law (wsV RL 54 RX6 yX6_booked wsX6_booked) := goodIn_app (goodIn_of _ (by decide +kernel)) ggL_law_X6_booked
set_option maxRecDepth 20000 in
theorem ggL_law_X6_book : GoodIn wsL_law wsX6_book := goodIn_r _ [401, 38, 182, 47, 402, 244, 403, 48, 380, 383, 381, 382, 239, 384, 404, 405, 406, 14, 407, 39, 408, 409, 183, 194, 271, 272, 273, 37, 274, 60, 62, 275, 63, 276, 173, 174, 175, 64, 65, 277, 278, 279, 280, 68, 281, 74, 75, 282, 162, 163, 283, 284, 285, 70, 286, 287, 288, 289, 79, 290, 291, 292, 293, 294, 295, 296, 297, 298, 299, 66, 300, 301, 302, 303, 304, 305, 306, 307, 308, 309, 310, 311, 80, 312, 313, 314, 315, 316, 317, 318, 319, 320, 321, 322, 323, 324, 325, 129, 130, 131, 132, 133, 134, 135, 326, 327, 328, 329, 330, 331, 332, 333, 334, 335, 336, 337, 338, 339, 340, 341, 342, 343, 344, 345, 346, 347, 348, 349, 350, 351, 352, 353, 354, 355, 249, 356, 357, 358, 359, 360, 361, 362, 363, 156, 157, 254, 159, 160, 161, 460, 461, 462, 463, 464, 465, 466, 467, 468, 469, 470, 471, 472, 473, 474, 475, 476, 477, 478, 479, 480, 481, 482, 483, 484, 485, 486, 487, 488, 489, 490, 504, 505, 506, 507, 508, 500, 501, 502, 503] (by decide +kernel) (by decide +kernel)
set_option maxRecDepth 20000 in
theorem gL_law_X6_book : GoodIn wsL_law (wsV RL 57 RX6 yX6_book wsX6_book) := goodIn_app (goodIn_of _ (by decide +kernel)) ggL_law_X6_book
set_option maxRecDepth 20000 in
theorem ggL_law_X6_many : GoodIn wsL_law wsX6_many := goodIn_ca (goodIn_r _ [238, 239, 38, 182, 48, 240, 241, 242, 243, 47, 244, 123, 124, 14, 125, 126, 127, 245, 246, 247, 37, 248, 60, 249, 250, 251, 252, 253, 254, 159, 160, 68, 161, 162, 163, 460, 461, 462, 463, 464, 465, 466, 467, 468, 469, 470, 471, 472, 473, 474, 475, 476, 477, 478, 479, 480, 481, 482, 483, 484, 485, 486, 487, 488, 489, 490, 500, 501, 502, 503] (by decide +kernel) (by decide +kernel)) (goodIn_sub (fun _ h => List.mem_append_left _ (List.mem_append_right _ h)) (by decide +kernel))
set_option maxRecDepth 20000 in
theorem gL_law_X6_many : GoodIn wsL_law (wsV RL 61 RX6 yX6_many wsX6_many) := goodIn_app (goodIn_of _ (by decide +kernel)) ggL_law_X6_many
set_option maxRecDepth 20000 in
theorem ggL_law_X6_choke : GoodIn wsL_law wsX6_choke := goodIn_ca (goodIn_ca (goodIn_ca (goodIn_r _ [193, 38, 182, 183, 194, 118, 119, 14, 120, 121, 122, 123, 124, 125, 126, 127, 195, 196, 197, 198, 180, 181, 41, 199, 460, 461, 462, 463, 464, 465, 466, 467, 468, 469, 470, 471, 472, 473, 474, 475, 476, 477, 478, 479, 480, 481, 482, 504, 505, 506, 507, 508, 491, 492, 493, 494, 495] (by decide +kernel) (by decide +kernel)) (goodIn_sub (fun _ h => List.mem_append_left _ (List.mem_append_left _ (List.mem_append_right _ h))) (by decide +kernel))) (goodIn_sub (fun _ h => List.mem_append_left _ (List.mem_append_right _ h)) (by decide +kernel))) (goodIn_sub (fun _ h => List.mem_append_right _ h) (by decide +kernel))
set_option maxRecDepth 20000 in
theorem gL_law_X6_choke : GoodIn wsL_law (wsV RL 64 RX6 yX6_choke wsX6_choke) := goodIn_app (goodIn_of _ (by decide +kernel)) ggL_law_X6_choke
set_option maxRecDepth 20000 in
theorem ggL_law_X6_fault : GoodIn wsL_law wsX6_fault := goodIn_ca (goodIn_r _ [151, 38, 115, 152, 153, 14, 154, 121, 122, 118, 119, 120, 155, 156, 157, 158, 159, 160, 68, 161, 162, 163, 164, 165, 166, 167, 460, 461, 462, 463, 464, 465, 466, 467, 468, 469, 470, 471, 472, 473, 474, 475, 476, 477, 478, 479, 480, 481, 482, 500, 501, 502, 503] (by decide +kernel) (by decide +kernel)) (goodIn_sub (fun _ h => List.mem_append_left _ (List.mem_append_left _ (List.mem_append_right _ h))) (by decide +kernel))
set_option maxRecDepth 20000 in
theorem gL_law_X6_fault : GoodIn wsL_law (wsV RL 67 RX6 yX6_fault wsX6_fault) := goodIn_app (goodIn_of _ (by decide +kernel)) ggL_law_X6_fault
set_option maxRecDepth 20000 in
theorem ggL_law_X6_pass : GoodIn wsL_law wsX6_pass := goodIn_ca (goodIn_r _ [416, 38, 239, 417, 123, 124, 14, 125, 126, 127, 418, 295, 296, 37, 297, 275, 62, 298, 299, 66, 300, 301, 302, 303, 304, 305, 64, 306, 307, 308, 309, 310, 70, 311, 80, 312, 313, 314, 315, 60, 316, 317, 318, 319, 320, 321, 322, 323, 324, 277, 325, 129, 130, 68, 131, 74, 132, 133, 134, 135, 75, 326, 327, 328, 329, 63, 65, 330, 331, 332, 333, 334, 335, 336, 337, 338, 339, 340, 341, 342, 343, 344, 345, 346, 347, 348, 349, 350, 351, 352, 353, 354, 355, 249, 356, 357, 358, 359, 360, 361, 362, 363, 156, 157, 254, 159, 160, 161, 162, 163, 419, 420, 421, 422, 48, 241, 423, 242, 424, 243, 425, 182, 183, 184, 41, 265, 264, 426, 427, 428, 429, 263, 266, 430, 431, 432, 433, 287, 434, 435, 436, 437, 438, 439, 440, 441, 227, 442, 173, 174, 175, 443, 444, 445, 446, 43, 54, 368, 460, 461, 462, 463, 464, 465, 466, 467, 468, 469, 470, 471, 472, 473, 474, 475, 476, 477, 478, 479, 480, 481, 482, 504, 505, 506, 507, 508, 500, 501, 502, 503, 491, 492, 493, 494, 495, 496, 497, 498, 499] (by decide +kernel) (by decide +kernel)) (goodIn_sub (fun _ h => List.mem_append_left _ (List.mem_append_right _ h)) (by decide +kernel))
set_option maxRecDepth 20000 in
theorem gL_law_X6_pass : GoodIn wsL_law (wsV RL 71 RX6 yX6_pass wsX6_pass) := goodIn_app (goodIn_of _ (by decide +kernel)) ggL_law_X6_pass
theorem dL_law_0 : decode cL_law 0 = .ok (.iconst 0, 1) := by decide +kernel
theorem dL_law_1 : decode cL_law 1 = .ok (.istore_n 1, 1) := by decide +kernel
theorem dL_law_2 : decode cL_law 2 = .ok (.iload_n 1, 1) := by decide +kernel
theorem dL_law_3 : decode cL_law 3 = .ok (.iconst 3, 1) := by decide +kernel
theorem dL_law_4 : decode cL_law 4 = .ok (.if_icmp .ge 557, 3) := by decide +kernel
theorem dL_law_7 : decode cL_law 7 = .ok (.new 9, 3) := by decide +kernel
theorem dL_law_10 : decode cL_law 10 = .ok (.dup, 1) := by decide +kernel
theorem dL_law_11 : decode cL_law 11 = .ok (.aload_n 0, 1) := by decide +kernel
theorem dL_law_12 : decode cL_law 12 = .ok (.bipush 31, 2) := by decide +kernel
theorem dL_law_14 : decode cL_law 14 = .ok (.iload_n 1, 1) := by decide +kernel
theorem dL_law_15 : decode cL_law 15 = .ok (.imul, 1) := by decide +kernel
theorem dL_law_16 : decode cL_law 16 = .ok (.bipush 7, 2) := by decide +kernel
theorem dL_law_18 : decode cL_law 18 = .ok (.iadd, 1) := by decide +kernel
theorem dL_law_19 : decode cL_law 19 = .ok (.invokespecial 11, 3) := by decide +kernel
theorem dL_law_22 : decode cL_law 22 = .ok (.astore_n 2, 1) := by decide +kernel
theorem dL_law_23 : decode cL_law 23 = .ok (.new 9, 3) := by decide +kernel
theorem dL_law_26 : decode cL_law 26 = .ok (.dup, 1) := by decide +kernel
theorem dL_law_27 : decode cL_law 27 = .ok (.aload_n 0, 1) := by decide +kernel
theorem dL_law_28 : decode cL_law 28 = .ok (.bipush 31, 2) := by decide +kernel
theorem dL_law_30 : decode cL_law 30 = .ok (.iload_n 1, 1) := by decide +kernel
theorem dL_law_31 : decode cL_law 31 = .ok (.imul, 1) := by decide +kernel
theorem dL_law_32 : decode cL_law 32 = .ok (.bipush 7, 2) := by decide +kernel
theorem dL_law_34 : decode cL_law 34 = .ok (.iadd, 1) := by decide +kernel
theorem dL_law_35 : decode cL_law 35 = .ok (.invokespecial 11, 3) := by decide +kernel
theorem dL_law_38 : decode cL_law 38 = .ok (.astore_n 3, 1) := by decide +kernel
theorem dL_law_39 : decode cL_law 39 = .ok (.aload_n 2, 1) := by decide +kernel
theorem dL_law_40 : decode cL_law 40 = .ok (.getfield 14, 3) := by decide +kernel
theorem dL_law_43 : decode cL_law 43 = .ok (.astore 4, 2) := by decide +kernel
theorem dL_law_45 : decode cL_law 45 = .ok (.aload_n 2, 1) := by decide +kernel
theorem dL_law_46 : decode cL_law 46 = .ok (.iconst 3, 1) := by decide +kernel
theorem dL_law_47 : decode cL_law 47 = .ok (.invokevirtual 18, 3) := by decide +kernel
theorem dL_law_50 : decode cL_law 50 = .ok (.ifCond .eq 11, 3) := by decide +kernel
theorem dL_law_53 : decode cL_law 53 = .ok (.aload_n 3, 1) := by decide +kernel
theorem dL_law_54 : decode cL_law 54 = .ok (.iconst 3, 1) := by decide +kernel
theorem dL_law_55 : decode cL_law 55 = .ok (.invokevirtual 18, 3) := by decide +kernel
theorem dL_law_58 : decode cL_law 58 = .ok (.ifCond .ne 5, 3) := by decide +kernel
theorem dL_law_61 : decode cL_law 61 = .ok (.iconst 0, 1) := by decide +kernel
theorem dL_law_62 : decode cL_law 62 = .ok (.ireturn, 1) := by decide +kernel
theorem dL_law_63 : decode cL_law 63 = .ok (.iconst 0, 1) := by decide +kernel
theorem dL_law_64 : decode cL_law 64 = .ok (.istore 5, 2) := by decide +kernel
theorem dL_law_66 : decode cL_law 66 = .ok (.iload 5, 2) := by decide +kernel
theorem dL_law_68 : decode cL_law 68 = .ok (.bipush 7, 2) := by decide +kernel
theorem dL_law_70 : decode cL_law 70 = .ok (.if_icmp .ge 485, 3) := by decide +kernel
theorem dL_law_73 : decode cL_law 73 = .ok (.aload_n 2, 1) := by decide +kernel
theorem dL_law_74 : decode cL_law 74 = .ok (.invokevirtual 22, 3) := by decide +kernel
theorem dL_law_77 : decode cL_law 77 = .ok (.ifCond .eq 10, 3) := by decide +kernel
theorem dL_law_80 : decode cL_law 80 = .ok (.aload_n 3, 1) := by decide +kernel
theorem dL_law_81 : decode cL_law 81 = .ok (.invokevirtual 22, 3) := by decide +kernel
theorem dL_law_84 : decode cL_law 84 = .ok (.ifCond .ne 5, 3) := by decide +kernel
theorem dL_law_87 : decode cL_law 87 = .ok (.iconst 0, 1) := by decide +kernel
theorem dL_law_88 : decode cL_law 88 = .ok (.ireturn, 1) := by decide +kernel
theorem dL_law_89 : decode cL_law 89 = .ok (.aload_n 2, 1) := by decide +kernel
theorem dL_law_90 : decode cL_law 90 = .ok (.iconst 3, 1) := by decide +kernel
theorem dL_law_91 : decode cL_law 91 = .ok (.invokevirtual 26, 3) := by decide +kernel
theorem dL_law_94 : decode cL_law 94 = .ok (.istore 6, 2) := by decide +kernel
theorem dL_law_96 : decode cL_law 96 = .ok (.iconst 4, 1) := by decide +kernel
theorem dL_law_97 : decode cL_law 97 = .ok (.aload_n 2, 1) := by decide +kernel
theorem dL_law_98 : decode cL_law 98 = .ok (.iconst 4, 1) := by decide +kernel
theorem dL_law_99 : decode cL_law 99 = .ok (.invokevirtual 26, 3) := by decide +kernel
theorem dL_law_102 : decode cL_law 102 = .ok (.imul, 1) := by decide +kernel
theorem dL_law_103 : decode cL_law 103 = .ok (.aload_n 2, 1) := by decide +kernel
theorem dL_law_104 : decode cL_law 104 = .ok (.iconst 3, 1) := by decide +kernel
theorem dL_law_105 : decode cL_law 105 = .ok (.invokevirtual 26, 3) := by decide +kernel
theorem dL_law_108 : decode cL_law 108 = .ok (.iadd, 1) := by decide +kernel
theorem dL_law_109 : decode cL_law 109 = .ok (.istore 7, 2) := by decide +kernel
theorem dL_law_111 : decode cL_law 111 = .ok (.iconst 1, 1) := by decide +kernel
theorem dL_law_112 : decode cL_law 112 = .ok (.aload_n 2, 1) := by decide +kernel
theorem dL_law_113 : decode cL_law 113 = .ok (.iconst 4, 1) := by decide +kernel
theorem dL_law_114 : decode cL_law 114 = .ok (.invokevirtual 26, 3) := by decide +kernel
theorem dL_law_117 : decode cL_law 117 = .ok (.iadd, 1) := by decide +kernel
theorem dL_law_118 : decode cL_law 118 = .ok (.istore 8, 2) := by decide +kernel
theorem dL_law_120 : decode cL_law 120 = .ok (.aload_n 2, 1) := by decide +kernel
theorem dL_law_121 : decode cL_law 121 = .ok (.bipush 10, 2) := by decide +kernel
theorem dL_law_123 : decode cL_law 123 = .ok (.invokevirtual 26, 3) := by decide +kernel
theorem dL_law_126 : decode cL_law 126 = .ok (.istore 9, 2) := by decide +kernel
theorem dL_law_128 : decode cL_law 128 = .ok (.aload_n 3, 1) := by decide +kernel
theorem dL_law_129 : decode cL_law 129 = .ok (.aload_n 2, 1) := by decide +kernel
theorem dL_law_130 : decode cL_law 130 = .ok (.getfield 30, 3) := by decide +kernel
theorem dL_law_133 : decode cL_law 133 = .ok (.putfield 30, 3) := by decide +kernel
theorem dL_law_136 : decode cL_law 136 = .ok (.aload 4, 2) := by decide +kernel
theorem dL_law_138 : decode cL_law 138 = .ok (.invokevirtual 34, 3) := by decide +kernel
theorem dL_law_141 : decode cL_law 141 = .ok (.lstore 10, 2) := by decide +kernel
theorem dL_law_143 : decode cL_law 143 = .ok (.aload 4, 2) := by decide +kernel
theorem dL_law_145 : decode cL_law 145 = .ok (.iload 7, 2) := by decide +kernel
theorem dL_law_147 : decode cL_law 147 = .ok (.iconst 1, 1) := by decide +kernel
theorem dL_law_148 : decode cL_law 148 = .ok (.iload 8, 2) := by decide +kernel
theorem dL_law_150 : decode cL_law 150 = .ok (.invokevirtual 40, 3) := by decide +kernel
theorem dL_law_153 : decode cL_law 153 = .ok (.istore 12, 2) := by decide +kernel
theorem dL_law_155 : decode cL_law 155 = .ok (.aload 4, 2) := by decide +kernel
theorem dL_law_157 : decode cL_law 157 = .ok (.iload 8, 2) := by decide +kernel
theorem dL_law_159 : decode cL_law 159 = .ok (.invokevirtual 44, 3) := by decide +kernel
theorem dL_law_162 : decode cL_law 162 = .ok (.istore 13, 2) := by decide +kernel
theorem dL_law_164 : decode cL_law 164 = .ok (.aload 4, 2) := by decide +kernel
theorem dL_law_166 : decode cL_law 166 = .ok (.iload 6, 2) := by decide +kernel
theorem dL_law_168 : decode cL_law 168 = .ok (.iconst 4, 1) := by decide +kernel
theorem dL_law_169 : decode cL_law 169 = .ok (.invokevirtual 47, 3) := by decide +kernel
theorem dL_law_172 : decode cL_law 172 = .ok (.iconst 1, 1) := by decide +kernel
theorem dL_law_173 : decode cL_law 173 = .ok (.if_icmp .ne 7, 3) := by decide +kernel
theorem dL_law_176 : decode cL_law 176 = .ok (.iconst (-1), 1) := by decide +kernel
theorem dL_law_177 : decode cL_law 177 = .ok (.goto 12, 3) := by decide +kernel
theorem dL_law_180 : decode cL_law 180 = .ok (.aload 4, 2) := by decide +kernel
theorem dL_law_182 : decode cL_law 182 = .ok (.iload 6, 2) := by decide +kernel
theorem dL_law_184 : decode cL_law 184 = .ok (.iload 8, 2) := by decide +kernel
theorem dL_law_186 : decode cL_law 186 = .ok (.invokevirtual 51, 3) := by decide +kernel
theorem dL_law_189 : decode cL_law 189 = .ok (.istore 14, 2) := by decide +kernel
theorem dL_law_191 : decode cL_law 191 = .ok (.aload 4, 2) := by decide +kernel
theorem dL_law_193 : decode cL_law 193 = .ok (.invokevirtual 34, 3) := by decide +kernel
theorem dL_law_196 : decode cL_law 196 = .ok (.lload 10, 2) := by decide +kernel
theorem dL_law_198 : decode cL_law 198 = .ok (.lcmp, 1) := by decide +kernel
theorem dL_law_199 : decode cL_law 199 = .ok (.ifCond .ne 16, 3) := by decide +kernel
theorem dL_law_202 : decode cL_law 202 = .ok (.aload_n 3, 1) := by decide +kernel
theorem dL_law_203 : decode cL_law 203 = .ok (.getfield 14, 3) := by decide +kernel
theorem dL_law_206 : decode cL_law 206 = .ok (.invokevirtual 34, 3) := by decide +kernel
theorem dL_law_209 : decode cL_law 209 = .ok (.lload 10, 2) := by decide +kernel
theorem dL_law_211 : decode cL_law 211 = .ok (.lcmp, 1) := by decide +kernel
theorem dL_law_212 : decode cL_law 212 = .ok (.ifCond .eq 5, 3) := by decide +kernel
theorem dL_law_215 : decode cL_law 215 = .ok (.iconst 0, 1) := by decide +kernel
theorem dL_law_216 : decode cL_law 216 = .ok (.ireturn, 1) := by decide +kernel
theorem dL_law_217 : decode cL_law 217 = .ok (.iload 5, 2) := by decide +kernel
theorem dL_law_219 : decode cL_law 219 = .ok (.iconst 3, 1) := by decide +kernel
theorem dL_law_220 : decode cL_law 220 = .ok (.irem, 1) := by decide +kernel
theorem dL_law_221 : decode cL_law 221 = .ok (.ifCond .ne 86, 3) := by decide +kernel
theorem dL_law_224 : decode cL_law 224 = .ok (.aload 4, 2) := by decide +kernel
theorem dL_law_226 : decode cL_law 226 = .ok (.iconst 0, 1) := by decide +kernel
theorem dL_law_227 : decode cL_law 227 = .ok (.invokevirtual 54, 3) := by decide +kernel
theorem dL_law_230 : decode cL_law 230 = .ok (.istore 15, 2) := by decide +kernel
theorem dL_law_232 : decode cL_law 232 = .ok (.aload 4, 2) := by decide +kernel
theorem dL_law_234 : decode cL_law 234 = .ok (.invokevirtual 57, 3) := by decide +kernel
theorem dL_law_237 : decode cL_law 237 = .ok (.istore 16, 2) := by decide +kernel
theorem dL_law_239 : decode cL_law 239 = .ok (.aload_n 3, 1) := by decide +kernel
theorem dL_law_240 : decode cL_law 240 = .ok (.getfield 14, 3) := by decide +kernel
theorem dL_law_243 : decode cL_law 243 = .ok (.invokevirtual 57, 3) := by decide +kernel
theorem dL_law_246 : decode cL_law 246 = .ok (.iload 16, 2) := by decide +kernel
theorem dL_law_248 : decode cL_law 248 = .ok (.if_icmp .ne 57, 3) := by decide +kernel
theorem dL_law_251 : decode cL_law 251 = .ok (.aload 4, 2) := by decide +kernel
theorem dL_law_253 : decode cL_law 253 = .ok (.iconst 0, 1) := by decide +kernel
theorem dL_law_254 : decode cL_law 254 = .ok (.invokevirtual 54, 3) := by decide +kernel
theorem dL_law_257 : decode cL_law 257 = .ok (.iload 16, 2) := by decide +kernel
theorem dL_law_259 : decode cL_law 259 = .ok (.if_icmp .ne 46, 3) := by decide +kernel
theorem dL_law_262 : decode cL_law 262 = .ok (.iload 16, 2) := by decide +kernel
theorem dL_law_264 : decode cL_law 264 = .ok (.iload 15, 2) := by decide +kernel
theorem dL_law_266 : decode cL_law 266 = .ok (.isub, 1) := by decide +kernel
theorem dL_law_267 : decode cL_law 267 = .ok (.aload 4, 2) := by decide +kernel
theorem dL_law_269 : decode cL_law 269 = .ok (.iconst 1, 1) := by decide +kernel
theorem dL_law_270 : decode cL_law 270 = .ok (.invokevirtual 54, 3) := by decide +kernel
theorem dL_law_273 : decode cL_law 273 = .ok (.aload 4, 2) := by decide +kernel
theorem dL_law_275 : decode cL_law 275 = .ok (.iconst 2, 1) := by decide +kernel
theorem dL_law_276 : decode cL_law 276 = .ok (.invokevirtual 54, 3) := by decide +kernel
theorem dL_law_279 : decode cL_law 279 = .ok (.iadd, 1) := by decide +kernel
theorem dL_law_280 : decode cL_law 280 = .ok (.aload 4, 2) := by decide +kernel
theorem dL_law_282 : decode cL_law 282 = .ok (.iconst 3, 1) := by decide +kernel
theorem dL_law_283 : decode cL_law 283 = .ok (.invokevirtual 54, 3) := by decide +kernel
theorem dL_law_286 : decode cL_law 286 = .ok (.iadd, 1) := by decide +kernel
theorem dL_law_287 : decode cL_law 287 = .ok (.if_icmp .ne 18, 3) := by decide +kernel
theorem dL_law_290 : decode cL_law 290 = .ok (.aload 4, 2) := by decide +kernel
theorem dL_law_292 : decode cL_law 292 = .ok (.iconst 4, 1) := by decide +kernel
theorem dL_law_293 : decode cL_law 293 = .ok (.invokevirtual 54, 3) := by decide +kernel
theorem dL_law_296 : decode cL_law 296 = .ok (.aload 4, 2) := by decide +kernel
theorem dL_law_298 : decode cL_law 298 = .ok (.iconst 0, 1) := by decide +kernel
theorem dL_law_299 : decode cL_law 299 = .ok (.invokevirtual 61, 3) := by decide +kernel
theorem dL_law_302 : decode cL_law 302 = .ok (.if_icmp .eq 5, 3) := by decide +kernel
theorem dL_law_305 : decode cL_law 305 = .ok (.iconst 0, 1) := by decide +kernel
theorem dL_law_306 : decode cL_law 306 = .ok (.ireturn, 1) := by decide +kernel
theorem dL_law_307 : decode cL_law 307 = .ok (.iload 14, 2) := by decide +kernel
theorem dL_law_309 : decode cL_law 309 = .ok (.ifCond .lt 104, 3) := by decide +kernel
theorem dL_law_312 : decode cL_law 312 = .ok (.iload 5, 2) := by decide +kernel
