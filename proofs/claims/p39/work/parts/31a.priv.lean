theorem dL_below_0 : decode cL_below 0 = .ok (.iload_n 0, 1) := by decide +kernel
theorem dL_below_1 : decode cL_below 1 = .ok (.ldc 7, 2) := by decide +kernel
theorem dL_below_3 : decode cL_below 3 = .ok (.iand, 1) := by decide +kernel
theorem dL_below_4 : decode cL_below 4 = .ok (.iload_n 1, 1) := by decide +kernel
theorem dL_below_5 : decode cL_below 5 = .ok (.irem, 1) := by decide +kernel
theorem dL_below_6 : decode cL_below 6 = .ok (.ireturn, 1) := by decide +kernel
theorem dL_cell_0 : decode cL_cell 0 = .ok (.iload_n 1, 1) := by decide +kernel
theorem dL_cell_1 : decode cL_cell 1 = .ok (.aload_n 0, 1) := by decide +kernel
theorem dL_cell_2 : decode cL_cell 2 = .ok (.arraylength, 1) := by decide +kernel
theorem dL_cell_3 : decode cL_cell 3 = .ok (.if_icmp .ge 9, 3) := by decide +kernel
theorem dL_cell_6 : decode cL_cell 6 = .ok (.aload_n 0, 1) := by decide +kernel
theorem dL_cell_7 : decode cL_cell 7 = .ok (.iload_n 1, 1) := by decide +kernel
theorem dL_cell_8 : decode cL_cell 8 = .ok (.iaload, 1) := by decide +kernel
theorem dL_cell_9 : decode cL_cell 9 = .ok (.goto 9, 3) := by decide +kernel
theorem dL_cell_12 : decode cL_cell 12 = .ok (.ldc 8, 2) := by decide +kernel
theorem dL_cell_14 : decode cL_cell 14 = .ok (.iload_n 1, 1) := by decide +kernel
theorem dL_cell_15 : decode cL_cell 15 = .ok (.iconst 3, 1) := by decide +kernel
theorem dL_cell_16 : decode cL_cell 16 = .ok (.iadd, 1) := by decide +kernel
theorem dL_cell_17 : decode cL_cell 17 = .ok (.imul, 1) := by decide +kernel
theorem dL_cell_18 : decode cL_cell 18 = .ok (.ireturn, 1) := by decide +kernel
set_option maxRecDepth 20000 in
theorem ggL_build_L_cell : GoodIn wsL_build wsL_cell := goodIn_r _ [10, 11] (by decide +kernel) (by decide +kernel)
set_option maxRecDepth 20000 in
theorem gL_build_L_cell : GoodIn wsL_build (va_wsS RL 9 yL_cell wsL_cell) := goodIn_app (goodIn_of _ (by decide +kernel)) ggL_build_L_cell
set_option maxRecDepth 20000 in
theorem ggL_build_L_below : GoodIn wsL_build wsL_below := goodIn_r _ [14, 15] (by decide +kernel) (by decide +kernel)
set_option maxRecDepth 20000 in
theorem gL_build_L_below : GoodIn wsL_build (va_wsS RL 15 yL_below wsL_below) := goodIn_app (goodIn_of _ (by decide +kernel)) ggL_build_L_below
set_option maxRecDepth 20000 in
theorem ggL_build_X2_addRoom : GoodIn wsL_build wsX2_addRoom := goodIn_ca (goodIn_r _ [20, 21, 22, 23, 24, 25, 26, 27, 28, 29, 30, 31, 32, 33, 34, 35, 36, 37, 38, 39, 40, 4, 5, 6, 41, 42, 43, 44, 45, 46, 47, 48, 49, 50, 51, 52, 19, 53, 54, 55, 56, 57, 58, 59, 60, 61, 62, 63, 64, 65, 66, 67, 68, 69, 70, 71, 72, 73, 74, 75, 76, 77, 78, 79, 80, 81, 82, 83, 84, 85, 86, 87, 88, 89, 90, 91, 92, 93, 94, 128, 129, 130, 131, 132, 133, 134, 135, 136, 137, 138, 139, 140, 141, 142, 143, 144, 145, 146, 147, 148, 149] (by decide +kernel) (by decide +kernel)) (goodIn_sub (fun _ h => List.mem_cons_of_mem _ (List.mem_append_left _ (List.mem_append_left _ (List.mem_append_right _ h)))) (by decide +kernel))
set_option maxRecDepth 20000 in
theorem gL_build_X2_addRoom : GoodIn wsL_build (wsV RL 19 RX2 yX2_addRoom wsX2_addRoom) := goodIn_app (goodIn_of _ (by decide +kernel)) ggL_build_X2_addRoom
set_option maxRecDepth 20000 in
theorem ggL_build_X2_addDoor : GoodIn wsL_build wsX2_addDoor := goodIn_ca (goodIn_ca (goodIn_ca (goodIn_r _ [98, 99, 100, 21, 22, 23, 101, 25, 102, 103, 104, 19, 105, 106, 107, 24, 108, 109, 110, 29, 111, 112, 113, 114, 115, 116, 117, 118, 59, 60, 33, 34, 35, 36, 37, 38, 39, 40, 4, 5, 6, 41, 42, 43, 44, 45, 46, 47, 48, 49, 50, 51, 52, 53, 54, 55, 56, 57, 58, 61, 62, 63, 64, 65, 66, 67, 68, 69, 70, 71, 72, 73, 74, 75, 76, 77, 78, 79, 80, 81, 82, 83, 84, 85, 86, 87, 88, 89, 90, 91, 92, 93, 94, 128, 129, 130, 131, 132, 133, 134, 135, 136, 137, 138, 139, 140, 141, 142, 143, 144, 145, 146, 147, 148, 149] (by decide +kernel) (by decide +kernel)) (goodIn_sub (fun _ h => List.mem_cons_of_mem _ (List.mem_append_left _ (List.mem_append_right _ h))) (by decide +kernel))) (goodIn_sub (fun _ h => List.mem_cons_of_mem _ (List.mem_append_left _ (List.mem_append_left _ (List.mem_append_right _ h)))) (by decide +kernel))) (goodIn_sub (fun _ h => List.mem_cons_of_mem _ (List.mem_append_right _ h)) (by decide +kernel))
set_option maxRecDepth 20000 in
theorem gL_build_X2_addDoor : GoodIn wsL_build (wsV RL 27 RX2 yX2_addDoor wsX2_addDoor) := goodIn_app (goodIn_of _ (by decide +kernel)) ggL_build_X2_addDoor
set_option maxRecDepth 20000 in
theorem ggL_build_X2_turnLock : GoodIn wsL_build wsX2_turnLock := goodIn_ca (goodIn_r _ [122, 23, 123, 25, 124, 125, 126, 19, 127, 106, 107, 101, 33, 34, 35, 36, 37, 38, 39, 40, 4, 5, 6, 41, 42, 43, 44, 45, 46, 47, 48, 49, 50, 51, 52, 53, 54, 55, 56, 29, 57, 58, 59, 60, 61, 62, 63, 64, 65, 66, 67, 68, 69, 70, 71, 72, 73, 74, 75, 76, 77, 78, 79, 80, 81, 82, 83, 84, 85, 86, 87, 88, 89, 90, 91, 92, 93, 94, 128, 129, 130, 131, 132, 133, 134, 135, 136, 137, 138, 139, 140, 141, 142, 143, 144, 145, 146, 147, 148, 149] (by decide +kernel) (by decide +kernel)) (goodIn_sub (fun _ h => List.mem_cons_of_mem _ (List.mem_append_right _ h)) (by decide +kernel))
set_option maxRecDepth 20000 in
theorem gL_build_X2_turnLock : GoodIn wsL_build (wsV RL 31 RX2 yX2_turnLock wsX2_turnLock) := goodIn_app (goodIn_of _ (by decide +kernel)) ggL_build_X2_turnLock
theorem dL_build_0 : decode cL_build 0 = .ok (.iconst 0, 1) := by decide +kernel
theorem dL_build_1 : decode cL_build 1 = .ok (.istore_n 3, 1) := by decide +kernel
theorem dL_build_2 : decode cL_build 2 = .ok (.iload_n 3, 1) := by decide +kernel
theorem dL_build_3 : decode cL_build 3 = .ok (.aload_n 2, 1) := by decide +kernel
theorem dL_build_4 : decode cL_build 4 = .ok (.arraylength, 1) := by decide +kernel
theorem dL_build_5 : decode cL_build 5 = .ok (.if_icmp .ge 45, 3) := by decide +kernel
theorem dL_build_8 : decode cL_build 8 = .ok (.aload_n 2, 1) := by decide +kernel
theorem dL_build_9 : decode cL_build 9 = .ok (.iload_n 3, 1) := by decide +kernel
theorem dL_build_10 : decode cL_build 10 = .ok (.iload_n 3, 1) := by decide +kernel
theorem dL_build_11 : decode cL_build 11 = .ok (.iconst 1, 1) := by decide +kernel
theorem dL_build_12 : decode cL_build 12 = .ok (.if_icmp .le 22, 3) := by decide +kernel
theorem dL_build_15 : decode cL_build 15 = .ok (.aload_n 1, 1) := by decide +kernel
theorem dL_build_16 : decode cL_build 16 = .ok (.iload_n 3, 1) := by decide +kernel
theorem dL_build_17 : decode cL_build 17 = .ok (.invokestatic 9, 3) := by decide +kernel
theorem dL_build_20 : decode cL_build 20 = .ok (.bipush 9, 2) := by decide +kernel
theorem dL_build_22 : decode cL_build 22 = .ok (.ishr, 1) := by decide +kernel
theorem dL_build_23 : decode cL_build 23 = .ok (.iconst 5, 1) := by decide +kernel
theorem dL_build_24 : decode cL_build 24 = .ok (.invokestatic 15, 3) := by decide +kernel
theorem dL_build_27 : decode cL_build 27 = .ok (.ifCond .ne 7, 3) := by decide +kernel
theorem dL_build_30 : decode cL_build 30 = .ok (.iconst 1, 1) := by decide +kernel
theorem dL_build_31 : decode cL_build 31 = .ok (.goto 4, 3) := by decide +kernel
theorem dL_build_34 : decode cL_build 34 = .ok (.iconst 0, 1) := by decide +kernel
theorem dL_build_35 : decode cL_build 35 = .ok (.bastore, 1) := by decide +kernel
theorem dL_build_36 : decode cL_build 36 = .ok (.aload_n 0, 1) := by decide +kernel
theorem dL_build_37 : decode cL_build 37 = .ok (.aload_n 2, 1) := by decide +kernel
theorem dL_build_38 : decode cL_build 38 = .ok (.iload_n 3, 1) := by decide +kernel
theorem dL_build_39 : decode cL_build 39 = .ok (.baload, 1) := by decide +kernel
theorem dL_build_40 : decode cL_build 40 = .ok (.invokevirtual 19, 3) := by decide +kernel
theorem dL_build_43 : decode cL_build 43 = .ok (.pop, 1) := by decide +kernel
theorem dL_build_44 : decode cL_build 44 = .ok (.iinc 3 1, 3) := by decide +kernel
theorem dL_build_47 : decode cL_build 47 = .ok (.goto (-45), 3) := by decide +kernel
theorem dL_build_50 : decode cL_build 50 = .ok (.bipush 14, 2) := by decide +kernel
theorem dL_build_52 : decode cL_build 52 = .ok (.anewarray 25, 3) := by decide +kernel
theorem dL_build_55 : decode cL_build 55 = .ok (.astore_n 3, 1) := by decide +kernel
theorem dL_build_56 : decode cL_build 56 = .ok (.iconst 0, 1) := by decide +kernel
theorem dL_build_57 : decode cL_build 57 = .ok (.istore 4, 2) := by decide +kernel
theorem dL_build_59 : decode cL_build 59 = .ok (.iconst 0, 1) := by decide +kernel
theorem dL_build_60 : decode cL_build 60 = .ok (.istore 5, 2) := by decide +kernel
theorem dL_build_62 : decode cL_build 62 = .ok (.iload 5, 2) := by decide +kernel
theorem dL_build_64 : decode cL_build 64 = .ok (.bipush 18, 2) := by decide +kernel
theorem dL_build_66 : decode cL_build 66 = .ok (.if_icmp .ge 282, 3) := by decide +kernel
theorem dL_build_69 : decode cL_build 69 = .ok (.iload 4, 2) := by decide +kernel
theorem dL_build_71 : decode cL_build 71 = .ok (.bipush 14, 2) := by decide +kernel
theorem dL_build_73 : decode cL_build 73 = .ok (.if_icmp .ge 275, 3) := by decide +kernel
theorem dL_build_76 : decode cL_build 76 = .ok (.aload_n 1, 1) := by decide +kernel
theorem dL_build_77 : decode cL_build 77 = .ok (.iload 5, 2) := by decide +kernel
theorem dL_build_79 : decode cL_build 79 = .ok (.bipush 15, 2) := by decide +kernel
theorem dL_build_81 : decode cL_build 81 = .ok (.irem, 1) := by decide +kernel
theorem dL_build_82 : decode cL_build 82 = .ok (.invokestatic 9, 3) := by decide +kernel
theorem dL_build_85 : decode cL_build 85 = .ok (.iload 5, 2) := by decide +kernel
theorem dL_build_87 : decode cL_build 87 = .ok (.bipush 15, 2) := by decide +kernel
theorem dL_build_89 : decode cL_build 89 = .ok (.idiv, 1) := by decide +kernel
theorem dL_build_90 : decode cL_build 90 = .ok (.bipush 6, 2) := by decide +kernel
theorem dL_build_92 : decode cL_build 92 = .ok (.imul, 1) := by decide +kernel
theorem dL_build_93 : decode cL_build 93 = .ok (.ishr, 1) := by decide +kernel
theorem dL_build_94 : decode cL_build 94 = .ok (.istore 6, 2) := by decide +kernel
theorem dL_build_96 : decode cL_build 96 = .ok (.iload 5, 2) := by decide +kernel
theorem dL_build_98 : decode cL_build 98 = .ok (.aload_n 2, 1) := by decide +kernel
theorem dL_build_99 : decode cL_build 99 = .ok (.arraylength, 1) := by decide +kernel
theorem dL_build_100 : decode cL_build 100 = .ok (.iconst 1, 1) := by decide +kernel
theorem dL_build_101 : decode cL_build 101 = .ok (.isub, 1) := by decide +kernel
theorem dL_build_102 : decode cL_build 102 = .ok (.if_icmp .ge 8, 3) := by decide +kernel
theorem dL_build_105 : decode cL_build 105 = .ok (.iload 5, 2) := by decide +kernel
theorem dL_build_107 : decode cL_build 107 = .ok (.goto 10, 3) := by decide +kernel
theorem dL_build_110 : decode cL_build 110 = .ok (.iload 6, 2) := by decide +kernel
theorem dL_build_112 : decode cL_build 112 = .ok (.aload_n 2, 1) := by decide +kernel
theorem dL_build_113 : decode cL_build 113 = .ok (.arraylength, 1) := by decide +kernel
theorem dL_build_114 : decode cL_build 114 = .ok (.invokestatic 15, 3) := by decide +kernel
theorem dL_build_117 : decode cL_build 117 = .ok (.istore 7, 2) := by decide +kernel
theorem dL_build_119 : decode cL_build 119 = .ok (.iload 5, 2) := by decide +kernel
theorem dL_build_121 : decode cL_build 121 = .ok (.aload_n 2, 1) := by decide +kernel
theorem dL_build_122 : decode cL_build 122 = .ok (.arraylength, 1) := by decide +kernel
theorem dL_build_123 : decode cL_build 123 = .ok (.iconst 1, 1) := by decide +kernel
theorem dL_build_124 : decode cL_build 124 = .ok (.isub, 1) := by decide +kernel
theorem dL_build_125 : decode cL_build 125 = .ok (.if_icmp .ge 10, 3) := by decide +kernel
theorem dL_build_128 : decode cL_build 128 = .ok (.iload 5, 2) := by decide +kernel
theorem dL_build_130 : decode cL_build 130 = .ok (.iconst 1, 1) := by decide +kernel
theorem dL_build_131 : decode cL_build 131 = .ok (.iadd, 1) := by decide +kernel
theorem dL_build_132 : decode cL_build 132 = .ok (.goto 12, 3) := by decide +kernel
theorem dL_build_135 : decode cL_build 135 = .ok (.iload 6, 2) := by decide +kernel
theorem dL_build_137 : decode cL_build 137 = .ok (.iconst 3, 1) := by decide +kernel
theorem dL_build_138 : decode cL_build 138 = .ok (.ishr, 1) := by decide +kernel
theorem dL_build_139 : decode cL_build 139 = .ok (.aload_n 2, 1) := by decide +kernel
theorem dL_build_140 : decode cL_build 140 = .ok (.arraylength, 1) := by decide +kernel
theorem dL_build_141 : decode cL_build 141 = .ok (.invokestatic 15, 3) := by decide +kernel
theorem dL_build_144 : decode cL_build 144 = .ok (.istore 8, 2) := by decide +kernel
theorem dL_build_146 : decode cL_build 146 = .ok (.iload 7, 2) := by decide +kernel
theorem dL_build_148 : decode cL_build 148 = .ok (.iload 8, 2) := by decide +kernel
theorem dL_build_150 : decode cL_build 150 = .ok (.if_icmp .eq 7, 3) := by decide +kernel
theorem dL_build_153 : decode cL_build 153 = .ok (.iconst 1, 1) := by decide +kernel
theorem dL_build_154 : decode cL_build 154 = .ok (.goto 4, 3) := by decide +kernel
theorem dL_build_157 : decode cL_build 157 = .ok (.iconst 0, 1) := by decide +kernel
theorem dL_build_158 : decode cL_build 158 = .ok (.istore 9, 2) := by decide +kernel
theorem dL_build_160 : decode cL_build 160 = .ok (.iconst 0, 1) := by decide +kernel
theorem dL_build_161 : decode cL_build 161 = .ok (.istore 10, 2) := by decide +kernel
theorem dL_build_163 : decode cL_build 163 = .ok (.iload 10, 2) := by decide +kernel
theorem dL_build_165 : decode cL_build 165 = .ok (.iload 4, 2) := by decide +kernel
theorem dL_build_167 : decode cL_build 167 = .ok (.if_icmp .ge 63, 3) := by decide +kernel
theorem dL_build_170 : decode cL_build 170 = .ok (.iload 9, 2) := by decide +kernel
theorem dL_build_172 : decode cL_build 172 = .ok (.aload_n 3, 1) := by decide +kernel
theorem dL_build_173 : decode cL_build 173 = .ok (.iload 10, 2) := by decide +kernel
theorem dL_build_175 : decode cL_build 175 = .ok (.aaload, 1) := by decide +kernel
theorem dL_build_176 : decode cL_build 176 = .ok (.iconst 0, 1) := by decide +kernel
theorem dL_build_177 : decode cL_build 177 = .ok (.iaload, 1) := by decide +kernel
theorem dL_build_178 : decode cL_build 178 = .ok (.iload 7, 2) := by decide +kernel
theorem dL_build_180 : decode cL_build 180 = .ok (.if_icmp .ne 14, 3) := by decide +kernel
theorem dL_build_183 : decode cL_build 183 = .ok (.aload_n 3, 1) := by decide +kernel
theorem dL_build_184 : decode cL_build 184 = .ok (.iload 10, 2) := by decide +kernel
theorem dL_build_186 : decode cL_build 186 = .ok (.aaload, 1) := by decide +kernel
theorem dL_build_187 : decode cL_build 187 = .ok (.iconst 1, 1) := by decide +kernel
theorem dL_build_188 : decode cL_build 188 = .ok (.iaload, 1) := by decide +kernel
theorem dL_build_189 : decode cL_build 189 = .ok (.iload 8, 2) := by decide +kernel
theorem dL_build_191 : decode cL_build 191 = .ok (.if_icmp .eq 29, 3) := by decide +kernel
theorem dL_build_194 : decode cL_build 194 = .ok (.aload_n 3, 1) := by decide +kernel
theorem dL_build_195 : decode cL_build 195 = .ok (.iload 10, 2) := by decide +kernel
theorem dL_build_197 : decode cL_build 197 = .ok (.aaload, 1) := by decide +kernel
theorem dL_build_198 : decode cL_build 198 = .ok (.iconst 0, 1) := by decide +kernel
theorem dL_build_199 : decode cL_build 199 = .ok (.iaload, 1) := by decide +kernel
theorem dL_build_200 : decode cL_build 200 = .ok (.iload 8, 2) := by decide +kernel
theorem dL_build_202 : decode cL_build 202 = .ok (.if_icmp .ne 14, 3) := by decide +kernel
theorem dL_build_205 : decode cL_build 205 = .ok (.aload_n 3, 1) := by decide +kernel
theorem dL_build_206 : decode cL_build 206 = .ok (.iload 10, 2) := by decide +kernel
theorem dL_build_208 : decode cL_build 208 = .ok (.aaload, 1) := by decide +kernel
theorem dL_build_209 : decode cL_build 209 = .ok (.iconst 1, 1) := by decide +kernel
theorem dL_build_210 : decode cL_build 210 = .ok (.iaload, 1) := by decide +kernel
theorem dL_build_211 : decode cL_build 211 = .ok (.iload 7, 2) := by decide +kernel
theorem dL_build_213 : decode cL_build 213 = .ok (.if_icmp .eq 7, 3) := by decide +kernel
theorem dL_build_216 : decode cL_build 216 = .ok (.iconst 1, 1) := by decide +kernel
theorem dL_build_217 : decode cL_build 217 = .ok (.goto 4, 3) := by decide +kernel
theorem dL_build_220 : decode cL_build 220 = .ok (.iconst 0, 1) := by decide +kernel
theorem dL_build_221 : decode cL_build 221 = .ok (.iand, 1) := by decide +kernel
theorem dL_build_222 : decode cL_build 222 = .ok (.istore 9, 2) := by decide +kernel
theorem dL_build_224 : decode cL_build 224 = .ok (.iinc 10 1, 3) := by decide +kernel
theorem dL_build_227 : decode cL_build 227 = .ok (.goto (-64), 3) := by decide +kernel
theorem dL_build_230 : decode cL_build 230 = .ok (.iload 9, 2) := by decide +kernel
theorem dL_build_232 : decode cL_build 232 = .ok (.ifCond .ne 6, 3) := by decide +kernel
theorem dL_build_235 : decode cL_build 235 = .ok (.goto 107, 3) := by decide +kernel
theorem dL_build_238 : decode cL_build 238 = .ok (.iconst 1, 1) := by decide +kernel
theorem dL_build_239 : decode cL_build 239 = .ok (.iload 6, 2) := by decide +kernel
theorem dL_build_241 : decode cL_build 241 = .ok (.iconst 5, 1) := by decide +kernel
theorem dL_build_242 : decode cL_build 242 = .ok (.ishr, 1) := by decide +kernel
theorem dL_build_243 : decode cL_build 243 = .ok (.iconst 4, 1) := by decide +kernel
theorem dL_build_244 : decode cL_build 244 = .ok (.invokestatic 15, 3) := by decide +kernel
theorem dL_build_247 : decode cL_build 247 = .ok (.iadd, 1) := by decide +kernel
theorem dL_build_248 : decode cL_build 248 = .ok (.istore 10, 2) := by decide +kernel
theorem dL_build_250 : decode cL_build 250 = .ok (.aload_n 3, 1) := by decide +kernel
theorem dL_build_251 : decode cL_build 251 = .ok (.iload 4, 2) := by decide +kernel
theorem dL_build_253 : decode cL_build 253 = .ok (.iconst 5, 1) := by decide +kernel
theorem dL_build_254 : decode cL_build 254 = .ok (.newarray .int, 2) := by decide +kernel
theorem dL_build_256 : decode cL_build 256 = .ok (.dup, 1) := by decide +kernel
theorem dL_build_257 : decode cL_build 257 = .ok (.iconst 0, 1) := by decide +kernel
theorem dL_build_258 : decode cL_build 258 = .ok (.iload 7, 2) := by decide +kernel
theorem dL_build_260 : decode cL_build 260 = .ok (.iastore, 1) := by decide +kernel
theorem dL_build_261 : decode cL_build 261 = .ok (.dup, 1) := by decide +kernel
theorem dL_build_262 : decode cL_build 262 = .ok (.iconst 1, 1) := by decide +kernel
theorem dL_build_263 : decode cL_build 263 = .ok (.iload 8, 2) := by decide +kernel
theorem dL_build_265 : decode cL_build 265 = .ok (.iastore, 1) := by decide +kernel
theorem dL_build_266 : decode cL_build 266 = .ok (.dup, 1) := by decide +kernel
theorem dL_build_267 : decode cL_build 267 = .ok (.iconst 2, 1) := by decide +kernel
theorem dL_build_268 : decode cL_build 268 = .ok (.iload 10, 2) := by decide +kernel
theorem dL_build_270 : decode cL_build 270 = .ok (.iastore, 1) := by decide +kernel
theorem dL_build_271 : decode cL_build 271 = .ok (.dup, 1) := by decide +kernel
theorem dL_build_272 : decode cL_build 272 = .ok (.iconst 3, 1) := by decide +kernel
theorem dL_build_273 : decode cL_build 273 = .ok (.iload 6, 2) := by decide +kernel
theorem dL_build_275 : decode cL_build 275 = .ok (.bipush 7, 2) := by decide +kernel
theorem dL_build_277 : decode cL_build 277 = .ok (.ishr, 1) := by decide +kernel
theorem dL_build_278 : decode cL_build 278 = .ok (.iload 10, 2) := by decide +kernel
theorem dL_build_280 : decode cL_build 280 = .ok (.invokestatic 15, 3) := by decide +kernel
theorem dL_build_283 : decode cL_build 283 = .ok (.iastore, 1) := by decide +kernel
theorem dL_build_284 : decode cL_build 284 = .ok (.dup, 1) := by decide +kernel
theorem dL_build_285 : decode cL_build 285 = .ok (.iconst 4, 1) := by decide +kernel
theorem dL_build_286 : decode cL_build 286 = .ok (.iload 6, 2) := by decide +kernel
theorem dL_build_288 : decode cL_build 288 = .ok (.iconst 4, 1) := by decide +kernel
theorem dL_build_289 : decode cL_build 289 = .ok (.ishr, 1) := by decide +kernel
theorem dL_build_290 : decode cL_build 290 = .ok (.bipush 9, 2) := by decide +kernel
theorem dL_build_292 : decode cL_build 292 = .ok (.invokestatic 15, 3) := by decide +kernel
theorem dL_build_295 : decode cL_build 295 = .ok (.ifCond .ne 7, 3) := by decide +kernel
theorem dL_build_298 : decode cL_build 298 = .ok (.iconst 1, 1) := by decide +kernel
theorem dL_build_299 : decode cL_build 299 = .ok (.goto 4, 3) := by decide +kernel
theorem dL_build_302 : decode cL_build 302 = .ok (.iconst 0, 1) := by decide +kernel
theorem dL_build_303 : decode cL_build 303 = .ok (.iastore, 1) := by decide +kernel
theorem dL_build_304 : decode cL_build 304 = .ok (.aastore, 1) := by decide +kernel
theorem dL_build_305 : decode cL_build 305 = .ok (.aload_n 0, 1) := by decide +kernel
theorem dL_build_306 : decode cL_build 306 = .ok (.iload 7, 2) := by decide +kernel
theorem dL_build_308 : decode cL_build 308 = .ok (.iload 8, 2) := by decide +kernel
theorem dL_build_310 : decode cL_build 310 = .ok (.iload 10, 2) := by decide +kernel
theorem dL_build_312 : decode cL_build 312 = .ok (.aload_n 3, 1) := by decide +kernel
theorem dL_build_313 : decode cL_build 313 = .ok (.iload 4, 2) := by decide +kernel
theorem dL_build_315 : decode cL_build 315 = .ok (.aaload, 1) := by decide +kernel
theorem dL_build_316 : decode cL_build 316 = .ok (.iconst 3, 1) := by decide +kernel
theorem dL_build_317 : decode cL_build 317 = .ok (.iaload, 1) := by decide +kernel
theorem dL_build_318 : decode cL_build 318 = .ok (.invokevirtual 27, 3) := by decide +kernel
theorem dL_build_321 : decode cL_build 321 = .ok (.pop, 1) := by decide +kernel
theorem dL_build_322 : decode cL_build 322 = .ok (.aload_n 3, 1) := by decide +kernel
theorem dL_build_323 : decode cL_build 323 = .ok (.iload 4, 2) := by decide +kernel
theorem dL_build_325 : decode cL_build 325 = .ok (.aaload, 1) := by decide +kernel
theorem dL_build_326 : decode cL_build 326 = .ok (.iconst 4, 1) := by decide +kernel
theorem dL_build_327 : decode cL_build 327 = .ok (.iaload, 1) := by decide +kernel
theorem dL_build_328 : decode cL_build 328 = .ok (.iconst 1, 1) := by decide +kernel
theorem dL_build_329 : decode cL_build 329 = .ok (.if_icmp .ne 10, 3) := by decide +kernel
theorem dL_build_332 : decode cL_build 332 = .ok (.aload_n 0, 1) := by decide +kernel
theorem dL_build_333 : decode cL_build 333 = .ok (.iload 4, 2) := by decide +kernel
theorem dL_build_335 : decode cL_build 335 = .ok (.invokevirtual 31, 3) := by decide +kernel
theorem dL_build_338 : decode cL_build 338 = .ok (.pop, 1) := by decide +kernel
theorem dL_build_339 : decode cL_build 339 = .ok (.iinc 4 1, 3) := by decide +kernel
theorem dL_build_342 : decode cL_build 342 = .ok (.iinc 5 1, 3) := by decide +kernel
theorem dL_build_345 : decode cL_build 345 = .ok (.goto (-283), 3) := by decide +kernel
theorem dL_build_348 : decode cL_build 348 = .ok (.iload 4, 2) := by decide +kernel
theorem dL_build_350 : decode cL_build 350 = .ok (.anewarray 25, 3) := by decide +kernel
theorem dL_build_353 : decode cL_build 353 = .ok (.astore 5, 2) := by decide +kernel
theorem dL_build_355 : decode cL_build 355 = .ok (.aload_n 3, 1) := by decide +kernel
theorem dL_build_356 : decode cL_build 356 = .ok (.iconst 0, 1) := by decide +kernel
theorem dL_build_357 : decode cL_build 357 = .ok (.aload 5, 2) := by decide +kernel
theorem dL_build_359 : decode cL_build 359 = .ok (.iconst 0, 1) := by decide +kernel
theorem dL_build_360 : decode cL_build 360 = .ok (.iload 4, 2) := by decide +kernel
theorem dL_build_362 : decode cL_build 362 = .ok (.invokestatic 35, 3) := by decide +kernel
theorem dL_build_365 : decode cL_build 365 = .ok (.aload 5, 2) := by decide +kernel
theorem dL_build_367 : decode cL_build 367 = .ok (.areturn, 1) := by decide +kernel
