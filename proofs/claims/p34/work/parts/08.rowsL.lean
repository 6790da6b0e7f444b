theorem dL_below_0 : decode cL_below 0 = .ok (.iload_n 0, 1) := by decide +kernel
theorem dL_below_1 : decode cL_below 1 = .ok (.ldc 7, 2) := by decide +kernel
theorem dL_below_3 : decode cL_below 3 = .ok (.iand, 1) := by decide +kernel
theorem dL_below_4 : decode cL_below 4 = .ok (.iload_n 1, 1) := by decide +kernel
theorem dL_below_5 : decode cL_below 5 = .ok (.irem, 1) := by decide +kernel
theorem dL_below_6 : decode cL_below 6 = .ok (.ireturn, 1) := by decide +kernel
theorem dL_cell_0 : decode cL_cell 0 = .ok (.iload_n 1, 1) := by decide +kernel
theorem dL_cell_1 : decode cL_cell 1 = .ok (.aload_n 0, 1) := by decide +kernel
theorem dL_cell_2 : decode cL_cell 2 = .ok (.arraylength, 1) := by decide +kernel
theorem dL_cell_3 : decode cL_cell 3 = .ok (.if_icmp .ge 9, 3) := by decide +kernel
theorem dL_cell_6 : decode cL_cell 6 = .ok (.aload_n 0, 1) := by decide +kernel
theorem dL_cell_7 : decode cL_cell 7 = .ok (.iload_n 1, 1) := by decide +kernel
theorem dL_cell_8 : decode cL_cell 8 = .ok (.iaload, 1) := by decide +kernel
theorem dL_cell_9 : decode cL_cell 9 = .ok (.goto 9, 3) := by decide +kernel
theorem dL_cell_12 : decode cL_cell 12 = .ok (.ldc 8, 2) := by decide +kernel
theorem dL_cell_14 : decode cL_cell 14 = .ok (.iload_n 1, 1) := by decide +kernel
theorem dL_cell_15 : decode cL_cell 15 = .ok (.iconst 3, 1) := by decide +kernel
theorem dL_cell_16 : decode cL_cell 16 = .ok (.iadd, 1) := by decide +kernel
theorem dL_cell_17 : decode cL_cell 17 = .ok (.imul, 1) := by decide +kernel
theorem dL_cell_18 : decode cL_cell 18 = .ok (.ireturn, 1) := by decide +kernel
set_option maxRecDepth 20000 in
theorem ggL_build_L_cell : GoodIn wsL_build wsL_cell := goodIn_r _ [4, 5] (by decide +kernel) (by decide +kernel)
set_option maxRecDepth 20000 in
theorem gL_build_L_cell : GoodIn wsL_build (va_wsS RL 9 yL_cell wsL_cell) := goodIn_app (goodIn_of _ (by decide +kernel)) ggL_build_L_cell
set_option maxRecDepth 20000 in
theorem ggL_build_L_below : GoodIn wsL_build wsL_below := goodIn_r _ [8, 9] (by decide +kernel) (by decide +kernel)
set_option maxRecDepth 20000 in
theorem gL_build_L_below : GoodIn wsL_build (va_wsS RL 15 yL_below wsL_below) := goodIn_app (goodIn_of _ (by decide +kernel)) ggL_build_L_below
set_option maxRecDepth 20000 in
theorem ggL_build_X2_addKey : GoodIn wsL_build wsX2_addKey := goodIn_ca (goodIn_ca (goodIn_r _ [14, 15, 16, 17, 18, 19, 20, 21, 22, 23, 24, 25, 26, 27, 28, 29, 30, 31, 32, 33, 34, 35, 92, 93, 94, 95, 96, 97, 98, 99, 100, 101, 102, 103, 104] (by decide +kernel) (by decide +kernel)) (goodIn_sub (fun _ h => List.mem_cons_of_mem _ (List.mem_append_left _ (List.mem_append_right _ h))) (by decide +kernel))) (goodIn_sub (fun _ h => List.mem_cons_of_mem _ (List.mem_append_right _ h)) (by decide +kernel))
set_option maxRecDepth 20000 in
theorem gL_build_X2_addKey : GoodIn wsL_build (wsV RL 19 RX2 yX2_addKey wsX2_addKey) := goodIn_app (goodIn_of _ (by decide +kernel)) ggL_build_X2_addKey
set_option maxRecDepth 20000 in
theorem ggL_build_X2_addDoor : GoodIn wsL_build wsX2_addDoor := goodIn_ca (goodIn_ca (goodIn_r _ [39, 17, 18, 19, 40, 41, 42, 43, 13, 44, 15, 16, 20, 45, 46, 47, 48, 49, 50, 24, 51, 52, 53, 54, 55, 56, 57, 58, 59, 60, 61, 62, 63, 64, 65, 66, 67, 26, 32, 68, 69, 70, 71, 72, 73, 74, 92, 93, 94, 95, 96, 97, 98, 99, 100, 101, 102, 103, 104] (by decide +kernel) (by decide +kernel)) (goodIn_sub (fun _ h => List.mem_cons_of_mem _ (List.mem_append_right _ h)) (by decide +kernel))) (goodIn_sub (fun _ h => List.mem_cons_of_mem _ (List.mem_append_left _ (List.mem_append_right _ h))) (by decide +kernel))
set_option maxRecDepth 20000 in
theorem gL_build_X2_addDoor : GoodIn wsL_build (wsV RL 25 RX2 yX2_addDoor wsX2_addDoor) := goodIn_app (goodIn_of _ (by decide +kernel)) ggL_build_X2_addDoor
set_option maxRecDepth 20000 in
theorem ggL_build_L_pins : GoodIn wsL_build wsL_pins := goodIn_r _ [77] (by decide +kernel) (by decide +kernel)
set_option maxRecDepth 20000 in
theorem gL_build_L_pins : GoodIn wsL_build (va_wsS RL 28 yL_pins wsL_pins) := goodIn_app (goodIn_of _ (by decide +kernel)) ggL_build_L_pins
set_option maxRecDepth 20000 in
theorem ggL_build_J6_bitCount_0f7a4 : GoodIn wsL_build wsJ6_bitCount_0f7a4 := goodIn_r _ [71, 72, 73, 74] (by decide +kernel) (by decide +kernel)
set_option maxRecDepth 20000 in
theorem gL_build_J6_bitCount_0f7a4 : GoodIn wsL_build (va_wsS RL 32 yJ6_bitCount_0f7a4 wsJ6_bitCount_0f7a4) := goodIn_app (goodIn_of _ (by decide +kernel)) ggL_build_J6_bitCount_0f7a4
set_option maxRecDepth 20000 in
theorem ggL_build_X2_keyCount : GoodIn wsL_build wsX2_keyCount := goodIn_r _ [82, 19, 20, 92, 93, 94, 95, 96, 97, 98, 99, 100, 101, 102, 103, 104] (by decide +kernel) (by decide +kernel)
set_option maxRecDepth 20000 in
theorem gL_build_X2_keyCount : GoodIn wsL_build (wsV RL 37 RX2 yX2_keyCount wsX2_keyCount) := goodIn_app (goodIn_of _ (by decide +kernel)) ggL_build_X2_keyCount
set_option maxRecDepth 20000 in
theorem ggL_build_X2_doorCount : GoodIn wsL_build wsX2_doorCount := goodIn_r _ [86, 19, 40, 92, 93, 94, 95, 96, 97, 98, 99, 100, 101, 102, 103, 104] (by decide +kernel) (by decide +kernel)
set_option maxRecDepth 20000 in
theorem gL_build_X2_doorCount : GoodIn wsL_build (wsV RL 41 RX2 yX2_doorCount wsX2_doorCount) := goodIn_app (goodIn_of _ (by decide +kernel)) ggL_build_X2_doorCount
set_option maxRecDepth 20000 in
theorem ggL_build_X2_work : GoodIn wsL_build wsX2_work := goodIn_r _ [90, 19, 91, 92, 93, 94, 95, 96, 97, 98, 99, 100, 101, 102, 103, 104] (by decide +kernel) (by decide +kernel)
set_option maxRecDepth 20000 in
theorem gL_build_X2_work : GoodIn wsL_build (wsV RL 44 RX2 yX2_work wsX2_work) := goodIn_app (goodIn_of _ (by decide +kernel)) ggL_build_X2_work
theorem dL_build_0 : decode cL_build 0 = .ok (.iconst 1, 1) := by decide +kernel
theorem dL_build_1 : decode cL_build 1 = .ok (.aload_n 1, 1) := by decide +kernel
theorem dL_build_2 : decode cL_build 2 = .ok (.iload_n 2, 1) := by decide +kernel
theorem dL_build_3 : decode cL_build 3 = .ok (.invokestatic 9, 3) := by decide +kernel
theorem dL_build_6 : decode cL_build 6 = .ok (.iload_n 3, 1) := by decide +kernel
theorem dL_build_7 : decode cL_build 7 = .ok (.invokestatic 15, 3) := by decide +kernel
theorem dL_build_10 : decode cL_build 10 = .ok (.iadd, 1) := by decide +kernel
theorem dL_build_11 : decode cL_build 11 = .ok (.istore 8, 2) := by decide +kernel
theorem dL_build_13 : decode cL_build 13 = .ok (.iconst 0, 1) := by decide +kernel
theorem dL_build_14 : decode cL_build 14 = .ok (.istore 9, 2) := by decide +kernel
theorem dL_build_16 : decode cL_build 16 = .ok (.iload 9, 2) := by decide +kernel
theorem dL_build_18 : decode cL_build 18 = .ok (.iload 8, 2) := by decide +kernel
theorem dL_build_20 : decode cL_build 20 = .ok (.if_icmp .ge 151, 3) := by decide +kernel
theorem dL_build_23 : decode cL_build 23 = .ok (.aload_n 1, 1) := by decide +kernel
theorem dL_build_24 : decode cL_build 24 = .ok (.iload_n 2, 1) := by decide +kernel
theorem dL_build_25 : decode cL_build 25 = .ok (.iconst 1, 1) := by decide +kernel
theorem dL_build_26 : decode cL_build 26 = .ok (.iadd, 1) := by decide +kernel
theorem dL_build_27 : decode cL_build 27 = .ok (.iload 9, 2) := by decide +kernel
theorem dL_build_29 : decode cL_build 29 = .ok (.iconst 4, 1) := by decide +kernel
theorem dL_build_30 : decode cL_build 30 = .ok (.irem, 1) := by decide +kernel
theorem dL_build_31 : decode cL_build 31 = .ok (.iadd, 1) := by decide +kernel
theorem dL_build_32 : decode cL_build 32 = .ok (.invokestatic 9, 3) := by decide +kernel
theorem dL_build_35 : decode cL_build 35 = .ok (.iload 9, 2) := by decide +kernel
theorem dL_build_37 : decode cL_build 37 = .ok (.iconst 4, 1) := by decide +kernel
theorem dL_build_38 : decode cL_build 38 = .ok (.idiv, 1) := by decide +kernel
theorem dL_build_39 : decode cL_build 39 = .ok (.bipush 9, 2) := by decide +kernel
theorem dL_build_41 : decode cL_build 41 = .ok (.imul, 1) := by decide +kernel
theorem dL_build_42 : decode cL_build 42 = .ok (.ishr, 1) := by decide +kernel
theorem dL_build_43 : decode cL_build 43 = .ok (.sipush 1024, 3) := by decide +kernel
theorem dL_build_46 : decode cL_build 46 = .ok (.invokestatic 15, 3) := by decide +kernel
theorem dL_build_49 : decode cL_build 49 = .ok (.istore 10, 2) := by decide +kernel
theorem dL_build_51 : decode cL_build 51 = .ok (.aload_n 1, 1) := by decide +kernel
theorem dL_build_52 : decode cL_build 52 = .ok (.iload_n 2, 1) := by decide +kernel
theorem dL_build_53 : decode cL_build 53 = .ok (.invokestatic 9, 3) := by decide +kernel
theorem dL_build_56 : decode cL_build 56 = .ok (.iconst 4, 1) := by decide +kernel
theorem dL_build_57 : decode cL_build 57 = .ok (.ishr, 1) := by decide +kernel
theorem dL_build_58 : decode cL_build 58 = .ok (.iconst 3, 1) := by decide +kernel
theorem dL_build_59 : decode cL_build 59 = .ok (.invokestatic 15, 3) := by decide +kernel
theorem dL_build_62 : decode cL_build 62 = .ok (.ifCond .le 20, 3) := by decide +kernel
theorem dL_build_65 : decode cL_build 65 = .ok (.iload 10, 2) := by decide +kernel
theorem dL_build_67 : decode cL_build 67 = .ok (.sipush 341, 3) := by decide +kernel
theorem dL_build_70 : decode cL_build 70 = .ok (.iload 10, 2) := by decide +kernel
theorem dL_build_72 : decode cL_build 72 = .ok (.iconst 1, 1) := by decide +kernel
theorem dL_build_73 : decode cL_build 73 = .ok (.ishr, 1) := by decide +kernel
theorem dL_build_74 : decode cL_build 74 = .ok (.sipush 341, 3) := by decide +kernel
theorem dL_build_77 : decode cL_build 77 = .ok (.iand, 1) := by decide +kernel
theorem dL_build_78 : decode cL_build 78 = .ok (.ior, 1) := by decide +kernel
theorem dL_build_79 : decode cL_build 79 = .ok (.iand, 1) := by decide +kernel
theorem dL_build_80 : decode cL_build 80 = .ok (.istore 10, 2) := by decide +kernel
theorem dL_build_82 : decode cL_build 82 = .ok (.iconst 1, 1) := by decide +kernel
theorem dL_build_83 : decode cL_build 83 = .ok (.istore 11, 2) := by decide +kernel
theorem dL_build_85 : decode cL_build 85 = .ok (.iconst 0, 1) := by decide +kernel
theorem dL_build_86 : decode cL_build 86 = .ok (.istore 12, 2) := by decide +kernel
theorem dL_build_88 : decode cL_build 88 = .ok (.iload 12, 2) := by decide +kernel
theorem dL_build_90 : decode cL_build 90 = .ok (.aload 7, 2) := by decide +kernel
theorem dL_build_92 : decode cL_build 92 = .ok (.iconst 0, 1) := by decide +kernel
theorem dL_build_93 : decode cL_build 93 = .ok (.iaload, 1) := by decide +kernel
theorem dL_build_94 : decode cL_build 94 = .ok (.if_icmp .ge 31, 3) := by decide +kernel
theorem dL_build_97 : decode cL_build 97 = .ok (.iload 11, 2) := by decide +kernel
theorem dL_build_99 : decode cL_build 99 = .ok (.ifCond .eq 17, 3) := by decide +kernel
theorem dL_build_102 : decode cL_build 102 = .ok (.aload 5, 2) := by decide +kernel
theorem dL_build_104 : decode cL_build 104 = .ok (.iload 12, 2) := by decide +kernel
theorem dL_build_106 : decode cL_build 106 = .ok (.iaload, 1) := by decide +kernel
theorem dL_build_107 : decode cL_build 107 = .ok (.iload 10, 2) := by decide +kernel
theorem dL_build_109 : decode cL_build 109 = .ok (.if_icmp .eq 7, 3) := by decide +kernel
theorem dL_build_112 : decode cL_build 112 = .ok (.iconst 1, 1) := by decide +kernel
theorem dL_build_113 : decode cL_build 113 = .ok (.goto 4, 3) := by decide +kernel
theorem dL_build_116 : decode cL_build 116 = .ok (.iconst 0, 1) := by decide +kernel
theorem dL_build_117 : decode cL_build 117 = .ok (.istore 11, 2) := by decide +kernel
theorem dL_build_119 : decode cL_build 119 = .ok (.iinc 12 1, 3) := by decide +kernel
theorem dL_build_122 : decode cL_build 122 = .ok (.goto (-34), 3) := by decide +kernel
theorem dL_build_125 : decode cL_build 125 = .ok (.iload 11, 2) := by decide +kernel
theorem dL_build_127 : decode cL_build 127 = .ok (.ifCond .ne 6, 3) := by decide +kernel
theorem dL_build_130 : decode cL_build 130 = .ok (.goto 35, 3) := by decide +kernel
theorem dL_build_133 : decode cL_build 133 = .ok (.aload 5, 2) := by decide +kernel
theorem dL_build_135 : decode cL_build 135 = .ok (.aload 7, 2) := by decide +kernel
theorem dL_build_137 : decode cL_build 137 = .ok (.iconst 0, 1) := by decide +kernel
theorem dL_build_138 : decode cL_build 138 = .ok (.iaload, 1) := by decide +kernel
theorem dL_build_139 : decode cL_build 139 = .ok (.iload 10, 2) := by decide +kernel
theorem dL_build_141 : decode cL_build 141 = .ok (.iastore, 1) := by decide +kernel
theorem dL_build_142 : decode cL_build 142 = .ok (.aload_n 0, 1) := by decide +kernel
theorem dL_build_143 : decode cL_build 143 = .ok (.iload 10, 2) := by decide +kernel
theorem dL_build_145 : decode cL_build 145 = .ok (.invokevirtual 19, 3) := by decide +kernel
theorem dL_build_148 : decode cL_build 148 = .ok (.aload 7, 2) := by decide +kernel
theorem dL_build_150 : decode cL_build 150 = .ok (.iconst 0, 1) := by decide +kernel
theorem dL_build_151 : decode cL_build 151 = .ok (.iaload, 1) := by decide +kernel
theorem dL_build_152 : decode cL_build 152 = .ok (.if_icmp .eq 5, 3) := by decide +kernel
theorem dL_build_155 : decode cL_build 155 = .ok (.iconst 0, 1) := by decide +kernel
theorem dL_build_156 : decode cL_build 156 = .ok (.ireturn, 1) := by decide +kernel
theorem dL_build_157 : decode cL_build 157 = .ok (.aload 7, 2) := by decide +kernel
theorem dL_build_159 : decode cL_build 159 = .ok (.iconst 0, 1) := by decide +kernel
theorem dL_build_160 : decode cL_build 160 = .ok (.dup2, 1) := by decide +kernel
theorem dL_build_161 : decode cL_build 161 = .ok (.iaload, 1) := by decide +kernel
theorem dL_build_162 : decode cL_build 162 = .ok (.iconst 1, 1) := by decide +kernel
theorem dL_build_163 : decode cL_build 163 = .ok (.iadd, 1) := by decide +kernel
theorem dL_build_164 : decode cL_build 164 = .ok (.iastore, 1) := by decide +kernel
theorem dL_build_165 : decode cL_build 165 = .ok (.iinc 9 1, 3) := by decide +kernel
theorem dL_build_168 : decode cL_build 168 = .ok (.goto (-152), 3) := by decide +kernel
theorem dL_build_171 : decode cL_build 171 = .ok (.aload 7, 2) := by decide +kernel
theorem dL_build_173 : decode cL_build 173 = .ok (.iconst 1, 1) := by decide +kernel
theorem dL_build_174 : decode cL_build 174 = .ok (.aload_n 1, 1) := by decide +kernel
theorem dL_build_175 : decode cL_build 175 = .ok (.iload_n 2, 1) := by decide +kernel
theorem dL_build_176 : decode cL_build 176 = .ok (.invokestatic 9, 3) := by decide +kernel
theorem dL_build_179 : decode cL_build 179 = .ok (.bipush 8, 2) := by decide +kernel
theorem dL_build_181 : decode cL_build 181 = .ok (.ishr, 1) := by decide +kernel
theorem dL_build_182 : decode cL_build 182 = .ok (.iload 4, 2) := by decide +kernel
theorem dL_build_184 : decode cL_build 184 = .ok (.iconst 1, 1) := by decide +kernel
theorem dL_build_185 : decode cL_build 185 = .ok (.iadd, 1) := by decide +kernel
theorem dL_build_186 : decode cL_build 186 = .ok (.invokestatic 15, 3) := by decide +kernel
theorem dL_build_189 : decode cL_build 189 = .ok (.iastore, 1) := by decide +kernel
theorem dL_build_190 : decode cL_build 190 = .ok (.iconst 0, 1) := by decide +kernel
theorem dL_build_191 : decode cL_build 191 = .ok (.istore 9, 2) := by decide +kernel
theorem dL_build_193 : decode cL_build 193 = .ok (.iload 9, 2) := by decide +kernel
theorem dL_build_195 : decode cL_build 195 = .ok (.aload 7, 2) := by decide +kernel
theorem dL_build_197 : decode cL_build 197 = .ok (.iconst 1, 1) := by decide +kernel
theorem dL_build_198 : decode cL_build 198 = .ok (.iaload, 1) := by decide +kernel
theorem dL_build_199 : decode cL_build 199 = .ok (.if_icmp .ge 143, 3) := by decide +kernel
theorem dL_build_202 : decode cL_build 202 = .ok (.aload 6, 2) := by decide +kernel
theorem dL_build_204 : decode cL_build 204 = .ok (.iload 9, 2) := by decide +kernel
theorem dL_build_206 : decode cL_build 206 = .ok (.aload_n 1, 1) := by decide +kernel
theorem dL_build_207 : decode cL_build 207 = .ok (.iload_n 2, 1) := by decide +kernel
theorem dL_build_208 : decode cL_build 208 = .ok (.iconst 5, 1) := by decide +kernel
theorem dL_build_209 : decode cL_build 209 = .ok (.iadd, 1) := by decide +kernel
theorem dL_build_210 : decode cL_build 210 = .ok (.iload 9, 2) := by decide +kernel
theorem dL_build_212 : decode cL_build 212 = .ok (.iconst 4, 1) := by decide +kernel
theorem dL_build_213 : decode cL_build 213 = .ok (.irem, 1) := by decide +kernel
theorem dL_build_214 : decode cL_build 214 = .ok (.iadd, 1) := by decide +kernel
theorem dL_build_215 : decode cL_build 215 = .ok (.invokestatic 9, 3) := by decide +kernel
theorem dL_build_218 : decode cL_build 218 = .ok (.iload 9, 2) := by decide +kernel
theorem dL_build_220 : decode cL_build 220 = .ok (.iconst 4, 1) := by decide +kernel
theorem dL_build_221 : decode cL_build 221 = .ok (.idiv, 1) := by decide +kernel
theorem dL_build_222 : decode cL_build 222 = .ok (.bipush 8, 2) := by decide +kernel
theorem dL_build_224 : decode cL_build 224 = .ok (.imul, 1) := by decide +kernel
theorem dL_build_225 : decode cL_build 225 = .ok (.ishr, 1) := by decide +kernel
theorem dL_build_226 : decode cL_build 226 = .ok (.iconst 1, 1) := by decide +kernel
theorem dL_build_227 : decode cL_build 227 = .ok (.aload 7, 2) := by decide +kernel
theorem dL_build_229 : decode cL_build 229 = .ok (.iconst 0, 1) := by decide +kernel
theorem dL_build_230 : decode cL_build 230 = .ok (.iaload, 1) := by decide +kernel
theorem dL_build_231 : decode cL_build 231 = .ok (.ishl, 1) := by decide +kernel
theorem dL_build_232 : decode cL_build 232 = .ok (.invokestatic 15, 3) := by decide +kernel
theorem dL_build_235 : decode cL_build 235 = .ok (.iastore, 1) := by decide +kernel
theorem dL_build_236 : decode cL_build 236 = .ok (.aload_n 1, 1) := by decide +kernel
theorem dL_build_237 : decode cL_build 237 = .ok (.iload_n 2, 1) := by decide +kernel
theorem dL_build_238 : decode cL_build 238 = .ok (.invokestatic 9, 3) := by decide +kernel
theorem dL_build_241 : decode cL_build 241 = .ok (.bipush 12, 2) := by decide +kernel
theorem dL_build_243 : decode cL_build 243 = .ok (.ishr, 1) := by decide +kernel
theorem dL_build_244 : decode cL_build 244 = .ok (.iconst 2, 1) := by decide +kernel
theorem dL_build_245 : decode cL_build 245 = .ok (.invokestatic 15, 3) := by decide +kernel
theorem dL_build_248 : decode cL_build 248 = .ok (.ifCond .ne 35, 3) := by decide +kernel
theorem dL_build_251 : decode cL_build 251 = .ok (.aload 6, 2) := by decide +kernel
theorem dL_build_253 : decode cL_build 253 = .ok (.iload 9, 2) := by decide +kernel
theorem dL_build_255 : decode cL_build 255 = .ok (.dup2, 1) := by decide +kernel
theorem dL_build_256 : decode cL_build 256 = .ok (.iaload, 1) := by decide +kernel
theorem dL_build_257 : decode cL_build 257 = .ok (.aload_n 1, 1) := by decide +kernel
theorem dL_build_258 : decode cL_build 258 = .ok (.iload_n 2, 1) := by decide +kernel
theorem dL_build_259 : decode cL_build 259 = .ok (.iconst 5, 1) := by decide +kernel
theorem dL_build_260 : decode cL_build 260 = .ok (.iadd, 1) := by decide +kernel
theorem dL_build_261 : decode cL_build 261 = .ok (.iload 9, 2) := by decide +kernel
theorem dL_build_263 : decode cL_build 263 = .ok (.iconst 4, 1) := by decide +kernel
theorem dL_build_264 : decode cL_build 264 = .ok (.irem, 1) := by decide +kernel
theorem dL_build_265 : decode cL_build 265 = .ok (.iadd, 1) := by decide +kernel
theorem dL_build_266 : decode cL_build 266 = .ok (.invokestatic 9, 3) := by decide +kernel
theorem dL_build_269 : decode cL_build 269 = .ok (.bipush 9, 2) := by decide +kernel
theorem dL_build_271 : decode cL_build 271 = .ok (.ishr, 1) := by decide +kernel
theorem dL_build_272 : decode cL_build 272 = .ok (.iconst 1, 1) := by decide +kernel
theorem dL_build_273 : decode cL_build 273 = .ok (.aload 7, 2) := by decide +kernel
theorem dL_build_275 : decode cL_build 275 = .ok (.iconst 0, 1) := by decide +kernel
theorem dL_build_276 : decode cL_build 276 = .ok (.iaload, 1) := by decide +kernel
theorem dL_build_277 : decode cL_build 277 = .ok (.ishl, 1) := by decide +kernel
theorem dL_build_278 : decode cL_build 278 = .ok (.invokestatic 15, 3) := by decide +kernel
theorem dL_build_281 : decode cL_build 281 = .ok (.iand, 1) := by decide +kernel
theorem dL_build_282 : decode cL_build 282 = .ok (.iastore, 1) := by decide +kernel
theorem dL_build_283 : decode cL_build 283 = .ok (.aload_n 0, 1) := by decide +kernel
theorem dL_build_284 : decode cL_build 284 = .ok (.aload 6, 2) := by decide +kernel
theorem dL_build_286 : decode cL_build 286 = .ok (.iload 9, 2) := by decide +kernel
theorem dL_build_288 : decode cL_build 288 = .ok (.iaload, 1) := by decide +kernel
theorem dL_build_289 : decode cL_build 289 = .ok (.invokevirtual 25, 3) := by decide +kernel
theorem dL_build_292 : decode cL_build 292 = .ok (.iload 9, 2) := by decide +kernel
theorem dL_build_294 : decode cL_build 294 = .ok (.if_icmp .eq 5, 3) := by decide +kernel
theorem dL_build_297 : decode cL_build 297 = .ok (.iconst 0, 1) := by decide +kernel
theorem dL_build_298 : decode cL_build 298 = .ok (.ireturn, 1) := by decide +kernel
theorem dL_build_299 : decode cL_build 299 = .ok (.iconst 0, 1) := by decide +kernel
theorem dL_build_300 : decode cL_build 300 = .ok (.istore 10, 2) := by decide +kernel
theorem dL_build_302 : decode cL_build 302 = .ok (.iload 10, 2) := by decide +kernel
theorem dL_build_304 : decode cL_build 304 = .ok (.iconst 5, 1) := by decide +kernel
theorem dL_build_305 : decode cL_build 305 = .ok (.if_icmp .ge 31, 3) := by decide +kernel
theorem dL_build_308 : decode cL_build 308 = .ok (.aload 7, 2) := by decide +kernel
theorem dL_build_310 : decode cL_build 310 = .ok (.iconst 2, 1) := by decide +kernel
theorem dL_build_311 : decode cL_build 311 = .ok (.dup2, 1) := by decide +kernel
theorem dL_build_312 : decode cL_build 312 = .ok (.iaload, 1) := by decide +kernel
theorem dL_build_313 : decode cL_build 313 = .ok (.aload 6, 2) := by decide +kernel
theorem dL_build_315 : decode cL_build 315 = .ok (.iload 9, 2) := by decide +kernel
theorem dL_build_317 : decode cL_build 317 = .ok (.iaload, 1) := by decide +kernel
theorem dL_build_318 : decode cL_build 318 = .ok (.iload 10, 2) := by decide +kernel
theorem dL_build_320 : decode cL_build 320 = .ok (.aload 5, 2) := by decide +kernel
theorem dL_build_322 : decode cL_build 322 = .ok (.invokestatic 28, 3) := by decide +kernel
theorem dL_build_325 : decode cL_build 325 = .ok (.invokestatic 32, 3) := by decide +kernel
theorem dL_build_328 : decode cL_build 328 = .ok (.iadd, 1) := by decide +kernel
theorem dL_build_329 : decode cL_build 329 = .ok (.iastore, 1) := by decide +kernel
theorem dL_build_330 : decode cL_build 330 = .ok (.iinc 10 1, 3) := by decide +kernel
theorem dL_build_333 : decode cL_build 333 = .ok (.goto (-31), 3) := by decide +kernel
theorem dL_build_336 : decode cL_build 336 = .ok (.iinc 9 1, 3) := by decide +kernel
theorem dL_build_339 : decode cL_build 339 = .ok (.goto (-146), 3) := by decide +kernel
theorem dL_build_342 : decode cL_build 342 = .ok (.aload_n 0, 1) := by decide +kernel
theorem dL_build_343 : decode cL_build 343 = .ok (.invokevirtual 37, 3) := by decide +kernel
theorem dL_build_346 : decode cL_build 346 = .ok (.aload 7, 2) := by decide +kernel
theorem dL_build_348 : decode cL_build 348 = .ok (.iconst 0, 1) := by decide +kernel
theorem dL_build_349 : decode cL_build 349 = .ok (.iaload, 1) := by decide +kernel
theorem dL_build_350 : decode cL_build 350 = .ok (.if_icmp .ne 29, 3) := by decide +kernel
theorem dL_build_353 : decode cL_build 353 = .ok (.aload_n 0, 1) := by decide +kernel
theorem dL_build_354 : decode cL_build 354 = .ok (.invokevirtual 41, 3) := by decide +kernel
theorem dL_build_357 : decode cL_build 357 = .ok (.aload 7, 2) := by decide +kernel
theorem dL_build_359 : decode cL_build 359 = .ok (.iconst 1, 1) := by decide +kernel
theorem dL_build_360 : decode cL_build 360 = .ok (.iaload, 1) := by decide +kernel
theorem dL_build_361 : decode cL_build 361 = .ok (.if_icmp .ne 18, 3) := by decide +kernel
theorem dL_build_364 : decode cL_build 364 = .ok (.aload_n 0, 1) := by decide +kernel
theorem dL_build_365 : decode cL_build 365 = .ok (.invokevirtual 44, 3) := by decide +kernel
theorem dL_build_368 : decode cL_build 368 = .ok (.aload 7, 2) := by decide +kernel
theorem dL_build_370 : decode cL_build 370 = .ok (.iconst 2, 1) := by decide +kernel
theorem dL_build_371 : decode cL_build 371 = .ok (.iaload, 1) := by decide +kernel
theorem dL_build_372 : decode cL_build 372 = .ok (.if_icmp .ne 7, 3) := by decide +kernel
theorem dL_build_375 : decode cL_build 375 = .ok (.iconst 1, 1) := by decide +kernel
theorem dL_build_376 : decode cL_build 376 = .ok (.goto 4, 3) := by decide +kernel
theorem dL_build_379 : decode cL_build 379 = .ok (.iconst 0, 1) := by decide +kernel
theorem dL_build_380 : decode cL_build 380 = .ok (.ireturn, 1) := by decide +kernel
theorem dL_pins_0 : decode cL_pins 0 = .ok (.iconst 0, 1) := by decide +kernel
theorem dL_pins_1 : decode cL_pins 1 = .ok (.istore_n 3, 1) := by decide +kernel
theorem dL_pins_2 : decode cL_pins 2 = .ok (.iconst 0, 1) := by decide +kernel
theorem dL_pins_3 : decode cL_pins 3 = .ok (.istore 4, 2) := by decide +kernel
theorem dL_pins_5 : decode cL_pins 5 = .ok (.iload 4, 2) := by decide +kernel
theorem dL_pins_7 : decode cL_pins 7 = .ok (.bipush 8, 2) := by decide +kernel
theorem dL_pins_9 : decode cL_pins 9 = .ok (.if_icmp .ge 37, 3) := by decide +kernel
theorem dL_pins_12 : decode cL_pins 12 = .ok (.iload_n 0, 1) := by decide +kernel
theorem dL_pins_13 : decode cL_pins 13 = .ok (.iload 4, 2) := by decide +kernel
theorem dL_pins_15 : decode cL_pins 15 = .ok (.ishr, 1) := by decide +kernel
theorem dL_pins_16 : decode cL_pins 16 = .ok (.iconst 1, 1) := by decide +kernel
theorem dL_pins_17 : decode cL_pins 17 = .ok (.iand, 1) := by decide +kernel
theorem dL_pins_18 : decode cL_pins 18 = .ok (.iconst 1, 1) := by decide +kernel
theorem dL_pins_19 : decode cL_pins 19 = .ok (.if_icmp .ne 21, 3) := by decide +kernel
theorem dL_pins_22 : decode cL_pins 22 = .ok (.iload_n 3, 1) := by decide +kernel
theorem dL_pins_23 : decode cL_pins 23 = .ok (.iconst 1, 1) := by decide +kernel
theorem dL_pins_24 : decode cL_pins 24 = .ok (.aload_n 2, 1) := by decide +kernel
theorem dL_pins_25 : decode cL_pins 25 = .ok (.iload 4, 2) := by decide +kernel
theorem dL_pins_27 : decode cL_pins 27 = .ok (.iaload, 1) := by decide +kernel
theorem dL_pins_28 : decode cL_pins 28 = .ok (.bipush 8, 2) := by decide +kernel
theorem dL_pins_30 : decode cL_pins 30 = .ok (.iconst 2, 1) := by decide +kernel
theorem dL_pins_31 : decode cL_pins 31 = .ok (.iload_n 1, 1) := by decide +kernel
theorem dL_pins_32 : decode cL_pins 32 = .ok (.imul, 1) := by decide +kernel
theorem dL_pins_33 : decode cL_pins 33 = .ok (.isub, 1) := by decide +kernel
theorem dL_pins_34 : decode cL_pins 34 = .ok (.ishr, 1) := by decide +kernel
theorem dL_pins_35 : decode cL_pins 35 = .ok (.iconst 3, 1) := by decide +kernel
theorem dL_pins_36 : decode cL_pins 36 = .ok (.iand, 1) := by decide +kernel
theorem dL_pins_37 : decode cL_pins 37 = .ok (.ishl, 1) := by decide +kernel
theorem dL_pins_38 : decode cL_pins 38 = .ok (.ior, 1) := by decide +kernel
theorem dL_pins_39 : decode cL_pins 39 = .ok (.istore_n 3, 1) := by decide +kernel
theorem dL_pins_40 : decode cL_pins 40 = .ok (.iinc 4 1, 3) := by decide +kernel
theorem dL_pins_43 : decode cL_pins 43 = .ok (.goto (-38), 3) := by decide +kernel
theorem dL_pins_46 : decode cL_pins 46 = .ok (.iload_n 3, 1) := by decide +kernel
theorem dL_pins_47 : decode cL_pins 47 = .ok (.ireturn, 1) := by decide +kernel
