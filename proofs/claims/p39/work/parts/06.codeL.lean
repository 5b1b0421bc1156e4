set_option maxRecDepth 20000 in
theorem ggL_act_L_below : GoodIn wsL_act wsL_below := goodIn_r _ [19, 20] (by decide +kernel) (by decide +kernel)
set_option maxRecDepth 20000 in
theorem gL_act_L_below : GoodIn wsL_act (va_wsS RL 9 yL_below wsL_below) := goodIn_app (goodIn_of _ (by decide +kernel)) ggL_act_L_below
set_option maxRecDepth 20000 in
theorem ggL_act_X1_addStick : GoodIn wsL_act wsX1_addStick := goodIn_r _ [25, 26, 7, 142, 143, 144, 145, 146, 147, 148, 149, 150, 151] (by decide +kernel) (by decide +kernel)
set_option maxRecDepth 20000 in
theorem gL_act_X1_addStick : GoodIn wsL_act (wsV RL 21 RX1 yX1_addStick wsX1_addStick) := goodIn_app (goodIn_of _ (by decide +kernel)) ggL_act_X1_addStick
set_option maxRecDepth 20000 in
theorem ggL_act_X0_addStick : GoodIn wsL_act wsX0_addStick := goodIn_ca (goodIn_ca (goodIn_r _ [31, 32, 33, 34, 35, 36, 37, 152, 153, 154, 155, 156, 157, 158, 159, 160, 161, 162, 163, 164, 165, 166, 167, 168] (by decide +kernel) (by decide +kernel)) (goodIn_sub (fun _ h => List.mem_cons_of_mem _ (List.mem_append_left _ (List.mem_append_left _ (List.mem_append_right _ h)))) (by decide +kernel))) (goodIn_sub (fun _ h => List.mem_cons_of_mem _ (List.mem_append_left _ (List.mem_append_right _ h))) (by decide +kernel))
set_option maxRecDepth 20000 in
theorem gL_act_X0_addStick : GoodIn wsL_act (wsV RL 25 RX0 yX0_addStick wsX0_addStick) := goodIn_app (goodIn_of _ (by decide +kernel)) ggL_act_X0_addStick
set_option maxRecDepth 20000 in
theorem ggL_act_X1_with : GoodIn wsL_act wsX1_with := goodIn_r _ [40, 41] (by decide +kernel) (by decide +kernel)
set_option maxRecDepth 20000 in
theorem gL_act_X1_with : GoodIn wsL_act (va_wsS RL 39 yX1_with wsX1_with) := goodIn_app (goodIn_of _ (by decide +kernel)) ggL_act_X1_with
set_option maxRecDepth 20000 in
theorem ggL_act_X0_addNap : GoodIn wsL_act wsX0_addNap := goodIn_ca (goodIn_ca (goodIn_r _ [45, 32, 33, 34, 35, 46, 47, 48, 49, 50, 51, 30, 52, 53, 54, 55, 56, 57, 152, 153, 154, 155, 156, 157, 158, 159, 160, 161, 162, 163, 164, 165, 166, 167, 168] (by decide +kernel) (by decide +kernel)) (goodIn_sub (fun _ h => List.mem_cons_of_mem _ (List.mem_append_left _ (List.mem_append_left _ (List.mem_append_right _ h)))) (by decide +kernel))) (goodIn_sub (fun _ h => List.mem_cons_of_mem _ (List.mem_append_left _ (List.mem_append_right _ h))) (by decide +kernel))
set_option maxRecDepth 20000 in
theorem gL_act_X0_addNap : GoodIn wsL_act (wsV RL 43 RX0 yX0_addNap wsX0_addNap) := goodIn_app (goodIn_of _ (by decide +kernel)) ggL_act_X0_addNap
set_option maxRecDepth 20000 in
theorem ggL_act_X1_without : GoodIn wsL_act wsX1_without := goodIn_r _ [60, 41, 61, 39, 24, 40] (by decide +kernel) (by decide +kernel)
set_option maxRecDepth 20000 in
theorem gL_act_X1_without : GoodIn wsL_act (va_wsS RL 46 yX1_without wsX1_without) := goodIn_app (goodIn_of _ (by decide +kernel)) ggL_act_X1_without
set_option maxRecDepth 20000 in
theorem ggL_act_X0_giveUp : GoodIn wsL_act wsX0_giveUp := goodIn_ca (goodIn_r _ [65, 46, 47, 48, 66, 67, 68, 30, 69, 70, 71, 49, 50, 51, 52, 53, 54, 55, 56, 57, 152, 153, 154, 155, 156, 157, 158, 159, 160, 161, 162, 163, 164, 165, 166, 167, 168] (by decide +kernel) (by decide +kernel)) (goodIn_sub (fun _ h => List.mem_cons_of_mem _ (List.mem_append_right _ h)) (by decide +kernel))
set_option maxRecDepth 20000 in
theorem gL_act_X0_giveUp : GoodIn wsL_act (wsV RL 50 RX0 yX0_giveUp wsX0_giveUp) := goodIn_app (goodIn_of _ (by decide +kernel)) ggL_act_X0_giveUp
set_option maxRecDepth 20000 in
theorem ggL_act_X0_addBee : GoodIn wsL_act wsX0_addBee := goodIn_ca (goodIn_ca (goodIn_r _ [75, 32, 33, 34, 35, 76, 77, 78, 79, 80, 81, 82, 30, 83, 152, 153, 154, 155, 156, 157, 158, 159, 160, 161, 162, 163, 164, 165, 166, 167, 168] (by decide +kernel) (by decide +kernel)) (goodIn_sub (fun _ h => List.mem_cons_of_mem _ (List.mem_append_left _ (List.mem_append_left _ (List.mem_append_right _ h)))) (by decide +kernel))) (goodIn_sub (fun _ h => List.mem_cons_of_mem _ (List.mem_append_left _ (List.mem_append_right _ h))) (by decide +kernel))
set_option maxRecDepth 20000 in
theorem gL_act_X0_addBee : GoodIn wsL_act (wsV RL 56 RX0 yX0_addBee wsX0_addBee) := goodIn_app (goodIn_of _ (by decide +kernel)) ggL_act_X0_addBee
set_option maxRecDepth 20000 in
theorem ggL_act_X0_setTea : GoodIn wsL_act wsX0_setTea := goodIn_ca (goodIn_r _ [87, 32, 33, 88, 89, 90, 91, 92, 93, 94, 30, 95, 96, 97, 98, 99, 100, 101, 102, 4, 103, 152, 153, 154, 155, 156, 157, 158, 159, 160, 161, 162, 163, 164, 165, 166, 167, 168] (by decide +kernel) (by decide +kernel)) (goodIn_sub (fun _ h => List.mem_cons_of_mem _ (List.mem_append_left _ (List.mem_append_left _ (List.mem_append_right _ h)))) (by decide +kernel))
set_option maxRecDepth 20000 in
theorem gL_act_X0_setTea : GoodIn wsL_act (wsV RL 75 RX0 yX0_setTea wsX0_setTea) := goodIn_app (goodIn_of _ (by decide +kernel)) ggL_act_X0_setTea
set_option maxRecDepth 20000 in
theorem ggL_act_X0_begin : GoodIn wsL_act wsX0_begin := goodIn_r _ [107, 108, 91, 96, 109, 152, 153, 154, 155, 156, 157, 158, 159, 160, 161, 162, 163, 164, 165, 166, 167, 168] (by decide +kernel) (by decide +kernel)
set_option maxRecDepth 20000 in
theorem gL_act_X0_begin : GoodIn wsL_act (wsV RL 85 RX0 yX0_begin wsX0_begin) := goodIn_app (goodIn_of _ (by decide +kernel)) ggL_act_X0_begin
set_option maxRecDepth 20000 in
theorem ggL_act_X0_pass : GoodIn wsL_act wsX0_pass := goodIn_ca (goodIn_ca (goodIn_r _ [113, 32, 33, 34, 35, 108, 91, 89, 114, 115, 116, 30, 117, 53, 90, 79, 101, 102, 4, 103, 92, 93, 94, 95, 96, 97, 98, 99, 100, 88, 152, 153, 154, 155, 156, 157, 158, 159, 160, 161, 162, 163, 164, 165, 166, 167, 168] (by decide +kernel) (by decide +kernel)) (goodIn_sub (fun _ h => List.mem_cons_of_mem _ (List.mem_append_left _ (List.mem_append_left _ (List.mem_append_right _ h)))) (by decide +kernel))) (goodIn_sub (fun _ h => List.mem_cons_of_mem _ (List.mem_append_left _ (List.mem_append_right _ h))) (by decide +kernel))
set_option maxRecDepth 20000 in
theorem gL_act_X0_pass : GoodIn wsL_act (wsV RL 89 RX0 yX0_pass wsX0_pass) := goodIn_app (goodIn_of _ (by decide +kernel)) ggL_act_X0_pass
set_option maxRecDepth 20000 in
theorem ggL_act_X1_pass_ : GoodIn wsL_act wsX1_pass_ := goodIn_r _ [121, 122, 123, 124, 24, 125, 126, 127, 128, 129, 130, 131, 132, 133, 134, 135, 136, 137, 138, 139, 140, 141, 142, 143, 144, 145, 146, 147, 148, 149, 150, 151] (by decide +kernel) (by decide +kernel)
set_option maxRecDepth 20000 in
theorem gL_act_X1_pass_ : GoodIn wsL_act (wsV RL 92 RX1 yX1_pass_ wsX1_pass_) := goodIn_app (goodIn_of _ (by decide +kernel)) ggL_act_X1_pass_
theorem dL_act_0 : decode cL_act 0 = .ok (.iload_n 2, 1) := by decide +kernel
theorem dL_act_1 : decode cL_act 1 = .ok (.bipush 13, 2) := by decide +kernel
theorem dL_act_3 : decode cL_act 3 = .ok (.invokestatic 9, 3) := by decide +kernel
theorem dL_act_6 : decode cL_act 6 = .ok (.tableswitch 541 0 8 #[50, 98, 98, 208, 261, 261, 361, 361, 487], 50) := by decide +kernel
theorem dL_act_56 : decode cL_act 56 = .ok (.aload_n 1, 1) := by decide +kernel
theorem dL_act_57 : decode cL_act 57 = .ok (.getfield 15, 3) := by decide +kernel
theorem dL_act_60 : decode cL_act 60 = .ok (.arraylength, 1) := by decide +kernel
theorem dL_act_61 : decode cL_act 61 = .ok (.iconst 4, 1) := by decide +kernel
theorem dL_act_62 : decode cL_act 62 = .ok (.if_icmp .ne 5, 3) := by decide +kernel
theorem dL_act_65 : decode cL_act 65 = .ok (.iconst 1, 1) := by decide +kernel
theorem dL_act_66 : decode cL_act 66 = .ok (.ireturn, 1) := by decide +kernel
theorem dL_act_67 : decode cL_act 67 = .ok (.iconst 1, 1) := by decide +kernel
theorem dL_act_68 : decode cL_act 68 = .ok (.iload_n 2, 1) := by decide +kernel
theorem dL_act_69 : decode cL_act 69 = .ok (.iconst 4, 1) := by decide +kernel
theorem dL_act_70 : decode cL_act 70 = .ok (.ishr, 1) := by decide +kernel
theorem dL_act_71 : decode cL_act 71 = .ok (.bipush 30, 2) := by decide +kernel
theorem dL_act_73 : decode cL_act 73 = .ok (.invokestatic 9, 3) := by decide +kernel
theorem dL_act_76 : decode cL_act 76 = .ok (.iadd, 1) := by decide +kernel
theorem dL_act_77 : decode cL_act 77 = .ok (.istore_n 3, 1) := by decide +kernel
theorem dL_act_78 : decode cL_act 78 = .ok (.aload_n 1, 1) := by decide +kernel
theorem dL_act_79 : decode cL_act 79 = .ok (.iload_n 3, 1) := by decide +kernel
theorem dL_act_80 : decode cL_act 80 = .ok (.invokevirtual 21, 3) := by decide +kernel
theorem dL_act_83 : decode cL_act 83 = .ok (.aload_n 0, 1) := by decide +kernel
theorem dL_act_84 : decode cL_act 84 = .ok (.iload_n 3, 1) := by decide +kernel
theorem dL_act_85 : decode cL_act 85 = .ok (.invokevirtual 25, 3) := by decide +kernel
theorem dL_act_88 : decode cL_act 88 = .ok (.aload_n 1, 1) := by decide +kernel
theorem dL_act_89 : decode cL_act 89 = .ok (.getfield 15, 3) := by decide +kernel
theorem dL_act_92 : decode cL_act 92 = .ok (.arraylength, 1) := by decide +kernel
theorem dL_act_93 : decode cL_act 93 = .ok (.iconst 1, 1) := by decide +kernel
theorem dL_act_94 : decode cL_act 94 = .ok (.isub, 1) := by decide +kernel
theorem dL_act_95 : decode cL_act 95 = .ok (.if_icmp .ne 7, 3) := by decide +kernel
theorem dL_act_98 : decode cL_act 98 = .ok (.iconst 1, 1) := by decide +kernel
theorem dL_act_99 : decode cL_act 99 = .ok (.goto 4, 3) := by decide +kernel
theorem dL_act_102 : decode cL_act 102 = .ok (.iconst 0, 1) := by decide +kernel
theorem dL_act_103 : decode cL_act 103 = .ok (.ireturn, 1) := by decide +kernel
theorem dL_act_104 : decode cL_act 104 = .ok (.iload_n 2, 1) := by decide +kernel
theorem dL_act_105 : decode cL_act 105 = .ok (.iconst 4, 1) := by decide +kernel
theorem dL_act_106 : decode cL_act 106 = .ok (.ishr, 1) := by decide +kernel
theorem dL_act_107 : decode cL_act 107 = .ok (.sipush 360, 3) := by decide +kernel
theorem dL_act_110 : decode cL_act 110 = .ok (.invokestatic 9, 3) := by decide +kernel
theorem dL_act_113 : decode cL_act 113 = .ok (.istore_n 3, 1) := by decide +kernel
theorem dL_act_114 : decode cL_act 114 = .ok (.iload_n 3, 1) := by decide +kernel
theorem dL_act_115 : decode cL_act 115 = .ok (.iconst 1, 1) := by decide +kernel
theorem dL_act_116 : decode cL_act 116 = .ok (.iadd, 1) := by decide +kernel
theorem dL_act_117 : decode cL_act 117 = .ok (.iload_n 2, 1) := by decide +kernel
theorem dL_act_118 : decode cL_act 118 = .ok (.bipush 6, 2) := by decide +kernel
theorem dL_act_120 : decode cL_act 120 = .ok (.ishr, 1) := by decide +kernel
theorem dL_act_121 : decode cL_act 121 = .ok (.iload_n 2, 1) := by decide +kernel
theorem dL_act_122 : decode cL_act 122 = .ok (.bipush 8, 2) := by decide +kernel
theorem dL_act_124 : decode cL_act 124 = .ok (.ishr, 1) := by decide +kernel
theorem dL_act_125 : decode cL_act 125 = .ok (.iconst 2, 1) := by decide +kernel
theorem dL_act_126 : decode cL_act 126 = .ok (.invokestatic 9, 3) := by decide +kernel
theorem dL_act_129 : decode cL_act 129 = .ok (.ifCond .ne 11, 3) := by decide +kernel
theorem dL_act_132 : decode cL_act 132 = .ok (.sipush 360, 3) := by decide +kernel
theorem dL_act_135 : decode cL_act 135 = .ok (.iload_n 3, 1) := by decide +kernel
theorem dL_act_136 : decode cL_act 136 = .ok (.isub, 1) := by decide +kernel
theorem dL_act_137 : decode cL_act 137 = .ok (.goto 13, 3) := by decide +kernel
theorem dL_act_140 : decode cL_act 140 = .ok (.bipush 40, 2) := by decide +kernel
theorem dL_act_142 : decode cL_act 142 = .ok (.sipush 360, 3) := by decide +kernel
theorem dL_act_145 : decode cL_act 145 = .ok (.iload_n 3, 1) := by decide +kernel
theorem dL_act_146 : decode cL_act 146 = .ok (.isub, 1) := by decide +kernel
theorem dL_act_147 : decode cL_act 147 = .ok (.invokestatic 30, 3) := by decide +kernel
theorem dL_act_150 : decode cL_act 150 = .ok (.invokestatic 9, 3) := by decide +kernel
theorem dL_act_153 : decode cL_act 153 = .ok (.iadd, 1) := by decide +kernel
theorem dL_act_154 : decode cL_act 154 = .ok (.istore 4, 2) := by decide +kernel
theorem dL_act_156 : decode cL_act 156 = .ok (.aload_n 1, 1) := by decide +kernel
theorem dL_act_157 : decode cL_act 157 = .ok (.getfield 35, 3) := by decide +kernel
theorem dL_act_160 : decode cL_act 160 = .ok (.arraylength, 1) := by decide +kernel
theorem dL_act_161 : decode cL_act 161 = .ok (.bipush 8, 2) := by decide +kernel
theorem dL_act_163 : decode cL_act 163 = .ok (.if_icmp .ne 5, 3) := by decide +kernel
theorem dL_act_166 : decode cL_act 166 = .ok (.iconst 1, 1) := by decide +kernel
theorem dL_act_167 : decode cL_act 167 = .ok (.ireturn, 1) := by decide +kernel
theorem dL_act_168 : decode cL_act 168 = .ok (.aload_n 1, 1) := by decide +kernel
theorem dL_act_169 : decode cL_act 169 = .ok (.aload_n 1, 1) := by decide +kernel
theorem dL_act_170 : decode cL_act 170 = .ok (.getfield 35, 3) := by decide +kernel
theorem dL_act_173 : decode cL_act 173 = .ok (.iconst 2, 1) := by decide +kernel
theorem dL_act_174 : decode cL_act 174 = .ok (.newarray .int, 2) := by decide +kernel
theorem dL_act_176 : decode cL_act 176 = .ok (.dup, 1) := by decide +kernel
theorem dL_act_177 : decode cL_act 177 = .ok (.iconst 0, 1) := by decide +kernel
theorem dL_act_178 : decode cL_act 178 = .ok (.iload_n 3, 1) := by decide +kernel
theorem dL_act_179 : decode cL_act 179 = .ok (.iastore, 1) := by decide +kernel
theorem dL_act_180 : decode cL_act 180 = .ok (.dup, 1) := by decide +kernel
theorem dL_act_181 : decode cL_act 181 = .ok (.iconst 1, 1) := by decide +kernel
theorem dL_act_182 : decode cL_act 182 = .ok (.iload 4, 2) := by decide +kernel
theorem dL_act_184 : decode cL_act 184 = .ok (.iastore, 1) := by decide +kernel
theorem dL_act_185 : decode cL_act 185 = .ok (.invokestatic 39, 3) := by decide +kernel
theorem dL_act_188 : decode cL_act 188 = .ok (.putfield 35, 3) := by decide +kernel
theorem dL_act_191 : decode cL_act 191 = .ok (.aload_n 0, 1) := by decide +kernel
theorem dL_act_192 : decode cL_act 192 = .ok (.iload_n 3, 1) := by decide +kernel
theorem dL_act_193 : decode cL_act 193 = .ok (.iload 4, 2) := by decide +kernel
theorem dL_act_195 : decode cL_act 195 = .ok (.invokevirtual 43, 3) := by decide +kernel
theorem dL_act_198 : decode cL_act 198 = .ok (.aload_n 1, 1) := by decide +kernel
theorem dL_act_199 : decode cL_act 199 = .ok (.getfield 35, 3) := by decide +kernel
theorem dL_act_202 : decode cL_act 202 = .ok (.arraylength, 1) := by decide +kernel
theorem dL_act_203 : decode cL_act 203 = .ok (.iconst 1, 1) := by decide +kernel
theorem dL_act_204 : decode cL_act 204 = .ok (.isub, 1) := by decide +kernel
theorem dL_act_205 : decode cL_act 205 = .ok (.if_icmp .ne 7, 3) := by decide +kernel
theorem dL_act_208 : decode cL_act 208 = .ok (.iconst 1, 1) := by decide +kernel
theorem dL_act_209 : decode cL_act 209 = .ok (.goto 4, 3) := by decide +kernel
theorem dL_act_212 : decode cL_act 212 = .ok (.iconst 0, 1) := by decide +kernel
theorem dL_act_213 : decode cL_act 213 = .ok (.ireturn, 1) := by decide +kernel
theorem dL_act_214 : decode cL_act 214 = .ok (.aload_n 1, 1) := by decide +kernel
theorem dL_act_215 : decode cL_act 215 = .ok (.getfield 35, 3) := by decide +kernel
theorem dL_act_218 : decode cL_act 218 = .ok (.arraylength, 1) := by decide +kernel
theorem dL_act_219 : decode cL_act 219 = .ok (.ifCond .ne 5, 3) := by decide +kernel
theorem dL_act_222 : decode cL_act 222 = .ok (.iconst 1, 1) := by decide +kernel
theorem dL_act_223 : decode cL_act 223 = .ok (.ireturn, 1) := by decide +kernel
theorem dL_act_224 : decode cL_act 224 = .ok (.iload_n 2, 1) := by decide +kernel
theorem dL_act_225 : decode cL_act 225 = .ok (.iconst 5, 1) := by decide +kernel
theorem dL_act_226 : decode cL_act 226 = .ok (.ishr, 1) := by decide +kernel
theorem dL_act_227 : decode cL_act 227 = .ok (.aload_n 1, 1) := by decide +kernel
theorem dL_act_228 : decode cL_act 228 = .ok (.getfield 35, 3) := by decide +kernel
theorem dL_act_231 : decode cL_act 231 = .ok (.arraylength, 1) := by decide +kernel
theorem dL_act_232 : decode cL_act 232 = .ok (.invokestatic 9, 3) := by decide +kernel
theorem dL_act_235 : decode cL_act 235 = .ok (.istore_n 3, 1) := by decide +kernel
theorem dL_act_236 : decode cL_act 236 = .ok (.aload_n 1, 1) := by decide +kernel
theorem dL_act_237 : decode cL_act 237 = .ok (.aload_n 1, 1) := by decide +kernel
theorem dL_act_238 : decode cL_act 238 = .ok (.getfield 35, 3) := by decide +kernel
theorem dL_act_241 : decode cL_act 241 = .ok (.iload_n 3, 1) := by decide +kernel
theorem dL_act_242 : decode cL_act 242 = .ok (.invokestatic 46, 3) := by decide +kernel
theorem dL_act_245 : decode cL_act 245 = .ok (.putfield 35, 3) := by decide +kernel
theorem dL_act_248 : decode cL_act 248 = .ok (.aload_n 0, 1) := by decide +kernel
theorem dL_act_249 : decode cL_act 249 = .ok (.iload_n 3, 1) := by decide +kernel
theorem dL_act_250 : decode cL_act 250 = .ok (.invokevirtual 50, 3) := by decide +kernel
theorem dL_act_253 : decode cL_act 253 = .ok (.aload_n 1, 1) := by decide +kernel
theorem dL_act_254 : decode cL_act 254 = .ok (.getfield 35, 3) := by decide +kernel
theorem dL_act_257 : decode cL_act 257 = .ok (.arraylength, 1) := by decide +kernel
theorem dL_act_258 : decode cL_act 258 = .ok (.if_icmp .ne 7, 3) := by decide +kernel
theorem dL_act_261 : decode cL_act 261 = .ok (.iconst 1, 1) := by decide +kernel
theorem dL_act_262 : decode cL_act 262 = .ok (.goto 4, 3) := by decide +kernel
theorem dL_act_265 : decode cL_act 265 = .ok (.iconst 0, 1) := by decide +kernel
theorem dL_act_266 : decode cL_act 266 = .ok (.ireturn, 1) := by decide +kernel
theorem dL_act_267 : decode cL_act 267 = .ok (.aload_n 1, 1) := by decide +kernel
theorem dL_act_268 : decode cL_act 268 = .ok (.getfield 53, 3) := by decide +kernel
theorem dL_act_271 : decode cL_act 271 = .ok (.arraylength, 1) := by decide +kernel
theorem dL_act_272 : decode cL_act 272 = .ok (.bipush 6, 2) := by decide +kernel
theorem dL_act_274 : decode cL_act 274 = .ok (.if_icmp .ne 5, 3) := by decide +kernel
theorem dL_act_277 : decode cL_act 277 = .ok (.iconst 1, 1) := by decide +kernel
theorem dL_act_278 : decode cL_act 278 = .ok (.ireturn, 1) := by decide +kernel
theorem dL_act_279 : decode cL_act 279 = .ok (.iconst 2, 1) := by decide +kernel
theorem dL_act_280 : decode cL_act 280 = .ok (.iload_n 2, 1) := by decide +kernel
theorem dL_act_281 : decode cL_act 281 = .ok (.iconst 4, 1) := by decide +kernel
theorem dL_act_282 : decode cL_act 282 = .ok (.ishr, 1) := by decide +kernel
theorem dL_act_283 : decode cL_act 283 = .ok (.iload_n 2, 1) := by decide +kernel
theorem dL_act_284 : decode cL_act 284 = .ok (.bipush 8, 2) := by decide +kernel
theorem dL_act_286 : decode cL_act 286 = .ok (.ishr, 1) := by decide +kernel
theorem dL_act_287 : decode cL_act 287 = .ok (.iconst 2, 1) := by decide +kernel
theorem dL_act_288 : decode cL_act 288 = .ok (.invokestatic 9, 3) := by decide +kernel
theorem dL_act_291 : decode cL_act 291 = .ok (.ifCond .ne 8, 3) := by decide +kernel
theorem dL_act_294 : decode cL_act 294 = .ok (.bipush 29, 2) := by decide +kernel
theorem dL_act_296 : decode cL_act 296 = .ok (.goto 5, 3) := by decide +kernel
theorem dL_act_299 : decode cL_act 299 = .ok (.bipush 6, 2) := by decide +kernel
theorem dL_act_301 : decode cL_act 301 = .ok (.invokestatic 9, 3) := by decide +kernel
theorem dL_act_304 : decode cL_act 304 = .ok (.iadd, 1) := by decide +kernel
theorem dL_act_305 : decode cL_act 305 = .ok (.istore_n 3, 1) := by decide +kernel
theorem dL_act_306 : decode cL_act 306 = .ok (.iconst 2, 1) := by decide +kernel
theorem dL_act_307 : decode cL_act 307 = .ok (.newarray .int, 2) := by decide +kernel
theorem dL_act_309 : decode cL_act 309 = .ok (.dup, 1) := by decide +kernel
theorem dL_act_310 : decode cL_act 310 = .ok (.iconst 0, 1) := by decide +kernel
theorem dL_act_311 : decode cL_act 311 = .ok (.iload_n 3, 1) := by decide +kernel
theorem dL_act_312 : decode cL_act 312 = .ok (.iastore, 1) := by decide +kernel
theorem dL_act_313 : decode cL_act 313 = .ok (.dup, 1) := by decide +kernel
theorem dL_act_314 : decode cL_act 314 = .ok (.iconst 1, 1) := by decide +kernel
theorem dL_act_315 : decode cL_act 315 = .ok (.iload_n 2, 1) := by decide +kernel
theorem dL_act_316 : decode cL_act 316 = .ok (.bipush 6, 2) := by decide +kernel
theorem dL_act_318 : decode cL_act 318 = .ok (.ishr, 1) := by decide +kernel
theorem dL_act_319 : decode cL_act 319 = .ok (.iload_n 3, 1) := by decide +kernel
theorem dL_act_320 : decode cL_act 320 = .ok (.invokestatic 9, 3) := by decide +kernel
theorem dL_act_323 : decode cL_act 323 = .ok (.iastore, 1) := by decide +kernel
theorem dL_act_324 : decode cL_act 324 = .ok (.astore 4, 2) := by decide +kernel
theorem dL_act_326 : decode cL_act 326 = .ok (.aload_n 1, 1) := by decide +kernel
theorem dL_act_327 : decode cL_act 327 = .ok (.aload_n 1, 1) := by decide +kernel
theorem dL_act_328 : decode cL_act 328 = .ok (.getfield 53, 3) := by decide +kernel
theorem dL_act_331 : decode cL_act 331 = .ok (.aload 4, 2) := by decide +kernel
theorem dL_act_333 : decode cL_act 333 = .ok (.invokestatic 39, 3) := by decide +kernel
theorem dL_act_336 : decode cL_act 336 = .ok (.putfield 53, 3) := by decide +kernel
theorem dL_act_339 : decode cL_act 339 = .ok (.aload_n 0, 1) := by decide +kernel
theorem dL_act_340 : decode cL_act 340 = .ok (.aload 4, 2) := by decide +kernel
theorem dL_act_342 : decode cL_act 342 = .ok (.iconst 0, 1) := by decide +kernel
theorem dL_act_343 : decode cL_act 343 = .ok (.iaload, 1) := by decide +kernel
theorem dL_act_344 : decode cL_act 344 = .ok (.aload 4, 2) := by decide +kernel
theorem dL_act_346 : decode cL_act 346 = .ok (.iconst 1, 1) := by decide +kernel
theorem dL_act_347 : decode cL_act 347 = .ok (.iaload, 1) := by decide +kernel
theorem dL_act_348 : decode cL_act 348 = .ok (.invokevirtual 56, 3) := by decide +kernel
theorem dL_act_351 : decode cL_act 351 = .ok (.aload_n 1, 1) := by decide +kernel
theorem dL_act_352 : decode cL_act 352 = .ok (.getfield 53, 3) := by decide +kernel
theorem dL_act_355 : decode cL_act 355 = .ok (.arraylength, 1) := by decide +kernel
theorem dL_act_356 : decode cL_act 356 = .ok (.iconst 1, 1) := by decide +kernel
theorem dL_act_357 : decode cL_act 357 = .ok (.isub, 1) := by decide +kernel
theorem dL_act_358 : decode cL_act 358 = .ok (.if_icmp .ne 7, 3) := by decide +kernel
theorem dL_act_361 : decode cL_act 361 = .ok (.iconst 1, 1) := by decide +kernel
theorem dL_act_362 : decode cL_act 362 = .ok (.goto 4, 3) := by decide +kernel
theorem dL_act_365 : decode cL_act 365 = .ok (.iconst 0, 1) := by decide +kernel
theorem dL_act_366 : decode cL_act 366 = .ok (.ireturn, 1) := by decide +kernel
theorem dL_act_367 : decode cL_act 367 = .ok (.aload_n 1, 1) := by decide +kernel
theorem dL_act_368 : decode cL_act 368 = .ok (.iconst 1, 1) := by decide +kernel
theorem dL_act_369 : decode cL_act 369 = .ok (.iload_n 2, 1) := by decide +kernel
theorem dL_act_370 : decode cL_act 370 = .ok (.iconst 4, 1) := by decide +kernel
theorem dL_act_371 : decode cL_act 371 = .ok (.ishr, 1) := by decide +kernel
theorem dL_act_372 : decode cL_act 372 = .ok (.bipush 50, 2) := by decide +kernel
theorem dL_act_374 : decode cL_act 374 = .ok (.invokestatic 9, 3) := by decide +kernel
theorem dL_act_377 : decode cL_act 377 = .ok (.iadd, 1) := by decide +kernel
theorem dL_act_378 : decode cL_act 378 = .ok (.putfield 59, 3) := by decide +kernel
theorem dL_act_381 : decode cL_act 381 = .ok (.aload_n 1, 1) := by decide +kernel
theorem dL_act_382 : decode cL_act 382 = .ok (.iload_n 2, 1) := by decide +kernel
theorem dL_act_383 : decode cL_act 383 = .ok (.bipush 6, 2) := by decide +kernel
theorem dL_act_385 : decode cL_act 385 = .ok (.ishr, 1) := by decide +kernel
theorem dL_act_386 : decode cL_act 386 = .ok (.iload_n 2, 1) := by decide +kernel
theorem dL_act_387 : decode cL_act 387 = .ok (.bipush 9, 2) := by decide +kernel
theorem dL_act_389 : decode cL_act 389 = .ok (.ishr, 1) := by decide +kernel
theorem dL_act_390 : decode cL_act 390 = .ok (.iconst 2, 1) := by decide +kernel
theorem dL_act_391 : decode cL_act 391 = .ok (.invokestatic 9, 3) := by decide +kernel
theorem dL_act_394 : decode cL_act 394 = .ok (.ifCond .ne 8, 3) := by decide +kernel
theorem dL_act_397 : decode cL_act 397 = .ok (.bipush 10, 2) := by decide +kernel
theorem dL_act_399 : decode cL_act 399 = .ok (.goto 4, 3) := by decide +kernel
theorem dL_act_402 : decode cL_act 402 = .ok (.iconst 4, 1) := by decide +kernel
theorem dL_act_403 : decode cL_act 403 = .ok (.invokestatic 9, 3) := by decide +kernel
theorem dL_act_406 : decode cL_act 406 = .ok (.putfield 63, 3) := by decide +kernel
theorem dL_act_409 : decode cL_act 409 = .ok (.aload_n 1, 1) := by decide +kernel
theorem dL_act_410 : decode cL_act 410 = .ok (.iload_n 2, 1) := by decide +kernel
theorem dL_act_411 : decode cL_act 411 = .ok (.bipush 7, 2) := by decide +kernel
theorem dL_act_413 : decode cL_act 413 = .ok (.ishr, 1) := by decide +kernel
theorem dL_act_414 : decode cL_act 414 = .ok (.bipush 10, 2) := by decide +kernel
theorem dL_act_416 : decode cL_act 416 = .ok (.invokestatic 9, 3) := by decide +kernel
theorem dL_act_419 : decode cL_act 419 = .ok (.putfield 66, 3) := by decide +kernel
theorem dL_act_422 : decode cL_act 422 = .ok (.aload_n 1, 1) := by decide +kernel
theorem dL_act_423 : decode cL_act 423 = .ok (.getfield 69, 3) := by decide +kernel
theorem dL_act_426 : decode cL_act 426 = .ok (.aload_n 1, 1) := by decide +kernel
theorem dL_act_427 : decode cL_act 427 = .ok (.getfield 59, 3) := by decide +kernel
theorem dL_act_430 : decode cL_act 430 = .ok (.if_icmp .le 15, 3) := by decide +kernel
theorem dL_act_433 : decode cL_act 433 = .ok (.aload_n 1, 1) := by decide +kernel
theorem dL_act_434 : decode cL_act 434 = .ok (.getfield 69, 3) := by decide +kernel
theorem dL_act_437 : decode cL_act 437 = .ok (.aload_n 1, 1) := by decide +kernel
theorem dL_act_438 : decode cL_act 438 = .ok (.getfield 59, 3) := by decide +kernel
theorem dL_act_441 : decode cL_act 441 = .ok (.isub, 1) := by decide +kernel
theorem dL_act_442 : decode cL_act 442 = .ok (.goto 4, 3) := by decide +kernel
theorem dL_act_445 : decode cL_act 445 = .ok (.iconst 0, 1) := by decide +kernel
theorem dL_act_446 : decode cL_act 446 = .ok (.istore_n 3, 1) := by decide +kernel
theorem dL_act_447 : decode cL_act 447 = .ok (.aload_n 1, 1) := by decide +kernel
theorem dL_act_448 : decode cL_act 448 = .ok (.dup, 1) := by decide +kernel
theorem dL_act_449 : decode cL_act 449 = .ok (.getfield 69, 3) := by decide +kernel
theorem dL_act_452 : decode cL_act 452 = .ok (.iload_n 3, 1) := by decide +kernel
theorem dL_act_453 : decode cL_act 453 = .ok (.isub, 1) := by decide +kernel
theorem dL_act_454 : decode cL_act 454 = .ok (.putfield 69, 3) := by decide +kernel
theorem dL_act_457 : decode cL_act 457 = .ok (.aload_n 1, 1) := by decide +kernel
theorem dL_act_458 : decode cL_act 458 = .ok (.dup, 1) := by decide +kernel
theorem dL_act_459 : decode cL_act 459 = .ok (.getfield 72, 3) := by decide +kernel
theorem dL_act_462 : decode cL_act 462 = .ok (.iload_n 3, 1) := by decide +kernel
theorem dL_act_463 : decode cL_act 463 = .ok (.iadd, 1) := by decide +kernel
theorem dL_act_464 : decode cL_act 464 = .ok (.putfield 72, 3) := by decide +kernel
theorem dL_act_467 : decode cL_act 467 = .ok (.aload_n 0, 1) := by decide +kernel
theorem dL_act_468 : decode cL_act 468 = .ok (.aload_n 1, 1) := by decide +kernel
theorem dL_act_469 : decode cL_act 469 = .ok (.getfield 59, 3) := by decide +kernel
theorem dL_act_472 : decode cL_act 472 = .ok (.aload_n 1, 1) := by decide +kernel
theorem dL_act_473 : decode cL_act 473 = .ok (.getfield 63, 3) := by decide +kernel
theorem dL_act_476 : decode cL_act 476 = .ok (.aload_n 1, 1) := by decide +kernel
theorem dL_act_477 : decode cL_act 477 = .ok (.getfield 66, 3) := by decide +kernel
theorem dL_act_480 : decode cL_act 480 = .ok (.invokevirtual 75, 3) := by decide +kernel
theorem dL_act_483 : decode cL_act 483 = .ok (.iload_n 3, 1) := by decide +kernel
theorem dL_act_484 : decode cL_act 484 = .ok (.if_icmp .ne 7, 3) := by decide +kernel
theorem dL_act_487 : decode cL_act 487 = .ok (.iconst 1, 1) := by decide +kernel
theorem dL_act_488 : decode cL_act 488 = .ok (.goto 4, 3) := by decide +kernel
theorem dL_act_491 : decode cL_act 491 = .ok (.iconst 0, 1) := by decide +kernel
theorem dL_act_492 : decode cL_act 492 = .ok (.ireturn, 1) := by decide +kernel
theorem dL_act_493 : decode cL_act 493 = .ok (.iload_n 2, 1) := by decide +kernel
theorem dL_act_494 : decode cL_act 494 = .ok (.iconst 5, 1) := by decide +kernel
theorem dL_act_495 : decode cL_act 495 = .ok (.ishr, 1) := by decide +kernel
theorem dL_act_496 : decode cL_act 496 = .ok (.iconst 3, 1) := by decide +kernel
theorem dL_act_497 : decode cL_act 497 = .ok (.invokestatic 9, 3) := by decide +kernel
theorem dL_act_500 : decode cL_act 500 = .ok (.ifCond .le 5, 3) := by decide +kernel
theorem dL_act_503 : decode cL_act 503 = .ok (.iconst 1, 1) := by decide +kernel
theorem dL_act_504 : decode cL_act 504 = .ok (.ireturn, 1) := by decide +kernel
theorem dL_act_505 : decode cL_act 505 = .ok (.aload_n 1, 1) := by decide +kernel
theorem dL_act_506 : decode cL_act 506 = .ok (.dup, 1) := by decide +kernel
theorem dL_act_507 : decode cL_act 507 = .ok (.getfield 79, 3) := by decide +kernel
theorem dL_act_510 : decode cL_act 510 = .ok (.iconst 1, 1) := by decide +kernel
theorem dL_act_511 : decode cL_act 511 = .ok (.iadd, 1) := by decide +kernel
theorem dL_act_512 : decode cL_act 512 = .ok (.putfield 79, 3) := by decide +kernel
theorem dL_act_515 : decode cL_act 515 = .ok (.aload_n 1, 1) := by decide +kernel
theorem dL_act_516 : decode cL_act 516 = .ok (.iconst 0, 1) := by decide +kernel
theorem dL_act_517 : decode cL_act 517 = .ok (.putfield 82, 3) := by decide +kernel
theorem dL_act_520 : decode cL_act 520 = .ok (.aload_n 1, 1) := by decide +kernel
theorem dL_act_521 : decode cL_act 521 = .ok (.iconst 0, 1) := by decide +kernel
theorem dL_act_522 : decode cL_act 522 = .ok (.putfield 69, 3) := by decide +kernel
theorem dL_act_525 : decode cL_act 525 = .ok (.aload_n 1, 1) := by decide +kernel
theorem dL_act_526 : decode cL_act 526 = .ok (.iconst 0, 1) := by decide +kernel
theorem dL_act_527 : decode cL_act 527 = .ok (.putfield 72, 3) := by decide +kernel
theorem dL_act_530 : decode cL_act 530 = .ok (.aload_n 0, 1) := by decide +kernel
theorem dL_act_531 : decode cL_act 531 = .ok (.invokevirtual 85, 3) := by decide +kernel
theorem dL_act_534 : decode cL_act 534 = .ok (.aload_n 1, 1) := by decide +kernel
theorem dL_act_535 : decode cL_act 535 = .ok (.getfield 79, 3) := by decide +kernel
theorem dL_act_538 : decode cL_act 538 = .ok (.if_icmp .ne 7, 3) := by decide +kernel
theorem dL_act_541 : decode cL_act 541 = .ok (.iconst 1, 1) := by decide +kernel
theorem dL_act_542 : decode cL_act 542 = .ok (.goto 4, 3) := by decide +kernel
theorem dL_act_545 : decode cL_act 545 = .ok (.iconst 0, 1) := by decide +kernel
theorem dL_act_546 : decode cL_act 546 = .ok (.ireturn, 1) := by decide +kernel
theorem dL_act_547 : decode cL_act 547 = .ok (.iconst 1, 1) := by decide +kernel
theorem dL_act_548 : decode cL_act 548 = .ok (.iload_n 2, 1) := by decide +kernel
theorem dL_act_549 : decode cL_act 549 = .ok (.iconst 4, 1) := by decide +kernel
theorem dL_act_550 : decode cL_act 550 = .ok (.ishr, 1) := by decide +kernel
theorem dL_act_551 : decode cL_act 551 = .ok (.iload_n 2, 1) := by decide +kernel
theorem dL_act_552 : decode cL_act 552 = .ok (.bipush 8, 2) := by decide +kernel
theorem dL_act_554 : decode cL_act 554 = .ok (.ishr, 1) := by decide +kernel
theorem dL_act_555 : decode cL_act 555 = .ok (.iconst 4, 1) := by decide +kernel
theorem dL_act_556 : decode cL_act 556 = .ok (.invokestatic 9, 3) := by decide +kernel
theorem dL_act_559 : decode cL_act 559 = .ok (.ifCond .ne 9, 3) := by decide +kernel
theorem dL_act_562 : decode cL_act 562 = .ok (.sipush 360, 3) := by decide +kernel
theorem dL_act_565 : decode cL_act 565 = .ok (.goto 5, 3) := by decide +kernel
theorem dL_act_568 : decode cL_act 568 = .ok (.bipush 30, 2) := by decide +kernel
theorem dL_act_570 : decode cL_act 570 = .ok (.invokestatic 9, 3) := by decide +kernel
theorem dL_act_573 : decode cL_act 573 = .ok (.iadd, 1) := by decide +kernel
theorem dL_act_574 : decode cL_act 574 = .ok (.istore_n 3, 1) := by decide +kernel
theorem dL_act_575 : decode cL_act 575 = .ok (.aload_n 1, 1) := by decide +kernel
theorem dL_act_576 : decode cL_act 576 = .ok (.getfield 82, 3) := by decide +kernel
theorem dL_act_579 : decode cL_act 579 = .ok (.iload_n 3, 1) := by decide +kernel
theorem dL_act_580 : decode cL_act 580 = .ok (.iadd, 1) := by decide +kernel
theorem dL_act_581 : decode cL_act 581 = .ok (.sipush 360, 3) := by decide +kernel
theorem dL_act_584 : decode cL_act 584 = .ok (.if_icmp .le 5, 3) := by decide +kernel
theorem dL_act_587 : decode cL_act 587 = .ok (.iconst 1, 1) := by decide +kernel
theorem dL_act_588 : decode cL_act 588 = .ok (.ireturn, 1) := by decide +kernel
theorem dL_act_589 : decode cL_act 589 = .ok (.aload_n 0, 1) := by decide +kernel
theorem dL_act_590 : decode cL_act 590 = .ok (.iload_n 3, 1) := by decide +kernel
theorem dL_act_591 : decode cL_act 591 = .ok (.invokevirtual 89, 3) := by decide +kernel
theorem dL_act_594 : decode cL_act 594 = .ok (.aload_n 1, 1) := by decide +kernel
theorem dL_act_595 : decode cL_act 595 = .ok (.iload_n 3, 1) := by decide +kernel
theorem dL_act_596 : decode cL_act 596 = .ok (.invokevirtual 92, 3) := by decide +kernel
theorem dL_act_599 : decode cL_act 599 = .ok (.if_icmp .ne 7, 3) := by decide +kernel
theorem dL_act_602 : decode cL_act 602 = .ok (.iconst 1, 1) := by decide +kernel
theorem dL_act_603 : decode cL_act 603 = .ok (.goto 4, 3) := by decide +kernel
theorem dL_act_606 : decode cL_act 606 = .ok (.iconst 0, 1) := by decide +kernel
theorem dL_act_607 : decode cL_act 607 = .ok (.ireturn, 1) := by decide +kernel
set_option maxRecDepth 20000 in
theorem ggL_build_X1_init : GoodIn wsL_build wsX1_init := goodIn_r _ [5, 6, 7, 8, 9, 10, 11, 12, 13, 14, 15, 16, 156, 157, 158, 159, 160, 161, 162, 163, 164, 165] (by decide +kernel) (by decide +kernel)
set_option maxRecDepth 20000 in
theorem gL_build_X1_init_n93 : GoodIn wsL_build (wsX1_init) := ggL_build_X1_init
set_option maxRecDepth 20000 in
theorem ggL_build_L_cell : GoodIn wsL_build wsL_cell := goodIn_r _ [20, 21] (by decide +kernel) (by decide +kernel)
set_option maxRecDepth 20000 in
theorem gL_build_L_cell : GoodIn wsL_build (va_wsS RL 94 yL_cell wsL_cell) := goodIn_app (goodIn_of _ (by decide +kernel)) ggL_build_L_cell
set_option maxRecDepth 20000 in
theorem ggL_build_L_below : GoodIn wsL_build wsL_below := goodIn_r _ [24, 25] (by decide +kernel) (by decide +kernel)
set_option maxRecDepth 20000 in
theorem gL_build_L_below : GoodIn wsL_build (va_wsS RL 9 yL_below wsL_below) := goodIn_app (goodIn_of _ (by decide +kernel)) ggL_build_L_below
set_option maxRecDepth 20000 in
theorem ggL_build_L_act : GoodIn wsL_build wsL_act := goodIn_ca (goodIn_ca (goodIn_ca (goodIn_r _ [28, 29, 30, 31, 32, 33, 34, 9, 35, 36, 37, 38, 39, 40, 41, 42, 22, 23, 19, 24, 25, 43, 44, 45, 3, 46, 10, 47, 48, 49, 50, 51, 52, 53, 54, 55, 56, 57, 58, 59, 60, 11, 61, 62, 63, 64, 65, 66, 67, 68, 69, 70, 71, 72, 73, 74, 75, 76, 77, 78, 79, 80, 81, 82, 83, 84, 85, 86, 87, 88, 89, 90, 91, 92, 93, 94, 95, 96, 97, 98, 99, 100, 101, 102, 103, 104, 105, 106, 107, 108, 109, 110, 111, 112, 113, 114, 115, 116, 117, 118, 119, 120, 121, 122, 123, 124, 125, 126, 127, 128, 129, 130, 131, 132, 133, 134, 135, 136, 137, 138, 139, 140, 141, 142, 143, 144, 145, 146, 15, 13, 16, 14, 147, 148, 149, 150, 151, 12, 152, 153, 154, 155, 156, 157, 158, 159, 160, 161, 162, 163, 164, 165, 166, 167, 168, 169, 170, 171, 172, 173, 174, 175, 176, 177, 178, 179, 180, 181, 182] rfl (by decide +kernel)) (goodIn_sub (fun _ h => List.mem_cons_of_mem _ (List.mem_append_left _ (List.mem_append_left _ (List.mem_append_right _ h)))) (by decide +kernel))) (goodIn_sub (fun _ h => List.mem_cons_of_mem _ (List.mem_append_left _ (List.mem_append_right _ h))) (by decide +kernel))) (goodIn_sub (fun _ h => List.mem_cons_of_mem _ (List.mem_append_right _ h)) (by decide +kernel))
set_option maxRecDepth 20000 in
theorem gL_build_L_act : GoodIn wsL_build (va_wsS RL 98 yL_act wsL_act) := goodIn_app (goodIn_of _ (by decide +kernel)) ggL_build_L_act
theorem dL_build_0 : decode cL_build 0 = .ok (.new 16, 3) := by decide +kernel
theorem dL_build_3 : decode cL_build 3 = .ok (.dup, 1) := by decide +kernel
theorem dL_build_4 : decode cL_build 4 = .ok (.invokespecial 93, 3) := by decide +kernel
theorem dL_build_7 : decode cL_build 7 = .ok (.astore_n 2, 1) := by decide +kernel
theorem dL_build_8 : decode cL_build 8 = .ok (.iconst 4, 1) := by decide +kernel
theorem dL_build_9 : decode cL_build 9 = .ok (.aload_n 1, 1) := by decide +kernel
theorem dL_build_10 : decode cL_build 10 = .ok (.iconst 0, 1) := by decide +kernel
theorem dL_build_11 : decode cL_build 11 = .ok (.invokestatic 94, 3) := by decide +kernel
theorem dL_build_14 : decode cL_build 14 = .ok (.bipush 14, 2) := by decide +kernel
theorem dL_build_16 : decode cL_build 16 = .ok (.invokestatic 9, 3) := by decide +kernel
theorem dL_build_19 : decode cL_build 19 = .ok (.iadd, 1) := by decide +kernel
theorem dL_build_20 : decode cL_build 20 = .ok (.istore_n 3, 1) := by decide +kernel
theorem dL_build_21 : decode cL_build 21 = .ok (.iconst 0, 1) := by decide +kernel
theorem dL_build_22 : decode cL_build 22 = .ok (.istore 4, 2) := by decide +kernel
theorem dL_build_24 : decode cL_build 24 = .ok (.iload 4, 2) := by decide +kernel
theorem dL_build_26 : decode cL_build 26 = .ok (.iload_n 3, 1) := by decide +kernel
theorem dL_build_27 : decode cL_build 27 = .ok (.if_icmp .ge 44, 3) := by decide +kernel
theorem dL_build_30 : decode cL_build 30 = .ok (.aload_n 0, 1) := by decide +kernel
theorem dL_build_31 : decode cL_build 31 = .ok (.aload_n 2, 1) := by decide +kernel
theorem dL_build_32 : decode cL_build 32 = .ok (.aload_n 1, 1) := by decide +kernel
theorem dL_build_33 : decode cL_build 33 = .ok (.iconst 1, 1) := by decide +kernel
theorem dL_build_34 : decode cL_build 34 = .ok (.iload 4, 2) := by decide +kernel
theorem dL_build_36 : decode cL_build 36 = .ok (.bipush 15, 2) := by decide +kernel
theorem dL_build_38 : decode cL_build 38 = .ok (.irem, 1) := by decide +kernel
theorem dL_build_39 : decode cL_build 39 = .ok (.iadd, 1) := by decide +kernel
theorem dL_build_40 : decode cL_build 40 = .ok (.invokestatic 94, 3) := by decide +kernel
theorem dL_build_43 : decode cL_build 43 = .ok (.iload 4, 2) := by decide +kernel
theorem dL_build_45 : decode cL_build 45 = .ok (.bipush 15, 2) := by decide +kernel
theorem dL_build_47 : decode cL_build 47 = .ok (.idiv, 1) := by decide +kernel
theorem dL_build_48 : decode cL_build 48 = .ok (.iconst 3, 1) := by decide +kernel
theorem dL_build_49 : decode cL_build 49 = .ok (.imul, 1) := by decide +kernel
theorem dL_build_50 : decode cL_build 50 = .ok (.ishr, 1) := by decide +kernel
theorem dL_build_51 : decode cL_build 51 = .ok (.bipush 41, 2) := by decide +kernel
theorem dL_build_53 : decode cL_build 53 = .ok (.iload 4, 2) := by decide +kernel
theorem dL_build_55 : decode cL_build 55 = .ok (.imul, 1) := by decide +kernel
theorem dL_build_56 : decode cL_build 56 = .ok (.iadd, 1) := by decide +kernel
theorem dL_build_57 : decode cL_build 57 = .ok (.invokestatic 98, 3) := by decide +kernel
theorem dL_build_60 : decode cL_build 60 = .ok (.ifCond .ne 5, 3) := by decide +kernel
theorem dL_build_63 : decode cL_build 63 = .ok (.aconst_null, 1) := by decide +kernel
theorem dL_build_64 : decode cL_build 64 = .ok (.areturn, 1) := by decide +kernel
theorem dL_build_65 : decode cL_build 65 = .ok (.iinc 4 1, 3) := by decide +kernel
theorem dL_build_68 : decode cL_build 68 = .ok (.goto (-44), 3) := by decide +kernel
theorem dL_build_71 : decode cL_build 71 = .ok (.aload_n 2, 1) := by decide +kernel
theorem dL_build_72 : decode cL_build 72 = .ok (.areturn, 1) := by decide +kernel
