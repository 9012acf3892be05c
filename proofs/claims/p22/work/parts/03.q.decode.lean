set_option maxRecDepth 20000 in
theorem ggL_acts_L_appeals : GoodIn wsL_acts wsL_appeals := goodIn_ca (goodIn_ca (goodIn_ca (goodIn_r _ [399, 1, 2, 3, 4, 5, 6, 400, 401, 402, 64, 15, 184, 403, 404, 405, 19, 406, 69, 70, 23, 24, 254, 272, 237, 238, 239, 240, 193, 201, 202, 203, 204, 205, 289, 290, 291, 196, 292, 293, 224, 283, 284, 285, 286, 287, 288, 259, 260, 261, 262, 263, 264, 265, 266, 267, 218, 268, 269, 270, 271, 253, 273, 274, 275, 276, 83, 277, 278, 279, 280, 281, 282, 130, 131, 132, 73, 133, 91, 89, 134, 135, 136, 95, 137, 138, 127, 139, 128, 140, 129, 141, 245, 246, 247, 14, 10, 248, 249, 250, 251, 21, 22, 252, 255, 256, 257, 258, 453, 454, 455, 456, 457, 458, 459, 460, 461, 462, 427, 428, 429, 430, 431, 432, 433, 434, 435, 436, 443, 444, 445, 446, 463, 450, 451, 452, 447, 448, 449] (by decide +kernel) (by decide +kernel)) (goodIn_sub (fun _ h => List.mem_cons_of_mem _ (List.mem_append_right _ h)) (by decide +kernel))) (goodIn_sub (fun _ h => List.mem_cons_of_mem _ (List.mem_append_left _ (List.mem_append_right _ h))) (by decide +kernel))) (goodIn_sub (fun _ h => List.mem_cons_of_mem _ (List.mem_append_left _ (List.mem_append_left _ (List.mem_append_right _ h)))) (by decide +kernel))
set_option maxRecDepth 20000 in
theorem gL_acts_L_appeals : GoodIn wsL_acts (va_wsS RL 170 yL_appeals wsL_appeals) := goodIn_app (goodIn_of _ (by decide +kernel)) ggL_acts_L_appeals
set_option maxRecDepth 20000 in
theorem ggL_acts_L_isDuel : GoodIn wsL_acts wsL_isDuel := goodIn_ca (goodIn_ca (goodIn_r _ [409, 10, 60, 56, 245, 246, 4, 247, 64, 14, 184, 248, 249, 250, 19, 251, 69, 70, 21, 22, 252, 253, 254, 237, 238, 239, 240, 193, 255, 256, 257, 258, 259, 260, 261, 262, 263, 264, 265, 266, 196, 267, 218, 268, 269, 270, 271, 272, 201, 202, 203, 204, 205, 273, 274, 275, 276, 83, 277, 278, 279, 280, 281, 282, 130, 131, 132, 73, 133, 91, 89, 134, 135, 136, 95, 137, 138, 127, 139, 128, 140, 129, 141, 283, 284, 285, 286, 287, 288, 289, 290, 291, 292, 293, 224, 410, 411, 412, 413, 414, 415, 416, 453, 454, 455, 456, 457, 458, 459, 460, 461, 462, 427, 428, 429, 430, 431, 432, 433, 434, 435, 436, 443, 444, 445, 446, 463, 450, 451, 452, 447, 448, 449] (by decide +kernel) (by decide +kernel)) (goodIn_sub (fun _ h => List.mem_cons_of_mem _ (List.mem_append_right _ h)) (by decide +kernel))) (goodIn_sub (fun _ h => List.mem_cons_of_mem _ (List.mem_append_left _ (List.mem_append_left _ (List.mem_append_right _ h)))) (by decide +kernel))
set_option maxRecDepth 20000 in
theorem gL_acts_L_isDuel : GoodIn wsL_acts (va_wsS RL 173 yL_isDuel wsL_isDuel) := goodIn_app (goodIn_of _ (by decide +kernel)) ggL_acts_L_isDuel
set_option maxRecDepth 20000 in
theorem ggL_acts_L_areWon : GoodIn wsL_acts wsL_areWon := goodIn_ca (goodIn_ca (goodIn_r _ [419, 420, 421, 4, 422, 64, 184, 423, 424, 425, 19, 426, 69, 70, 193, 198, 199, 200, 33, 34, 35, 283, 284, 285, 286, 287, 288, 289, 290, 291, 196, 292, 293, 224, 259, 260, 261, 262, 263, 264, 265, 266, 267, 218, 268, 269, 270, 271, 272, 253, 254, 201, 202, 203, 204, 205, 273, 274, 275, 276, 83, 277, 278, 279, 280, 281, 282, 130, 131, 132, 73, 133, 91, 89, 134, 135, 136, 95, 137, 138, 127, 139, 128, 140, 129, 141, 245, 246, 247, 14, 10, 248, 249, 250, 251, 21, 22, 252, 237, 238, 239, 240, 255, 256, 257, 258, 427, 428, 429, 430, 431, 432, 433, 434, 435, 436, 453, 454, 455, 456, 457, 458, 459, 460, 461, 462, 443, 444, 445, 446, 463, 450, 451, 452, 447, 448, 449] (by decide +kernel) (by decide +kernel)) (goodIn_sub (fun _ h => List.mem_cons_of_mem _ (List.mem_append_right _ h)) (by decide +kernel))) (goodIn_sub (fun _ h => List.mem_cons_of_mem _ (List.mem_append_left _ (List.mem_append_left _ (List.mem_append_right _ h)))) (by decide +kernel))
set_option maxRecDepth 20000 in
theorem gL_acts_L_areWon : GoodIn wsL_acts (va_wsS RL 176 yL_areWon wsL_areWon) := goodIn_app (goodIn_of _ (by decide +kernel)) ggL_acts_L_areWon
theorem dL_acts_0 : decode cL_acts 0 = .ok (.iload 6, 2) := by decide +kernel
theorem dL_acts_2 : decode cL_acts 2 = .ok (.bipush 16, 2) := by decide +kernel
theorem dL_acts_4 : decode cL_acts 4 = .ok (.invokestatic 102, 3) := by decide +kernel
theorem dL_acts_7 : decode cL_acts 7 = .ok (.istore 8, 2) := by decide +kernel
theorem dL_acts_9 : decode cL_acts 9 = .ok (.iload 8, 2) := by decide +kernel
theorem dL_acts_11 : decode cL_acts 11 = .ok (.iconst 3, 1) := by decide +kernel
theorem dL_acts_12 : decode cL_acts 12 = .ok (.if_icmp .ge 34, 3) := by decide +kernel
theorem dL_acts_15 : decode cL_acts 15 = .ok (.aload_n 0, 1) := by decide +kernel
theorem dL_acts_16 : decode cL_acts 16 = .ok (.aload_n 1, 1) := by decide +kernel
theorem dL_acts_17 : decode cL_acts 17 = .ok (.iload 6, 2) := by decide +kernel
theorem dL_acts_19 : decode cL_acts 19 = .ok (.iconst 4, 1) := by decide +kernel
theorem dL_acts_20 : decode cL_acts 20 = .ok (.ishr, 1) := by decide +kernel
theorem dL_acts_21 : decode cL_acts 21 = .ok (.iload 7, 2) := by decide +kernel
theorem dL_acts_23 : decode cL_acts 23 = .ok (.invokestatic 139, 3) := by decide +kernel
theorem dL_acts_26 : decode cL_acts 26 = .ok (.ifCond .eq 18, 3) := by decide +kernel
theorem dL_acts_29 : decode cL_acts 29 = .ok (.aload_n 0, 1) := by decide +kernel
theorem dL_acts_30 : decode cL_acts 30 = .ok (.aload_n 1, 1) := by decide +kernel
theorem dL_acts_31 : decode cL_acts 31 = .ok (.aload_n 2, 1) := by decide +kernel
theorem dL_acts_32 : decode cL_acts 32 = .ok (.iload 7, 2) := by decide +kernel
theorem dL_acts_34 : decode cL_acts 34 = .ok (.invokestatic 143, 3) := by decide +kernel
theorem dL_acts_37 : decode cL_acts 37 = .ok (.ifCond .eq 7, 3) := by decide +kernel
theorem dL_acts_40 : decode cL_acts 40 = .ok (.iconst 1, 1) := by decide +kernel
theorem dL_acts_41 : decode cL_acts 41 = .ok (.goto 4, 3) := by decide +kernel
theorem dL_acts_44 : decode cL_acts 44 = .ok (.iconst 0, 1) := by decide +kernel
theorem dL_acts_45 : decode cL_acts 45 = .ok (.ireturn, 1) := by decide +kernel
theorem dL_acts_46 : decode cL_acts 46 = .ok (.iload 8, 2) := by decide +kernel
theorem dL_acts_48 : decode cL_acts 48 = .ok (.iconst 3, 1) := by decide +kernel
theorem dL_acts_49 : decode cL_acts 49 = .ok (.if_icmp .ne 10, 3) := by decide +kernel
theorem dL_acts_52 : decode cL_acts 52 = .ok (.aload_n 0, 1) := by decide +kernel
theorem dL_acts_53 : decode cL_acts 53 = .ok (.aload_n 1, 1) := by decide +kernel
theorem dL_acts_54 : decode cL_acts 54 = .ok (.aload_n 2, 1) := by decide +kernel
theorem dL_acts_55 : decode cL_acts 55 = .ok (.invokestatic 147, 3) := by decide +kernel
theorem dL_acts_58 : decode cL_acts 58 = .ok (.ireturn, 1) := by decide +kernel
theorem dL_acts_59 : decode cL_acts 59 = .ok (.iload 8, 2) := by decide +kernel
theorem dL_acts_61 : decode cL_acts 61 = .ok (.iconst 4, 1) := by decide +kernel
theorem dL_acts_62 : decode cL_acts 62 = .ok (.if_icmp .ne 17, 3) := by decide +kernel
theorem dL_acts_65 : decode cL_acts 65 = .ok (.aload_n 0, 1) := by decide +kernel
theorem dL_acts_66 : decode cL_acts 66 = .ok (.aload_n 1, 1) := by decide +kernel
theorem dL_acts_67 : decode cL_acts 67 = .ok (.aload 5, 2) := by decide +kernel
theorem dL_acts_69 : decode cL_acts 69 = .ok (.iload 6, 2) := by decide +kernel
theorem dL_acts_71 : decode cL_acts 71 = .ok (.iconst 4, 1) := by decide +kernel
theorem dL_acts_72 : decode cL_acts 72 = .ok (.ishr, 1) := by decide +kernel
theorem dL_acts_73 : decode cL_acts 73 = .ok (.iload 7, 2) := by decide +kernel
theorem dL_acts_75 : decode cL_acts 75 = .ok (.invokestatic 151, 3) := by decide +kernel
theorem dL_acts_78 : decode cL_acts 78 = .ok (.ireturn, 1) := by decide +kernel
theorem dL_acts_79 : decode cL_acts 79 = .ok (.iload 8, 2) := by decide +kernel
theorem dL_acts_81 : decode cL_acts 81 = .ok (.iconst 5, 1) := by decide +kernel
theorem dL_acts_82 : decode cL_acts 82 = .ok (.if_icmp .ne 12, 3) := by decide +kernel
theorem dL_acts_85 : decode cL_acts 85 = .ok (.aload_n 0, 1) := by decide +kernel
theorem dL_acts_86 : decode cL_acts 86 = .ok (.aload_n 1, 1) := by decide +kernel
theorem dL_acts_87 : decode cL_acts 87 = .ok (.aload_n 3, 1) := by decide +kernel
theorem dL_acts_88 : decode cL_acts 88 = .ok (.iload 7, 2) := by decide +kernel
theorem dL_acts_90 : decode cL_acts 90 = .ok (.invokestatic 155, 3) := by decide +kernel
theorem dL_acts_93 : decode cL_acts 93 = .ok (.ireturn, 1) := by decide +kernel
theorem dL_acts_94 : decode cL_acts 94 = .ok (.iload 8, 2) := by decide +kernel
theorem dL_acts_96 : decode cL_acts 96 = .ok (.bipush 6, 2) := by decide +kernel
theorem dL_acts_98 : decode cL_acts 98 = .ok (.if_icmp .ne 104, 3) := by decide +kernel
theorem dL_acts_101 : decode cL_acts 101 = .ok (.iload 7, 2) := by decide +kernel
theorem dL_acts_103 : decode cL_acts 103 = .ok (.iconst 3, 1) := by decide +kernel
theorem dL_acts_104 : decode cL_acts 104 = .ok (.invokestatic 102, 3) := by decide +kernel
theorem dL_acts_107 : decode cL_acts 107 = .ok (.istore 9, 2) := by decide +kernel
theorem dL_acts_109 : decode cL_acts 109 = .ok (.iconst 1, 1) := by decide +kernel
theorem dL_acts_110 : decode cL_acts 110 = .ok (.iload 7, 2) := by decide +kernel
theorem dL_acts_112 : decode cL_acts 112 = .ok (.iconst 2, 1) := by decide +kernel
theorem dL_acts_113 : decode cL_acts 113 = .ok (.ishr, 1) := by decide +kernel
theorem dL_acts_114 : decode cL_acts 114 = .ok (.bipush 15, 2) := by decide +kernel
theorem dL_acts_116 : decode cL_acts 116 = .ok (.invokestatic 102, 3) := by decide +kernel
theorem dL_acts_119 : decode cL_acts 119 = .ok (.iadd, 1) := by decide +kernel
theorem dL_acts_120 : decode cL_acts 120 = .ok (.istore 10, 2) := by decide +kernel
theorem dL_acts_122 : decode cL_acts 122 = .ok (.aload_n 3, 1) := by decide +kernel
theorem dL_acts_123 : decode cL_acts 123 = .ok (.iconst 3, 1) := by decide +kernel
theorem dL_acts_124 : decode cL_acts 124 = .ok (.iload 9, 2) := by decide +kernel
theorem dL_acts_126 : decode cL_acts 126 = .ok (.imul, 1) := by decide +kernel
theorem dL_acts_127 : decode cL_acts 127 = .ok (.dup2, 1) := by decide +kernel
theorem dL_acts_128 : decode cL_acts 128 = .ok (.iaload, 1) := by decide +kernel
theorem dL_acts_129 : decode cL_acts 129 = .ok (.iload 10, 2) := by decide +kernel
theorem dL_acts_131 : decode cL_acts 131 = .ok (.iadd, 1) := by decide +kernel
theorem dL_acts_132 : decode cL_acts 132 = .ok (.iastore, 1) := by decide +kernel
theorem dL_acts_133 : decode cL_acts 133 = .ok (.aload_n 3, 1) := by decide +kernel
theorem dL_acts_134 : decode cL_acts 134 = .ok (.iconst 3, 1) := by decide +kernel
theorem dL_acts_135 : decode cL_acts 135 = .ok (.iload 9, 2) := by decide +kernel
theorem dL_acts_137 : decode cL_acts 137 = .ok (.imul, 1) := by decide +kernel
theorem dL_acts_138 : decode cL_acts 138 = .ok (.iconst 2, 1) := by decide +kernel
theorem dL_acts_139 : decode cL_acts 139 = .ok (.iadd, 1) := by decide +kernel
theorem dL_acts_140 : decode cL_acts 140 = .ok (.iload 7, 2) := by decide +kernel
theorem dL_acts_142 : decode cL_acts 142 = .ok (.bipush 8, 2) := by decide +kernel
theorem dL_acts_144 : decode cL_acts 144 = .ok (.ishr, 1) := by decide +kernel
theorem dL_acts_145 : decode cL_acts 145 = .ok (.bipush 21, 2) := by decide +kernel
theorem dL_acts_147 : decode cL_acts 147 = .ok (.invokestatic 102, 3) := by decide +kernel
theorem dL_acts_150 : decode cL_acts 150 = .ok (.bipush 10, 2) := by decide +kernel
theorem dL_acts_152 : decode cL_acts 152 = .ok (.isub, 1) := by decide +kernel
theorem dL_acts_153 : decode cL_acts 153 = .ok (.iastore, 1) := by decide +kernel
theorem dL_acts_154 : decode cL_acts 154 = .ok (.aload_n 0, 1) := by decide +kernel
theorem dL_acts_155 : decode cL_acts 155 = .ok (.iload 9, 2) := by decide +kernel
theorem dL_acts_157 : decode cL_acts 157 = .ok (.iload 10, 2) := by decide +kernel
theorem dL_acts_159 : decode cL_acts 159 = .ok (.invokestatic 158, 3) := by decide +kernel
theorem dL_acts_162 : decode cL_acts 162 = .ok (.aload_n 3, 1) := by decide +kernel
theorem dL_acts_163 : decode cL_acts 163 = .ok (.iconst 3, 1) := by decide +kernel
theorem dL_acts_164 : decode cL_acts 164 = .ok (.iload 9, 2) := by decide +kernel
theorem dL_acts_166 : decode cL_acts 166 = .ok (.imul, 1) := by decide +kernel
theorem dL_acts_167 : decode cL_acts 167 = .ok (.iaload, 1) := by decide +kernel
theorem dL_acts_168 : decode cL_acts 168 = .ok (.if_icmp .ne 32, 3) := by decide +kernel
theorem dL_acts_171 : decode cL_acts 171 = .ok (.aload_n 0, 1) := by decide +kernel
theorem dL_acts_172 : decode cL_acts 172 = .ok (.iload 9, 2) := by decide +kernel
theorem dL_acts_174 : decode cL_acts 174 = .ok (.aload_n 3, 1) := by decide +kernel
theorem dL_acts_175 : decode cL_acts 175 = .ok (.iconst 3, 1) := by decide +kernel
theorem dL_acts_176 : decode cL_acts 176 = .ok (.iload 9, 2) := by decide +kernel
theorem dL_acts_178 : decode cL_acts 178 = .ok (.imul, 1) := by decide +kernel
theorem dL_acts_179 : decode cL_acts 179 = .ok (.iconst 2, 1) := by decide +kernel
theorem dL_acts_180 : decode cL_acts 180 = .ok (.iadd, 1) := by decide +kernel
theorem dL_acts_181 : decode cL_acts 181 = .ok (.iaload, 1) := by decide +kernel
theorem dL_acts_182 : decode cL_acts 182 = .ok (.invokestatic 160, 3) := by decide +kernel
theorem dL_acts_185 : decode cL_acts 185 = .ok (.aload_n 3, 1) := by decide +kernel
theorem dL_acts_186 : decode cL_acts 186 = .ok (.iconst 3, 1) := by decide +kernel
theorem dL_acts_187 : decode cL_acts 187 = .ok (.iload 9, 2) := by decide +kernel
theorem dL_acts_189 : decode cL_acts 189 = .ok (.imul, 1) := by decide +kernel
theorem dL_acts_190 : decode cL_acts 190 = .ok (.iconst 1, 1) := by decide +kernel
theorem dL_acts_191 : decode cL_acts 191 = .ok (.iadd, 1) := by decide +kernel
theorem dL_acts_192 : decode cL_acts 192 = .ok (.iaload, 1) := by decide +kernel
theorem dL_acts_193 : decode cL_acts 193 = .ok (.if_icmp .ne 7, 3) := by decide +kernel
theorem dL_acts_196 : decode cL_acts 196 = .ok (.iconst 1, 1) := by decide +kernel
theorem dL_acts_197 : decode cL_acts 197 = .ok (.goto 4, 3) := by decide +kernel
theorem dL_acts_200 : decode cL_acts 200 = .ok (.iconst 0, 1) := by decide +kernel
theorem dL_acts_201 : decode cL_acts 201 = .ok (.ireturn, 1) := by decide +kernel
theorem dL_acts_202 : decode cL_acts 202 = .ok (.iload 8, 2) := by decide +kernel
theorem dL_acts_204 : decode cL_acts 204 = .ok (.bipush 7, 2) := by decide +kernel
theorem dL_acts_206 : decode cL_acts 206 = .ok (.if_icmp .ne 51, 3) := by decide +kernel
theorem dL_acts_209 : decode cL_acts 209 = .ok (.aload_n 0, 1) := by decide +kernel
theorem dL_acts_210 : decode cL_acts 210 = .ok (.iload 7, 2) := by decide +kernel
theorem dL_acts_212 : decode cL_acts 212 = .ok (.iconst 4, 1) := by decide +kernel
theorem dL_acts_213 : decode cL_acts 213 = .ok (.invokestatic 102, 3) := by decide +kernel
theorem dL_acts_216 : decode cL_acts 216 = .ok (.iload 7, 2) := by decide +kernel
theorem dL_acts_218 : decode cL_acts 218 = .ok (.iconst 2, 1) := by decide +kernel
theorem dL_acts_219 : decode cL_acts 219 = .ok (.ishr, 1) := by decide +kernel
theorem dL_acts_220 : decode cL_acts 220 = .ok (.bipush 101, 2) := by decide +kernel
theorem dL_acts_222 : decode cL_acts 222 = .ok (.invokestatic 102, 3) := by decide +kernel
theorem dL_acts_225 : decode cL_acts 225 = .ok (.iload 7, 2) := by decide +kernel
theorem dL_acts_227 : decode cL_acts 227 = .ok (.bipush 9, 2) := by decide +kernel
theorem dL_acts_229 : decode cL_acts 229 = .ok (.ishr, 1) := by decide +kernel
theorem dL_acts_230 : decode cL_acts 230 = .ok (.bipush 101, 2) := by decide +kernel
theorem dL_acts_232 : decode cL_acts 232 = .ok (.invokestatic 102, 3) := by decide +kernel
theorem dL_acts_235 : decode cL_acts 235 = .ok (.iload 7, 2) := by decide +kernel
theorem dL_acts_237 : decode cL_acts 237 = .ok (.bipush 16, 2) := by decide +kernel
theorem dL_acts_239 : decode cL_acts 239 = .ok (.ishr, 1) := by decide +kernel
theorem dL_acts_240 : decode cL_acts 240 = .ok (.bipush 101, 2) := by decide +kernel
theorem dL_acts_242 : decode cL_acts 242 = .ok (.invokestatic 102, 3) := by decide +kernel
theorem dL_acts_245 : decode cL_acts 245 = .ok (.invokestatic 162, 3) := by decide +kernel
theorem dL_acts_248 : decode cL_acts 248 = .ok (.ifCond .ne 7, 3) := by decide +kernel
theorem dL_acts_251 : decode cL_acts 251 = .ok (.iconst 1, 1) := by decide +kernel
theorem dL_acts_252 : decode cL_acts 252 = .ok (.goto 4, 3) := by decide +kernel
theorem dL_acts_255 : decode cL_acts 255 = .ok (.iconst 0, 1) := by decide +kernel
theorem dL_acts_256 : decode cL_acts 256 = .ok (.ireturn, 1) := by decide +kernel
theorem dL_acts_257 : decode cL_acts 257 = .ok (.iload 8, 2) := by decide +kernel
theorem dL_acts_259 : decode cL_acts 259 = .ok (.bipush 8, 2) := by decide +kernel
theorem dL_acts_261 : decode cL_acts 261 = .ok (.if_icmp .ne 131, 3) := by decide +kernel
theorem dL_acts_264 : decode cL_acts 264 = .ok (.iload 7, 2) := by decide +kernel
theorem dL_acts_266 : decode cL_acts 266 = .ok (.bipush 16, 2) := by decide +kernel
theorem dL_acts_268 : decode cL_acts 268 = .ok (.invokestatic 102, 3) := by decide +kernel
theorem dL_acts_271 : decode cL_acts 271 = .ok (.istore 9, 2) := by decide +kernel
theorem dL_acts_273 : decode cL_acts 273 = .ok (.aload 4, 2) := by decide +kernel
theorem dL_acts_275 : decode cL_acts 275 = .ok (.iload 9, 2) := by decide +kernel
theorem dL_acts_277 : decode cL_acts 277 = .ok (.iaload, 1) := by decide +kernel
theorem dL_acts_278 : decode cL_acts 278 = .ok (.ifCond .le 7, 3) := by decide +kernel
theorem dL_acts_281 : decode cL_acts 281 = .ok (.iconst 1, 1) := by decide +kernel
theorem dL_acts_282 : decode cL_acts 282 = .ok (.goto 4, 3) := by decide +kernel
theorem dL_acts_285 : decode cL_acts 285 = .ok (.iconst 0, 1) := by decide +kernel
theorem dL_acts_286 : decode cL_acts 286 = .ok (.istore 10, 2) := by decide +kernel
theorem dL_acts_288 : decode cL_acts 288 = .ok (.iconst 0, 1) := by decide +kernel
theorem dL_acts_289 : decode cL_acts 289 = .ok (.istore 11, 2) := by decide +kernel
theorem dL_acts_291 : decode cL_acts 291 = .ok (.aload 4, 2) := by decide +kernel
theorem dL_acts_293 : decode cL_acts 293 = .ok (.iload 9, 2) := by decide +kernel
theorem dL_acts_295 : decode cL_acts 295 = .ok (.iload 10, 2) := by decide +kernel
theorem dL_acts_297 : decode cL_acts 297 = .ok (.ifCond .eq 11, 3) := by decide +kernel
theorem dL_acts_300 : decode cL_acts 300 = .ok (.aload 4, 2) := by decide +kernel
theorem dL_acts_302 : decode cL_acts 302 = .ok (.iload 9, 2) := by decide +kernel
theorem dL_acts_304 : decode cL_acts 304 = .ok (.iaload, 1) := by decide +kernel
theorem dL_acts_305 : decode cL_acts 305 = .ok (.goto 8, 3) := by decide +kernel
theorem dL_acts_308 : decode cL_acts 308 = .ok (.aload_n 1, 1) := by decide +kernel
theorem dL_acts_309 : decode cL_acts 309 = .ok (.iconst 0, 1) := by decide +kernel
theorem dL_acts_310 : decode cL_acts 310 = .ok (.iaload, 1) := by decide +kernel
theorem dL_acts_311 : decode cL_acts 311 = .ok (.iconst 1, 1) := by decide +kernel
theorem dL_acts_312 : decode cL_acts 312 = .ok (.iadd, 1) := by decide +kernel
theorem dL_acts_313 : decode cL_acts 313 = .ok (.iastore, 1) := by decide +kernel
theorem dL_acts_314 : decode cL_acts 314 = .ok (.iload 9, 2) := by decide +kernel
theorem dL_acts_316 : decode cL_acts 316 = .ok (.iconst 4, 1) := by decide +kernel
theorem dL_acts_317 : decode cL_acts 317 = .ok (.idiv, 1) := by decide +kernel
theorem dL_acts_318 : decode cL_acts 318 = .ok (.iconst 4, 1) := by decide +kernel
theorem dL_acts_319 : decode cL_acts 319 = .ok (.imul, 1) := by decide +kernel
theorem dL_acts_320 : decode cL_acts 320 = .ok (.istore 12, 2) := by decide +kernel
theorem dL_acts_322 : decode cL_acts 322 = .ok (.iload 12, 2) := by decide +kernel
theorem dL_acts_324 : decode cL_acts 324 = .ok (.iload 9, 2) := by decide +kernel
theorem dL_acts_326 : decode cL_acts 326 = .ok (.iconst 4, 1) := by decide +kernel
theorem dL_acts_327 : decode cL_acts 327 = .ok (.idiv, 1) := by decide +kernel
theorem dL_acts_328 : decode cL_acts 328 = .ok (.iconst 4, 1) := by decide +kernel
theorem dL_acts_329 : decode cL_acts 329 = .ok (.imul, 1) := by decide +kernel
theorem dL_acts_330 : decode cL_acts 330 = .ok (.iconst 4, 1) := by decide +kernel
theorem dL_acts_331 : decode cL_acts 331 = .ok (.iadd, 1) := by decide +kernel
theorem dL_acts_332 : decode cL_acts 332 = .ok (.if_icmp .ge 27, 3) := by decide +kernel
theorem dL_acts_335 : decode cL_acts 335 = .ok (.iload 11, 2) := by decide +kernel
theorem dL_acts_337 : decode cL_acts 337 = .ok (.aload 4, 2) := by decide +kernel
theorem dL_acts_339 : decode cL_acts 339 = .ok (.iload 12, 2) := by decide +kernel
theorem dL_acts_341 : decode cL_acts 341 = .ok (.iaload, 1) := by decide +kernel
theorem dL_acts_342 : decode cL_acts 342 = .ok (.ifCond .le 7, 3) := by decide +kernel
theorem dL_acts_345 : decode cL_acts 345 = .ok (.iconst 1, 1) := by decide +kernel
theorem dL_acts_346 : decode cL_acts 346 = .ok (.goto 4, 3) := by decide +kernel
theorem dL_acts_349 : decode cL_acts 349 = .ok (.iconst 0, 1) := by decide +kernel
theorem dL_acts_350 : decode cL_acts 350 = .ok (.iadd, 1) := by decide +kernel
theorem dL_acts_351 : decode cL_acts 351 = .ok (.istore 11, 2) := by decide +kernel
theorem dL_acts_353 : decode cL_acts 353 = .ok (.iinc 12 1, 3) := by decide +kernel
theorem dL_acts_356 : decode cL_acts 356 = .ok (.goto (-34), 3) := by decide +kernel
theorem dL_acts_359 : decode cL_acts 359 = .ok (.aload_n 0, 1) := by decide +kernel
theorem dL_acts_360 : decode cL_acts 360 = .ok (.iload 9, 2) := by decide +kernel
theorem dL_acts_362 : decode cL_acts 362 = .ok (.iconst 4, 1) := by decide +kernel
theorem dL_acts_363 : decode cL_acts 363 = .ok (.idiv, 1) := by decide +kernel
theorem dL_acts_364 : decode cL_acts 364 = .ok (.iload 9, 2) := by decide +kernel
theorem dL_acts_366 : decode cL_acts 366 = .ok (.iconst 4, 1) := by decide +kernel
