theorem dL_signs_81 : decode cL_signs 81 = .ok (.invokestatic 119, 3) := by decide +kernel
theorem dL_signs_84 : decode cL_signs 84 = .ok (.ifCond .eq 14, 3) := by decide +kernel
theorem dL_signs_87 : decode cL_signs 87 = .ok (.aload_n 0, 1) := by decide +kernel
theorem dL_signs_88 : decode cL_signs 88 = .ok (.invokevirtual 116, 3) := by decide +kernel
theorem dL_signs_91 : decode cL_signs 91 = .ok (.ifCond .ne 7, 3) := by decide +kernel
theorem dL_signs_94 : decode cL_signs 94 = .ok (.iconst 1, 1) := by decide +kernel
theorem dL_signs_95 : decode cL_signs 95 = .ok (.goto 4, 3) := by decide +kernel
theorem dL_signs_98 : decode cL_signs 98 = .ok (.iconst 0, 1) := by decide +kernel
theorem dL_signs_99 : decode cL_signs 99 = .ok (.ireturn, 1) := by decide +kernel
theorem dL_empties_0 : decode cL_empties 0 = .ok (.aload_n 0, 1) := by decide +kernel
theorem dL_empties_1 : decode cL_empties 1 = .ok (.iconst 2, 1) := by decide +kernel
theorem dL_empties_2 : decode cL_empties 2 = .ok (.iconst 0, 1) := by decide +kernel
theorem dL_empties_3 : decode cL_empties 3 = .ok (.iastore, 1) := by decide +kernel
theorem dL_empties_4 : decode cL_empties 4 = .ok (.iconst 1, 1) := by decide +kernel
theorem dL_empties_5 : decode cL_empties 5 = .ok (.ireturn, 1) := by decide +kernel
set_option maxRecDepth 20000 in
theorem ggL_duels_L_low : GoodIn wsL_duels wsL_low := goodIn_r _ [7, 8] (by decide +kernel) (by decide +kernel)
set_option maxRecDepth 20000 in
theorem gL_duels_L_low : GoodIn wsL_duels (va_wsS RL 102 yL_low wsL_low) := goodIn_app (goodIn_of _ (by decide +kernel)) ggL_duels_L_low
set_option maxRecDepth 20000 in
theorem ggL_duels_L_duel : GoodIn wsL_duels wsL_duel := goodIn_ca (goodIn_ca (goodIn_ca (goodIn_r _ [11, 12, 13, 14, 3, 1, 2, 15, 16, 17, 18, 19, 20, 21, 22, 23, 24, 25, 26, 27, 28, 29, 30, 31, 32, 33, 34, 35, 36, 37, 38, 39, 40, 41, 42, 43, 44, 45, 46, 47, 48, 49, 50, 51, 52, 53, 54, 55, 56, 57, 58, 59, 60, 61, 62, 63, 64, 65, 66, 67, 68, 69, 154, 155, 156, 157, 158, 159, 160, 161, 162, 163, 164, 165, 166, 167, 168, 169, 170, 171, 172, 173] (by decide +kernel) (by decide +kernel)) (goodIn_sub (fun _ h => List.mem_cons_of_mem _ (List.mem_append_left _ (List.mem_append_left _ (List.mem_append_right _ h)))) (by decide +kernel))) (goodIn_sub (fun _ h => List.mem_cons_of_mem _ (List.mem_append_left _ (List.mem_append_right _ h))) (by decide +kernel))) (goodIn_sub (fun _ h => List.mem_cons_of_mem _ (List.mem_append_right _ h)) (by decide +kernel))
set_option maxRecDepth 20000 in
theorem gL_duels_L_duel : GoodIn wsL_duels (va_wsS RL 123 yL_duel wsL_duel) := goodIn_app (goodIn_of _ (by decide +kernel)) ggL_duels_L_duel
set_option maxRecDepth 20000 in
theorem ggL_duels_L_prompt : GoodIn wsL_duels wsL_prompt := goodIn_ca (goodIn_r _ [72, 12, 3, 73, 74, 75, 18, 76, 20, 21, 77, 78, 79, 80, 28, 81, 82, 83, 31, 84, 56, 154, 155, 156, 157, 158, 159, 160, 161, 162, 163, 164, 165, 166, 167, 168, 169, 170, 171, 172, 173] (by decide +kernel) (by decide +kernel)) (goodIn_sub (fun _ h => List.mem_cons_of_mem _ (List.mem_append_left _ (List.mem_append_left _ (List.mem_append_right _ h)))) (by decide +kernel))
set_option maxRecDepth 20000 in
theorem gL_duels_L_prompt : GoodIn wsL_duels (va_wsS RL 126 yL_prompt wsL_prompt) := goodIn_app (goodIn_of _ (by decide +kernel)) ggL_duels_L_prompt
set_option maxRecDepth 20000 in
theorem ggL_duels_L_of : GoodIn wsL_duels wsL_of := goodIn_ca (goodIn_ca (goodIn_r _ [87, 12, 13, 3, 1, 88, 89, 90, 18, 91, 20, 21, 22, 23, 92, 93, 94, 77, 78, 79, 80, 28, 95, 96, 97, 98, 99, 100, 101, 102, 103, 104, 105, 106, 31, 107, 58, 108, 109, 110, 111, 112, 39, 40, 41, 42, 43, 113, 114, 115, 116, 117, 118, 119, 120, 121, 122, 123, 124, 125, 126, 127, 128, 129, 130, 131, 132, 133, 134, 135, 136, 137, 138, 139, 140, 141, 142, 143, 144, 145, 146, 147, 148, 149, 150, 151, 152, 153, 64, 164, 165, 166, 167, 168, 169, 170, 171, 172, 173, 154, 155, 156, 157, 158, 159, 160, 161, 162, 163, 174, 175, 176, 177, 178, 179, 180, 181, 182, 183, 184] (by decide +kernel) (by decide +kernel)) (goodIn_sub (fun _ h => List.mem_cons_of_mem _ (List.mem_append_left _ (List.mem_append_left _ (List.mem_append_right _ h)))) (by decide +kernel))) (goodIn_sub (fun _ h => List.mem_cons_of_mem _ (List.mem_append_left _ (List.mem_append_right _ h))) (by decide +kernel))
set_option maxRecDepth 20000 in
theorem gL_duels_L_of : GoodIn wsL_duels (va_wsS RL 87 yL_of wsL_of) := goodIn_app (goodIn_of _ (by decide +kernel)) ggL_duels_L_of
theorem dL_duels_0 : decode cL_duels 0 = .ok (.iload_n 3, 1) := by decide +kernel
theorem dL_duels_1 : decode cL_duels 1 = .ok (.bipush 8, 2) := by decide +kernel
theorem dL_duels_3 : decode cL_duels 3 = .ok (.invokestatic 102, 3) := by decide +kernel
theorem dL_duels_6 : decode cL_duels 6 = .ok (.istore 5, 2) := by decide +kernel
theorem dL_duels_8 : decode cL_duels 8 = .ok (.iload_n 3, 1) := by decide +kernel
theorem dL_duels_9 : decode cL_duels 9 = .ok (.iconst 3, 1) := by decide +kernel
theorem dL_duels_10 : decode cL_duels 10 = .ok (.ishr, 1) := by decide +kernel
theorem dL_duels_11 : decode cL_duels 11 = .ok (.bipush 8, 2) := by decide +kernel
theorem dL_duels_13 : decode cL_duels 13 = .ok (.invokestatic 102, 3) := by decide +kernel
theorem dL_duels_16 : decode cL_duels 16 = .ok (.istore 6, 2) := by decide +kernel
theorem dL_duels_18 : decode cL_duels 18 = .ok (.iload_n 3, 1) := by decide +kernel
theorem dL_duels_19 : decode cL_duels 19 = .ok (.bipush 6, 2) := by decide +kernel
theorem dL_duels_21 : decode cL_duels 21 = .ok (.ishr, 1) := by decide +kernel
theorem dL_duels_22 : decode cL_duels 22 = .ok (.iconst 4, 1) := by decide +kernel
theorem dL_duels_23 : decode cL_duels 23 = .ok (.invokestatic 102, 3) := by decide +kernel
theorem dL_duels_26 : decode cL_duels 26 = .ok (.istore 7, 2) := by decide +kernel
theorem dL_duels_28 : decode cL_duels 28 = .ok (.iload_n 3, 1) := by decide +kernel
theorem dL_duels_29 : decode cL_duels 29 = .ok (.bipush 8, 2) := by decide +kernel
theorem dL_duels_31 : decode cL_duels 31 = .ok (.ishr, 1) := by decide +kernel
theorem dL_duels_32 : decode cL_duels 32 = .ok (.iconst 3, 1) := by decide +kernel
theorem dL_duels_33 : decode cL_duels 33 = .ok (.invokestatic 102, 3) := by decide +kernel
theorem dL_duels_36 : decode cL_duels 36 = .ok (.istore 8, 2) := by decide +kernel
theorem dL_duels_38 : decode cL_duels 38 = .ok (.iconst 1, 1) := by decide +kernel
theorem dL_duels_39 : decode cL_duels 39 = .ok (.iload 4, 2) := by decide +kernel
theorem dL_duels_41 : decode cL_duels 41 = .ok (.iconst 5, 1) := by decide +kernel
theorem dL_duels_42 : decode cL_duels 42 = .ok (.invokestatic 102, 3) := by decide +kernel
theorem dL_duels_45 : decode cL_duels 45 = .ok (.iadd, 1) := by decide +kernel
theorem dL_duels_46 : decode cL_duels 46 = .ok (.istore 9, 2) := by decide +kernel
theorem dL_duels_48 : decode cL_duels 48 = .ok (.aload_n 1, 1) := by decide +kernel
theorem dL_duels_49 : decode cL_duels 49 = .ok (.iconst 3, 1) := by decide +kernel
theorem dL_duels_50 : decode cL_duels 50 = .ok (.iaload, 1) := by decide +kernel
theorem dL_duels_51 : decode cL_duels 51 = .ok (.bipush 8, 2) := by decide +kernel
theorem dL_duels_53 : decode cL_duels 53 = .ok (.if_icmp .ne 5, 3) := by decide +kernel
theorem dL_duels_56 : decode cL_duels 56 = .ok (.iconst 1, 1) := by decide +kernel
theorem dL_duels_57 : decode cL_duels 57 = .ok (.ireturn, 1) := by decide +kernel
theorem dL_duels_58 : decode cL_duels 58 = .ok (.aload_n 0, 1) := by decide +kernel
theorem dL_duels_59 : decode cL_duels 59 = .ok (.iload 5, 2) := by decide +kernel
theorem dL_duels_61 : decode cL_duels 61 = .ok (.iload 6, 2) := by decide +kernel
theorem dL_duels_63 : decode cL_duels 63 = .ok (.iload 7, 2) := by decide +kernel
theorem dL_duels_65 : decode cL_duels 65 = .ok (.iload 8, 2) := by decide +kernel
theorem dL_duels_67 : decode cL_duels 67 = .ok (.iload 9, 2) := by decide +kernel
theorem dL_duels_69 : decode cL_duels 69 = .ok (.iload 4, 2) := by decide +kernel
theorem dL_duels_71 : decode cL_duels 71 = .ok (.iconst 4, 1) := by decide +kernel
theorem dL_duels_72 : decode cL_duels 72 = .ok (.ishr, 1) := by decide +kernel
theorem dL_duels_73 : decode cL_duels 73 = .ok (.sipush 1000, 3) := by decide +kernel
theorem dL_duels_76 : decode cL_duels 76 = .ok (.invokestatic 102, 3) := by decide +kernel
theorem dL_duels_79 : decode cL_duels 79 = .ok (.invokestatic 123, 3) := by decide +kernel
theorem dL_duels_82 : decode cL_duels 82 = .ok (.istore 10, 2) := by decide +kernel
theorem dL_duels_84 : decode cL_duels 84 = .ok (.iload 5, 2) := by decide +kernel
theorem dL_duels_86 : decode cL_duels 86 = .ok (.iload 6, 2) := by decide +kernel
theorem dL_duels_88 : decode cL_duels 88 = .ok (.if_icmp .eq 9, 3) := by decide +kernel
theorem dL_duels_91 : decode cL_duels 91 = .ok (.aload_n 1, 1) := by decide +kernel
theorem dL_duels_92 : decode cL_duels 92 = .ok (.iconst 1, 1) := by decide +kernel
theorem dL_duels_93 : decode cL_duels 93 = .ok (.iaload, 1) := by decide +kernel
theorem dL_duels_94 : decode cL_duels 94 = .ok (.ifCond .ne 28, 3) := by decide +kernel
theorem dL_duels_97 : decode cL_duels 97 = .ok (.iload 10, 2) := by decide +kernel
theorem dL_duels_99 : decode cL_duels 99 = .ok (.iload 5, 2) := by decide +kernel
theorem dL_duels_101 : decode cL_duels 101 = .ok (.iload 6, 2) := by decide +kernel
theorem dL_duels_103 : decode cL_duels 103 = .ok (.if_icmp .ne 8, 3) := by decide +kernel
theorem dL_duels_106 : decode cL_duels 106 = .ok (.ldc 18, 2) := by decide +kernel
theorem dL_duels_108 : decode cL_duels 108 = .ok (.goto 5, 3) := by decide +kernel
theorem dL_duels_111 : decode cL_duels 111 = .ok (.ldc 21, 2) := by decide +kernel
theorem dL_duels_113 : decode cL_duels 113 = .ok (.if_icmp .ne 7, 3) := by decide +kernel
theorem dL_duels_116 : decode cL_duels 116 = .ok (.iconst 1, 1) := by decide +kernel
theorem dL_duels_117 : decode cL_duels 117 = .ok (.goto 4, 3) := by decide +kernel
theorem dL_duels_120 : decode cL_duels 120 = .ok (.iconst 0, 1) := by decide +kernel
theorem dL_duels_121 : decode cL_duels 121 = .ok (.ireturn, 1) := by decide +kernel
theorem dL_duels_122 : decode cL_duels 122 = .ok (.bipush 8, 2) := by decide +kernel
theorem dL_duels_124 : decode cL_duels 124 = .ok (.aload_n 1, 1) := by decide +kernel
theorem dL_duels_125 : decode cL_duels 125 = .ok (.iconst 3, 1) := by decide +kernel
theorem dL_duels_126 : decode cL_duels 126 = .ok (.iaload, 1) := by decide +kernel
theorem dL_duels_127 : decode cL_duels 127 = .ok (.imul, 1) := by decide +kernel
theorem dL_duels_128 : decode cL_duels 128 = .ok (.istore 11, 2) := by decide +kernel
theorem dL_duels_130 : decode cL_duels 130 = .ok (.aload_n 2, 1) := by decide +kernel
theorem dL_duels_131 : decode cL_duels 131 = .ok (.iload 11, 2) := by decide +kernel
theorem dL_duels_133 : decode cL_duels 133 = .ok (.iload 5, 2) := by decide +kernel
theorem dL_duels_135 : decode cL_duels 135 = .ok (.iastore, 1) := by decide +kernel
theorem dL_duels_136 : decode cL_duels 136 = .ok (.aload_n 2, 1) := by decide +kernel
theorem dL_duels_137 : decode cL_duels 137 = .ok (.iload 11, 2) := by decide +kernel
theorem dL_duels_139 : decode cL_duels 139 = .ok (.iconst 1, 1) := by decide +kernel
theorem dL_duels_140 : decode cL_duels 140 = .ok (.iadd, 1) := by decide +kernel
theorem dL_duels_141 : decode cL_duels 141 = .ok (.iload 6, 2) := by decide +kernel
theorem dL_duels_143 : decode cL_duels 143 = .ok (.iastore, 1) := by decide +kernel
theorem dL_duels_144 : decode cL_duels 144 = .ok (.aload_n 2, 1) := by decide +kernel
theorem dL_duels_145 : decode cL_duels 145 = .ok (.iload 11, 2) := by decide +kernel
theorem dL_duels_147 : decode cL_duels 147 = .ok (.iconst 2, 1) := by decide +kernel
theorem dL_duels_148 : decode cL_duels 148 = .ok (.iadd, 1) := by decide +kernel
theorem dL_duels_149 : decode cL_duels 149 = .ok (.iload 7, 2) := by decide +kernel
theorem dL_duels_151 : decode cL_duels 151 = .ok (.iastore, 1) := by decide +kernel
theorem dL_duels_152 : decode cL_duels 152 = .ok (.aload_n 2, 1) := by decide +kernel
theorem dL_duels_153 : decode cL_duels 153 = .ok (.iload 11, 2) := by decide +kernel
theorem dL_duels_155 : decode cL_duels 155 = .ok (.iconst 3, 1) := by decide +kernel
theorem dL_duels_156 : decode cL_duels 156 = .ok (.iadd, 1) := by decide +kernel
theorem dL_duels_157 : decode cL_duels 157 = .ok (.iload 8, 2) := by decide +kernel
theorem dL_duels_159 : decode cL_duels 159 = .ok (.iastore, 1) := by decide +kernel
theorem dL_duels_160 : decode cL_duels 160 = .ok (.aload_n 2, 1) := by decide +kernel
theorem dL_duels_161 : decode cL_duels 161 = .ok (.iload 11, 2) := by decide +kernel
theorem dL_duels_163 : decode cL_duels 163 = .ok (.iconst 4, 1) := by decide +kernel
theorem dL_duels_164 : decode cL_duels 164 = .ok (.iadd, 1) := by decide +kernel
theorem dL_duels_165 : decode cL_duels 165 = .ok (.iload 9, 2) := by decide +kernel
theorem dL_duels_167 : decode cL_duels 167 = .ok (.iastore, 1) := by decide +kernel
theorem dL_duels_168 : decode cL_duels 168 = .ok (.aload_n 2, 1) := by decide +kernel
theorem dL_duels_169 : decode cL_duels 169 = .ok (.iload 11, 2) := by decide +kernel
theorem dL_duels_171 : decode cL_duels 171 = .ok (.iconst 5, 1) := by decide +kernel
theorem dL_duels_172 : decode cL_duels 172 = .ok (.iadd, 1) := by decide +kernel
theorem dL_duels_173 : decode cL_duels 173 = .ok (.iconst 0, 1) := by decide +kernel
theorem dL_duels_174 : decode cL_duels 174 = .ok (.iastore, 1) := by decide +kernel
theorem dL_duels_175 : decode cL_duels 175 = .ok (.aload_n 2, 1) := by decide +kernel
theorem dL_duels_176 : decode cL_duels 176 = .ok (.iload 11, 2) := by decide +kernel
theorem dL_duels_178 : decode cL_duels 178 = .ok (.bipush 6, 2) := by decide +kernel
theorem dL_duels_180 : decode cL_duels 180 = .ok (.iadd, 1) := by decide +kernel
theorem dL_duels_181 : decode cL_duels 181 = .ok (.aload_n 1, 1) := by decide +kernel
theorem dL_duels_182 : decode cL_duels 182 = .ok (.iconst 0, 1) := by decide +kernel
theorem dL_duels_183 : decode cL_duels 183 = .ok (.iaload, 1) := by decide +kernel
theorem dL_duels_184 : decode cL_duels 184 = .ok (.iastore, 1) := by decide +kernel
theorem dL_duels_185 : decode cL_duels 185 = .ok (.aload_n 2, 1) := by decide +kernel
theorem dL_duels_186 : decode cL_duels 186 = .ok (.iload 11, 2) := by decide +kernel
theorem dL_duels_188 : decode cL_duels 188 = .ok (.bipush 7, 2) := by decide +kernel
theorem dL_duels_190 : decode cL_duels 190 = .ok (.iadd, 1) := by decide +kernel
theorem dL_duels_191 : decode cL_duels 191 = .ok (.iconst (-1), 1) := by decide +kernel
theorem dL_duels_192 : decode cL_duels 192 = .ok (.iastore, 1) := by decide +kernel
theorem dL_duels_193 : decode cL_duels 193 = .ok (.aload_n 1, 1) := by decide +kernel
theorem dL_duels_194 : decode cL_duels 194 = .ok (.iconst 3, 1) := by decide +kernel
theorem dL_duels_195 : decode cL_duels 195 = .ok (.dup2, 1) := by decide +kernel
theorem dL_duels_196 : decode cL_duels 196 = .ok (.iaload, 1) := by decide +kernel
theorem dL_duels_197 : decode cL_duels 197 = .ok (.iconst 1, 1) := by decide +kernel
theorem dL_duels_198 : decode cL_duels 198 = .ok (.iadd, 1) := by decide +kernel
theorem dL_duels_199 : decode cL_duels 199 = .ok (.iastore, 1) := by decide +kernel
theorem dL_duels_200 : decode cL_duels 200 = .ok (.iload 10, 2) := by decide +kernel
theorem dL_duels_202 : decode cL_duels 202 = .ok (.aload_n 1, 1) := by decide +kernel
theorem dL_duels_203 : decode cL_duels 203 = .ok (.iconst 3, 1) := by decide +kernel
theorem dL_duels_204 : decode cL_duels 204 = .ok (.iaload, 1) := by decide +kernel
theorem dL_duels_205 : decode cL_duels 205 = .ok (.iconst 1, 1) := by decide +kernel
theorem dL_duels_206 : decode cL_duels 206 = .ok (.isub, 1) := by decide +kernel
theorem dL_duels_207 : decode cL_duels 207 = .ok (.if_icmp .ne 20, 3) := by decide +kernel
theorem dL_duels_210 : decode cL_duels 210 = .ok (.aload_n 0, 1) := by decide +kernel
theorem dL_duels_211 : decode cL_duels 211 = .ok (.iload 10, 2) := by decide +kernel
theorem dL_duels_213 : decode cL_duels 213 = .ok (.iload 9, 2) := by decide +kernel
theorem dL_duels_215 : decode cL_duels 215 = .ok (.invokestatic 126, 3) := by decide +kernel
theorem dL_duels_218 : decode cL_duels 218 = .ok (.ldc 32, 2) := by decide +kernel
theorem dL_duels_220 : decode cL_duels 220 = .ok (.if_icmp .ne 7, 3) := by decide +kernel
theorem dL_duels_223 : decode cL_duels 223 = .ok (.iconst 1, 1) := by decide +kernel
theorem dL_duels_224 : decode cL_duels 224 = .ok (.goto 4, 3) := by decide +kernel
theorem dL_duels_227 : decode cL_duels 227 = .ok (.iconst 0, 1) := by decide +kernel
theorem dL_duels_228 : decode cL_duels 228 = .ok (.istore 12, 2) := by decide +kernel
theorem dL_duels_230 : decode cL_duels 230 = .ok (.iconst 0, 1) := by decide +kernel
theorem dL_duels_231 : decode cL_duels 231 = .ok (.istore 13, 2) := by decide +kernel
theorem dL_duels_233 : decode cL_duels 233 = .ok (.iload 13, 2) := by decide +kernel
theorem dL_duels_235 : decode cL_duels 235 = .ok (.iload 9, 2) := by decide +kernel
theorem dL_duels_237 : decode cL_duels 237 = .ok (.if_icmp .ge 46, 3) := by decide +kernel
theorem dL_duels_240 : decode cL_duels 240 = .ok (.iload 12, 2) := by decide +kernel
theorem dL_duels_242 : decode cL_duels 242 = .ok (.ifCond .eq 41, 3) := by decide +kernel
theorem dL_duels_245 : decode cL_duels 245 = .ok (.aload_n 0, 1) := by decide +kernel
theorem dL_duels_246 : decode cL_duels 246 = .ok (.iload 10, 2) := by decide +kernel
theorem dL_duels_248 : decode cL_duels 248 = .ok (.iload 13, 2) := by decide +kernel
theorem dL_duels_250 : decode cL_duels 250 = .ok (.invokestatic 126, 3) := by decide +kernel
theorem dL_duels_253 : decode cL_duels 253 = .ok (.ifCond .lt 21, 3) := by decide +kernel
theorem dL_duels_256 : decode cL_duels 256 = .ok (.aload_n 0, 1) := by decide +kernel
theorem dL_duels_257 : decode cL_duels 257 = .ok (.iload 10, 2) := by decide +kernel
theorem dL_duels_259 : decode cL_duels 259 = .ok (.iload 13, 2) := by decide +kernel
theorem dL_duels_261 : decode cL_duels 261 = .ok (.invokestatic 126, 3) := by decide +kernel
theorem dL_duels_264 : decode cL_duels 264 = .ok (.aload_n 1, 1) := by decide +kernel
theorem dL_duels_265 : decode cL_duels 265 = .ok (.iconst 1, 1) := by decide +kernel
theorem dL_duels_266 : decode cL_duels 266 = .ok (.iaload, 1) := by decide +kernel
theorem dL_duels_267 : decode cL_duels 267 = .ok (.if_icmp .ge 7, 3) := by decide +kernel
theorem dL_duels_270 : decode cL_duels 270 = .ok (.iconst 1, 1) := by decide +kernel
theorem dL_duels_271 : decode cL_duels 271 = .ok (.goto 4, 3) := by decide +kernel
theorem dL_duels_274 : decode cL_duels 274 = .ok (.iconst 0, 1) := by decide +kernel
theorem dL_duels_275 : decode cL_duels 275 = .ok (.istore 12, 2) := by decide +kernel
theorem dL_duels_277 : decode cL_duels 277 = .ok (.iinc 13 1, 3) := by decide +kernel
theorem dL_duels_280 : decode cL_duels 280 = .ok (.goto (-47), 3) := by decide +kernel
theorem dL_duels_283 : decode cL_duels 283 = .ok (.iload 12, 2) := by decide +kernel
theorem dL_duels_285 : decode cL_duels 285 = .ok (.ifCond .eq 18, 3) := by decide +kernel
theorem dL_duels_288 : decode cL_duels 288 = .ok (.aload_n 0, 1) := by decide +kernel
theorem dL_duels_289 : decode cL_duels 289 = .ok (.iload 10, 2) := by decide +kernel
theorem dL_duels_291 : decode cL_duels 291 = .ok (.iconst 3, 1) := by decide +kernel
theorem dL_duels_292 : decode cL_duels 292 = .ok (.invokestatic 87, 3) := by decide +kernel
theorem dL_duels_295 : decode cL_duels 295 = .ok (.iconst (-1), 1) := by decide +kernel
theorem dL_duels_296 : decode cL_duels 296 = .ok (.if_icmp .ne 7, 3) := by decide +kernel
theorem dL_duels_299 : decode cL_duels 299 = .ok (.iconst 1, 1) := by decide +kernel
theorem dL_duels_300 : decode cL_duels 300 = .ok (.goto 4, 3) := by decide +kernel
theorem dL_duels_303 : decode cL_duels 303 = .ok (.iconst 0, 1) := by decide +kernel
theorem dL_duels_304 : decode cL_duels 304 = .ok (.ireturn, 1) := by decide +kernel
set_option maxRecDepth 20000 in
theorem ggL_hands_L_low : GoodIn wsL_hands wsL_low := goodIn_r _ [6, 7] (by decide +kernel) (by decide +kernel)
set_option maxRecDepth 20000 in
theorem gL_hands_L_low : GoodIn wsL_hands (va_wsS RL 102 yL_low wsL_low) := goodIn_app (goodIn_of _ (by decide +kernel)) ggL_hands_L_low
set_option maxRecDepth 20000 in
theorem ggL_hands_L_hand : GoodIn wsL_hands wsL_hand := goodIn_ca (goodIn_ca (goodIn_ca (goodIn_r _ [10, 11, 12, 13, 2, 14, 1, 15, 16, 17, 18, 19, 20, 21, 22, 23, 24, 25, 26, 27, 28, 29, 30, 31, 32, 33, 34, 35, 36, 37, 38, 39, 40, 41, 42, 43, 44, 45, 46, 47, 48, 49, 50, 51, 52, 53, 54, 55, 56, 57, 58, 59, 60, 61, 62, 63, 64, 65, 66, 67, 68, 69, 70, 71, 72, 73, 74, 75, 76, 77, 78, 79, 80, 81, 82, 83, 84, 85, 86, 87, 88, 89, 90, 91, 92, 93, 94, 95, 96, 97, 98, 99, 100, 101, 102, 103, 104, 105, 106, 107, 108, 109, 110, 111, 112, 113, 114, 115, 116, 117, 118, 119, 120, 121, 122, 123, 124, 125, 126, 127, 128, 129, 130, 131, 132, 133, 134, 135, 136, 137, 138, 139, 164, 165, 166, 167, 168, 169, 170, 171, 172, 173, 174, 175, 176, 177, 178, 179, 180, 181, 182, 183, 184, 185, 186, 187, 188, 189, 190, 191, 192, 193, 194, 195, 196, 197, 198, 199] (by decide +kernel) (by decide +kernel)) (goodIn_sub (fun _ h => List.mem_cons_of_mem _ (List.mem_append_left _ (List.mem_append_left _ (List.mem_append_right _ h)))) (by decide +kernel))) (goodIn_sub (fun _ h => List.mem_cons_of_mem _ (List.mem_append_left _ (List.mem_append_right _ h))) (by decide +kernel))) (goodIn_sub (fun _ h => List.mem_cons_of_mem _ (List.mem_append_right _ h)) (by decide +kernel))
set_option maxRecDepth 20000 in
theorem gL_hands_L_hand : GoodIn wsL_hands (va_wsS RL 128 yL_hand wsL_hand) := goodIn_app (goodIn_of _ (by decide +kernel)) ggL_hands_L_hand
set_option maxRecDepth 20000 in
theorem ggL_hands_X8_clear : GoodIn wsL_hands wsX8_clear := goodIn_r _ [143, 28, 29, 136, 137, 138, 97, 139, 99, 174, 175, 176, 177, 178, 179, 180, 181, 182, 183, 184, 185] (by decide +kernel) (by decide +kernel)
set_option maxRecDepth 20000 in
theorem gL_hands_X8_clear : GoodIn wsL_hands (wsV RL 116 RX8 yX8_clear wsX8_clear) := goodIn_app (goodIn_of _ (by decide +kernel)) ggL_hands_X8_clear
set_option maxRecDepth 20000 in
theorem ggL_hands_L_paper : GoodIn wsL_hands wsL_paper := goodIn_ca (goodIn_ca (goodIn_r _ [146, 11, 12, 2, 14, 147, 148, 149, 18, 150, 20, 21, 22, 23, 30, 35, 61, 62, 63, 64, 65, 186, 187, 188, 174, 175, 176, 177, 178, 179, 180, 181, 182, 183] (by decide +kernel) (by decide +kernel)) (goodIn_sub (fun _ h => List.mem_cons_of_mem _ (List.mem_append_left _ (List.mem_append_left _ (List.mem_append_right _ h)))) (by decide +kernel))) (goodIn_sub (fun _ h => List.mem_cons_of_mem _ (List.mem_append_left _ (List.mem_append_right _ h))) (by decide +kernel))
