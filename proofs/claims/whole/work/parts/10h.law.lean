theorem istore_8_6 {X : JC} {cc : ByteArray} {own : String} {Ts : List Cond} {cells slots pc : Nat} {rm : Room} {M : MH} {st : List Value} {a0 a1 a2 a3 a4 a5 a6 a7 : Option Value} (g : jG X cc own Ts 8 rm) {x : Int32} (hd : decode cc pc = .ok (.istore 6, 2)) (k : J X 8 cells slots M [a0, a1, a2, a3, a4, a5, some (.int x), a7] st (pc + 2)) : J X 8 cells slots M [a0, a1, a2, a3, a4, a5, a6, a7] (.int x :: st) pc := j_istore g hd (Nat.le_of_ble_eq_true rfl) k



theorem th_28 {S : ST} {T : Int32} {F : ST → ST} (h : ∀ S : ST, F S 28 0 = S 28 0) : mSt S T F 28 0 = T := by
  unfold mSt
  split
  · rename_i hT
    rw [h, su_s, hT]
  · exact su_s

set_option maxHeartbeats 1000000 in
set_option maxRecDepth 100000 in
theorem lc_clear {X : JC} (hst : (jl X).stackTraces = false) (g : jG X cL_law RL wsL_law 8 room_1) (t0 : jE0 X) {b L : Nat} {xs : Nat → Int32} (sc : jS X b L xs) (hL : L ≤ 3584) {x m o od : Nat} {ad : Nat → Nat} (hI : mI m ad) {M : MH} {S : ST} (h : LI M x m o od ad S) {i : Nat} (hi : i + 7 ≤ L) {cells slots : Nat} (hcl : cells + 8 ≤ 601024) (hsl : slots + 28 ≤ 7293034) (k : ∀ M2 S2, LI M2 x m o od ad S2 → J X 8 (cells + 8) (slots + 28) M2 [some (.ref b), some (.ref x), some (.ref m), some (.ref o), some (.ref od), some (.int (nI i)), none, none] [] 1544) : J X 8 cells slots M [some (.ref b), some (.ref x), some (.ref m), some (.ref o), some (.ref od), some (.int (nI i)), none, none] [] 228 := by
  obtain ⟨Mx, al, d, ns, nd, f, fd, hr, hc, hk⟩ := h
  refine j_aload_n (pc := 228) g 1 dL_law_228 rfl rfl ?_
  refine j_callVG (pc := 229) (n := 0) g (hr.1 _ _ hc.1.1) rfl hr.1 (k_clear (jl X) (jD X) Mx x al S d ns nd hc) dL_law_229 gL_law_X8_clear rfl rfl rfl rfl ⟨rfl, by decide, by decide, by decide +kernel⟩ ⟨Nat.le_of_ble_eq_true rfl, Nat.le_of_ble_eq_true rfl⟩ ⟨by show _ ≤ 601024; omega, by show _ ≤ 7293034; omega⟩ rfl (Nat.le_of_ble_eq_true rfl) (fun v M1 hp hn => ?_)
  obtain ⟨rfl, hR⟩ := hp
  have hr1 := hr.call hn
  show J X 8 _ _ _ _ [.int (nI d)] (229 + 3)
  refine j_aload_n (pc := 232) g 2 dL_law_232 rfl rfl ?_
  refine j_callVG (pc := 233) (n := 0) (rest := [.int (nI d)]) g (hr1.2.1 _ _ (mM_m _ _ _)) rfl hr1.2.1 (m_clear (jl X) (jD X) m ad hI S) dL_law_233 gL_law_X9_clear rfl rfl rfl rfl ⟨rfl, by decide, by decide, by decide +kernel⟩ ⟨Nat.le_of_ble_eq_true rfl, Nat.le_of_ble_eq_true rfl⟩ ⟨by show _ ≤ 601024; omega, by show _ ≤ 7293034; omega⟩ rfl (Nat.le_of_ble_eq_true rfl) (fun v M2 hp hn2 => ?_)
  obtain ⟨rfl, rfl⟩ := hp
  have hr2 := hr1.model (su (su S 28 0 0) 1 0 0)
  show J X 8 _ _ _ _ [.int (S 1 0), .int (nI d)] (233 + 3)
  refine j_icmp_eq (pc := 236) g 1544 dL_law_236 (by decide) (fun c236 => ?_) (fun c236 => absurd hk.1.1.symm c236)
  exact j_loc2 (j_room _ _ (by omega) (by omega) (k _ _ (LI.mk hr2 rfl (hR.st pr.rf (sf_nb sf28)) (ok_clear (hk.t sf28)))))

set_option maxHeartbeats 1000000 in
set_option maxRecDepth 100000 in
theorem lc_stroke {X : JC} (hst : (jl X).stackTraces = false) (g : jG X cL_law RL wsL_law 8 room_1) (t0 : jE0 X) {b L : Nat} {xs : Nat → Int32} (sc : jS X b L xs) (hL : L ≤ 3584) {x m o od : Nat} {ad : Nat → Nat} (hI : mI m ad) {M : MH} {S : ST} (h : LI M x m o od ad S) {i : Nat} (hi : i + 7 ≤ L) {cells slots : Nat} (hcl : cells + 8 ≤ 601024) (hsl : slots + 28 ≤ 7293034) (k : ∀ M2 S2, LI M2 x m o od ad S2 → J X 8 (cells + 8) (slots + 28) M2 [some (.ref b), some (.ref x), some (.ref m), some (.ref o), some (.ref od), some (.int (nI i)), none, none] [] 1544) : J X 8 cells slots M [some (.ref b), some (.ref x), some (.ref m), some (.ref o), some (.ref od), some (.int (nI i)), none, none] [] 136 := by
  obtain ⟨Mx, al, d, ns, nd, f, fd, hr, hc, hk⟩ := h
  refine j_aload_n (pc := 136) g 1 dL_law_136 rfl rfl ?_
  refine j_aload_n (pc := 137) g 0 dL_law_137 rfl rfl ?_
  refine j_iload (pc := 138) g dL_law_138 rfl ?_
  refine j_iconst (pc := 140) g (1) dL_law_140 (by decide) ?_
  refine j_iadd (pc := 141) g dL_law_141 ?_
  refine j_sld (pc := 142) g sc dL_law_142 (i + 1) (nI_add i 1) (by omega) (by omega) ?_
  refine j_aload_n (pc := 143) g 0 dL_law_143 rfl rfl ?_
  refine j_iload (pc := 144) g dL_law_144 rfl ?_
  refine j_iconst (pc := 146) g (2) dL_law_146 (by decide) ?_
  refine j_iadd (pc := 147) g dL_law_147 ?_
  refine j_sld (pc := 148) g sc dL_law_148 (i + 2) (nI_add i 2) (by omega) (by omega) ?_
  refine j_aload_n (pc := 149) g 0 dL_law_149 rfl rfl ?_
  refine j_iload (pc := 150) g dL_law_150 rfl ?_
  refine j_iconst (pc := 152) g (3) dL_law_152 (by decide) ?_
  refine j_iadd (pc := 153) g dL_law_153 ?_
  refine j_sld (pc := 154) g sc dL_law_154 (i + 3) (nI_add i 3) (by omega) (by omega) ?_
  refine j_aload_n (pc := 155) g 0 dL_law_155 rfl rfl ?_
  refine j_iload (pc := 156) g dL_law_156 rfl ?_
  refine j_iconst (pc := 158) g (4) dL_law_158 (by decide) ?_
  refine j_iadd (pc := 159) g dL_law_159 ?_
  refine j_sld (pc := 160) g sc dL_law_160 (i + 4) (nI_add i 4) (by omega) (by omega) ?_
  refine j_aload_n (pc := 161) g 3 dL_law_161 rfl rfl ?_
  refine j_callSW (pc := 162) (n := 6) g t0 (w_stroke (jl X) (jD X) hst M Mx x m o od ad al S d ns nd f fd hr hc hk (xs (i + 1)) (xs (i + 2)) (xs (i + 3)) (xs (i + 4))) dL_law_162 gL_law_L_stroke rfl rfl rfl rfl ⟨by decide, by decide, by decide +kernel⟩ ⟨Nat.le_of_ble_eq_true rfl, Nat.le_of_ble_eq_true rfl⟩ ⟨by show _ ≤ 601024; omega, by show _ ≤ 7293034; omega⟩ rfl (Nat.le_of_ble_eq_true rfl) (fun v M1 hp => ?_)
  obtain ⟨rfl, Mx1, al1, f1, hr1, h0, h1⟩ := hp
  show J X 8 _ _ _ _ [.int (tStroke S (xs (i + 1)) (xs (i + 2)) (xs (i + 3)) (xs (i + 4)))] (162 + 3)
  refine istore_8_6 (pc := 165) g dL_law_165 ?_
  refine j_aload_n (pc := 167) g 2 dL_law_167 rfl rfl ?_
  refine j_aload_n (pc := 168) g 0 dL_law_168 rfl rfl ?_
  refine j_iload (pc := 169) g dL_law_169 rfl ?_
  refine j_iconst (pc := 171) g (1) dL_law_171 (by decide) ?_
  refine j_iadd (pc := 172) g dL_law_172 ?_
  refine j_sld (pc := 173) g sc dL_law_173 (i + 1) (nI_add i 1) (by omega) (by omega) ?_
  refine j_aload_n (pc := 174) g 0 dL_law_174 rfl rfl ?_
  refine j_iload (pc := 175) g dL_law_175 rfl ?_
  refine j_iconst (pc := 177) g (2) dL_law_177 (by decide) ?_
  refine j_iadd (pc := 178) g dL_law_178 ?_
  refine j_sld (pc := 179) g sc dL_law_179 (i + 2) (nI_add i 2) (by omega) (by omega) ?_
  refine j_aload_n (pc := 180) g 0 dL_law_180 rfl rfl ?_
  refine j_iload (pc := 181) g dL_law_181 rfl ?_
  refine j_iconst (pc := 183) g (3) dL_law_183 (by decide) ?_
  refine j_iadd (pc := 184) g dL_law_184 ?_
  refine j_sld (pc := 185) g sc dL_law_185 (i + 3) (nI_add i 3) (by omega) (by omega) ?_
  refine j_aload_n (pc := 186) g 0 dL_law_186 rfl rfl ?_
  refine j_iload (pc := 187) g dL_law_187 rfl ?_
  refine j_iconst (pc := 189) g (4) dL_law_189 (by decide) ?_
  refine j_iadd (pc := 190) g dL_law_190 ?_
  refine j_sld (pc := 191) g sc dL_law_191 (i + 4) (nI_add i 4) (by omega) (by omega) ?_
  refine j_callVG (pc := 192) (n := 4) g (hr1.2.1 _ _ (mM_m _ _ _)) rfl hr1.2.1 (m_stroke (jl X) (jD X) m ad hI S d hk.1.1 hk.1.2.1 (xs (i + 1)) (xs (i + 2)) (xs (i + 3)) (xs (i + 4))) dL_law_192 gL_law_X9_stroke rfl rfl rfl rfl ⟨rfl, by decide, by decide, by decide +kernel⟩ ⟨Nat.le_of_ble_eq_true rfl, Nat.le_of_ble_eq_true rfl⟩ ⟨by show _ ≤ 601024; omega, by show _ ≤ 7293034; omega⟩ rfl (Nat.le_of_ble_eq_true rfl) (fun v M2 hp hn2 => ?_)
  obtain ⟨rfl, rfl⟩ := hp
  have hr2 := hr1.model (mSt S (tStroke S (xs (i + 1)) (xs (i + 2)) (xs (i + 3)) (xs (i + 4))) (fun S => nStroke S d (xs (i + 1)) (xs (i + 2)) (xs (i + 3)) (xs (i + 4))))
  show J X 8 _ _ _ _ [.int (mAns (tStroke S (xs (i + 1)) (xs (i + 2)) (xs (i + 3)) (xs (i + 4))) (nI (d + 1)))] (192 + 3)
  refine istore_8_7 (pc := 195) g dL_law_195 ?_
  refine j_aload_n (pc := 197) g 2 dL_law_197 rfl rfl ?_
  refine j_callVG (pc := 198) (n := 0) g (hr2.2.1 _ _ (mM_m _ _ _)) rfl hr2.2.1 (m_thrown (jl X) (jD X) m ad hI (mSt S (tStroke S (xs (i + 1)) (xs (i + 2)) (xs (i + 3)) (xs (i + 4))) (fun S => nStroke S d (xs (i + 1)) (xs (i + 2)) (xs (i + 3)) (xs (i + 4))))) dL_law_198 gL_law_X9_thrown rfl rfl rfl rfl ⟨rfl, by decide, by decide, by decide +kernel⟩ ⟨Nat.le_of_ble_eq_true rfl, Nat.le_of_ble_eq_true rfl⟩ ⟨by show _ ≤ 601024; omega, by show _ ≤ 7293034; omega⟩ rfl (Nat.le_of_ble_eq_true rfl) (fun v M3 hp hn3 => ?_)
  obtain ⟨rfl, rfl⟩ := hp
  have hr3 := hr2.model (mSt S (tStroke S (xs (i + 1)) (xs (i + 2)) (xs (i + 3)) (xs (i + 4))) (fun S => nStroke S d (xs (i + 1)) (xs (i + 2)) (xs (i + 3)) (xs (i + 4))))
  have eT : (mSt S (tStroke S (xs (i + 1)) (xs (i + 2)) (xs (i + 3)) (xs (i + 4))) (fun S => nStroke S d (xs (i + 1)) (xs (i + 2)) (xs (i + 3)) (xs (i + 4)))) 28 0 = (tStroke S (xs (i + 1)) (xs (i + 2)) (xs (i + 3)) (xs (i + 4))) := th_28 (fun S => rfl)
  show J X 8 _ _ _ _ [.int ((mSt S (tStroke S (xs (i + 1)) (xs (i + 2)) (xs (i + 3)) (xs (i + 4))) (fun S => nStroke S d (xs (i + 1)) (xs (i + 2)) (xs (i + 3)) (xs (i + 4)))) 28 0)] (198 + 3)
  refine j_topi (tStroke S (xs (i + 1)) (xs (i + 2)) (xs (i + 3)) (xs (i + 4))) eT ?_
  refine j_iload (pc := 201) g dL_law_201 rfl ?_
  refine j_icmp_eq (pc := 203) g 208 dL_law_203 (by decide) (fun c203 => ?_) (fun c203 => absurd rfl c203)
  refine j_iload (pc := 208) g dL_law_208 rfl ?_
  refine j_if_ne (pc := 210) g 225 dL_law_210 (by decide) (fun c210 => ?_) (fun c210 => ?_)
  · refine j_goto (pc := 225) g 1544 dL_law_225 (by decide) ?_
    by_cases tz : (tStroke S (xs (i + 1)) (xs (i + 2)) (xs (i + 3)) (xs (i + 4))) = 0
    · exact j_loc2 (j_room _ _ (by omega) (by omega) (k _ _ (LI.mk hr3 (if_pos tz) ((h0 tz).2.st pr.rf (sf_nb (sf_nb (sf_nb (sf_nb (sf_nb sf28)))))) (ok_stroke (hk.t sf28) tz))))
    · exact j_loc2 (j_room _ _ (by omega) (by omega) (k _ _ (LI.mk hr3 (if_neg tz) ((h1 tz).st pr.rf sf28) (hk.t sf28))))
  · have em : mAns (tStroke S (xs (i + 1)) (xs (i + 2)) (xs (i + 3)) (xs (i + 4))) (nI (d + 1)) = (nI (d + 1)) := by rw [mAns, if_pos c210]
    rw [em]
    refine j_aload_n (pc := 213) g 3 dL_law_213 rfl rfl ?_
    refine j_iconst (pc := 214) g (0) dL_law_214 (by decide) ?_
    refine j_lald (pc := 215) g dL_law_215 (hr3.2.2.2.1.1) (vp_in_nI (n := 0) (by omega) (by omega)) ?_
    show J X 8 _ _ _ _ (.long (f1 0) :: _) _
    refine j_iload (pc := 216) g dL_law_216 rfl ?_
    refine j_i2l (pc := 218) g dL_law_218 ?_
    refine j_lcmp (pc := 219) g dL_law_219 ?_
    refine j_if_eq (pc := 220) g 225 dL_law_220 (by decide) (fun c220 => ?_) (fun c220 => absurd (by rw [(h0 c210).1]; exact lgz _) c220)
    refine j_goto (pc := 225) g 1544 dL_law_225 (by decide) ?_
    by_cases tz : (tStroke S (xs (i + 1)) (xs (i + 2)) (xs (i + 3)) (xs (i + 4))) = 0
    · exact j_loc2 (j_room _ _ (by omega) (by omega) (k _ _ (LI.mk hr3 (if_pos tz) ((h0 tz).2.st pr.rf (sf_nb (sf_nb (sf_nb (sf_nb (sf_nb sf28)))))) (ok_stroke (hk.t sf28) tz))))
    · exact j_loc2 (j_room _ _ (by omega) (by omega) (k _ _ (LI.mk hr3 (if_neg tz) ((h1 tz).st pr.rf sf28) (hk.t sf28))))

set_option maxHeartbeats 1000000 in
set_option maxRecDepth 100000 in
theorem lc_sign {X : JC} (hst : (jl X).stackTraces = false) (g : jG X cL_law RL wsL_law 8 room_1) (t0 : jE0 X) {b L : Nat} {xs : Nat → Int32} (sc : jS X b L xs) (hL : L ≤ 3584) {x m o od : Nat} {ad : Nat → Nat} (hI : mI m ad) {M : MH} {S : ST} (h : LI M x m o od ad S) {i : Nat} (hi : i + 7 ≤ L) {cells slots : Nat} (hcl : cells + 8 ≤ 601024) (hsl : slots + 28 ≤ 7293034) (k : ∀ M2 S2, LI M2 x m o od ad S2 → J X 8 (cells + 8) (slots + 28) M2 [some (.ref b), some (.ref x), some (.ref m), some (.ref o), some (.ref od), some (.int (nI i)), none, none] [] 1544) : J X 8 cells slots M [some (.ref b), some (.ref x), some (.ref m), some (.ref o), some (.ref od), some (.int (nI i)), none, none] [] 241 := by
  obtain ⟨Mx, al, d, ns, nd, f, fd, hr, hc, hk⟩ := h
  refine j_aload_n (pc := 241) g 1 dL_law_241 rfl rfl ?_
  refine j_aload_n (pc := 242) g 3 dL_law_242 rfl rfl ?_
  refine j_callSW (pc := 243) (n := 2) g t0 (w_sign (jl X) (jD X) hst M Mx x m o od ad al S d ns nd f fd hr hc hk ) dL_law_243 gL_law_L_sign rfl rfl rfl rfl ⟨by decide, by decide, by decide +kernel⟩ ⟨Nat.le_of_ble_eq_true rfl, Nat.le_of_ble_eq_true rfl⟩ ⟨by show _ ≤ 601024; omega, by show _ ≤ 7293034; omega⟩ rfl (Nat.le_of_ble_eq_true rfl) (fun v M1 hp => ?_)
  obtain ⟨rfl, Mx1, al1, f1, hr1, h0, h1⟩ := hp
  show J X 8 _ _ _ _ [.int (tSign S)] (243 + 3)
  refine istore_8_6 (pc := 246) g dL_law_246 ?_
  refine j_aload_n (pc := 248) g 2 dL_law_248 rfl rfl ?_
  refine j_callVG (pc := 249) (n := 0) g (hr1.2.1 _ _ (mM_m _ _ _)) rfl hr1.2.1 (m_sign (jl X) (jD X) m ad hI S d ns hk.1.1 hk.1.2.1 hk.2.1.1 hk.2.1.2.2.1 ) dL_law_249 gL_law_X9_sign rfl rfl rfl rfl ⟨rfl, by decide, by decide, by decide +kernel⟩ ⟨Nat.le_of_ble_eq_true rfl, Nat.le_of_ble_eq_true rfl⟩ ⟨by show _ ≤ 601024; omega, by show _ ≤ 7293034; omega⟩ rfl (Nat.le_of_ble_eq_true rfl) (fun v M2 hp hn2 => ?_)
  obtain ⟨rfl, rfl⟩ := hp
  have hr2 := hr1.model (mSt S (tSign S) (fun S => nSign S d ns))
  show J X 8 _ _ _ _ [.int (mAns (tSign S) (nI ns))] (249 + 3)
  refine istore_8_7 (pc := 252) g dL_law_252 ?_
  refine j_aload_n (pc := 254) g 2 dL_law_254 rfl rfl ?_
  refine j_callVG (pc := 255) (n := 0) g (hr2.2.1 _ _ (mM_m _ _ _)) rfl hr2.2.1 (m_thrown (jl X) (jD X) m ad hI (mSt S (tSign S) (fun S => nSign S d ns))) dL_law_255 gL_law_X9_thrown rfl rfl rfl rfl ⟨rfl, by decide, by decide, by decide +kernel⟩ ⟨Nat.le_of_ble_eq_true rfl, Nat.le_of_ble_eq_true rfl⟩ ⟨by show _ ≤ 601024; omega, by show _ ≤ 7293034; omega⟩ rfl (Nat.le_of_ble_eq_true rfl) (fun v M3 hp hn3 => ?_)
  obtain ⟨rfl, rfl⟩ := hp
  have hr3 := hr2.model (mSt S (tSign S) (fun S => nSign S d ns))
  have eT : (mSt S (tSign S) (fun S => nSign S d ns)) 28 0 = (tSign S) := th_28 (fun S => rfl)
  show J X 8 _ _ _ _ [.int ((mSt S (tSign S) (fun S => nSign S d ns)) 28 0)] (255 + 3)
  refine j_topi (tSign S) eT ?_
  refine j_iload (pc := 258) g dL_law_258 rfl ?_
  refine j_icmp_eq (pc := 260) g 265 dL_law_260 (by decide) (fun c260 => ?_) (fun c260 => absurd rfl c260)
  refine j_iload (pc := 265) g dL_law_265 rfl ?_
  refine j_if_ne (pc := 267) g 282 dL_law_267 (by decide) (fun c267 => ?_) (fun c267 => ?_)
  · refine j_goto (pc := 282) g 1544 dL_law_282 (by decide) ?_
    by_cases tz : (tSign S) = 0
    · exact j_loc2 (j_room _ _ (by omega) (by omega) (k _ _ (LI.mk hr3 (if_pos tz) ((h0 tz).2.st pr.rf (sf_nb (sf_nb (sf_nb (sf28.cp (by decide)))))) (ok_sign (hk.t sf28) tz))))
    · exact j_loc2 (j_room _ _ (by omega) (by omega) (k _ _ (LI.mk hr3 (if_neg tz) ((h1 tz).st pr.rf sf28) (hk.t sf28))))
  · have em : mAns (tSign S) (nI ns) = (nI ns) := by rw [mAns, if_pos c267]
    rw [em]
    refine j_aload_n (pc := 270) g 3 dL_law_270 rfl rfl ?_
    refine j_iconst (pc := 271) g (0) dL_law_271 (by decide) ?_
    refine j_lald (pc := 272) g dL_law_272 (hr3.2.2.2.1.1) (vp_in_nI (n := 0) (by omega) (by omega)) ?_
    show J X 8 _ _ _ _ (.long (f1 0) :: _) _
    refine j_iload (pc := 273) g dL_law_273 rfl ?_
    refine j_i2l (pc := 275) g dL_law_275 ?_
    refine j_lcmp (pc := 276) g dL_law_276 ?_
    refine j_if_eq (pc := 277) g 282 dL_law_277 (by decide) (fun c277 => ?_) (fun c277 => absurd (by rw [(h0 c267).1]; exact lgz _) c277)
    refine j_goto (pc := 282) g 1544 dL_law_282 (by decide) ?_
    by_cases tz : (tSign S) = 0
    · exact j_loc2 (j_room _ _ (by omega) (by omega) (k _ _ (LI.mk hr3 (if_pos tz) ((h0 tz).2.st pr.rf (sf_nb (sf_nb (sf_nb (sf28.cp (by decide)))))) (ok_sign (hk.t sf28) tz))))
    · exact j_loc2 (j_room _ _ (by omega) (by omega) (k _ _ (LI.mk hr3 (if_neg tz) ((h1 tz).st pr.rf sf28) (hk.t sf28))))

set_option maxHeartbeats 1000000 in
set_option maxRecDepth 100000 in
theorem lc_buy {X : JC} (hst : (jl X).stackTraces = false) (g : jG X cL_law RL wsL_law 8 room_1) (t0 : jE0 X) {b L : Nat} {xs : Nat → Int32} (sc : jS X b L xs) (hL : L ≤ 3584) {x m o od : Nat} {ad : Nat → Nat} (hI : mI m ad) {M : MH} {S : ST} (h : LI M x m o od ad S) {i : Nat} (hi : i + 7 ≤ L) {cells slots : Nat} (hcl : cells + 8 ≤ 601024) (hsl : slots + 28 ≤ 7293034) (k : ∀ M2 S2, LI M2 x m o od ad S2 → J X 8 (cells + 8) (slots + 28) M2 [some (.ref b), some (.ref x), some (.ref m), some (.ref o), some (.ref od), some (.int (nI i)), none, none] [] 1544) : J X 8 cells slots M [some (.ref b), some (.ref x), some (.ref m), some (.ref o), some (.ref od), some (.int (nI i)), none, none] [] 285 := by
  obtain ⟨Mx, al, d, ns, nd, f, fd, hr, hc, hk⟩ := h
  refine j_aload_n (pc := 285) g 1 dL_law_285 rfl rfl ?_
  refine j_aload_n (pc := 286) g 0 dL_law_286 rfl rfl ?_
  refine j_iload (pc := 287) g dL_law_287 rfl ?_
  refine j_iconst (pc := 289) g (1) dL_law_289 (by decide) ?_
  refine j_iadd (pc := 290) g dL_law_290 ?_
  refine j_sld (pc := 291) g sc dL_law_291 (i + 1) (nI_add i 1) (by omega) (by omega) ?_
  refine j_aload_n (pc := 292) g 0 dL_law_292 rfl rfl ?_
  refine j_iload (pc := 293) g dL_law_293 rfl ?_
  refine j_iconst (pc := 295) g (2) dL_law_295 (by decide) ?_
  refine j_iadd (pc := 296) g dL_law_296 ?_
  refine j_sld (pc := 297) g sc dL_law_297 (i + 2) (nI_add i 2) (by omega) (by omega) ?_
  refine j_aload_n (pc := 298) g 3 dL_law_298 rfl rfl ?_
  refine j_callSW (pc := 299) (n := 4) g t0 (w_buy (jl X) (jD X) hst M Mx x m o od ad al S d ns nd f fd hr hc hk (xs (i + 1)) (xs (i + 2))) dL_law_299 gL_law_L_buy rfl rfl rfl rfl ⟨by decide, by decide, by decide +kernel⟩ ⟨Nat.le_of_ble_eq_true rfl, Nat.le_of_ble_eq_true rfl⟩ ⟨by show _ ≤ 601024; omega, by show _ ≤ 7293034; omega⟩ rfl (Nat.le_of_ble_eq_true rfl) (fun v M1 hp => ?_)
  obtain ⟨rfl, Mx1, al1, f1, hr1, h0, h1⟩ := hp
  show J X 8 _ _ _ _ [.int (tBuy S (xs (i + 1)) (xs (i + 2)))] (299 + 3)
  refine istore_8_6 (pc := 302) g dL_law_302 ?_
  refine j_aload_n (pc := 304) g 2 dL_law_304 rfl rfl ?_
  refine j_aload_n (pc := 305) g 0 dL_law_305 rfl rfl ?_
  refine j_iload (pc := 306) g dL_law_306 rfl ?_
  refine j_iconst (pc := 308) g (1) dL_law_308 (by decide) ?_
  refine j_iadd (pc := 309) g dL_law_309 ?_
  refine j_sld (pc := 310) g sc dL_law_310 (i + 1) (nI_add i 1) (by omega) (by omega) ?_
  refine j_aload_n (pc := 311) g 0 dL_law_311 rfl rfl ?_
  refine j_iload (pc := 312) g dL_law_312 rfl ?_
  refine j_iconst (pc := 314) g (2) dL_law_314 (by decide) ?_
  refine j_iadd (pc := 315) g dL_law_315 ?_
  refine j_sld (pc := 316) g sc dL_law_316 (i + 2) (nI_add i 2) (by omega) (by omega) ?_
  refine j_callVG (pc := 317) (n := 2) g (hr1.2.1 _ _ (mM_m _ _ _)) rfl hr1.2.1 (m_buy (jl X) (jD X) m ad hI S  (xs (i + 1)) (xs (i + 2))) dL_law_317 gL_law_X9_buy rfl rfl rfl rfl ⟨rfl, by decide, by decide, by decide +kernel⟩ ⟨Nat.le_of_ble_eq_true rfl, Nat.le_of_ble_eq_true rfl⟩ ⟨by show _ ≤ 601024; omega, by show _ ≤ 7293034; omega⟩ rfl (Nat.le_of_ble_eq_true rfl) (fun v M2 hp hn2 => ?_)
  obtain ⟨rfl, rfl⟩ := hp
  have hr2 := hr1.model (mSt S (tBuy S (xs (i + 1)) (xs (i + 2))) (fun S => nBuy S (xs (i + 1)) (xs (i + 2))))
  show J X 8 _ _ _ _ [.int (mAns (tBuy S (xs (i + 1)) (xs (i + 2))) (S 6 (ix (xs (i + 1))) + (xs (i + 2))))] (317 + 3)
  refine istore_8_7 (pc := 320) g dL_law_320 ?_
  refine j_aload_n (pc := 322) g 2 dL_law_322 rfl rfl ?_
  refine j_callVG (pc := 323) (n := 0) g (hr2.2.1 _ _ (mM_m _ _ _)) rfl hr2.2.1 (m_thrown (jl X) (jD X) m ad hI (mSt S (tBuy S (xs (i + 1)) (xs (i + 2))) (fun S => nBuy S (xs (i + 1)) (xs (i + 2))))) dL_law_323 gL_law_X9_thrown rfl rfl rfl rfl ⟨rfl, by decide, by decide, by decide +kernel⟩ ⟨Nat.le_of_ble_eq_true rfl, Nat.le_of_ble_eq_true rfl⟩ ⟨by show _ ≤ 601024; omega, by show _ ≤ 7293034; omega⟩ rfl (Nat.le_of_ble_eq_true rfl) (fun v M3 hp hn3 => ?_)
  obtain ⟨rfl, rfl⟩ := hp
  have hr3 := hr2.model (mSt S (tBuy S (xs (i + 1)) (xs (i + 2))) (fun S => nBuy S (xs (i + 1)) (xs (i + 2))))
  have eT : (mSt S (tBuy S (xs (i + 1)) (xs (i + 2))) (fun S => nBuy S (xs (i + 1)) (xs (i + 2)))) 28 0 = (tBuy S (xs (i + 1)) (xs (i + 2))) := th_28 (fun S => rfl)
  show J X 8 _ _ _ _ [.int ((mSt S (tBuy S (xs (i + 1)) (xs (i + 2))) (fun S => nBuy S (xs (i + 1)) (xs (i + 2)))) 28 0)] (323 + 3)
  refine j_topi (tBuy S (xs (i + 1)) (xs (i + 2))) eT ?_
  refine j_iload (pc := 326) g dL_law_326 rfl ?_
  refine j_icmp_eq (pc := 328) g 333 dL_law_328 (by decide) (fun c328 => ?_) (fun c328 => absurd rfl c328)
  refine j_iload (pc := 333) g dL_law_333 rfl ?_
  refine j_if_ne (pc := 335) g 350 dL_law_335 (by decide) (fun c335 => ?_) (fun c335 => ?_)
  · refine j_goto (pc := 350) g 1544 dL_law_350 (by decide) ?_
    by_cases tz : (tBuy S (xs (i + 1)) (xs (i + 2))) = 0
    · exact j_loc2 (j_room _ _ (by omega) (by omega) (k _ _ (LI.mk hr3 (if_pos tz) ((h0 tz).2.st pr.rf (sf_nb sf28)) (ok_buy (hk.t sf28)))))
    · exact j_loc2 (j_room _ _ (by omega) (by omega) (k _ _ (LI.mk hr3 (if_neg tz) ((h1 tz).st pr.rf sf28) (hk.t sf28))))
  · have em : mAns (tBuy S (xs (i + 1)) (xs (i + 2))) (S 6 (ix (xs (i + 1))) + (xs (i + 2))) = (S 6 (ix (xs (i + 1))) + (xs (i + 2))) := by rw [mAns, if_pos c335]
    rw [em]
    refine j_aload_n (pc := 338) g 3 dL_law_338 rfl rfl ?_
    refine j_iconst (pc := 339) g (0) dL_law_339 (by decide) ?_
    refine j_lald (pc := 340) g dL_law_340 (hr3.2.2.2.1.1) (vp_in_nI (n := 0) (by omega) (by omega)) ?_
    show J X 8 _ _ _ _ (.long (f1 0) :: _) _
    refine j_iload (pc := 341) g dL_law_341 rfl ?_
    refine j_i2l (pc := 343) g dL_law_343 ?_
    refine j_lcmp (pc := 344) g dL_law_344 ?_
    refine j_if_eq (pc := 345) g 350 dL_law_345 (by decide) (fun c345 => ?_) (fun c345 => absurd (by rw [(h0 c335).1]; exact lgz _) c345)
    refine j_goto (pc := 350) g 1544 dL_law_350 (by decide) ?_
    by_cases tz : (tBuy S (xs (i + 1)) (xs (i + 2))) = 0
    · exact j_loc2 (j_room _ _ (by omega) (by omega) (k _ _ (LI.mk hr3 (if_pos tz) ((h0 tz).2.st pr.rf (sf_nb sf28)) (ok_buy (hk.t sf28)))))
    · exact j_loc2 (j_room _ _ (by omega) (by omega) (k _ _ (LI.mk hr3 (if_neg tz) ((h1 tz).st pr.rf sf28) (hk.t sf28))))

set_option maxHeartbeats 1000000 in
set_option maxRecDepth 100000 in
theorem lc_rise {X : JC} (hst : (jl X).stackTraces = false) (g : jG X cL_law RL wsL_law 8 room_1) (t0 : jE0 X) {b L : Nat} {xs : Nat → Int32} (sc : jS X b L xs) (hL : L ≤ 3584) {x m o od : Nat} {ad : Nat → Nat} (hI : mI m ad) {M : MH} {S : ST} (h : LI M x m o od ad S) {i : Nat} (hi : i + 7 ≤ L) {cells slots : Nat} (hcl : cells + 8 ≤ 601024) (hsl : slots + 28 ≤ 7293034) (k : ∀ M2 S2, LI M2 x m o od ad S2 → J X 8 (cells + 8) (slots + 28) M2 [some (.ref b), some (.ref x), some (.ref m), some (.ref o), some (.ref od), some (.int (nI i)), none, none] [] 1544) : J X 8 cells slots M [some (.ref b), some (.ref x), some (.ref m), some (.ref o), some (.ref od), some (.int (nI i)), none, none] [] 353 := by
  obtain ⟨Mx, al, d, ns, nd, f, fd, hr, hc, hk⟩ := h
  refine j_aload_n (pc := 353) g 1 dL_law_353 rfl rfl ?_
  refine j_aload_n (pc := 354) g 0 dL_law_354 rfl rfl ?_
  refine j_iload (pc := 355) g dL_law_355 rfl ?_
  refine j_iconst (pc := 357) g (1) dL_law_357 (by decide) ?_
  refine j_iadd (pc := 358) g dL_law_358 ?_
  refine j_sld (pc := 359) g sc dL_law_359 (i + 1) (nI_add i 1) (by omega) (by omega) ?_
  refine j_aload_n (pc := 360) g 0 dL_law_360 rfl rfl ?_
  refine j_iload (pc := 361) g dL_law_361 rfl ?_
  refine j_iconst (pc := 363) g (2) dL_law_363 (by decide) ?_
  refine j_iadd (pc := 364) g dL_law_364 ?_
  refine j_sld (pc := 365) g sc dL_law_365 (i + 2) (nI_add i 2) (by omega) (by omega) ?_
  refine j_aload_n (pc := 366) g 3 dL_law_366 rfl rfl ?_
  refine j_callSW (pc := 367) (n := 4) g t0 (w_rise (jl X) (jD X) hst M Mx x m o od ad al S d ns nd f fd hr hc hk (xs (i + 1)) (xs (i + 2))) dL_law_367 gL_law_L_rise rfl rfl rfl rfl ⟨by decide, by decide, by decide +kernel⟩ ⟨Nat.le_of_ble_eq_true rfl, Nat.le_of_ble_eq_true rfl⟩ ⟨by show _ ≤ 601024; omega, by show _ ≤ 7293034; omega⟩ rfl (Nat.le_of_ble_eq_true rfl) (fun v M1 hp => ?_)
  obtain ⟨rfl, Mx1, al1, f1, hr1, h0, h1⟩ := hp
  show J X 8 _ _ _ _ [.int (tRise (xs (i + 1)) (xs (i + 2)))] (367 + 3)
  refine istore_8_6 (pc := 370) g dL_law_370 ?_
  refine j_aload_n (pc := 372) g 2 dL_law_372 rfl rfl ?_
  refine j_aload_n (pc := 373) g 0 dL_law_373 rfl rfl ?_
  refine j_iload (pc := 374) g dL_law_374 rfl ?_
  refine j_iconst (pc := 376) g (1) dL_law_376 (by decide) ?_
  refine j_iadd (pc := 377) g dL_law_377 ?_
  refine j_sld (pc := 378) g sc dL_law_378 (i + 1) (nI_add i 1) (by omega) (by omega) ?_
  refine j_aload_n (pc := 379) g 0 dL_law_379 rfl rfl ?_
  refine j_iload (pc := 380) g dL_law_380 rfl ?_
  refine j_iconst (pc := 382) g (2) dL_law_382 (by decide) ?_
  refine j_iadd (pc := 383) g dL_law_383 ?_
  refine j_sld (pc := 384) g sc dL_law_384 (i + 2) (nI_add i 2) (by omega) (by omega) ?_
  refine j_callVG (pc := 385) (n := 2) g (hr1.2.1 _ _ (mM_m _ _ _)) rfl hr1.2.1 (m_rise (jl X) (jD X) m ad hI S  (xs (i + 1)) (xs (i + 2))) dL_law_385 gL_law_X9_rise rfl rfl rfl rfl ⟨rfl, by decide, by decide, by decide +kernel⟩ ⟨Nat.le_of_ble_eq_true rfl, Nat.le_of_ble_eq_true rfl⟩ ⟨by show _ ≤ 601024; omega, by show _ ≤ 7293034; omega⟩ rfl (Nat.le_of_ble_eq_true rfl) (fun v M2 hp hn2 => ?_)
  obtain ⟨rfl, rfl⟩ := hp
  have hr2 := hr1.model (mSt S (tRise (xs (i + 1)) (xs (i + 2))) (fun S => nRise S (xs (i + 1)) (xs (i + 2))))
  show J X 8 _ _ _ _ [.int (mAns (tRise (xs (i + 1)) (xs (i + 2))) (S 7 (ix (xs (i + 1)))))] (385 + 3)
  refine istore_8_7 (pc := 388) g dL_law_388 ?_
  refine j_aload_n (pc := 390) g 2 dL_law_390 rfl rfl ?_
  refine j_callVG (pc := 391) (n := 0) g (hr2.2.1 _ _ (mM_m _ _ _)) rfl hr2.2.1 (m_thrown (jl X) (jD X) m ad hI (mSt S (tRise (xs (i + 1)) (xs (i + 2))) (fun S => nRise S (xs (i + 1)) (xs (i + 2))))) dL_law_391 gL_law_X9_thrown rfl rfl rfl rfl ⟨rfl, by decide, by decide, by decide +kernel⟩ ⟨Nat.le_of_ble_eq_true rfl, Nat.le_of_ble_eq_true rfl⟩ ⟨by show _ ≤ 601024; omega, by show _ ≤ 7293034; omega⟩ rfl (Nat.le_of_ble_eq_true rfl) (fun v M3 hp hn3 => ?_)
  obtain ⟨rfl, rfl⟩ := hp
  have hr3 := hr2.model (mSt S (tRise (xs (i + 1)) (xs (i + 2))) (fun S => nRise S (xs (i + 1)) (xs (i + 2))))
  have eT : (mSt S (tRise (xs (i + 1)) (xs (i + 2))) (fun S => nRise S (xs (i + 1)) (xs (i + 2)))) 28 0 = (tRise (xs (i + 1)) (xs (i + 2))) := th_28 (fun S => rfl)
  show J X 8 _ _ _ _ [.int ((mSt S (tRise (xs (i + 1)) (xs (i + 2))) (fun S => nRise S (xs (i + 1)) (xs (i + 2)))) 28 0)] (391 + 3)
  refine j_topi (tRise (xs (i + 1)) (xs (i + 2))) eT ?_
  refine j_iload (pc := 394) g dL_law_394 rfl ?_
  refine j_icmp_eq (pc := 396) g 401 dL_law_396 (by decide) (fun c396 => ?_) (fun c396 => absurd rfl c396)
  refine j_iload (pc := 401) g dL_law_401 rfl ?_
  refine j_if_ne (pc := 403) g 418 dL_law_403 (by decide) (fun c403 => ?_) (fun c403 => ?_)
  · refine j_goto (pc := 418) g 1544 dL_law_418 (by decide) ?_
    by_cases tz : (tRise (xs (i + 1)) (xs (i + 2))) = 0
    · exact j_loc2 (j_room _ _ (by omega) (by omega) (k _ _ (LI.mk hr3 (if_pos tz) ((h0 tz).2.st pr.rf (sf_nb sf28)) (ok_rise (hk.t sf28) tz))))
    · exact j_loc2 (j_room _ _ (by omega) (by omega) (k _ _ (LI.mk hr3 (if_neg tz) ((h1 tz).st pr.rf sf28) (hk.t sf28))))
  · have em : mAns (tRise (xs (i + 1)) (xs (i + 2))) (S 7 (ix (xs (i + 1)))) = (S 7 (ix (xs (i + 1)))) := by rw [mAns, if_pos c403]
    rw [em]
    refine j_aload_n (pc := 406) g 3 dL_law_406 rfl rfl ?_
    refine j_iconst (pc := 407) g (0) dL_law_407 (by decide) ?_
    refine j_lald (pc := 408) g dL_law_408 (hr3.2.2.2.1.1) (vp_in_nI (n := 0) (by omega) (by omega)) ?_
    show J X 8 _ _ _ _ (.long (f1 0) :: _) _
    refine j_iload (pc := 409) g dL_law_409 rfl ?_
    refine j_i2l (pc := 411) g dL_law_411 ?_
    refine j_lcmp (pc := 412) g dL_law_412 ?_
    refine j_if_eq (pc := 413) g 418 dL_law_413 (by decide) (fun c413 => ?_) (fun c413 => absurd (by rw [(h0 c403).1]; exact lgz _) c413)
    refine j_goto (pc := 418) g 1544 dL_law_418 (by decide) ?_
    by_cases tz : (tRise (xs (i + 1)) (xs (i + 2))) = 0
    · exact j_loc2 (j_room _ _ (by omega) (by omega) (k _ _ (LI.mk hr3 (if_pos tz) ((h0 tz).2.st pr.rf (sf_nb sf28)) (ok_rise (hk.t sf28) tz))))
    · exact j_loc2 (j_room _ _ (by omega) (by omega) (k _ _ (LI.mk hr3 (if_neg tz) ((h1 tz).st pr.rf sf28) (hk.t sf28))))

set_option maxHeartbeats 1000000 in
set_option maxRecDepth 100000 in
theorem lc_style {X : JC} (hst : (jl X).stackTraces = false) (g : jG X cL_law RL wsL_law 8 room_1) (t0 : jE0 X) {b L : Nat} {xs : Nat → Int32} (sc : jS X b L xs) (hL : L ≤ 3584) {x m o od : Nat} {ad : Nat → Nat} (hI : mI m ad) {M : MH} {S : ST} (h : LI M x m o od ad S) {i : Nat} (hi : i + 7 ≤ L) {cells slots : Nat} (hcl : cells + 8 ≤ 601024) (hsl : slots + 28 ≤ 7293034) (k : ∀ M2 S2, LI M2 x m o od ad S2 → J X 8 (cells + 8) (slots + 28) M2 [some (.ref b), some (.ref x), some (.ref m), some (.ref o), some (.ref od), some (.int (nI i)), none, none] [] 1544) : J X 8 cells slots M [some (.ref b), some (.ref x), some (.ref m), some (.ref o), some (.ref od), some (.int (nI i)), none, none] [] 421 := by
  obtain ⟨Mx, al, d, ns, nd, f, fd, hr, hc, hk⟩ := h
  refine j_aload_n (pc := 421) g 1 dL_law_421 rfl rfl ?_
  refine j_aload_n (pc := 422) g 0 dL_law_422 rfl rfl ?_
  refine j_iload (pc := 423) g dL_law_423 rfl ?_
  refine j_iconst (pc := 425) g (1) dL_law_425 (by decide) ?_
  refine j_iadd (pc := 426) g dL_law_426 ?_
  refine j_sld (pc := 427) g sc dL_law_427 (i + 1) (nI_add i 1) (by omega) (by omega) ?_
  refine j_aload_n (pc := 428) g 0 dL_law_428 rfl rfl ?_
  refine j_iload (pc := 429) g dL_law_429 rfl ?_
  refine j_iconst (pc := 431) g (2) dL_law_431 (by decide) ?_
  refine j_iadd (pc := 432) g dL_law_432 ?_
  refine j_sld (pc := 433) g sc dL_law_433 (i + 2) (nI_add i 2) (by omega) (by omega) ?_
  refine j_aload_n (pc := 434) g 0 dL_law_434 rfl rfl ?_
  refine j_iload (pc := 435) g dL_law_435 rfl ?_
  refine j_iconst (pc := 437) g (3) dL_law_437 (by decide) ?_
  refine j_iadd (pc := 438) g dL_law_438 ?_
  refine j_sld (pc := 439) g sc dL_law_439 (i + 3) (nI_add i 3) (by omega) (by omega) ?_
  refine j_aload_n (pc := 440) g 0 dL_law_440 rfl rfl ?_
  refine j_iload (pc := 441) g dL_law_441 rfl ?_
  refine j_iconst (pc := 443) g (4) dL_law_443 (by decide) ?_
  refine j_iadd (pc := 444) g dL_law_444 ?_
  refine j_sld (pc := 445) g sc dL_law_445 (i + 4) (nI_add i 4) (by omega) (by omega) ?_
  refine j_callSW (pc := 446) (n := 5) g t0 (w_style (jl X) (jD X) hst M Mx x m o od ad al S d ns nd f fd hr hc hk (xs (i + 1)) (xs (i + 2)) (xs (i + 3)) (xs (i + 4))) dL_law_446 gL_law_L_style rfl rfl rfl rfl ⟨by decide, by decide, by decide +kernel⟩ ⟨Nat.le_of_ble_eq_true rfl, Nat.le_of_ble_eq_true rfl⟩ ⟨by show _ ≤ 601024; omega, by show _ ≤ 7293034; omega⟩ rfl (Nat.le_of_ble_eq_true rfl) (fun v M1 hp => ?_)
  obtain ⟨rfl, Mx1, al1, f1, hr1, h0, h1⟩ := hp
  show J X 8 _ _ _ _ [.int (tStyle (xs (i + 1)) (xs (i + 2)) (xs (i + 3)) (xs (i + 4)))] (446 + 3)
  refine istore_8_6 (pc := 449) g dL_law_449 ?_
  refine j_aload_n (pc := 451) g 2 dL_law_451 rfl rfl ?_
  refine j_aload_n (pc := 452) g 0 dL_law_452 rfl rfl ?_
  refine j_iload (pc := 453) g dL_law_453 rfl ?_
  refine j_iconst (pc := 455) g (1) dL_law_455 (by decide) ?_
  refine j_iadd (pc := 456) g dL_law_456 ?_
  refine j_sld (pc := 457) g sc dL_law_457 (i + 1) (nI_add i 1) (by omega) (by omega) ?_
  refine j_aload_n (pc := 458) g 0 dL_law_458 rfl rfl ?_
  refine j_iload (pc := 459) g dL_law_459 rfl ?_
  refine j_iconst (pc := 461) g (2) dL_law_461 (by decide) ?_
  refine j_iadd (pc := 462) g dL_law_462 ?_
  refine j_sld (pc := 463) g sc dL_law_463 (i + 2) (nI_add i 2) (by omega) (by omega) ?_
  refine j_aload_n (pc := 464) g 0 dL_law_464 rfl rfl ?_
  refine j_iload (pc := 465) g dL_law_465 rfl ?_
  refine j_iconst (pc := 467) g (3) dL_law_467 (by decide) ?_
  refine j_iadd (pc := 468) g dL_law_468 ?_
  refine j_sld (pc := 469) g sc dL_law_469 (i + 3) (nI_add i 3) (by omega) (by omega) ?_
  refine j_aload_n (pc := 470) g 0 dL_law_470 rfl rfl ?_
  refine j_iload (pc := 471) g dL_law_471 rfl ?_
  refine j_iconst (pc := 473) g (4) dL_law_473 (by decide) ?_
  refine j_iadd (pc := 474) g dL_law_474 ?_
  refine j_sld (pc := 475) g sc dL_law_475 (i + 4) (nI_add i 4) (by omega) (by omega) ?_
  refine j_callVG (pc := 476) (n := 4) g (hr1.2.1 _ _ (mM_m _ _ _)) rfl hr1.2.1 (m_style (jl X) (jD X) m ad hI S  (xs (i + 1)) (xs (i + 2)) (xs (i + 3)) (xs (i + 4))) dL_law_476 gL_law_X9_style rfl rfl rfl rfl ⟨rfl, by decide, by decide, by decide +kernel⟩ ⟨Nat.le_of_ble_eq_true rfl, Nat.le_of_ble_eq_true rfl⟩ ⟨by show _ ≤ 601024; omega, by show _ ≤ 7293034; omega⟩ rfl (Nat.le_of_ble_eq_true rfl) (fun v M2 hp hn2 => ?_)
  obtain ⟨rfl, rfl⟩ := hp
  have hr2 := hr1.model (mSt S (tStyle (xs (i + 1)) (xs (i + 2)) (xs (i + 3)) (xs (i + 4))) (fun S => nStyle S (xs (i + 1)) (xs (i + 2)) (xs (i + 3)) (xs (i + 4))))
  show J X 8 _ _ _ _ [] (476 + 3)
  refine j_aload_n (pc := 479) g 2 dL_law_479 rfl rfl ?_
  refine j_callVG (pc := 480) (n := 0) g (hr2.2.1 _ _ (mM_m _ _ _)) rfl hr2.2.1 (m_thrown (jl X) (jD X) m ad hI (mSt S (tStyle (xs (i + 1)) (xs (i + 2)) (xs (i + 3)) (xs (i + 4))) (fun S => nStyle S (xs (i + 1)) (xs (i + 2)) (xs (i + 3)) (xs (i + 4))))) dL_law_480 gL_law_X9_thrown rfl rfl rfl rfl ⟨rfl, by decide, by decide, by decide +kernel⟩ ⟨Nat.le_of_ble_eq_true rfl, Nat.le_of_ble_eq_true rfl⟩ ⟨by show _ ≤ 601024; omega, by show _ ≤ 7293034; omega⟩ rfl (Nat.le_of_ble_eq_true rfl) (fun v M3 hp hn3 => ?_)
  obtain ⟨rfl, rfl⟩ := hp
  have hr3 := hr2.model (mSt S (tStyle (xs (i + 1)) (xs (i + 2)) (xs (i + 3)) (xs (i + 4))) (fun S => nStyle S (xs (i + 1)) (xs (i + 2)) (xs (i + 3)) (xs (i + 4))))
  have eT : (mSt S (tStyle (xs (i + 1)) (xs (i + 2)) (xs (i + 3)) (xs (i + 4))) (fun S => nStyle S (xs (i + 1)) (xs (i + 2)) (xs (i + 3)) (xs (i + 4)))) 28 0 = (tStyle (xs (i + 1)) (xs (i + 2)) (xs (i + 3)) (xs (i + 4))) := th_28 (fun S => rfl)
  show J X 8 _ _ _ _ [.int ((mSt S (tStyle (xs (i + 1)) (xs (i + 2)) (xs (i + 3)) (xs (i + 4))) (fun S => nStyle S (xs (i + 1)) (xs (i + 2)) (xs (i + 3)) (xs (i + 4)))) 28 0)] (480 + 3)
  refine j_topi (tStyle (xs (i + 1)) (xs (i + 2)) (xs (i + 3)) (xs (i + 4))) eT ?_
  refine j_iload (pc := 483) g dL_law_483 rfl ?_
  refine j_icmp_eq (pc := 485) g 490 dL_law_485 (by decide) (fun c485 => ?_) (fun c485 => absurd rfl c485)
  refine j_goto (pc := 490) g 1544 dL_law_490 (by decide) ?_
  by_cases tz : (tStyle (xs (i + 1)) (xs (i + 2)) (xs (i + 3)) (xs (i + 4))) = 0
  · exact j_loc2 (j_room _ _ (by omega) (by omega) (k _ _ (LI.mk hr3 (if_pos tz) ((h0 tz).2.st pr.rf (sf_nb (sf_nb (sf_nb sf28)))) (ok_style (hk.t sf28) tz))))
  · exact j_loc2 (j_room _ _ (by omega) (by omega) (k _ _ (LI.mk hr3 (if_neg tz) ((h1 tz).st pr.rf sf28) (hk.t sf28))))
