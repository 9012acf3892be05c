set_option maxHeartbeats 400000 in
set_option maxRecDepth 100000 in
theorem m_duel (l : Launch) (D : va_G) (m : Nat) (ad : Nat → Nat) (hI : mI m ad) (S : ST) (nd : Nat) (hn : S 12 0 = nI nd) (hn12 : nd ≤ 12) (a b j p r_ w : Int32) : xC l D yX9_duel wsX9_duel ({ frames := 2, cells := 0, slots := 0, locals := 42 }) 0 0 [.ref m, .int a, .int b, .int j, .int p, .int r_, .int w] (mM m ad S) (xq (some (.int (mAns (tDuel S a b j p r_ w) (nI nd)))) (mM m ad (mSt S (tDuel S a b j p r_ w) (fun S => nDuel S nd a b j p r_ w)))) := by
  refine xC_of (cc := cX9_duel) (maxL := 8) (ret := (some .int)) (own := RX9) [some (.ref m), some (.int a), some (.int b), some (.int j), some (.int p), some (.int r_), some (.int w), none] (by decide) rfl rfl (Nat.le_of_ble_eq_true rfl) rfl rfl rfl ?_
  intro X hXl hXD g r
  subst hXl
  subst hXD
  have inX9 : ∀ w ∈ wsX90, w ∈ wsX9_duel := inwX9_X9_duel
  have K42 : ∀ (c : Int32) (hc : c = b01 (okDuel a b j p)), J X 8 0 0 (mM m ad S) [some (.ref m), some (.int a), some (.int b), some (.int j), some (.int p), some (.int r_), some (.int w), none] [.int c] 42 := by
    intro c hc
    refine istore_8_7 (pc := 42) g dX9_duel_42 ?_
    have K79 : ∀ (c2 : Int32) (hc2 : c2 = b01 (a ≠ b ∧ iN r_ 1 5 ∧ iN w 0 999)), J X 8 0 0 (mM m ad S) [some (.ref m), some (.int a), some (.int b), some (.int j), some (.int p), some (.int r_), some (.int w), some (.int c)] [.int c2, .int c, .ref m] 79 := by
      intro c2 hc2
      have K100 : ∀ (c3 : Int32) (hc3 : c3 = b01 (0 < S 3 0 ∧ S 12 0 < 12)), J X 8 0 0 (mM m ad S) [some (.ref m), some (.int a), some (.int b), some (.int j), some (.int p), some (.int r_), some (.int w), some (.int c)] [.int c3, .int c2, .int c, .ref m] 100 := by
        intro c3 hc3
        refine j_cVi (pc := 100) (n := 3) g (m_goes (jl X) (jD X) m ad S _ _ _) dX9_duel_100 (mM_m _ _ _) rfl gX9_duel_X9_goes rfl rfl rfl rfl ⟨rfl, by decide, by decide, by decide +kernel⟩ ⟨Nat.le_of_ble_eq_true rfl, Nat.le_of_ble_eq_true rfl⟩ ⟨Nat.le_of_ble_eq_true rfl, Nat.le_of_ble_eq_true rfl⟩ rfl (Nat.le_of_ble_eq_true rfl) ?_
        have ht : gT c c2 c3 = tDuel S a b j p r_ w := by grind [gT, b01, tDuel]
        rw [ht]
        refine j_if_ne (pc := 103) g 108 dX9_duel_103 (by decide) (fun c103 => ?_) (fun c103 => ?_)
        · have h0 : tDuel S a b j p r_ w = 0 := by grind [b01]
          rw [h0]
          have h12 : nd < 12 := by
            have h1 : S 12 0 < 12 := by grind [tDuel]
            rw [hn] at h1
            exact (nI_ltI (b := 12) (by omega) (by omega)).mp h1
          refine j_aload_n (pc := 108) g 0 dX9_duel_108 rfl rfl ?_
          refine j_get (pc := 109) g dX9_duel_109 (mM_m _ _ _) rfl inX9 13 (by decide) (by decide +kernel) rfl rfl ?_
          refine j_aload_n (pc := 112) g 0 dX9_duel_112 rfl rfl ?_
          refine j_get (pc := 113) g dX9_duel_113 (mM_m _ _ _) rfl inX9 12 (by decide) (by decide +kernel) rfl rfl ?_
          refine j_iload_n (pc := 116) g 1 dX9_duel_116 rfl rfl ?_
          refine jm_ast (pc := 117) g hI 13 dX9_duel_117 (by decide) rfl (nd) (by simp only [su]; simp [hn]) (by have : mLen 13 = 12 := rfl; omega) ?_
          refine j_aload_n (pc := 118) g 0 dX9_duel_118 rfl rfl ?_
          refine j_get (pc := 119) g dX9_duel_119 (mM_m _ _ _) rfl inX9 14 (by decide) (by decide +kernel) rfl rfl ?_
          refine j_aload_n (pc := 122) g 0 dX9_duel_122 rfl rfl ?_
          refine j_get (pc := 123) g dX9_duel_123 (mM_m _ _ _) rfl inX9 12 (by decide) (by decide +kernel) rfl rfl ?_
          refine j_iload_n (pc := 126) g 2 dX9_duel_126 rfl rfl ?_
          refine jm_ast (pc := 127) g hI 14 dX9_duel_127 (by decide) rfl (nd) (by simp only [su]; simp [hn]) (by have : mLen 14 = 12 := rfl; omega) ?_
          refine j_aload_n (pc := 128) g 0 dX9_duel_128 rfl rfl ?_
          refine j_get (pc := 129) g dX9_duel_129 (mM_m _ _ _) rfl inX9 15 (by decide) (by decide +kernel) rfl rfl ?_
          refine j_aload_n (pc := 132) g 0 dX9_duel_132 rfl rfl ?_
          refine j_get (pc := 133) g dX9_duel_133 (mM_m _ _ _) rfl inX9 12 (by decide) (by decide +kernel) rfl rfl ?_
          refine j_iload_n (pc := 136) g 3 dX9_duel_136 rfl rfl ?_
          refine jm_ast (pc := 137) g hI 15 dX9_duel_137 (by decide) rfl (nd) (by simp only [su]; simp [hn]) (by have : mLen 15 = 12 := rfl; omega) ?_
          refine j_aload_n (pc := 138) g 0 dX9_duel_138 rfl rfl ?_
          refine j_get (pc := 139) g dX9_duel_139 (mM_m _ _ _) rfl inX9 16 (by decide) (by decide +kernel) rfl rfl ?_
          refine j_aload_n (pc := 142) g 0 dX9_duel_142 rfl rfl ?_
          refine j_get (pc := 143) g dX9_duel_143 (mM_m _ _ _) rfl inX9 12 (by decide) (by decide +kernel) rfl rfl ?_
          refine j_iconst (pc := 146) g (-1) dX9_duel_146 (by decide) ?_
          refine jm_ast (pc := 147) g hI 16 dX9_duel_147 (by decide) rfl (nd) (by simp only [su]; simp [hn]) (by have : mLen 16 = 12 := rfl; omega) ?_
          refine j_aload_n (pc := 148) g 0 dX9_duel_148 rfl rfl ?_
          refine j_get (pc := 149) g dX9_duel_149 (mM_m _ _ _) rfl inX9 17 (by decide) (by decide +kernel) rfl rfl ?_
          refine j_aload_n (pc := 152) g 0 dX9_duel_152 rfl rfl ?_
          refine j_get (pc := 153) g dX9_duel_153 (mM_m _ _ _) rfl inX9 12 (by decide) (by decide +kernel) rfl rfl ?_
          refine j_iload (pc := 156) g dX9_duel_156 rfl ?_
          refine jm_ast (pc := 158) g hI 17 dX9_duel_158 (by decide) rfl (nd) (by simp only [su]; simp [hn]) (by have : mLen 17 = 12 := rfl; omega) ?_
          refine j_aload_n (pc := 159) g 0 dX9_duel_159 rfl rfl ?_
          refine j_get (pc := 160) g dX9_duel_160 (mM_m _ _ _) rfl inX9 18 (by decide) (by decide +kernel) rfl rfl ?_
          refine j_aload_n (pc := 163) g 0 dX9_duel_163 rfl rfl ?_
          refine j_get (pc := 164) g dX9_duel_164 (mM_m _ _ _) rfl inX9 12 (by decide) (by decide +kernel) rfl rfl ?_
          refine j_iload (pc := 167) g dX9_duel_167 rfl ?_
          refine jm_ast (pc := 169) g hI 18 dX9_duel_169 (by decide) rfl (nd) (by simp only [su]; simp [hn]) (by have : mLen 18 = 12 := rfl; omega) ?_
          refine j_aload_n (pc := 170) g 0 dX9_duel_170 rfl rfl ?_
          refine j_get (pc := 171) g dX9_duel_171 (mM_m _ _ _) rfl inX9 19 (by decide) (by decide +kernel) rfl rfl ?_
          refine j_aload_n (pc := 174) g 0 dX9_duel_174 rfl rfl ?_
          refine j_get (pc := 175) g dX9_duel_175 (mM_m _ _ _) rfl inX9 12 (by decide) (by decide +kernel) rfl rfl ?_
          refine j_iload (pc := 178) g dX9_duel_178 rfl ?_
          refine jm_ast (pc := 180) g hI 19 dX9_duel_180 (by decide) rfl (nd) (by simp only [su]; simp [hn]) (by have : mLen 19 = 12 := rfl; omega) ?_
          refine j_aload_n (pc := 181) g 0 dX9_duel_181 rfl rfl ?_
          refine j_get (pc := 182) g dX9_duel_182 (mM_m _ _ _) rfl inX9 20 (by decide) (by decide +kernel) rfl rfl ?_
          refine j_aload_n (pc := 185) g 0 dX9_duel_185 rfl rfl ?_
          refine j_get (pc := 186) g dX9_duel_186 (mM_m _ _ _) rfl inX9 12 (by decide) (by decide +kernel) rfl rfl ?_
          refine j_aload_n (pc := 189) g 0 dX9_duel_189 rfl rfl ?_
          refine j_get (pc := 190) g dX9_duel_190 (mM_m _ _ _) rfl inX9 3 (by decide) (by decide +kernel) rfl rfl ?_
          refine jm_ast (pc := 193) g hI 20 dX9_duel_193 (by decide) rfl (nd) (by simp only [su]; simp [hn]) (by have : mLen 20 = 12 := rfl; omega) ?_
          refine j_aload_n (pc := 194) g 0 dX9_duel_194 rfl rfl ?_
          refine j_get (pc := 195) g dX9_duel_195 (mM_m _ _ _) rfl inX9 21 (by decide) (by decide +kernel) rfl rfl ?_
          refine j_aload_n (pc := 198) g 0 dX9_duel_198 rfl rfl ?_
          refine j_get (pc := 199) g dX9_duel_199 (mM_m _ _ _) rfl inX9 12 (by decide) (by decide +kernel) rfl rfl ?_
          refine j_aload_n (pc := 202) g 0 dX9_duel_202 rfl rfl ?_
          refine j_get (pc := 203) g dX9_duel_203 (mM_m _ _ _) rfl inX9 0 (by decide) (by decide +kernel) rfl rfl ?_
          refine jm_ast (pc := 206) g hI 21 dX9_duel_206 (by decide) rfl (nd) (by simp only [su]; simp [hn]) (by have : mLen 21 = 12 := rfl; omega) ?_
          refine j_aload_n (pc := 207) g 0 dX9_duel_207 rfl rfl ?_
          refine j_dup (pc := 208) g dX9_duel_208 rfl ?_
          refine j_get (pc := 209) g dX9_duel_209 (mM_m _ _ _) rfl inX9 12 (by decide) (by decide +kernel) rfl rfl ?_
          refine j_iconst (pc := 212) g (1) dX9_duel_212 (by decide) ?_
          refine j_iadd (pc := 213) g dX9_duel_213 ?_
          refine j_topi (nI (nd + 1)) (by simp only [su]; simp [hn, nI_1]) ?_
          refine jm_put (pc := 214) g dX9_duel_214 inX9 12 (by decide) (by decide +kernel) (by decide) ⟨rfl, rfl, rfl⟩ rfl ?_
          refine j_aload_n (pc := 217) g 0 dX9_duel_217 rfl rfl ?_
          refine j_get (pc := 218) g dX9_duel_218 (mM_m _ _ _) rfl inX9 12 (by decide) (by decide +kernel) rfl rfl ?_
          refine j_iconst (pc := 221) g (1) dX9_duel_221 (by decide) ?_
          refine j_isub (pc := 222) g dX9_duel_222 ?_
          exact j_iret (pc := 223) g r rfl rfl (by first | exact xq_i (by rw [mAns, if_neg (b01_0.mp c103)]) (by rw [mSt, if_neg (b01_0.mp c103)]) | exact xq_i (by rw [mAns, if_pos h0, su_s]; exact nI_pred nd) (by rw [mSt, if_pos h0]; rfl)) dX9_duel_223 (Nat.le_of_ble_eq_true rfl) (Nat.le_of_ble_eq_true rfl)
        · refine j_iconst (pc := 106) g (0) dX9_duel_106 (by decide) ?_
          exact j_iret (pc := 107) g r rfl rfl (by first | exact xq_i (by rw [mAns, if_neg (b01_0.mp c103)]) (by rw [mSt, if_neg (b01_0.mp c103)]) | exact xq_i (by rw [mAns, if_pos h0, su_s]; exact nI_pred nd) (by rw [mSt, if_pos h0]; rfl)) dX9_duel_107 (Nat.le_of_ble_eq_true rfl) (Nat.le_of_ble_eq_true rfl)
      refine j_aload_n (pc := 79) g 0 dX9_duel_79 rfl rfl ?_
      refine j_get (pc := 80) g dX9_duel_80 (mM_m _ _ _) rfl inX9 3 (by decide) (by decide +kernel) rfl rfl ?_
      refine j_if_le (pc := 83) g 99 dX9_duel_83 (by decide) (fun c83 => ?_) (fun c83 => ?_)
      · refine j_iconst (pc := 99) g (0) dX9_duel_99 (by decide) ?_
        exact K100 _ (by grind [b01])
      · refine j_aload_n (pc := 86) g 0 dX9_duel_86 rfl rfl ?_
        refine j_get (pc := 87) g dX9_duel_87 (mM_m _ _ _) rfl inX9 12 (by decide) (by decide +kernel) rfl rfl ?_
        refine j_bipush (pc := 90) g (12) dX9_duel_90 (by decide) ?_
        refine j_icmp_ge (pc := 92) g 99 dX9_duel_92 (by decide) (fun c92 => ?_) (fun c92 => ?_)
        · refine j_iconst (pc := 99) g (0) dX9_duel_99 (by decide) ?_
          exact K100 _ (by grind [b01])
        · refine j_iconst (pc := 95) g (1) dX9_duel_95 (by decide) ?_
          refine j_goto (pc := 96) g 100 dX9_duel_96 (by decide) ?_
          exact K100 _ (by grind [b01])
    refine j_aload_n (pc := 44) g 0 dX9_duel_44 rfl rfl ?_
    refine j_iload (pc := 45) g dX9_duel_45 rfl ?_
    refine j_iload_n (pc := 47) g 1 dX9_duel_47 rfl rfl ?_
    refine j_iload_n (pc := 48) g 2 dX9_duel_48 rfl rfl ?_
    refine j_icmp_eq (pc := 49) g 78 dX9_duel_49 (by decide) (fun c49 => ?_) (fun c49 => ?_)
    · refine j_iconst (pc := 78) g (0) dX9_duel_78 (by decide) ?_
      exact K79 _ (by grind [b01])
    · refine j_iload (pc := 52) g dX9_duel_52 rfl ?_
      refine j_iconst (pc := 54) g (1) dX9_duel_54 (by decide) ?_
      refine j_iconst (pc := 55) g (5) dX9_duel_55 (by decide) ?_
      refine j_cSi (pc := 56) (n := 3) g (m_in (jl X) (jD X) _ _ _ _) dX9_duel_56 gX9_duel_X9_in rfl rfl rfl rfl ⟨by decide, by decide, by decide +kernel⟩ ⟨Nat.le_of_ble_eq_true rfl, Nat.le_of_ble_eq_true rfl⟩ ⟨Nat.le_of_ble_eq_true rfl, Nat.le_of_ble_eq_true rfl⟩ rfl (Nat.le_of_ble_eq_true rfl) ?_
      refine j_if_eq (pc := 59) g 78 dX9_duel_59 (by decide) (fun c59 => ?_) (fun c59 => ?_)
      · refine j_iconst (pc := 78) g (0) dX9_duel_78 (by decide) ?_
        exact K79 _ (by grind [b01])
      · refine j_iload (pc := 62) g dX9_duel_62 rfl ?_
        refine j_iconst (pc := 64) g (0) dX9_duel_64 (by decide) ?_
        refine j_sipush (pc := 65) g (999) dX9_duel_65 (by decide) ?_
        refine j_cSi (pc := 68) (n := 3) g (m_in (jl X) (jD X) _ _ _ _) dX9_duel_68 gX9_duel_X9_in rfl rfl rfl rfl ⟨by decide, by decide, by decide +kernel⟩ ⟨Nat.le_of_ble_eq_true rfl, Nat.le_of_ble_eq_true rfl⟩ ⟨Nat.le_of_ble_eq_true rfl, Nat.le_of_ble_eq_true rfl⟩ rfl (Nat.le_of_ble_eq_true rfl) ?_
        refine j_if_eq (pc := 71) g 78 dX9_duel_71 (by decide) (fun c71 => ?_) (fun c71 => ?_)
        · refine j_iconst (pc := 78) g (0) dX9_duel_78 (by decide) ?_
          exact K79 _ (by grind [b01])
        · refine j_iconst (pc := 74) g (1) dX9_duel_74 (by decide) ?_
          refine j_goto (pc := 75) g 79 dX9_duel_75 (by decide) ?_
          exact K79 _ (by grind [b01])
  refine j_iload_n (pc := 0) g 1 dX9_duel_0 rfl rfl ?_
  refine j_iconst (pc := 1) g (0) dX9_duel_1 (by decide) ?_
  refine j_bipush (pc := 2) g (7) dX9_duel_2 (by decide) ?_
  refine j_cSi (pc := 4) (n := 3) g (m_in (jl X) (jD X) _ _ _ _) dX9_duel_4 gX9_duel_X9_in rfl rfl rfl rfl ⟨by decide, by decide, by decide +kernel⟩ ⟨Nat.le_of_ble_eq_true rfl, Nat.le_of_ble_eq_true rfl⟩ ⟨Nat.le_of_ble_eq_true rfl, Nat.le_of_ble_eq_true rfl⟩ rfl (Nat.le_of_ble_eq_true rfl) ?_
  refine j_if_eq (pc := 7) g 41 dX9_duel_7 (by decide) (fun c7 => ?_) (fun c7 => ?_)
  · refine j_iconst (pc := 41) g (0) dX9_duel_41 (by decide) ?_
    exact K42 _ (by grind [b01])
  · refine j_iload_n (pc := 10) g 2 dX9_duel_10 rfl rfl ?_
    refine j_iconst (pc := 11) g (0) dX9_duel_11 (by decide) ?_
    refine j_bipush (pc := 12) g (7) dX9_duel_12 (by decide) ?_
    refine j_cSi (pc := 14) (n := 3) g (m_in (jl X) (jD X) _ _ _ _) dX9_duel_14 gX9_duel_X9_in rfl rfl rfl rfl ⟨by decide, by decide, by decide +kernel⟩ ⟨Nat.le_of_ble_eq_true rfl, Nat.le_of_ble_eq_true rfl⟩ ⟨Nat.le_of_ble_eq_true rfl, Nat.le_of_ble_eq_true rfl⟩ rfl (Nat.le_of_ble_eq_true rfl) ?_
    refine j_if_eq (pc := 17) g 41 dX9_duel_17 (by decide) (fun c17 => ?_) (fun c17 => ?_)
    · refine j_iconst (pc := 41) g (0) dX9_duel_41 (by decide) ?_
      exact K42 _ (by grind [b01])
    · refine j_iload_n (pc := 20) g 3 dX9_duel_20 rfl rfl ?_
      refine j_iconst (pc := 21) g (0) dX9_duel_21 (by decide) ?_
      refine j_iconst (pc := 22) g (3) dX9_duel_22 (by decide) ?_
      refine j_cSi (pc := 23) (n := 3) g (m_in (jl X) (jD X) _ _ _ _) dX9_duel_23 gX9_duel_X9_in rfl rfl rfl rfl ⟨by decide, by decide, by decide +kernel⟩ ⟨Nat.le_of_ble_eq_true rfl, Nat.le_of_ble_eq_true rfl⟩ ⟨Nat.le_of_ble_eq_true rfl, Nat.le_of_ble_eq_true rfl⟩ rfl (Nat.le_of_ble_eq_true rfl) ?_
      refine j_if_eq (pc := 26) g 41 dX9_duel_26 (by decide) (fun c26 => ?_) (fun c26 => ?_)
      · refine j_iconst (pc := 41) g (0) dX9_duel_41 (by decide) ?_
        exact K42 _ (by grind [b01])
      · refine j_iload (pc := 29) g dX9_duel_29 rfl ?_
        refine j_cSi (pc := 31) (n := 1) g (m_isPaper (jl X) (jD X) _ _) dX9_duel_31 gX9_duel_X9_isPaper rfl rfl rfl rfl ⟨by decide, by decide, by decide +kernel⟩ ⟨Nat.le_of_ble_eq_true rfl, Nat.le_of_ble_eq_true rfl⟩ ⟨Nat.le_of_ble_eq_true rfl, Nat.le_of_ble_eq_true rfl⟩ rfl (Nat.le_of_ble_eq_true rfl) ?_
        refine j_if_eq (pc := 34) g 41 dX9_duel_34 (by decide) (fun c34 => ?_) (fun c34 => ?_)
        · refine j_iconst (pc := 41) g (0) dX9_duel_41 (by decide) ?_
          exact K42 _ (by grind [b01])
        · refine j_iconst (pc := 37) g (1) dX9_duel_37 (by decide) ?_
          refine j_goto (pc := 38) g 42 dX9_duel_38 (by decide) ?_
          exact K42 _ (by grind [b01])

set_option maxHeartbeats 400000 in
set_option maxRecDepth 100000 in
theorem m_isOver (l : Launch) (D : va_G) (m : Nat) (ad : Nat → Nat) (hI : mI m ad) (S : ST) (its : Int32) (i : Nat) (hi : its = nI i) (h12 : i < 12) : xC l D yX9_isOver wsX9_isOver ({ frames := 0, cells := 0, slots := 0, locals := 0 }) 0 0 [.ref m, .int its] (mM m ad S) (xq (some (.int (b01 (isOv S i)))) (mM m ad S)) := by
  refine xC_of (cc := cX9_isOver) (maxL := 2) (ret := (some .boolean)) (own := RX9) [some (.ref m), some (.int its)] (by decide) rfl rfl (Nat.le_of_ble_eq_true rfl) rfl rfl rfl ?_
  intro X hXl hXD g r
  subst hXl
  subst hXD
  have inX9 : ∀ w ∈ wsX90, w ∈ wsX9_isOver := inwX9_X9_isOver
  refine j_aload_n (pc := 0) g 0 dX9_isOver_0 rfl rfl ?_
  refine j_get (pc := 1) g dX9_isOver_1 (mM_m _ _ _) rfl inX9 22 (by decide) (by decide +kernel) rfl rfl ?_
  refine j_iload_n (pc := 4) g 1 dX9_isOver_4 rfl rfl ?_
  refine jm_ald (pc := 5) g hI 22 dX9_isOver_5 (by decide) rfl (i) (hi) (by have : mLen 22 = 12 := rfl; omega) ?_
  refine j_iconst (pc := 6) g (2) dX9_isOver_6 (by decide) ?_
  refine j_aload_n (pc := 7) g 0 dX9_isOver_7 rfl rfl ?_
  refine j_get (pc := 8) g dX9_isOver_8 (mM_m _ _ _) rfl inX9 18 (by decide) (by decide +kernel) rfl rfl ?_
  refine j_iload_n (pc := 11) g 1 dX9_isOver_11 rfl rfl ?_
  refine jm_ald (pc := 12) g hI 18 dX9_isOver_12 (by decide) rfl (i) (hi) (by have : mLen 18 = 12 := rfl; omega) ?_
  refine j_imul (pc := 13) g dX9_isOver_13 ?_
  refine j_icmp_ne (pc := 14) g 21 dX9_isOver_14 (by decide) (fun c14 => ?_) (fun c14 => ?_)
  · refine j_iconst (pc := 21) g (0) dX9_isOver_21 (by decide) ?_
    exact j_iret (pc := 22) g r rfl rfl (xq_i (by grind [b01]) rfl) dX9_isOver_22 (Nat.le_of_ble_eq_true rfl) (Nat.le_of_ble_eq_true rfl)
  · refine j_iconst (pc := 17) g (1) dX9_isOver_17 (by decide) ?_
    refine j_goto (pc := 18) g 22 dX9_isOver_18 (by decide) ?_
    exact j_iret (pc := 22) g r rfl rfl (xq_i (by grind [b01]) rfl) dX9_isOver_22 (Nat.le_of_ble_eq_true rfl) (Nat.le_of_ble_eq_true rfl)

set_option maxHeartbeats 400000 in
set_option maxRecDepth 100000 in
theorem m_promptOf (l : Launch) (D : va_G) (m : Nat) (ad : Nat → Nat) (hI : mI m ad) (S : ST) (its round : Int32) (i k : Nat) (hi : its = nI i) (h12 : i < 12) (hk : round = nI k) (hk5 : k < 5) (hq : mDu S i) : xC l D yX9_promptOf wsX9_promptOf ({ frames := 0, cells := 0, slots := 0, locals := 0 }) 0 0 [.ref m, .int its, .int round] (mM m ad S) (xq (some (.int (nI (promptI S i k)))) (mM m ad S)) := by
  refine xC_of (cc := cX9_promptOf) (maxL := 3) (ret := (some .int)) (own := RX9) [some (.ref m), some (.int its), some (.int round)] (by decide) rfl rfl (Nat.le_of_ble_eq_true rfl) rfl rfl rfl ?_
  intro X hXl hXD g r
  subst hXl
  subst hXD
  have inX9 : ∀ w ∈ wsX90, w ∈ wsX9_promptOf := inwX9_X9_promptOf
  refine j_aload_n (pc := 0) g 0 dX9_promptOf_0 rfl rfl ?_
  refine j_get (pc := 1) g dX9_promptOf_1 (mM_m _ _ _) rfl inX9 19 (by decide) (by decide +kernel) rfl rfl ?_
  refine j_iload_n (pc := 4) g 1 dX9_promptOf_4 rfl rfl ?_
  refine jm_ald (pc := 5) g hI 19 dX9_promptOf_5 (by decide) rfl (i) (hi) (by have : mLen 19 = 12 := rfl; omega) ?_
  refine j_bipush (pc := 6) g (17) dX9_promptOf_6 (by decide) ?_
  refine j_iload_n (pc := 8) g 2 dX9_promptOf_8 rfl rfl ?_
  refine j_imul (pc := 9) g dX9_promptOf_9 ?_
  refine j_iadd (pc := 10) g dX9_promptOf_10 ?_
  refine j_aload_n (pc := 11) g 0 dX9_promptOf_11 rfl rfl ?_
  refine j_get (pc := 12) g dX9_promptOf_12 (mM_m _ _ _) rfl inX9 20 (by decide) (by decide +kernel) rfl rfl ?_
  refine j_iload_n (pc := 15) g 1 dX9_promptOf_15 rfl rfl ?_
  refine jm_ald (pc := 16) g hI 20 dX9_promptOf_16 (by decide) rfl (i) (hi) (by have : mLen 20 = 12 := rfl; omega) ?_
  refine j_irem (pc := 17) g dX9_promptOf_17 (by rw [hq.i20.1]; exact nI_ne0 (by have := hq.i20; omega) (by have := hq.i20; omega)) ?_
  exact j_iret (pc := 18) g r rfl rfl (xq_i (by have h1 := hq.i19; have h2 := hq.i20; rw [h1.1, h2.1, hk, lit_17, pk_mul, nI_add, pk_rem (by omega) (by omega) (by omega), promptI]) rfl) dX9_promptOf_18 (Nat.le_of_ble_eq_true rfl) (Nat.le_of_ble_eq_true rfl)
