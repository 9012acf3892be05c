set_option maxHeartbeats 400000 in
set_option maxRecDepth 100000 in
theorem m_hand (l : Launch) (D : va_G) (m : Nat) (ad : Nat → Nat) (hI : mI m ad) (S : ST) (d : Nat) (hd : S 1 0 = nI d) (hd8 : d ≤ 8) (nd : Nat) (hn : S 12 0 = nI nd) (hn12 : nd ≤ 12) (hdu : ∀ i, i < nd → mDu S i) (its sl : Int32) : xC l D yX9_hand wsX9_hand ({ frames := 2, cells := 0, slots := 0, locals := 43 }) 0 0 [.ref m, .int its, .int sl] (mM m ad S) (xq (some (.int (mAns (tHand S its sl) (S 9 0 + 1)))) (mM m ad (mSt S (tHand S its sl) (fun S => nHand S (ix its) (ix (S 17 (ix its))) (ix (S 22 (ix its))) d sl)))) := by
  refine xC_of (cc := cX9_hand) (maxL := 7) (ret := (some .int)) (own := RX9) [some (.ref m), some (.int its), some (.int sl), none, none, none, none] (by decide) rfl rfl (Nat.le_of_ble_eq_true rfl) rfl rfl rfl ?_
  intro X hXl hXD g r
  subst hXl
  subst hXD
  have inX9 : ∀ w ∈ wsX90, w ∈ wsX9_hand := inwX9_X9_hand
  refine j_aload_n (pc := 0) g 0 dX9_hand_0 rfl rfl ?_
  refine j_iload_n (pc := 1) g 1 dX9_hand_1 rfl rfl ?_
  refine j_cVi (pc := 2) (n := 1) g (m_isDuel (jl X) (jD X) m ad S _) dX9_hand_2 (mM_m _ _ _) rfl gX9_hand_X9_isDuel rfl rfl rfl rfl ⟨rfl, by decide, by decide, by decide +kernel⟩ ⟨Nat.le_of_ble_eq_true rfl, Nat.le_of_ble_eq_true rfl⟩ ⟨Nat.le_of_ble_eq_true rfl, Nat.le_of_ble_eq_true rfl⟩ rfl (Nat.le_of_ble_eq_true rfl) ?_
  refine istore_n_7_3 (pc := 5) g dX9_hand_5 ?_
  refine j_aload_n (pc := 6) g 0 dX9_hand_6 rfl rfl ?_
  refine j_iload_n (pc := 7) g 3 dX9_hand_7 rfl rfl ?_
  refine j_iload_n (pc := 8) g 2 dX9_hand_8 rfl rfl ?_
  refine j_iconst (pc := 9) g (0) dX9_hand_9 (by decide) ?_
  refine j_sipush (pc := 10) g (999) dX9_hand_10 (by decide) ?_
  refine j_cSi (pc := 13) (n := 3) g (m_in (jl X) (jD X) _ _ _ _) dX9_hand_13 gX9_hand_X9_in rfl rfl rfl rfl ⟨by decide, by decide, by decide +kernel⟩ ⟨Nat.le_of_ble_eq_true rfl, Nat.le_of_ble_eq_true rfl⟩ ⟨Nat.le_of_ble_eq_true rfl, Nat.le_of_ble_eq_true rfl⟩ rfl (Nat.le_of_ble_eq_true rfl) ?_
  have K54 : ∀ (b : Int32) (hb : b = b01 (isDu S its ∧ ¬ isOv S (ix its) ∧ 0 < S 1 0 ∧ 0 < S 6 (ix (S 17 (ix its))))), J X 7 0 0 (mM m ad S) [some (.ref m), some (.int its), some (.int sl), some (.int (b01 (iN its 0 (S 12 0 - 1)))), none, none, none] [.int b, .int (b01 (iN sl 0 999)), .int (b01 (iN its 0 (S 12 0 - 1))), .ref m] 54 := by
    intro b hb
    refine j_cVi (pc := 54) (n := 3) g (m_goes (jl X) (jD X) m ad S _ _ _) dX9_hand_54 (mM_m _ _ _) rfl gX9_hand_X9_goes rfl rfl rfl rfl ⟨rfl, by decide, by decide, by decide +kernel⟩ ⟨Nat.le_of_ble_eq_true rfl, Nat.le_of_ble_eq_true rfl⟩ ⟨Nat.le_of_ble_eq_true rfl, Nat.le_of_ble_eq_true rfl⟩ rfl (Nat.le_of_ble_eq_true rfl) ?_
    have ht : gT (b01 (iN its 0 (S 12 0 - 1))) (b01 (iN sl 0 999)) b = tHand S its sl := by grind [gT, b01, tHand]
    rw [ht]
    refine j_if_ne (pc := 57) g 62 dX9_hand_57 (by decide) (fun c57 => ?_) (fun c57 => ?_)
    · have h0 : tHand S its sl = 0 := by grind [b01]
      rw [h0]
      have hd1 : isDu S its := by grind [tHand]
      have hi := isDu_ix hn hn12 hd1
      have hov : ¬ isOv S (ix its) := by grind [tHand]
      have hq0 := hdu (ix its) hi.2
      obtain ⟨S1, hS1⟩ : ∃ z, z = su S 28 0 0 := ⟨_, rfl⟩
      rw [← hS1]
      have hq : mDu S1 (ix its) := by rw [hS1]; exact hq0
      have hov1 : ¬ isOv S1 (ix its) := by rw [hS1]; exact hov
      have hd1 : S1 1 0 = nI d := by rw [hS1]; exact hd
      obtain ⟨p, hpd⟩ : ∃ z, z = ix (S1 17 (ix its)) := ⟨_, rfl⟩
      obtain ⟨h, hhd⟩ : ∃ z, z = ix (S1 22 (ix its)) := ⟨_, rfl⟩
      have hp := hq.i17
      have hh := hq.i22
      have hr := hq.i18
      have hne : ¬ ix (S1 22 (ix its)) = 2 * ix (S1 18 (ix its)) := fun z => hov1 (hq.ov.mpr z)
      rw [← hpd] at hp
      rw [← hhd] at hh hne
      have hh10 : h < 10 := by omega
      refine j_bipush (pc := 62) g (10) dX9_hand_62 (by decide) ?_
      refine j_iload_n (pc := 64) g 1 dX9_hand_64 rfl rfl ?_
      refine j_imul (pc := 65) g dX9_hand_65 ?_
      refine j_aload_n (pc := 66) g 0 dX9_hand_66 rfl rfl ?_
      refine j_get (pc := 67) g dX9_hand_67 (mM_m _ _ _) rfl inX9 22 (by decide) (by decide +kernel) rfl rfl ?_
      refine j_iload_n (pc := 70) g 1 dX9_hand_70 rfl rfl ?_
      refine jm_ald (pc := 71) g hI 22 dX9_hand_71 (by decide) rfl (ix its) (hi.1) (by have : mLen 22 = 12 := rfl; omega) ?_
      refine j_iadd (pc := 72) g dX9_hand_72 ?_
      refine j_topi (nI (10 * ix its + h)) (lx_a (lx_m 10 hi.1) hh.1) ?_
      refine istore_7_4 (pc := 73) g dX9_hand_73 ?_
      refine j_aload_n (pc := 75) g 0 dX9_hand_75 rfl rfl ?_
      refine j_get (pc := 76) g dX9_hand_76 (mM_m _ _ _) rfl inX9 6 (by decide) (by decide +kernel) rfl rfl ?_
      refine j_aload_n (pc := 79) g 0 dX9_hand_79 rfl rfl ?_
      refine j_get (pc := 80) g dX9_hand_80 (mM_m _ _ _) rfl inX9 17 (by decide) (by decide +kernel) rfl rfl ?_
      refine j_iload_n (pc := 83) g 1 dX9_hand_83 rfl rfl ?_
      refine jm_ald (pc := 84) g hI 17 dX9_hand_84 (by decide) rfl (ix its) (hi.1) (by have : mLen 17 = 12 := rfl; omega) ?_
      refine j_dup2 (pc := 85) g dX9_hand_85 rfl rfl ?_
      refine jm_ald (pc := 86) g hI 6 dX9_hand_86 (by decide) rfl (p) (hp.1) (by have : mLen 6 = 3 := rfl; omega) ?_
      refine j_iconst (pc := 87) g (1) dX9_hand_87 (by decide) ?_
      refine j_isub (pc := 88) g dX9_hand_88 ?_
      refine jm_ast (pc := 89) g hI 6 dX9_hand_89 (by decide) rfl (p) (hp.1) (by have : mLen 6 = 3 := rfl; omega) ?_
      refine j_aload_n (pc := 90) g 0 dX9_hand_90 rfl rfl ?_
      refine j_dup (pc := 91) g dX9_hand_91 rfl ?_
      refine j_get (pc := 92) g dX9_hand_92 (mM_m _ _ _) rfl inX9 9 (by decide) (by decide +kernel) rfl rfl ?_
      refine j_iconst (pc := 95) g (1) dX9_hand_95 (by decide) ?_
      refine j_iadd (pc := 96) g dX9_hand_96 ?_
      refine jm_put (pc := 97) g dX9_hand_97 inX9 9 (by decide) (by decide +kernel) (by decide) ⟨rfl, rfl, rfl⟩ rfl ?_
      have K126 : ∀ (who : Int32) (hwho : who = whoH S1 (ix its) h), J X 7 0 0 (mM m ad (su (su S1 6 p (S1 6 p - 1)) 9 0 (S1 9 0 + 1))) [some (.ref m), some (.int its), some (.int sl), some (.int (b01 (iN its 0 (S 12 0 - 1)))), some (.int (nI (10 * ix its + h))), none, none] [.int who] 126 := by
        intro who hwho
        refine istore_7_5 (pc := 126) g dX9_hand_126 ?_
        refine j_iconst (pc := 128) g (0) dX9_hand_128 (by decide) ?_
        refine istore_7_6 (pc := 129) g dX9_hand_129 ?_
        have L131 : ∀ (n : Nat) (k : Nat) (hk : k + n = 4 * d), J X 7 0 0 (mM m ad (cpS (su (su S1 6 p (S1 6 p - 1)) 9 0 (S1 9 0 + 1)) 27 2 (32 * (10 * ix its + h)) k)) [some (.ref m), some (.int its), some (.int sl), some (.int (b01 (iN its 0 (S 12 0 - 1)))), some (.int (nI (10 * ix its + h))), some (.int who), some (.int (nI k))] [] 131 := by
          intro n
          induction n with
          | zero =>
            intro k hk
            have hk4 : k = 4 * d := by omega
            have hd2 : cpS (su (su S1 6 p (S1 6 p - 1)) 9 0 (S1 9 0 + 1)) 27 2 (32 * (10 * ix its + h)) k 1 0 = nI d := by rw [← hd1]; rfl
            refine j_iload (pc := 131) g dX9_hand_131 rfl ?_
            refine j_iconst (pc := 133) g (4) dX9_hand_133 (by decide) ?_
            refine j_aload_n (pc := 134) g 0 dX9_hand_134 rfl rfl ?_
            refine j_get (pc := 135) g dX9_hand_135 (mM_m _ _ _) rfl inX9 1 (by decide) (by decide +kernel) rfl rfl ?_
            refine j_imul (pc := 138) g dX9_hand_138 ?_
            refine j_icmp_ge (pc := 139) g 168 dX9_hand_139 (by decide) (fun c139 => ?_) (fun c139 => absurd (by rw [hd2, lit_4, pk_mul, hk4]; exact Int32.le_refl _) c139)
            rw [hk4]
            rw [hk4] at hd2
            refine j_aload_n (pc := 168) g 0 dX9_hand_168 rfl rfl ?_
            refine j_get (pc := 169) g dX9_hand_169 (mM_m _ _ _) rfl inX9 23 (by decide) (by decide +kernel) rfl rfl ?_
            refine j_iload (pc := 172) g dX9_hand_172 rfl ?_
            refine j_aload_n (pc := 174) g 0 dX9_hand_174 rfl rfl ?_
            refine j_get (pc := 175) g dX9_hand_175 (mM_m _ _ _) rfl inX9 1 (by decide) (by decide +kernel) rfl rfl ?_
            refine j_topi (nI d) hd2 ?_
            refine jm_ast (pc := 178) g hI 23 dX9_hand_178 (by decide) rfl (10 * ix its + h) (rfl) (by have : mLen 23 = 120 := rfl; omega) ?_
            refine j_aload_n (pc := 179) g 0 dX9_hand_179 rfl rfl ?_
            refine j_get (pc := 180) g dX9_hand_180 (mM_m _ _ _) rfl inX9 24 (by decide) (by decide +kernel) rfl rfl ?_
            refine j_iload (pc := 183) g dX9_hand_183 rfl ?_
            refine j_aload_n (pc := 185) g 0 dX9_hand_185 rfl rfl ?_
            refine j_get (pc := 186) g dX9_hand_186 (mM_m _ _ _) rfl inX9 7 (by decide) (by decide +kernel) rfl rfl ?_
            refine j_aload_n (pc := 189) g 0 dX9_hand_189 rfl rfl ?_
            refine j_get (pc := 190) g dX9_hand_190 (mM_m _ _ _) rfl inX9 17 (by decide) (by decide +kernel) rfl rfl ?_
            refine j_iload_n (pc := 193) g 1 dX9_hand_193 rfl rfl ?_
            refine jm_ald (pc := 194) g hI 17 dX9_hand_194 (by decide) rfl (ix its) (hi.1) (by have : mLen 17 = 12 := rfl; omega) ?_
            refine jm_ald (pc := 195) g hI 7 dX9_hand_195 (by decide) rfl (p) (hp.1) (by have : mLen 7 = 3 := rfl; omega) ?_
            refine j_topi (S1 7 p) rfl ?_
            refine jm_ast (pc := 196) g hI 24 dX9_hand_196 (by decide) rfl (10 * ix its + h) (rfl) (by have : mLen 24 = 120 := rfl; omega) ?_
            have K229 : ∀ (c : Int32) (hc : c = b01 (sl ≠ remI (101 * whoH S1 (ix its) h + 37 * (S1 9 0 + 1)) 1000)), J X 7 0 0 (mM m ad (su (su (cpS (su (su S1 6 p (S1 6 p - 1)) 9 0 (S1 9 0 + 1)) 27 2 (32 * (10 * ix its + h)) (4 * d)) 23 (10 * ix its + h) (nI d)) 24 (10 * ix its + h) (S1 7 p))) [some (.ref m), some (.int its), some (.int sl), some (.int (b01 (iN its 0 (S 12 0 - 1)))), some (.int (nI (10 * ix its + h))), some (.int who), some (.int (nI (4 * d)))] [.int c, .int (nI (10 * ix its + h)), .ref (ad 25)] 229 := by
              intro c hc
              subst hc
              refine jm_zst (pc := 229) g hI 25 dX9_hand_229 (by decide) rfl (b01_vn) (10 * ix its + h) (rfl) (by have : mLen 25 = 120 := rfl; omega) ?_
              refine j_aload_n (pc := 230) g 0 dX9_hand_230 rfl rfl ?_
              refine j_iconst (pc := 231) g (0) dX9_hand_231 (by decide) ?_
              refine jm_put (pc := 232) g dX9_hand_232 inX9 1 (by decide) (by decide +kernel) (by decide) ⟨rfl, rfl, rfl⟩ rfl ?_
              refine j_aload_n (pc := 235) g 0 dX9_hand_235 rfl rfl ?_
              refine j_get (pc := 236) g dX9_hand_236 (mM_m _ _ _) rfl inX9 22 (by decide) (by decide +kernel) rfl rfl ?_
              refine j_iload_n (pc := 239) g 1 dX9_hand_239 rfl rfl ?_
              refine j_dup2 (pc := 240) g dX9_hand_240 rfl rfl ?_
              refine jm_ald (pc := 241) g hI 22 dX9_hand_241 (by decide) rfl (ix its) (hi.1) (by have : mLen 22 = 12 := rfl; omega) ?_
              refine j_iconst (pc := 242) g (1) dX9_hand_242 (by decide) ?_
              refine j_iadd (pc := 243) g dX9_hand_243 ?_
              refine j_topi (nI (h + 1)) (by show S1 22 (ix its) + 1 = _; rw [hh.1, nI_1]) ?_
              refine jm_ast (pc := 244) g hI 22 dX9_hand_244 (by decide) rfl (ix its) (hi.1) (by have : mLen 22 = 12 := rfl; omega) ?_
              refine j_aload_n (pc := 245) g 0 dX9_hand_245 rfl rfl ?_
              refine j_get (pc := 246) g dX9_hand_246 (mM_m _ _ _) rfl inX9 9 (by decide) (by decide +kernel) rfl rfl ?_
              exact j_iret (pc := 249) g r rfl rfl (by first | exact xq_i (by rw [mAns, if_neg (b01_0.mp c57)]) (by rw [mSt, if_neg (b01_0.mp c57)]) | exact xq_i (by rw [mAns, if_pos h0, hS1]; rfl) (by rw [mSt, if_pos h0, ← hS1, ← hpd, ← hhd]; rfl)) dX9_hand_249 (Nat.le_of_ble_eq_true rfl) (Nat.le_of_ble_eq_true rfl)
            refine j_aload_n (pc := 197) g 0 dX9_hand_197 rfl rfl ?_
            refine j_get (pc := 198) g dX9_hand_198 (mM_m _ _ _) rfl inX9 25 (by decide) (by decide +kernel) rfl rfl ?_
            refine j_iload (pc := 201) g dX9_hand_201 rfl ?_
            refine j_iload_n (pc := 203) g 2 dX9_hand_203 rfl rfl ?_
            refine j_bipush (pc := 204) g (101) dX9_hand_204 (by decide) ?_
            refine j_iload (pc := 206) g dX9_hand_206 rfl ?_
            refine j_imul (pc := 208) g dX9_hand_208 ?_
            refine j_bipush (pc := 209) g (37) dX9_hand_209 (by decide) ?_
            refine j_aload_n (pc := 211) g 0 dX9_hand_211 rfl rfl ?_
            refine j_get (pc := 212) g dX9_hand_212 (mM_m _ _ _) rfl inX9 9 (by decide) (by decide +kernel) rfl rfl ?_
            refine j_imul (pc := 215) g dX9_hand_215 ?_
            refine j_iadd (pc := 216) g dX9_hand_216 ?_
            refine j_sipush (pc := 217) g (1000) dX9_hand_217 (by decide) ?_
            refine j_irem (pc := 220) g dX9_hand_220 (by decide) ?_
            refine j_icmp_eq (pc := 221) g 228 dX9_hand_221 (by decide) (fun c221 => ?_) (fun c221 => ?_)
            · refine j_iconst (pc := 228) g (0) dX9_hand_228 (by decide) ?_
              first | exact K229 0 (by rw [← hwho]; exact (b01_f (fun z => z c221)).symm) | exact K229 1 (by rw [← hwho]; exact (b01_t c221).symm)
            · refine j_iconst (pc := 224) g (1) dX9_hand_224 (by decide) ?_
              refine j_goto (pc := 225) g 229 dX9_hand_225 (by decide) ?_
              first | exact K229 0 (by rw [← hwho]; exact (b01_f (fun z => z c221)).symm) | exact K229 1 (by rw [← hwho]; exact (b01_t c221).symm)
          | succ n ih =>
            intro k hk
            have hd2 : cpS (su (su S1 6 p (S1 6 p - 1)) 9 0 (S1 9 0 + 1)) 27 2 (32 * (10 * ix its + h)) k 1 0 = nI d := by rw [← hd1]; rfl
            refine j_iload (pc := 131) g dX9_hand_131 rfl ?_
            refine j_iconst (pc := 133) g (4) dX9_hand_133 (by decide) ?_
            refine j_aload_n (pc := 134) g 0 dX9_hand_134 rfl rfl ?_
            refine j_get (pc := 135) g dX9_hand_135 (mM_m _ _ _) rfl inX9 1 (by decide) (by decide +kernel) rfl rfl ?_
            refine j_imul (pc := 138) g dX9_hand_138 ?_
            refine j_icmp_ge (pc := 139) g 168 dX9_hand_139 (by decide) (fun c139 => absurd c139 (by rw [hd2, lit_4, pk_mul]; exact nI_ge (by omega) (by omega))) (fun c139 => ?_)
            refine j_aload_n (pc := 142) g 0 dX9_hand_142 rfl rfl ?_
            refine j_get (pc := 143) g dX9_hand_143 (mM_m _ _ _) rfl inX9 27 (by decide) (by decide +kernel) rfl rfl ?_
            refine j_bipush (pc := 146) g (32) dX9_hand_146 (by decide) ?_
            refine j_iload (pc := 148) g dX9_hand_148 rfl ?_
            refine j_imul (pc := 150) g dX9_hand_150 ?_
            refine j_iload (pc := 151) g dX9_hand_151 rfl ?_
            refine j_iadd (pc := 153) g dX9_hand_153 ?_
            refine j_aload_n (pc := 154) g 0 dX9_hand_154 rfl rfl ?_
            refine j_get (pc := 155) g dX9_hand_155 (mM_m _ _ _) rfl inX9 2 (by decide) (by decide +kernel) rfl rfl ?_
            refine j_iload (pc := 158) g dX9_hand_158 rfl ?_
            refine jm_ald (pc := 160) g hI 2 dX9_hand_160 (by decide) rfl (k) (rfl) (by have : mLen 2 = 32 := rfl; omega) ?_
            refine jm_ast (pc := 161) g hI 27 dX9_hand_161 (by decide) rfl (32 * (10 * ix its + h) + k) (lx_a (lx_m 32 rfl) rfl) (by have : mLen 27 = 3840 := rfl; omega) ?_
            refine j_map (mM m ad (cpS (su (su S1 6 p (S1 6 p - 1)) 9 0 (S1 9 0 + 1)) 27 2 (32 * (10 * ix its + h)) (k + 1))) (by rw [cpS_1 (by decide)]) ?_
            refine iinc_7_6_1 (pc := 162) g dX9_hand_162 ?_
            refine j_goto (pc := 165) g 131 dX9_hand_165 (by decide) ?_
            exact (by have q9 := ih (k + 1) (by omega); rw [← nI_1 k] at q9; exact q9)
        exact (by have q9 := L131 (4 * d) 0 (by omega); rw [cpS_0] at q9; exact q9)
      have hz : nI (h % 2) = 0 ↔ h % 2 = 0 := nI_eq (b := 0) (by omega) (by omega)
      refine j_aload_n (pc := 100) g 0 dX9_hand_100 rfl rfl ?_
      refine j_get (pc := 101) g dX9_hand_101 (mM_m _ _ _) rfl inX9 22 (by decide) (by decide +kernel) rfl rfl ?_
      refine j_iload_n (pc := 104) g 1 dX9_hand_104 rfl rfl ?_
      refine jm_ald (pc := 105) g hI 22 dX9_hand_105 (by decide) rfl (ix its) (hi.1) (by have : mLen 22 = 12 := rfl; omega) ?_
      refine j_iconst (pc := 106) g (2) dX9_hand_106 (by decide) ?_
      refine j_irem (pc := 107) g dX9_hand_107 (by decide) ?_
      refine j_topi (nI (h % 2)) (by show S1 22 (ix its) - S1 22 (ix its) / 2 * 2 = _; rw [hh.1]; exact pk_rem (d := 2) (by omega) (by omega) (by omega)) ?_
      refine j_if_ne (pc := 108) g 120 dX9_hand_108 (by decide) (fun c108 => ?_) (fun c108 => ?_)
      · refine j_aload_n (pc := 120) g 0 dX9_hand_120 rfl rfl ?_
        refine j_get (pc := 121) g dX9_hand_121 (mM_m _ _ _) rfl inX9 14 (by decide) (by decide +kernel) rfl rfl ?_
        refine j_iload_n (pc := 124) g 1 dX9_hand_124 rfl rfl ?_
        refine jm_ald (pc := 125) g hI 14 dX9_hand_125 (by decide) rfl (ix its) (hi.1) (by have : mLen 14 = 12 := rfl; omega) ?_
        exact K126 _ (by first | exact (if_neg (fun z => c108 (hz.mpr z))).symm | exact (if_pos (hz.mp c108)).symm)
      · refine j_aload_n (pc := 111) g 0 dX9_hand_111 rfl rfl ?_
        refine j_get (pc := 112) g dX9_hand_112 (mM_m _ _ _) rfl inX9 13 (by decide) (by decide +kernel) rfl rfl ?_
        refine j_iload_n (pc := 115) g 1 dX9_hand_115 rfl rfl ?_
        refine jm_ald (pc := 116) g hI 13 dX9_hand_116 (by decide) rfl (ix its) (hi.1) (by have : mLen 13 = 12 := rfl; omega) ?_
        refine j_goto (pc := 117) g 126 dX9_hand_117 (by decide) ?_
        exact K126 _ (by first | exact (if_neg (fun z => c108 (hz.mpr z))).symm | exact (if_pos (hz.mp c108)).symm)
    · refine j_iconst (pc := 60) g (0) dX9_hand_60 (by decide) ?_
      exact j_iret (pc := 61) g r rfl rfl (by first | exact xq_i (by rw [mAns, if_neg (b01_0.mp c57)]) (by rw [mSt, if_neg (b01_0.mp c57)]) | exact xq_i (by rw [mAns, if_pos h0, hS1]; rfl) (by rw [mSt, if_pos h0, ← hS1, ← hpd, ← hhd]; rfl)) dX9_hand_61 (Nat.le_of_ble_eq_true rfl) (Nat.le_of_ble_eq_true rfl)
  refine j_iload_n (pc := 16) g 3 dX9_hand_16 rfl rfl ?_
  refine j_if_eq (pc := 17) g 53 dX9_hand_17 (by decide) (fun c17 => ?_) (fun c17 => ?_)
  · refine j_iconst (pc := 53) g (0) dX9_hand_53 (by decide) ?_
    exact K54 _ (by grind [b01])
  · have hd1 : isDu S its := by grind [b01]
    have hi := isDu_ix hn hn12 hd1
    have hq := hdu (ix its) hi.2
    have hh := hq.i22
    have hr := hq.i18
    have hp := hq.i17
    refine j_aload_n (pc := 20) g 0 dX9_hand_20 rfl rfl ?_
    refine j_iload_n (pc := 21) g 1 dX9_hand_21 rfl rfl ?_
    refine j_cVi (pc := 22) (n := 1) g (m_isOver (jl X) (jD X) m ad hI S _ (ix its) hi.1 (by omega)) dX9_hand_22 (mM_m _ _ _) rfl gX9_hand_X9_isOver rfl rfl rfl rfl ⟨rfl, by decide, by decide, by decide +kernel⟩ ⟨Nat.le_of_ble_eq_true rfl, Nat.le_of_ble_eq_true rfl⟩ ⟨Nat.le_of_ble_eq_true rfl, Nat.le_of_ble_eq_true rfl⟩ rfl (Nat.le_of_ble_eq_true rfl) ?_
    refine j_if_ne (pc := 25) g 53 dX9_hand_25 (by decide) (fun c25 => ?_) (fun c25 => ?_)
    · refine j_iconst (pc := 53) g (0) dX9_hand_53 (by decide) ?_
      exact K54 _ (by grind [b01])
    · refine j_aload_n (pc := 28) g 0 dX9_hand_28 rfl rfl ?_
      refine j_get (pc := 29) g dX9_hand_29 (mM_m _ _ _) rfl inX9 1 (by decide) (by decide +kernel) rfl rfl ?_
      refine j_if_le (pc := 32) g 53 dX9_hand_32 (by decide) (fun c32 => ?_) (fun c32 => ?_)
      · refine j_iconst (pc := 53) g (0) dX9_hand_53 (by decide) ?_
        exact K54 _ (by grind [b01])
      · refine j_aload_n (pc := 35) g 0 dX9_hand_35 rfl rfl ?_
        refine j_get (pc := 36) g dX9_hand_36 (mM_m _ _ _) rfl inX9 6 (by decide) (by decide +kernel) rfl rfl ?_
        refine j_aload_n (pc := 39) g 0 dX9_hand_39 rfl rfl ?_
        refine j_get (pc := 40) g dX9_hand_40 (mM_m _ _ _) rfl inX9 17 (by decide) (by decide +kernel) rfl rfl ?_
        refine j_iload_n (pc := 43) g 1 dX9_hand_43 rfl rfl ?_
        refine jm_ald (pc := 44) g hI 17 dX9_hand_44 (by decide) rfl (ix its) (hi.1) (by have : mLen 17 = 12 := rfl; omega) ?_
        refine jm_ald (pc := 45) g hI 6 dX9_hand_45 (by decide) rfl (ix (S 17 (ix its))) (hp.1) (by have : mLen 6 = 3 := rfl; omega) ?_
        refine j_if_le (pc := 46) g 53 dX9_hand_46 (by decide) (fun c46 => ?_) (fun c46 => ?_)
        · refine j_iconst (pc := 53) g (0) dX9_hand_53 (by decide) ?_
          exact K54 _ (by grind [b01])
        · refine j_iconst (pc := 49) g (1) dX9_hand_49 (by decide) ?_
          refine j_goto (pc := 50) g 54 dX9_hand_50 (by decide) ?_
          exact K54 _ (by grind [b01])
