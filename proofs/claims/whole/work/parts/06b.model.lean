set_option maxHeartbeats 400000 in
set_option maxRecDepth 100000 in
theorem m_in (l : Launch) (D : va_G) (M : MH) (v lo hi : Int32) : xC l D yX9_in wsX9_in ({ frames := 0, cells := 0, slots := 0, locals := 0 }) 0 0 [.int v, .int lo, .int hi] (M) (xq (some (.int (b01 (iN v lo hi)))) M) := by
  refine xC_of (cc := cX9_in) (maxL := 3) (ret := (some .boolean)) (own := RX9) [some (.int v), some (.int lo), some (.int hi)] (by decide) rfl rfl (Nat.le_of_ble_eq_true rfl) rfl rfl rfl ?_
  intro X hXl hXD g r
  subst hXl
  subst hXD
  refine j_iload_n (pc := 0) g 0 dX9_in_0 rfl rfl ?_
  refine j_iload_n (pc := 1) g 1 dX9_in_1 rfl rfl ?_
  refine j_icmp_lt (pc := 2) g 14 dX9_in_2 (by decide) (fun c2 => ?_) (fun c2 => ?_)
  · refine j_iconst (pc := 14) g (0) dX9_in_14 (by decide) ?_
    exact j_iret (pc := 15) g r rfl rfl (xq_i (by grind [b01]) rfl) dX9_in_15 (Nat.le_of_ble_eq_true rfl) (Nat.le_of_ble_eq_true rfl)
  · refine j_iload_n (pc := 5) g 0 dX9_in_5 rfl rfl ?_
    refine j_iload_n (pc := 6) g 2 dX9_in_6 rfl rfl ?_
    refine j_icmp_gt (pc := 7) g 14 dX9_in_7 (by decide) (fun c7 => ?_) (fun c7 => ?_)
    · refine j_iconst (pc := 14) g (0) dX9_in_14 (by decide) ?_
      exact j_iret (pc := 15) g r rfl rfl (xq_i (by grind [b01]) rfl) dX9_in_15 (Nat.le_of_ble_eq_true rfl) (Nat.le_of_ble_eq_true rfl)
    · refine j_iconst (pc := 10) g (1) dX9_in_10 (by decide) ?_
      refine j_goto (pc := 11) g 15 dX9_in_11 (by decide) ?_
      exact j_iret (pc := 15) g r rfl rfl (xq_i (by grind [b01]) rfl) dX9_in_15 (Nat.le_of_ble_eq_true rfl) (Nat.le_of_ble_eq_true rfl)

set_option maxHeartbeats 400000 in
set_option maxRecDepth 100000 in
theorem m_goes (l : Launch) (D : va_G) (m : Nat) (ad : Nat → Nat) (S : ST) (x y z : Int32) : xC l D yX9_goes wsX9_goes ({ frames := 0, cells := 0, slots := 0, locals := 0 }) 0 0 [.ref m, .int x, .int y, .int z] (mM m ad S) (xq (some (.int (b01 (gT x y z = 0)))) (mM m ad (su S 28 0 (gT x y z)))) := by
  refine xC_of (cc := cX9_goes) (maxL := 4) (ret := (some .boolean)) (own := RX9) [some (.ref m), some (.int x), some (.int y), some (.int z)] (by decide) rfl rfl (Nat.le_of_ble_eq_true rfl) rfl rfl rfl ?_
  intro X hXl hXD g r
  subst hXl
  subst hXD
  have inX9 : ∀ w ∈ wsX90, w ∈ wsX9_goes := inwX9_X9_goes
  have K26 : ∀ (t : Int32) (ht : t = gT x y z), J X 4 0 0 (mM m ad S) [some (.ref m), some (.int x), some (.int y), some (.int z)] [.int t, .ref m] 26 := by
    intro t ht
    refine jm_put (pc := 26) g dX9_goes_26 inX9 28 (by decide) (by decide +kernel) (by decide) ⟨rfl, rfl, rfl⟩ rfl ?_
    refine j_aload_n (pc := 29) g 0 dX9_goes_29 rfl rfl ?_
    refine j_get (pc := 30) g dX9_goes_30 (mM_m _ _ _) rfl inX9 28 (by decide) (by decide +kernel) rfl rfl ?_
    refine j_if_ne (pc := 33) g 40 dX9_goes_33 (by decide) (fun c33 => ?_) (fun c33 => ?_)
    · refine j_iconst (pc := 40) g (0) dX9_goes_40 (by decide) ?_
      exact j_iret (pc := 41) g r rfl rfl (by subst ht; rw [su_s] at c33; exact xq_i (by grind [b01]) rfl) dX9_goes_41 (Nat.le_of_ble_eq_true rfl) (Nat.le_of_ble_eq_true rfl)
    · refine j_iconst (pc := 36) g (1) dX9_goes_36 (by decide) ?_
      refine j_goto (pc := 37) g 41 dX9_goes_37 (by decide) ?_
      exact j_iret (pc := 41) g r rfl rfl (by subst ht; rw [su_s] at c33; exact xq_i (by grind [b01]) rfl) dX9_goes_41 (Nat.le_of_ble_eq_true rfl) (Nat.le_of_ble_eq_true rfl)
  refine j_aload_n (pc := 0) g 0 dX9_goes_0 rfl rfl ?_
  refine j_iload_n (pc := 1) g 1 dX9_goes_1 rfl rfl ?_
  refine j_if_ne (pc := 2) g 9 dX9_goes_2 (by decide) (fun c2 => ?_) (fun c2 => ?_)
  · refine j_iload_n (pc := 9) g 2 dX9_goes_9 rfl rfl ?_
    refine j_if_ne (pc := 10) g 17 dX9_goes_10 (by decide) (fun c10 => ?_) (fun c10 => ?_)
    · refine j_iload_n (pc := 17) g 3 dX9_goes_17 rfl rfl ?_
      refine j_if_ne (pc := 18) g 25 dX9_goes_18 (by decide) (fun c18 => ?_) (fun c18 => ?_)
      · refine j_iconst (pc := 25) g (0) dX9_goes_25 (by decide) ?_
        exact K26 _ (by grind [gT])
      · refine j_iconst (pc := 21) g (3) dX9_goes_21 (by decide) ?_
        refine j_goto (pc := 22) g 26 dX9_goes_22 (by decide) ?_
        exact K26 _ (by grind [gT])
    · refine j_iconst (pc := 13) g (2) dX9_goes_13 (by decide) ?_
      refine j_goto (pc := 14) g 26 dX9_goes_14 (by decide) ?_
      exact K26 _ (by grind [gT])
  · refine j_iconst (pc := 5) g (1) dX9_goes_5 (by decide) ?_
    refine j_goto (pc := 6) g 26 dX9_goes_6 (by decide) ?_
    exact K26 _ (by grind [gT])

set_option maxHeartbeats 400000 in
set_option maxRecDepth 100000 in
theorem m_isDuel (l : Launch) (D : va_G) (m : Nat) (ad : Nat → Nat) (S : ST) (k : Int32) : xC l D yX9_isDuel wsX9_isDuel ({ frames := 1, cells := 0, slots := 0, locals := 22 }) 0 0 [.ref m, .int k] (mM m ad S) (xq (some (.int (b01 (iN k 0 (S 12 0 - 1))))) (mM m ad S)) := by
  refine xC_of (cc := cX9_isDuel) (maxL := 2) (ret := (some .boolean)) (own := RX9) [some (.ref m), some (.int k)] (by decide) rfl rfl (Nat.le_of_ble_eq_true rfl) rfl rfl rfl ?_
  intro X hXl hXD g r
  subst hXl
  subst hXD
  have inX9 : ∀ w ∈ wsX90, w ∈ wsX9_isDuel := inwX9_X9_isDuel
  refine j_iload_n (pc := 0) g 1 dX9_isDuel_0 rfl rfl ?_
  refine j_iconst (pc := 1) g (0) dX9_isDuel_1 (by decide) ?_
  refine j_aload_n (pc := 2) g 0 dX9_isDuel_2 rfl rfl ?_
  refine j_get (pc := 3) g dX9_isDuel_3 (mM_m _ _ _) rfl inX9 12 (by decide) (by decide +kernel) rfl rfl ?_
  refine j_iconst (pc := 6) g (1) dX9_isDuel_6 (by decide) ?_
  refine j_isub (pc := 7) g dX9_isDuel_7 ?_
  refine j_cSi (pc := 8) (n := 3) g (m_in (jl X) (jD X) _ _ _ _) dX9_isDuel_8 gX9_isDuel_X9_in rfl rfl rfl rfl ⟨by decide, by decide, by decide +kernel⟩ ⟨Nat.le_of_ble_eq_true rfl, Nat.le_of_ble_eq_true rfl⟩ ⟨Nat.le_of_ble_eq_true rfl, Nat.le_of_ble_eq_true rfl⟩ rfl (Nat.le_of_ble_eq_true rfl) ?_
  exact j_iret (pc := 11) g r rfl b01_nar (⟨rfl, rfl⟩) dX9_isDuel_11 (Nat.le_of_ble_eq_true rfl) (Nat.le_of_ble_eq_true rfl)

set_option maxHeartbeats 400000 in
set_option maxRecDepth 100000 in
theorem m_isSign (l : Launch) (D : va_G) (m : Nat) (ad : Nat → Nat) (S : ST) (k : Int32) : xC l D yX9_isSign wsX9_isSign ({ frames := 1, cells := 0, slots := 0, locals := 22 }) 0 0 [.ref m, .int k] (mM m ad S) (xq (some (.int (b01 (iN k 0 (S 3 0 - 1))))) (mM m ad S)) := by
  refine xC_of (cc := cX9_isSign) (maxL := 2) (ret := (some .boolean)) (own := RX9) [some (.ref m), some (.int k)] (by decide) rfl rfl (Nat.le_of_ble_eq_true rfl) rfl rfl rfl ?_
  intro X hXl hXD g r
  subst hXl
  subst hXD
  have inX9 : ∀ w ∈ wsX90, w ∈ wsX9_isSign := inwX9_X9_isSign
  refine j_iload_n (pc := 0) g 1 dX9_isSign_0 rfl rfl ?_
  refine j_iconst (pc := 1) g (0) dX9_isSign_1 (by decide) ?_
  refine j_aload_n (pc := 2) g 0 dX9_isSign_2 rfl rfl ?_
  refine j_get (pc := 3) g dX9_isSign_3 (mM_m _ _ _) rfl inX9 3 (by decide) (by decide +kernel) rfl rfl ?_
  refine j_iconst (pc := 6) g (1) dX9_isSign_6 (by decide) ?_
  refine j_isub (pc := 7) g dX9_isSign_7 ?_
  refine j_cSi (pc := 8) (n := 3) g (m_in (jl X) (jD X) _ _ _ _) dX9_isSign_8 gX9_isSign_X9_in rfl rfl rfl rfl ⟨by decide, by decide, by decide +kernel⟩ ⟨Nat.le_of_ble_eq_true rfl, Nat.le_of_ble_eq_true rfl⟩ ⟨Nat.le_of_ble_eq_true rfl, Nat.le_of_ble_eq_true rfl⟩ rfl (Nat.le_of_ble_eq_true rfl) ?_
  exact j_iret (pc := 11) g r rfl b01_nar (⟨rfl, rfl⟩) dX9_isSign_11 (Nat.le_of_ble_eq_true rfl) (Nat.le_of_ble_eq_true rfl)

set_option maxHeartbeats 400000 in
set_option maxRecDepth 100000 in
theorem m_isPaper (l : Launch) (D : va_G) (M : MH) (k : Int32) : xC l D yX9_isPaper wsX9_isPaper ({ frames := 1, cells := 0, slots := 0, locals := 22 }) 0 0 [.int k] (M) (xq (some (.int (b01 (iN k 0 2)))) M) := by
  refine xC_of (cc := cX9_isPaper) (maxL := 1) (ret := (some .boolean)) (own := RX9) [some (.int k)] (by decide) rfl rfl (Nat.le_of_ble_eq_true rfl) rfl rfl rfl ?_
  intro X hXl hXD g r
  subst hXl
  subst hXD
  refine j_iload_n (pc := 0) g 0 dX9_isPaper_0 rfl rfl ?_
  refine j_iconst (pc := 1) g (0) dX9_isPaper_1 (by decide) ?_
  refine j_iconst (pc := 2) g (2) dX9_isPaper_2 (by decide) ?_
  refine j_cSi (pc := 3) (n := 3) g (m_in (jl X) (jD X) _ _ _ _) dX9_isPaper_3 gX9_isPaper_X9_in rfl rfl rfl rfl ⟨by decide, by decide, by decide +kernel⟩ ⟨Nat.le_of_ble_eq_true rfl, Nat.le_of_ble_eq_true rfl⟩ ⟨Nat.le_of_ble_eq_true rfl, Nat.le_of_ble_eq_true rfl⟩ rfl (Nat.le_of_ble_eq_true rfl) ?_
  exact j_iret (pc := 6) g r rfl b01_nar (⟨rfl, rfl⟩) dX9_isPaper_6 (Nat.le_of_ble_eq_true rfl) (Nat.le_of_ble_eq_true rfl)

set_option maxHeartbeats 400000 in
set_option maxRecDepth 100000 in
theorem m_stroke (l : Launch) (D : va_G) (m : Nat) (ad : Nat → Nat) (hI : mI m ad) (S : ST) (d : Nat) (hd : S 1 0 = nI d) (hd8 : d ≤ 8) (x y ex ey : Int32) : xC l D yX9_stroke wsX9_stroke ({ frames := 1, cells := 0, slots := 0, locals := 23 }) 0 0 [.ref m, .int x, .int y, .int ex, .int ey] (mM m ad S) (xq (some (.int (mAns (tStroke S x y ex ey) (nI (d + 1))))) (mM m ad (mSt S (tStroke S x y ex ey) (fun S => nStroke S d x y ex ey)))) := by
  refine xC_of (cc := cX9_stroke) (maxL := 6) (ret := (some .int)) (own := RX9) [some (.ref m), some (.int x), some (.int y), some (.int ex), some (.int ey), none] (by decide) rfl rfl (Nat.le_of_ble_eq_true rfl) rfl rfl rfl ?_
  intro X hXl hXD g r
  subst hXl
  subst hXD
  have inX9 : ∀ w ∈ wsX90, w ∈ wsX9_stroke := inwX9_X9_stroke
  have K57 : ∀ (b : Int32) (hb : b = b01 (okStroke x y ex ey)), J X 6 0 0 (mM m ad S) [some (.ref m), some (.int x), some (.int y), some (.int ex), some (.int ey), none] [.int b] 57 := by
    intro b hb
    refine istore_6_5 (pc := 57) g dX9_stroke_57 ?_
    have K76 : ∀ (b2 : Int32) (hb2 : b2 = b01 (S 1 0 < 8)), J X 6 0 0 (mM m ad S) [some (.ref m), some (.int x), some (.int y), some (.int ex), some (.int ey), some (.int b)] [.int b2, .int b, .ref m] 76 := by
      intro b2 hb2
      refine j_iconst (pc := 76) g (1) dX9_stroke_76 (by decide) ?_
      refine j_cVi (pc := 77) (n := 3) g (m_goes (jl X) (jD X) m ad S _ _ _) dX9_stroke_77 (mM_m _ _ _) rfl gX9_stroke_X9_goes rfl rfl rfl rfl ⟨rfl, by decide, by decide, by decide +kernel⟩ ⟨Nat.le_of_ble_eq_true rfl, Nat.le_of_ble_eq_true rfl⟩ ⟨Nat.le_of_ble_eq_true rfl, Nat.le_of_ble_eq_true rfl⟩ rfl (Nat.le_of_ble_eq_true rfl) ?_
      have ht : gT b b2 1 = tStroke S x y ex ey := by grind [gT, b01, tStroke]
      rw [ht]
      refine j_if_ne (pc := 80) g 85 dX9_stroke_80 (by decide) (fun c80 => ?_) (fun c80 => ?_)
      · have h0 : tStroke S x y ex ey = 0 := by grind [b01]
        rw [h0]
        have hd7 : d < 8 := by
          have h1 : S 1 0 < 8 := by grind [tStroke]
          rw [hd] at h1
          exact (nI_ltI (b := 8) (by omega) (by omega)).mp h1
        refine j_aload_n (pc := 85) g 0 dX9_stroke_85 rfl rfl ?_
        refine j_get (pc := 86) g dX9_stroke_86 (mM_m _ _ _) rfl inX9 2 (by decide) (by decide +kernel) rfl rfl ?_
        refine j_iconst (pc := 89) g (4) dX9_stroke_89 (by decide) ?_
        refine j_aload_n (pc := 90) g 0 dX9_stroke_90 rfl rfl ?_
        refine j_get (pc := 91) g dX9_stroke_91 (mM_m _ _ _) rfl inX9 1 (by decide) (by decide +kernel) rfl rfl ?_
        refine j_imul (pc := 94) g dX9_stroke_94 ?_
        refine j_iload_n (pc := 95) g 1 dX9_stroke_95 rfl rfl ?_
        refine jm_ast (pc := 96) g hI 2 dX9_stroke_96 (by decide) rfl (4 * d) (by simp only [su, hd, lit_nI, pk_mul, nI_add]; simp [upd, hd, lit_nI, pk_mul, nI_add]) (by have : mLen 2 = 32 := rfl; omega) ?_
        refine j_aload_n (pc := 97) g 0 dX9_stroke_97 rfl rfl ?_
        refine j_get (pc := 98) g dX9_stroke_98 (mM_m _ _ _) rfl inX9 2 (by decide) (by decide +kernel) rfl rfl ?_
        refine j_iconst (pc := 101) g (4) dX9_stroke_101 (by decide) ?_
        refine j_aload_n (pc := 102) g 0 dX9_stroke_102 rfl rfl ?_
        refine j_get (pc := 103) g dX9_stroke_103 (mM_m _ _ _) rfl inX9 1 (by decide) (by decide +kernel) rfl rfl ?_
        refine j_imul (pc := 106) g dX9_stroke_106 ?_
        refine j_iconst (pc := 107) g (1) dX9_stroke_107 (by decide) ?_
        refine j_iadd (pc := 108) g dX9_stroke_108 ?_
        refine j_iload_n (pc := 109) g 2 dX9_stroke_109 rfl rfl ?_
        refine jm_ast (pc := 110) g hI 2 dX9_stroke_110 (by decide) rfl (4 * d + 1) (by simp only [su, hd, lit_nI, pk_mul, nI_add]; simp [upd, hd, lit_nI, pk_mul, nI_add]) (by have : mLen 2 = 32 := rfl; omega) ?_
        refine j_aload_n (pc := 111) g 0 dX9_stroke_111 rfl rfl ?_
        refine j_get (pc := 112) g dX9_stroke_112 (mM_m _ _ _) rfl inX9 2 (by decide) (by decide +kernel) rfl rfl ?_
        refine j_iconst (pc := 115) g (4) dX9_stroke_115 (by decide) ?_
        refine j_aload_n (pc := 116) g 0 dX9_stroke_116 rfl rfl ?_
        refine j_get (pc := 117) g dX9_stroke_117 (mM_m _ _ _) rfl inX9 1 (by decide) (by decide +kernel) rfl rfl ?_
        refine j_imul (pc := 120) g dX9_stroke_120 ?_
        refine j_iconst (pc := 121) g (2) dX9_stroke_121 (by decide) ?_
        refine j_iadd (pc := 122) g dX9_stroke_122 ?_
        refine j_iload_n (pc := 123) g 3 dX9_stroke_123 rfl rfl ?_
        refine jm_ast (pc := 124) g hI 2 dX9_stroke_124 (by decide) rfl (4 * d + 2) (by simp only [su, hd, lit_nI, pk_mul, nI_add]; simp [upd, hd, lit_nI, pk_mul, nI_add]) (by have : mLen 2 = 32 := rfl; omega) ?_
        refine j_aload_n (pc := 125) g 0 dX9_stroke_125 rfl rfl ?_
        refine j_get (pc := 126) g dX9_stroke_126 (mM_m _ _ _) rfl inX9 2 (by decide) (by decide +kernel) rfl rfl ?_
        refine j_iconst (pc := 129) g (4) dX9_stroke_129 (by decide) ?_
        refine j_aload_n (pc := 130) g 0 dX9_stroke_130 rfl rfl ?_
        refine j_get (pc := 131) g dX9_stroke_131 (mM_m _ _ _) rfl inX9 1 (by decide) (by decide +kernel) rfl rfl ?_
        refine j_imul (pc := 134) g dX9_stroke_134 ?_
        refine j_iconst (pc := 135) g (3) dX9_stroke_135 (by decide) ?_
        refine j_iadd (pc := 136) g dX9_stroke_136 ?_
        refine j_iload (pc := 137) g dX9_stroke_137 rfl ?_
        refine jm_ast (pc := 139) g hI 2 dX9_stroke_139 (by decide) rfl (4 * d + 3) (by simp only [su, hd, lit_nI, pk_mul, nI_add]; simp [upd, hd, lit_nI, pk_mul, nI_add]) (by have : mLen 2 = 32 := rfl; omega) ?_
        refine j_aload_n (pc := 140) g 0 dX9_stroke_140 rfl rfl ?_
        refine j_dup (pc := 141) g dX9_stroke_141 rfl ?_
        refine j_get (pc := 142) g dX9_stroke_142 (mM_m _ _ _) rfl inX9 1 (by decide) (by decide +kernel) rfl rfl ?_
        refine j_iconst (pc := 145) g (1) dX9_stroke_145 (by decide) ?_
        refine j_iadd (pc := 146) g dX9_stroke_146 ?_
        refine j_topi (nI (d + 1)) (by simp only [su]; simp [upd, hd, lit_nI, nI_add]) ?_
        refine jm_put (pc := 147) g dX9_stroke_147 inX9 1 (by decide) (by decide +kernel) (by decide) ⟨rfl, rfl, rfl⟩ rfl ?_
        refine j_aload_n (pc := 150) g 0 dX9_stroke_150 rfl rfl ?_
        refine j_get (pc := 151) g dX9_stroke_151 (mM_m _ _ _) rfl inX9 1 (by decide) (by decide +kernel) rfl rfl ?_
        exact j_iret (pc := 154) g r rfl rfl (by first | exact xq_i (by rw [mAns, if_neg (b01_0.mp c80)]) (by rw [mSt, if_neg (b01_0.mp c80)]) | exact xq_i (by rw [mAns, if_pos h0]; rfl) (by rw [mSt, if_pos h0]; rfl)) dX9_stroke_154 (Nat.le_of_ble_eq_true rfl) (Nat.le_of_ble_eq_true rfl)
      · refine j_iconst (pc := 83) g (0) dX9_stroke_83 (by decide) ?_
        exact j_iret (pc := 84) g r rfl rfl (by first | exact xq_i (by rw [mAns, if_neg (b01_0.mp c80)]) (by rw [mSt, if_neg (b01_0.mp c80)]) | exact xq_i (by rw [mAns, if_pos h0]; rfl) (by rw [mSt, if_pos h0]; rfl)) dX9_stroke_84 (Nat.le_of_ble_eq_true rfl) (Nat.le_of_ble_eq_true rfl)
    refine j_aload_n (pc := 59) g 0 dX9_stroke_59 rfl rfl ?_
    refine j_iload (pc := 60) g dX9_stroke_60 rfl ?_
    refine j_aload_n (pc := 62) g 0 dX9_stroke_62 rfl rfl ?_
    refine j_get (pc := 63) g dX9_stroke_63 (mM_m _ _ _) rfl inX9 1 (by decide) (by decide +kernel) rfl rfl ?_
    refine j_bipush (pc := 66) g (8) dX9_stroke_66 (by decide) ?_
    refine j_icmp_ge (pc := 68) g 75 dX9_stroke_68 (by decide) (fun c68 => ?_) (fun c68 => ?_)
    · refine j_iconst (pc := 75) g (0) dX9_stroke_75 (by decide) ?_
      exact K76 _ (by grind [b01])
    · refine j_iconst (pc := 71) g (1) dX9_stroke_71 (by decide) ?_
      refine j_goto (pc := 72) g 76 dX9_stroke_72 (by decide) ?_
      exact K76 _ (by grind [b01])
  refine j_iload_n (pc := 0) g 1 dX9_stroke_0 rfl rfl ?_
  refine j_iconst (pc := 1) g (0) dX9_stroke_1 (by decide) ?_
  refine j_bipush (pc := 2) g (99) dX9_stroke_2 (by decide) ?_
  refine j_cSi (pc := 4) (n := 3) g (m_in (jl X) (jD X) _ _ _ _) dX9_stroke_4 gX9_stroke_X9_in rfl rfl rfl rfl ⟨by decide, by decide, by decide +kernel⟩ ⟨Nat.le_of_ble_eq_true rfl, Nat.le_of_ble_eq_true rfl⟩ ⟨Nat.le_of_ble_eq_true rfl, Nat.le_of_ble_eq_true rfl⟩ rfl (Nat.le_of_ble_eq_true rfl) ?_
  refine j_if_eq (pc := 7) g 56 dX9_stroke_7 (by decide) (fun c7 => ?_) (fun c7 => ?_)
  · refine j_iconst (pc := 56) g (0) dX9_stroke_56 (by decide) ?_
    exact K57 _ (by grind [b01])
  · refine j_iload_n (pc := 10) g 2 dX9_stroke_10 rfl rfl ?_
    refine j_iconst (pc := 11) g (0) dX9_stroke_11 (by decide) ?_
    refine j_bipush (pc := 12) g (99) dX9_stroke_12 (by decide) ?_
    refine j_cSi (pc := 14) (n := 3) g (m_in (jl X) (jD X) _ _ _ _) dX9_stroke_14 gX9_stroke_X9_in rfl rfl rfl rfl ⟨by decide, by decide, by decide +kernel⟩ ⟨Nat.le_of_ble_eq_true rfl, Nat.le_of_ble_eq_true rfl⟩ ⟨Nat.le_of_ble_eq_true rfl, Nat.le_of_ble_eq_true rfl⟩ rfl (Nat.le_of_ble_eq_true rfl) ?_
    refine j_if_eq (pc := 17) g 56 dX9_stroke_17 (by decide) (fun c17 => ?_) (fun c17 => ?_)
    · refine j_iconst (pc := 56) g (0) dX9_stroke_56 (by decide) ?_
      exact K57 _ (by grind [b01])
    · refine j_iload_n (pc := 20) g 3 dX9_stroke_20 rfl rfl ?_
      refine j_iconst (pc := 21) g (0) dX9_stroke_21 (by decide) ?_
      refine j_bipush (pc := 22) g (99) dX9_stroke_22 (by decide) ?_
      refine j_cSi (pc := 24) (n := 3) g (m_in (jl X) (jD X) _ _ _ _) dX9_stroke_24 gX9_stroke_X9_in rfl rfl rfl rfl ⟨by decide, by decide, by decide +kernel⟩ ⟨Nat.le_of_ble_eq_true rfl, Nat.le_of_ble_eq_true rfl⟩ ⟨Nat.le_of_ble_eq_true rfl, Nat.le_of_ble_eq_true rfl⟩ rfl (Nat.le_of_ble_eq_true rfl) ?_
      refine j_if_eq (pc := 27) g 56 dX9_stroke_27 (by decide) (fun c27 => ?_) (fun c27 => ?_)
      · refine j_iconst (pc := 56) g (0) dX9_stroke_56 (by decide) ?_
        exact K57 _ (by grind [b01])
      · refine j_iload (pc := 30) g dX9_stroke_30 rfl ?_
        refine j_iconst (pc := 32) g (0) dX9_stroke_32 (by decide) ?_
        refine j_bipush (pc := 33) g (99) dX9_stroke_33 (by decide) ?_
        refine j_cSi (pc := 35) (n := 3) g (m_in (jl X) (jD X) _ _ _ _) dX9_stroke_35 gX9_stroke_X9_in rfl rfl rfl rfl ⟨by decide, by decide, by decide +kernel⟩ ⟨Nat.le_of_ble_eq_true rfl, Nat.le_of_ble_eq_true rfl⟩ ⟨Nat.le_of_ble_eq_true rfl, Nat.le_of_ble_eq_true rfl⟩ rfl (Nat.le_of_ble_eq_true rfl) ?_
        refine j_if_eq (pc := 38) g 56 dX9_stroke_38 (by decide) (fun c38 => ?_) (fun c38 => ?_)
        · refine j_iconst (pc := 56) g (0) dX9_stroke_56 (by decide) ?_
          exact K57 _ (by grind [b01])
        · refine j_iload_n (pc := 41) g 1 dX9_stroke_41 rfl rfl ?_
          refine j_iload_n (pc := 42) g 3 dX9_stroke_42 rfl rfl ?_
          refine j_icmp_ne (pc := 43) g 52 dX9_stroke_43 (by decide) (fun c43 => ?_) (fun c43 => ?_)
          · refine j_iconst (pc := 52) g (1) dX9_stroke_52 (by decide) ?_
            refine j_goto (pc := 53) g 57 dX9_stroke_53 (by decide) ?_
            exact K57 _ (by grind [b01])
          · refine j_iload_n (pc := 46) g 2 dX9_stroke_46 rfl rfl ?_
            refine j_iload (pc := 47) g dX9_stroke_47 rfl ?_
            refine j_icmp_eq (pc := 49) g 56 dX9_stroke_49 (by decide) (fun c49 => ?_) (fun c49 => ?_)
            · refine j_iconst (pc := 56) g (0) dX9_stroke_56 (by decide) ?_
              exact K57 _ (by grind [b01])
            · refine j_iconst (pc := 52) g (1) dX9_stroke_52 (by decide) ?_
              refine j_goto (pc := 53) g 57 dX9_stroke_53 (by decide) ?_
              exact K57 _ (by grind [b01])

set_option maxHeartbeats 400000 in
set_option maxRecDepth 100000 in
theorem m_clear (l : Launch) (D : va_G) (m : Nat) (ad : Nat → Nat) (hI : mI m ad) (S : ST)  : xC l D yX9_clear wsX9_clear ({ frames := 0, cells := 0, slots := 0, locals := 0 }) 0 0 [.ref m] (mM m ad S) (xq (some (.int (S 1 0))) (mM m ad (su (su S 28 0 0) 1 0 0))) := by
  refine xC_of (cc := cX9_clear) (maxL := 2) (ret := (some .int)) (own := RX9) [some (.ref m), none] (by decide) rfl rfl (Nat.le_of_ble_eq_true rfl) rfl rfl rfl ?_
  intro X hXl hXD g r
  subst hXl
  subst hXD
  have inX9 : ∀ w ∈ wsX90, w ∈ wsX9_clear := inwX9_X9_clear
  refine j_aload_n (pc := 0) g 0 dX9_clear_0 rfl rfl ?_
  refine j_iconst (pc := 1) g (0) dX9_clear_1 (by decide) ?_
  refine jm_put (pc := 2) g dX9_clear_2 inX9 28 (by decide) (by decide +kernel) (by decide) ⟨rfl, rfl, rfl⟩ rfl ?_
  refine j_aload_n (pc := 5) g 0 dX9_clear_5 rfl rfl ?_
  refine j_get (pc := 6) g dX9_clear_6 (mM_m _ _ _) rfl inX9 1 (by decide) (by decide +kernel) rfl rfl ?_
  refine istore_n_2_1 (pc := 9) g dX9_clear_9 ?_
  refine j_aload_n (pc := 10) g 0 dX9_clear_10 rfl rfl ?_
  refine j_iconst (pc := 11) g (0) dX9_clear_11 (by decide) ?_
  refine jm_put (pc := 12) g dX9_clear_12 inX9 1 (by decide) (by decide +kernel) (by decide) ⟨rfl, rfl, rfl⟩ rfl ?_
  refine j_iload_n (pc := 15) g 1 dX9_clear_15 rfl rfl ?_
  exact j_iret (pc := 16) g r rfl rfl (⟨rfl, rfl⟩) dX9_clear_16 (Nat.le_of_ble_eq_true rfl) (Nat.le_of_ble_eq_true rfl)

set_option maxHeartbeats 400000 in
set_option maxRecDepth 100000 in
theorem m_thrown (l : Launch) (D : va_G) (m : Nat) (ad : Nat → Nat) (hI : mI m ad) (S : ST)  : xC l D yX9_thrown wsX9_thrown ({ frames := 0, cells := 0, slots := 0, locals := 0 }) 0 0 [.ref m] (mM m ad S) (xq (some (.int (S 28 0))) (mM m ad S)) := by
  refine xC_of (cc := cX9_thrown) (maxL := 1) (ret := (some .int)) (own := RX9) [some (.ref m)] (by decide) rfl rfl (Nat.le_of_ble_eq_true rfl) rfl rfl rfl ?_
  intro X hXl hXD g r
  subst hXl
  subst hXD
  have inX9 : ∀ w ∈ wsX90, w ∈ wsX9_thrown := inwX9_X9_thrown
  refine j_aload_n (pc := 0) g 0 dX9_thrown_0 rfl rfl ?_
  refine j_get (pc := 1) g dX9_thrown_1 (mM_m _ _ _) rfl inX9 28 (by decide) (by decide +kernel) rfl rfl ?_
  exact j_iret (pc := 4) g r rfl rfl (⟨rfl, rfl⟩) dX9_thrown_4 (Nat.le_of_ble_eq_true rfl) (Nat.le_of_ble_eq_true rfl)
