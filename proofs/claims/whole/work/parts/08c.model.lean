set_option maxHeartbeats 400000 in
set_option maxRecDepth 100000 in
theorem m_markOf (l : Launch) (D : va_G) (m : Nat) (ad : Nat → Nat) (hI : mI m ad) (S : ST) (k : Nat) (hk : k ∈ mArr) (hkc : mCode k = 10) (frm some_ sign style wet : Int32) (f s gg y mn : Nat) (hf : frm = nI f) (hs : some_ = nI s) (hg : sign = nI gg) (hy : style = nI y) (hs8 : s ≤ 8) (hg6 : gg < 6) (hy4 : y < 4) (hmn : S 4 gg = nI mn) (hm1 : 1 ≤ mn) (hm6 : mn ≤ 6) (hwt : mWt S) (hwet : rg wet 0 100) (hlen : ∀ i, i < min s mn → f + 4 * i + 4 ≤ mLen k) (ho : ∀ i, i < min s mn → okC S k (f + 4 * i) ∧ okC S 5 (24 * gg + 4 * i)) : xC l D yX9_markOf wsX9_markOf ({ frames := 2, cells := 0, slots := 0, locals := 48 }) 0 0 [.ref m, .ref (ad k), .int frm, .int some_, .int sign, .int style, .int wet] (mM m ad S) (xq (some (.float (markS S k f s gg y mn wet))) (mM m ad S)) := by
  refine xC_of (cc := cX9_markOf) (maxL := 12) (ret := (some .float)) (own := RX9) [some (.ref m), some (.ref (ad k)), some (.int frm), some (.int some_), some (.int sign), some (.int style), some (.int wet), none, none, none, none, none] (by decide) rfl rfl (Nat.le_of_ble_eq_true rfl) rfl rfl rfl ?_
  intro X hXl hXD g r
  subst hXl
  subst hXD
  have inX9 : ∀ w ∈ wsX90, w ∈ wsX9_markOf := inwX9_X9_markOf
  refine j_aload_n (pc := 0) g 0 dX9_markOf_0 rfl rfl ?_
  refine j_get (pc := 1) g dX9_markOf_1 (mM_m _ _ _) rfl inX9 4 (by decide) (by decide +kernel) rfl rfl ?_
  refine j_iload (pc := 4) g dX9_markOf_4 rfl ?_
  refine jm_ald (pc := 6) g hI 4 dX9_markOf_6 (by decide) rfl (gg) (hg) (by have : mLen 4 = 6 := rfl; omega) ?_
  refine j_topi (nI mn) hmn ?_
  refine istore_12_7 (pc := 7) g dX9_markOf_7 ?_
  refine j_fconst0 (pc := 9) g dX9_markOf_9 ?_
  refine fstore_12_8 (pc := 10) g dX9_markOf_10 ?_
  refine j_iconst (pc := 12) g (0) dX9_markOf_12 (by decide) ?_
  refine istore_12_9 (pc := 13) g dX9_markOf_13 ?_
  have L15 : ∀ (n : Nat) (i : Nat) (hi : i + n = min s mn) (a10 a11 : Option Value), J X 12 0 0 (mM m ad S) [some (.ref m), some (.ref (ad k)), some (.int frm), some (.int some_), some (.int sign), some (.int style), some (.int wet), some (.int (nI mn)), some (.float (sumS S k f s gg y mn wet i)), some (.int (nI i)), a10, a11] [] 15 := by
    intro n
    induction n with
    | zero =>
      intro i hi a10 a11
      have hi4 : i = min s mn := by omega
      subst hi4
      refine j_iload (pc := 15) g dX9_markOf_15 rfl ?_
      refine j_iload_n (pc := 17) g 3 dX9_markOf_17 rfl rfl ?_
      refine j_icmp_ge (pc := 18) g 151 dX9_markOf_18 (by decide) (fun c18 => ?_) (fun c18 => ?_)
      · refine j_fload (pc := 151) g dX9_markOf_151 rfl ?_
        refine j_iload (pc := 153) g dX9_markOf_153 rfl ?_
        refine j_i2f (pc := 155) g dX9_markOf_155 ?_
        refine j_fdiv (pc := 156) g dX9_markOf_156 (fl_n (markS_fl hwt hy4 hwet hm1 hm6 ho) (by decide)) ?_
        exact j_fret (pc := 157) g r rfl  (xq_f rfl rfl) dX9_markOf_157 (Nat.le_of_ble_eq_true rfl) (Nat.le_of_ble_eq_true rfl)
      · refine j_iload (pc := 21) g dX9_markOf_21 rfl ?_
        refine j_iload (pc := 23) g dX9_markOf_23 rfl ?_
        refine j_icmp_ge (pc := 25) g 151 dX9_markOf_25 (by decide) (fun c25 => ?_) (fun c25 => absurd (nI_le (by rw [hs] at c18; have h9 := mt (nI_leI (by omega) (by omega)).mpr c18; omega) (by omega)) c25)
        refine j_fload (pc := 151) g dX9_markOf_151 rfl ?_
        refine j_iload (pc := 153) g dX9_markOf_153 rfl ?_
        refine j_i2f (pc := 155) g dX9_markOf_155 ?_
        refine j_fdiv (pc := 156) g dX9_markOf_156 (fl_n (markS_fl hwt hy4 hwet hm1 hm6 ho) (by decide)) ?_
        exact j_fret (pc := 157) g r rfl  (xq_f rfl rfl) dX9_markOf_157 (Nat.le_of_ble_eq_true rfl) (Nat.le_of_ble_eq_true rfl)
    | succ n ih =>
      intro i hi a10 a11
      have hlt : i < min s mn := by omega
      have hne : fl (nearS S k (f + 4 * i) (24 * gg + 4 * i) wet) 142 := nearS_fl (ho i hlt).1 (ho i hlt).2 hwet
      have hsl : fl (slopeS S k (f + 4 * i) (24 * gg + 4 * i)) 167 := slopeS_fl (ho i hlt).1 (ho i hlt).2
      refine j_iload (pc := 15) g dX9_markOf_15 rfl ?_
      refine j_iload_n (pc := 17) g 3 dX9_markOf_17 rfl rfl ?_
      refine j_icmp_ge (pc := 18) g 151 dX9_markOf_18 (by decide) (fun c18 => absurd c18 (by rw [hs]; exact nI_ge (by omega) (by omega))) (fun c18 => ?_)
      refine j_iload (pc := 21) g dX9_markOf_21 rfl ?_
      refine j_iload (pc := 23) g dX9_markOf_23 rfl ?_
      refine j_icmp_ge (pc := 25) g 151 dX9_markOf_25 (by decide) (fun c25 => absurd c25 (nI_ge (by omega) (by omega))) (fun c25 => ?_)
      refine j_bipush (pc := 28) g (24) dX9_markOf_28 (by decide) ?_
      refine j_iload (pc := 30) g dX9_markOf_30 rfl ?_
      refine j_imul (pc := 32) g dX9_markOf_32 ?_
      refine j_iconst (pc := 33) g (4) dX9_markOf_33 (by decide) ?_
      refine j_iload (pc := 34) g dX9_markOf_34 rfl ?_
      refine j_imul (pc := 36) g dX9_markOf_36 ?_
      refine j_iadd (pc := 37) g dX9_markOf_37 ?_
      refine j_topi (nI (24 * gg + 4 * i)) (by rw [hg]; exact lx_a (lx_m 24 rfl) (lx_m 4 rfl)) ?_
      refine istore_12_10 (pc := 38) g dX9_markOf_38 ?_
      refine j_fconst0 (pc := 40) g dX9_markOf_40 ?_
      refine fstore_12_11 (pc := 41) g dX9_markOf_41 ?_
      refine j_fload (pc := 43) g dX9_markOf_43 rfl ?_
      refine j_aload_n (pc := 45) g 0 dX9_markOf_45 rfl rfl ?_
      refine j_get (pc := 46) g dX9_markOf_46 (mM_m _ _ _) rfl inX9 10 (by decide) (by decide +kernel) rfl rfl ?_
      refine j_iconst (pc := 49) g (3) dX9_markOf_49 (by decide) ?_
      refine j_iload (pc := 50) g dX9_markOf_50 rfl ?_
      refine j_imul (pc := 52) g dX9_markOf_52 ?_
      refine jm_ald (pc := 53) g hI 10 dX9_markOf_53 (by decide) rfl (3 * y) (by rw [hy]; exact lx_m 3 rfl) (by have : mLen 10 = 12 := rfl; omega) ?_
      refine j_i2f (pc := 54) g dX9_markOf_54 ?_
      refine j_aload_n (pc := 55) g 1 dX9_markOf_55 rfl rfl ?_
      refine j_iload_n (pc := 56) g 2 dX9_markOf_56 rfl rfl ?_
      refine j_iconst (pc := 57) g (4) dX9_markOf_57 (by decide) ?_
      refine j_iload (pc := 58) g dX9_markOf_58 rfl ?_
      refine j_imul (pc := 60) g dX9_markOf_60 ?_
      refine j_iadd (pc := 61) g dX9_markOf_61 ?_
      refine j_aload_n (pc := 62) g 0 dX9_markOf_62 rfl rfl ?_
      refine j_get (pc := 63) g dX9_markOf_63 (mM_m _ _ _) rfl inX9 5 (by decide) (by decide +kernel) rfl rfl ?_
      refine j_iload (pc := 66) g dX9_markOf_66 rfl ?_
      refine j_iload (pc := 68) g dX9_markOf_68 rfl ?_
      refine j_cSf (pc := 70) (n := 5) g (m_nearness (jl X) (jD X) m ad hI S k hk hkc _ _ (f + 4 * i) (24 * gg + 4 * i) (lx_a hf (lx_m 4 rfl)) rfl (hlen i hlt) (by omega) (ho i hlt).1 (ho i hlt).2 wet hwet) dX9_markOf_70 gX9_markOf_X9_nearness rfl rfl rfl rfl ⟨by decide, by decide, by decide +kernel⟩ ⟨Nat.le_of_ble_eq_true rfl, Nat.le_of_ble_eq_true rfl⟩ ⟨Nat.le_of_ble_eq_true rfl, Nat.le_of_ble_eq_true rfl⟩ rfl (Nat.le_of_ble_eq_true rfl) ?_
      refine j_fmul (pc := 73) g dX9_markOf_73 (fl_n (mk_a (hwt _ (by omega)) hne) (by decide)) ?_
      refine j_fadd (pc := 74) g dX9_markOf_74 (fl_n (mk_b (hwt _ (by omega)) hne) (by decide)) ?_
      refine j_topf (mk1 (S 10 (3 * y)) (nearS S k (f + 4 * i) (24 * gg + 4 * i) wet)) rfl ?_
      refine fstore_12_11 (pc := 75) g dX9_markOf_75 ?_
      refine j_fload (pc := 77) g dX9_markOf_77 rfl ?_
      refine j_aload_n (pc := 79) g 0 dX9_markOf_79 rfl rfl ?_
      refine j_get (pc := 80) g dX9_markOf_80 (mM_m _ _ _) rfl inX9 10 (by decide) (by decide +kernel) rfl rfl ?_
      refine j_iconst (pc := 83) g (3) dX9_markOf_83 (by decide) ?_
      refine j_iload (pc := 84) g dX9_markOf_84 rfl ?_
      refine j_imul (pc := 86) g dX9_markOf_86 ?_
      refine j_iconst (pc := 87) g (1) dX9_markOf_87 (by decide) ?_
      refine j_iadd (pc := 88) g dX9_markOf_88 ?_
      refine jm_ald (pc := 89) g hI 10 dX9_markOf_89 (by decide) rfl (3 * y + 1) (by rw [hy]; exact lx_a (lx_m 3 rfl) lit_1) (by have : mLen 10 = 12 := rfl; omega) ?_
      refine j_i2f (pc := 90) g dX9_markOf_90 ?_
      refine j_aload_n (pc := 91) g 1 dX9_markOf_91 rfl rfl ?_
      refine j_iload_n (pc := 92) g 2 dX9_markOf_92 rfl rfl ?_
      refine j_iconst (pc := 93) g (4) dX9_markOf_93 (by decide) ?_
      refine j_iload (pc := 94) g dX9_markOf_94 rfl ?_
      refine j_imul (pc := 96) g dX9_markOf_96 ?_
      refine j_iadd (pc := 97) g dX9_markOf_97 ?_
      refine j_aload_n (pc := 98) g 0 dX9_markOf_98 rfl rfl ?_
      refine j_get (pc := 99) g dX9_markOf_99 (mM_m _ _ _) rfl inX9 5 (by decide) (by decide +kernel) rfl rfl ?_
      refine j_iload (pc := 102) g dX9_markOf_102 rfl ?_
      refine j_cSf (pc := 104) (n := 4) g (m_slope (jl X) (jD X) m ad hI S k hk hkc _ _ (f + 4 * i) (24 * gg + 4 * i) (lx_a hf (lx_m 4 rfl)) rfl (hlen i hlt) (by omega) (ho i hlt).1 (ho i hlt).2) dX9_markOf_104 gX9_markOf_X9_slope rfl rfl rfl rfl ⟨by decide, by decide, by decide +kernel⟩ ⟨Nat.le_of_ble_eq_true rfl, Nat.le_of_ble_eq_true rfl⟩ ⟨Nat.le_of_ble_eq_true rfl, Nat.le_of_ble_eq_true rfl⟩ rfl (Nat.le_of_ble_eq_true rfl) ?_
      refine j_fmul (pc := 107) g dX9_markOf_107 (fl_n (mk_c (hwt _ (by omega)) hsl) (by decide)) ?_
      refine j_fadd (pc := 108) g dX9_markOf_108 (fl_n (mk_d (hwt _ (by omega)) (hwt _ (by omega)) hne hsl) (by decide)) ?_
      refine j_topf (mk2 (S 10 (3 * y)) (S 10 (3 * y + 1)) (nearS S k (f + 4 * i) (24 * gg + 4 * i) wet) (slopeS S k (f + 4 * i) (24 * gg + 4 * i))) rfl ?_
      refine fstore_12_11 (pc := 109) g dX9_markOf_109 ?_
      refine j_fload (pc := 111) g dX9_markOf_111 rfl ?_
      refine j_aload_n (pc := 113) g 0 dX9_markOf_113 rfl rfl ?_
      refine j_get (pc := 114) g dX9_markOf_114 (mM_m _ _ _) rfl inX9 10 (by decide) (by decide +kernel) rfl rfl ?_
      refine j_iconst (pc := 117) g (3) dX9_markOf_117 (by decide) ?_
      refine j_iload (pc := 118) g dX9_markOf_118 rfl ?_
      refine j_imul (pc := 120) g dX9_markOf_120 ?_
      refine j_iconst (pc := 121) g (2) dX9_markOf_121 (by decide) ?_
      refine j_iadd (pc := 122) g dX9_markOf_122 ?_
      refine jm_ald (pc := 123) g hI 10 dX9_markOf_123 (by decide) rfl (3 * y + 2) (by rw [hy]; exact lx_a (lx_m 3 rfl) lit_2) (by have : mLen 10 = 12 := rfl; omega) ?_
      refine j_i2f (pc := 124) g dX9_markOf_124 ?_
      refine j_iload_n (pc := 125) g 3 dX9_markOf_125 rfl rfl ?_
      refine j_iload (pc := 126) g dX9_markOf_126 rfl ?_
      refine j_cSf (pc := 128) (n := 2) g (m_order (jl X) (jD X) _ _ _) dX9_markOf_128 gX9_markOf_X9_order rfl rfl rfl rfl ⟨by decide, by decide, by decide +kernel⟩ ⟨Nat.le_of_ble_eq_true rfl, Nat.le_of_ble_eq_true rfl⟩ ⟨Nat.le_of_ble_eq_true rfl, Nat.le_of_ble_eq_true rfl⟩ rfl (Nat.le_of_ble_eq_true rfl) ?_
      refine j_fmul (pc := 131) g dX9_markOf_131 (fl_n (mk_e (hwt _ (by omega)) (ord_fl _ _)) (by decide)) ?_
      refine j_fadd (pc := 132) g dX9_markOf_132 (fl_n (mk_f (hwt _ (by omega)) (hwt _ (by omega)) (hwt _ (by omega)) hne hsl (ord_fl _ _)) (by decide)) ?_
      refine j_topf (mk3 (S 10 (3 * y)) (S 10 (3 * y + 1)) (S 10 (3 * y + 2)) (nearS S k (f + 4 * i) (24 * gg + 4 * i) wet) (slopeS S k (f + 4 * i) (24 * gg + 4 * i)) (ordV (nI s) (nI mn))) (by rw [hs]; rfl) ?_
      refine fstore_12_11 (pc := 133) g dX9_markOf_133 ?_
      refine j_fload (pc := 135) g dX9_markOf_135 rfl ?_
      refine j_fload (pc := 137) g dX9_markOf_137 rfl ?_
      refine j_ldcf (pc := 139) g 1120403456 dX9_markOf_139 (by decide +kernel) ?_
      refine j_fdiv (pc := 141) g dX9_markOf_141 (fl_n (strokeM_fl (s := s) (mn := mn) hwt hy4 (ho i hlt).1 (ho i hlt).2 hwet) (by decide)) ?_
      refine j_fadd (pc := 142) g dX9_markOf_142 (fl_n (sumS_fl (mn := mn) (s := s) hwt hy4 hwet (i + 1) (by omega) (fun q hq => ho q (by omega))) (by omega)) ?_
      refine j_topf (sumS S k f s gg y mn wet (i + 1)) rfl ?_
      refine fstore_12_8 (pc := 143) g dX9_markOf_143 ?_
      refine iinc_12_9_1 (pc := 145) g dX9_markOf_145 ?_
      refine j_goto (pc := 148) g 15 dX9_markOf_148 (by decide) ?_
      exact (by have q9 := ih (i + 1) (by omega) (some (.int (nI (24 * gg + 4 * i)))) (some (.float (mk3 (S 10 (3 * y)) (S 10 (3 * y + 1)) (S 10 (3 * y + 2)) (nearS S k (f + 4 * i) (24 * gg + 4 * i) wet) (slopeS S k (f + 4 * i) (24 * gg + 4 * i)) (ordV (nI s) (nI mn))))); rw [← nI_1 i] at q9; exact q9)
  exact L15 (min s mn) 0 (by omega) none none

set_option maxHeartbeats 400000 in
set_option maxRecDepth 100000 in
theorem m_byJudge (l : Launch) (D : va_G) (m : Nat) (ad : Nat → Nat) (hI : mI m ad) (S : ST) (ns : Nat) (its w whose : Int32) (i h j : Nat) (hi : its = nI i) (hw : w = nI (10 * i + h)) (hj : whose = nI j) (hi12 : i < 12) (hj4 : j < 4) (hq : mHd S ns i) (hkk : mMK S ns) (hh : h < ix (S 22 i)) : xC l D yX9_byJudge wsX9_byJudge ({ frames := 3, cells := 0, slots := 0, locals := 79 }) 0 0 [.ref m, .int its, .int w, .int whose] (mM m ad S) (xq (some (.float (byJS S i (10 * i + h) j 4))) (mM m ad S)) := by
  refine xC_of (cc := cX9_byJudge) (maxL := 9) (ret := (some .float)) (own := RX9) [some (.ref m), some (.int its), some (.int w), some (.int whose), none, none, none, none, none] (by decide) rfl rfl (Nat.le_of_ble_eq_true rfl) rfl rfl rfl ?_
  intro X hXl hXD g r
  subst hXl
  subst hXD
  have inX9 : ∀ w ∈ wsX90, w ∈ wsX9_byJudge := inwX9_X9_byJudge
  have hh2 := hq.1.i22
  have hh18 := hq.1.i18
  have hr := hq.2.2 h hh
  have hpl := promptI_lt (r := (10 * i + h) % 10 / 2) hq
  have hns := hkk.2.1
  have hsg := hkk.2.2 _ hpl
  refine j_aload_n (pc := 0) g 0 dX9_byJudge_0 rfl rfl ?_
  refine j_iload_n (pc := 1) g 1 dX9_byJudge_1 rfl rfl ?_
  refine j_iload_n (pc := 2) g 2 dX9_byJudge_2 rfl rfl ?_
  refine j_bipush (pc := 3) g (10) dX9_byJudge_3 (by decide) ?_
  refine j_irem (pc := 5) g dX9_byJudge_5 (by decide) ?_
  refine j_iconst (pc := 6) g (2) dX9_byJudge_6 (by decide) ?_
  refine j_idiv (pc := 7) g dX9_byJudge_7 (by decide) ?_
  refine j_topi (nI ((10 * i + h) % 10 / 2)) (by rw [hw, lit_10, lit_2, pk_rem (by omega) (by omega) (by omega), pk_div (by omega) (by omega) (by omega)]) ?_
  refine j_cVi (pc := 8) (n := 2) g (m_promptOf (jl X) (jD X) m ad hI S its _ i ((10 * i + h) % 10 / 2) hi hi12 rfl (by omega) hq.1) dX9_byJudge_8 (mM_m _ _ _) rfl gX9_byJudge_X9_promptOf rfl rfl rfl rfl ⟨rfl, by decide, by decide, by decide +kernel⟩ ⟨Nat.le_of_ble_eq_true rfl, Nat.le_of_ble_eq_true rfl⟩ ⟨Nat.le_of_ble_eq_true rfl, Nat.le_of_ble_eq_true rfl⟩ rfl (Nat.le_of_ble_eq_true rfl) ?_
  refine istore_9_4 (pc := 11) g dX9_byJudge_11 ?_
  refine j_fconst0 (pc := 13) g dX9_byJudge_13 ?_
  refine fstore_9_5 (pc := 14) g dX9_byJudge_14 ?_
  refine j_iconst (pc := 16) g (0) dX9_byJudge_16 (by decide) ?_
  refine istore_9_6 (pc := 17) g dX9_byJudge_17 ?_
  have L19 : ∀ (n : Nat) (y : Nat) (hy : y + n = 4) (a7 a8 : Option Value), J X 9 0 0 (mM m ad S) [some (.ref m), some (.int its), some (.int w), some (.int whose), some (.int (nI (promptI S i ((10 * i + h) % 10 / 2)))), some (.float (byJS S i (10 * i + h) j y)), some (.int (nI y)), a7, a8] [] 19 := by
    intro n
    induction n with
    | zero =>
      intro y hy a7 a8
      have hy4 : y = 4 := by omega
      subst hy4
      refine j_iload (pc := 19) g dX9_byJudge_19 rfl ?_
      refine j_iconst (pc := 21) g (4) dX9_byJudge_21 (by decide) ?_
      refine j_icmp_ge (pc := 22) g 108 dX9_byJudge_22 (by decide) (fun c22 => ?_) (fun c22 => absurd (by decide) c22)
      refine j_fload (pc := 108) g dX9_byJudge_108 rfl ?_
      exact j_fret (pc := 110) g r rfl  (xq_f rfl rfl) dX9_byJudge_110 (Nat.le_of_ble_eq_true rfl) (Nat.le_of_ble_eq_true rfl)
    | succ n ih =>
      intro y hy a7 a8
      refine j_iload (pc := 19) g dX9_byJudge_19 rfl ?_
      refine j_iconst (pc := 21) g (4) dX9_byJudge_21 (by decide) ?_
      refine j_icmp_ge (pc := 22) g 108 dX9_byJudge_22 (by decide) (fun c22 => absurd c22 (by rw [lit_4]; exact nI_ge (by omega) (by omega))) (fun c22 => ?_)
      refine j_aload_n (pc := 25) g 0 dX9_byJudge_25 rfl rfl ?_
      refine j_get (pc := 26) g dX9_byJudge_26 (mM_m _ _ _) rfl inX9 11 (by decide) (by decide +kernel) rfl rfl ?_
      refine j_iconst (pc := 29) g (4) dX9_byJudge_29 (by decide) ?_
      refine j_iload_n (pc := 30) g 3 dX9_byJudge_30 rfl rfl ?_
      refine j_imul (pc := 31) g dX9_byJudge_31 ?_
      refine j_iload (pc := 32) g dX9_byJudge_32 rfl ?_
      refine j_iadd (pc := 34) g dX9_byJudge_34 ?_
      refine jm_ald (pc := 35) g hI 11 dX9_byJudge_35 (by decide) rfl (4 * j + y) (by rw [hj]; exact lx_a (lx_m 4 rfl) rfl) (by have : mLen 11 = 16 := rfl; omega) ?_
      refine istore_9_7 (pc := 36) g dX9_byJudge_36 ?_
      refine j_iload (pc := 38) g dX9_byJudge_38 rfl ?_
      refine j_iconst (pc := 40) g (-1) dX9_byJudge_40 (by decide) ?_
      refine j_icmp_eq (pc := 41) g 102 dX9_byJudge_41 (by decide) (fun c41 => ?_) (fun c41 => ?_)
      · refine iinc_9_6_1 (pc := 102) g dX9_byJudge_102 ?_
        refine j_goto (pc := 105) g 19 dX9_byJudge_105 (by decide) ?_
        exact (by have q9 := fun a b => ih (y + 1) (by omega) a b; rw [← nI_1 y] at q9; first | (rw [byJS_n1 c41] at q9; exact q9 _ _) | (rw [byJS_n2 c52] at q9; exact q9 _ _) | (rw [byJS_p1 c41 c52 c90] at q9; exact q9 _ _) | (rw [byJS_p2 c41 c52 c90] at q9; exact q9 _ _))
      · refine j_iload (pc := 44) g dX9_byJudge_44 rfl ?_
        refine j_aload_n (pc := 46) g 0 dX9_byJudge_46 rfl rfl ?_
        refine j_get (pc := 47) g dX9_byJudge_47 (mM_m _ _ _) rfl inX9 21 (by decide) (by decide +kernel) rfl rfl ?_
        refine j_iload_n (pc := 50) g 1 dX9_byJudge_50 rfl rfl ?_
        refine jm_ald (pc := 51) g hI 21 dX9_byJudge_51 (by decide) rfl (i) (hi) (by have : mLen 21 = 12 := rfl; omega) ?_
        refine j_icmp_gt (pc := 52) g 102 dX9_byJudge_52 (by decide) (fun c52 => ?_) (fun c52 => ?_)
        · refine iinc_9_6_1 (pc := 102) g dX9_byJudge_102 ?_
          refine j_goto (pc := 105) g 19 dX9_byJudge_105 (by decide) ?_
          exact (by have q9 := fun a b => ih (y + 1) (by omega) a b; rw [← nI_1 y] at q9; first | (rw [byJS_n1 c41] at q9; exact q9 _ _) | (rw [byJS_n2 c52] at q9; exact q9 _ _) | (rw [byJS_p1 c41 c52 c90] at q9; exact q9 _ _) | (rw [byJS_p2 c41 c52 c90] at q9; exact q9 _ _))
        · refine j_aload_n (pc := 55) g 0 dX9_byJudge_55 rfl rfl ?_
          refine j_aload_n (pc := 56) g 0 dX9_byJudge_56 rfl rfl ?_
          refine j_get (pc := 57) g dX9_byJudge_57 (mM_m _ _ _) rfl inX9 27 (by decide) (by decide +kernel) rfl rfl ?_
          refine j_bipush (pc := 60) g (32) dX9_byJudge_60 (by decide) ?_
          refine j_iload_n (pc := 62) g 2 dX9_byJudge_62 rfl rfl ?_
          refine j_imul (pc := 63) g dX9_byJudge_63 ?_
          refine j_aload_n (pc := 64) g 0 dX9_byJudge_64 rfl rfl ?_
          refine j_get (pc := 65) g dX9_byJudge_65 (mM_m _ _ _) rfl inX9 23 (by decide) (by decide +kernel) rfl rfl ?_
          refine j_iload_n (pc := 68) g 2 dX9_byJudge_68 rfl rfl ?_
          refine jm_ald (pc := 69) g hI 23 dX9_byJudge_69 (by decide) rfl (10 * i + h) (hw) (by have : mLen 23 = 120 := rfl; omega) ?_
          refine j_iload (pc := 70) g dX9_byJudge_70 rfl ?_
          refine j_iload (pc := 72) g dX9_byJudge_72 rfl ?_
          refine j_aload_n (pc := 74) g 0 dX9_byJudge_74 rfl rfl ?_
          refine j_get (pc := 75) g dX9_byJudge_75 (mM_m _ _ _) rfl inX9 24 (by decide) (by decide +kernel) rfl rfl ?_
          refine j_iload_n (pc := 78) g 2 dX9_byJudge_78 rfl rfl ?_
          refine jm_ald (pc := 79) g hI 24 dX9_byJudge_79 (by decide) rfl (10 * i + h) (hw) (by have : mLen 24 = 120 := rfl; omega) ?_
          refine j_cVf (pc := 80) (n := 6) g (m_markOf (jl X) (jD X) m ad hI S 27 (by decide) rfl _ _ _ _ _ (32 * (10 * i + h)) (ix (S 23 (10 * i + h))) (promptI S i ((10 * i + h) % 10 / 2)) y (ix (S 4 (promptI S i ((10 * i + h) % 10 / 2)))) (by rw [hw]; exact lx_m 32 rfl) hr.i23.1 rfl rfl hr.i23.2 (by omega) (by omega) hsg.i4.1 hsg.i4.2.2 hsg.i4.2.1 hkk.1 hr.2.1 (fun q h9 => by have : mLen 27 = 3840 := rfl; have := hr.i23; omega) (fun q h9 => ⟨hr.2.2 q (by omega), hsg.2 q (by omega)⟩)) dX9_byJudge_80 (mM_m _ _ _) rfl gX9_byJudge_X9_markOf rfl rfl rfl rfl ⟨rfl, by decide, by decide, by decide +kernel⟩ ⟨Nat.le_of_ble_eq_true rfl, Nat.le_of_ble_eq_true rfl⟩ ⟨Nat.le_of_ble_eq_true rfl, Nat.le_of_ble_eq_true rfl⟩ rfl (Nat.le_of_ble_eq_true rfl) ?_
          refine fstore_9_8 (pc := 83) g dX9_byJudge_83 ?_
          refine j_fload (pc := 85) g dX9_byJudge_85 rfl ?_
          refine j_fload (pc := 87) g dX9_byJudge_87 rfl ?_
          refine j_fcmp (pc := 89) g dX9_byJudge_89 ?_
          refine j_if_le (pc := 90) g 98 dX9_byJudge_90 (by decide) (fun c90 => ?_) (fun c90 => ?_)
          · refine j_fload (pc := 98) g dX9_byJudge_98 rfl ?_
            refine fstore_9_5 (pc := 100) g dX9_byJudge_100 ?_
            refine iinc_9_6_1 (pc := 102) g dX9_byJudge_102 ?_
            refine j_goto (pc := 105) g 19 dX9_byJudge_105 (by decide) ?_
            exact (by have q9 := fun a b => ih (y + 1) (by omega) a b; rw [← nI_1 y] at q9; first | (rw [byJS_n1 c41] at q9; exact q9 _ _) | (rw [byJS_n2 c52] at q9; exact q9 _ _) | (rw [byJS_p1 c41 c52 c90] at q9; exact q9 _ _) | (rw [byJS_p2 c41 c52 c90] at q9; exact q9 _ _))
          · refine j_fload (pc := 93) g dX9_byJudge_93 rfl ?_
            refine j_goto (pc := 95) g 100 dX9_byJudge_95 (by decide) ?_
            refine fstore_9_5 (pc := 100) g dX9_byJudge_100 ?_
            refine iinc_9_6_1 (pc := 102) g dX9_byJudge_102 ?_
            refine j_goto (pc := 105) g 19 dX9_byJudge_105 (by decide) ?_
            exact (by have q9 := fun a b => ih (y + 1) (by omega) a b; rw [← nI_1 y] at q9; first | (rw [byJS_n1 c41] at q9; exact q9 _ _) | (rw [byJS_n2 c52] at q9; exact q9 _ _) | (rw [byJS_p1 c41 c52 c90] at q9; exact q9 _ _) | (rw [byJS_p2 c41 c52 c90] at q9; exact q9 _ _))
  exact L19 4 0 (by omega) none none

set_option maxHeartbeats 400000 in
set_option maxRecDepth 100000 in
theorem m_byAll (l : Launch) (D : va_G) (m : Nat) (ad : Nat → Nat) (hI : mI m ad) (S : ST) (ns : Nat) (its w : Int32) (i h : Nat) (hi : its = nI i) (hw : w = nI (10 * i + h)) (hi12 : i < 12) (hq : mHd S ns i) (hkk : mMK S ns) (hh : h < ix (S 22 i)) : xC l D yX9_byAll wsX9_byAll ({ frames := 4, cells := 0, slots := 0, locals := 107 }) 0 0 [.ref m, .int its, .int w] (mM m ad S) (xq (some (.float (allS S i (10 * i + h)))) (mM m ad S)) := by
  refine xC_of (cc := cX9_byAll) (maxL := 4) (ret := (some .float)) (own := RX9) [some (.ref m), some (.int its), some (.int w), none] (by decide) rfl rfl (Nat.le_of_ble_eq_true rfl) rfl rfl rfl ?_
  intro X hXl hXD g r
  subst hXl
  subst hXD
  have inX9 : ∀ w ∈ wsX90, w ∈ wsX9_byAll := inwX9_X9_byAll
  refine j_aload_n (pc := 0) g 0 dX9_byAll_0 rfl rfl ?_
  refine j_iload_n (pc := 1) g 1 dX9_byAll_1 rfl rfl ?_
  refine j_iload_n (pc := 2) g 2 dX9_byAll_2 rfl rfl ?_
  refine j_aload_n (pc := 3) g 0 dX9_byAll_3 rfl rfl ?_
  refine j_get (pc := 4) g dX9_byAll_4 (mM_m _ _ _) rfl inX9 15 (by decide) (by decide +kernel) rfl rfl ?_
  refine j_iload_n (pc := 7) g 1 dX9_byAll_7 rfl rfl ?_
  refine jm_ald (pc := 8) g hI 15 dX9_byAll_8 (by decide) rfl (i) (hi) (by have : mLen 15 = 12 := rfl; omega) ?_
  refine j_cVf (pc := 9) (n := 3) g (m_byJudge (jl X) (jD X) m ad hI S ns _ _ _ i h (ix (S 15 i)) hi hw hq.1.i15.1 hi12 (by have := hq.1.i15; omega) hq hkk hh) dX9_byAll_9 (mM_m _ _ _) rfl gX9_byAll_X9_byJudge rfl rfl rfl rfl ⟨rfl, by decide, by decide, by decide +kernel⟩ ⟨Nat.le_of_ble_eq_true rfl, Nat.le_of_ble_eq_true rfl⟩ ⟨Nat.le_of_ble_eq_true rfl, Nat.le_of_ble_eq_true rfl⟩ rfl (Nat.le_of_ble_eq_true rfl) ?_
  refine fstore_n_4_3 (pc := 12) g dX9_byAll_12 ?_
  refine j_aload_n (pc := 13) g 0 dX9_byAll_13 rfl rfl ?_
  refine j_get (pc := 14) g dX9_byAll_14 (mM_m _ _ _) rfl inX9 16 (by decide) (by decide +kernel) rfl rfl ?_
  refine j_iload_n (pc := 17) g 1 dX9_byAll_17 rfl rfl ?_
  refine jm_ald (pc := 18) g hI 16 dX9_byAll_18 (by decide) rfl (i) (hi) (by have : mLen 16 = 12 := rfl; omega) ?_
  refine j_iconst (pc := 19) g (-1) dX9_byAll_19 (by decide) ?_
  refine j_icmp_ne (pc := 20) g 27 dX9_byAll_20 (by decide) (fun c20 => ?_) (fun c20 => ?_)
  · have hs16 := rg_ix (n := 3) ((hq.1.2.1).resolve_left c20)
    refine j_fload_n (pc := 27) g 3 dX9_byAll_27 rfl rfl ?_
    refine j_aload_n (pc := 28) g 0 dX9_byAll_28 rfl rfl ?_
    refine j_iload_n (pc := 29) g 1 dX9_byAll_29 rfl rfl ?_
    refine j_iload_n (pc := 30) g 2 dX9_byAll_30 rfl rfl ?_
    refine j_aload_n (pc := 31) g 0 dX9_byAll_31 rfl rfl ?_
    refine j_get (pc := 32) g dX9_byAll_32 (mM_m _ _ _) rfl inX9 16 (by decide) (by decide +kernel) rfl rfl ?_
    refine j_iload_n (pc := 35) g 1 dX9_byAll_35 rfl rfl ?_
    refine jm_ald (pc := 36) g hI 16 dX9_byAll_36 (by decide) rfl (i) (hi) (by have : mLen 16 = 12 := rfl; omega) ?_
    refine j_cVf (pc := 37) (n := 3) g (m_byJudge (jl X) (jD X) m ad hI S ns _ _ _ i h (ix (S 16 i)) hi hw hs16.1 hi12 (by omega) hq hkk hh) dX9_byAll_37 (mM_m _ _ _) rfl gX9_byAll_X9_byJudge rfl rfl rfl rfl ⟨rfl, by decide, by decide, by decide +kernel⟩ ⟨Nat.le_of_ble_eq_true rfl, Nat.le_of_ble_eq_true rfl⟩ ⟨Nat.le_of_ble_eq_true rfl, Nat.le_of_ble_eq_true rfl⟩ rfl (Nat.le_of_ble_eq_true rfl) ?_
    refine j_fadd (pc := 40) g dX9_byAll_40 (fl_n (fl_add 190 (byJS_fl hq hkk hh 4 (by decide)) (byJS_fl hq hkk hh 4 (by decide)) (by decide)) (by decide)) ?_
    refine j_fconst2 (pc := 41) g dX9_byAll_41 ?_
    refine j_fdiv (pc := 42) g dX9_byAll_42 (fl_n (fl_div 190 (fl_add 190 (byJS_fl hq hkk hh 4 (by decide)) (byJS_fl hq hkk hh 4 (by decide)) (by decide)) fl_2 fg_2 (by decide)) (by decide)) ?_
    exact j_fret (pc := 43) g r rfl  (by first | exact xq_f (if_pos c20).symm rfl | exact xq_f (if_neg c20).symm rfl) dX9_byAll_43 (Nat.le_of_ble_eq_true rfl) (Nat.le_of_ble_eq_true rfl)
  · refine j_fload_n (pc := 23) g 3 dX9_byAll_23 rfl rfl ?_
    refine j_goto (pc := 24) g 43 dX9_byAll_24 (by decide) ?_
    exact j_fret (pc := 43) g r rfl  (by first | exact xq_f (if_pos c20).symm rfl | exact xq_f (if_neg c20).symm rfl) dX9_byAll_43 (Nat.le_of_ble_eq_true rfl) (Nat.le_of_ble_eq_true rfl)
