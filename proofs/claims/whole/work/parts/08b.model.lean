set_option maxHeartbeats 400000 in
set_option maxRecDepth 100000 in
theorem m_nearness (l : Launch) (D : va_G) (m : Nat) (ad : Nat → Nat) (hI : mI m ad) (S : ST) (k : Nat) (hk : k ∈ mArr) (hkc : mCode k = 10) (frm to : Int32) (f t : Nat) (hf : frm = nI f) (ht : to = nI t) (hfl : f + 4 ≤ mLen k) (htl : t + 4 ≤ 144) (h1 : okC S k f) (h2 : okC S 5 t) (wet : Int32) (hwet : rg wet 0 100) : xC l D yX9_nearness wsX9_nearness ({ frames := 1, cells := 0, slots := 0, locals := 20 }) 0 0 [.ref (ad k), .int frm, .ref (ad 5), .int to, .int wet] (mM m ad S) (xq (some (.float (nearS S k f t wet))) (mM m ad S)) := by
  refine xC_of (cc := cX9_nearness) (maxL := 7) (ret := (some .float)) (own := RX9) [some (.ref (ad k)), some (.int frm), some (.ref (ad 5)), some (.int to), some (.int wet), none, none] (by decide) rfl rfl (Nat.le_of_ble_eq_true rfl) rfl rfl rfl ?_
  intro X hXl hXD g r
  subst hXl
  subst hXD
  refine j_iconst (pc := 0) g (0) dX9_nearness_0 (by decide) ?_
  refine istore_7_5 (pc := 1) g dX9_nearness_1 ?_
  refine j_iconst (pc := 3) g (0) dX9_nearness_3 (by decide) ?_
  refine istore_7_6 (pc := 4) g dX9_nearness_4 ?_
  have L6 : ∀ (n : Nat) (i : Nat) (hi : i + n = 4), J X 7 0 0 (mM m ad S) [some (.ref (ad k)), some (.int frm), some (.ref (ad 5)), some (.int to), some (.int wet), some (.int (dsum S k f t i)), some (.int (nI i))] [] 6 := by
    intro n
    induction n with
    | zero =>
      intro i hi
      have hi4 : i = 4 := by omega
      subst hi4
      have hds : rg (dsum S k f t 4) 0 396 := dsum_rg h1 h2 4 (by decide)
      refine j_iload (pc := 6) g dX9_nearness_6 rfl ?_
      refine j_iconst (pc := 8) g (4) dX9_nearness_8 (by decide) ?_
      refine j_icmp_ge (pc := 9) g 39 dX9_nearness_9 (by decide) (fun c9 => ?_) (fun c9 => absurd (by decide) c9)
      refine j_ldcf (pc := 39) g 1092616192 dX9_nearness_39 (by decide +kernel) ?_
      refine j_iload (pc := 41) g dX9_nearness_41 rfl ?_
      refine j_i2f (pc := 43) g dX9_nearness_43 ?_
      refine j_ldcf (pc := 44) g 1092616192 dX9_nearness_44 (by decide +kernel) ?_
      refine j_fdiv (pc := 46) g dX9_nearness_46 (fl_n (near_1 hds) (by decide)) ?_
      refine j_fsub (pc := 47) g dX9_nearness_47 (fl_n (near_2 hds) (by decide)) ?_
      refine j_cSf (pc := 48) (n := 1) g (m_above (jl X) (jD X) _ _) dX9_nearness_48 gX9_nearness_X9_above rfl rfl rfl rfl ⟨by decide, by decide, by decide +kernel⟩ ⟨Nat.le_of_ble_eq_true rfl, Nat.le_of_ble_eq_true rfl⟩ ⟨Nat.le_of_ble_eq_true rfl, Nat.le_of_ble_eq_true rfl⟩ rfl (Nat.le_of_ble_eq_true rfl) ?_
      refine j_fconst1 (pc := 51) g dX9_nearness_51 ?_
      refine j_iload (pc := 52) g dX9_nearness_52 rfl ?_
      refine j_i2f (pc := 54) g dX9_nearness_54 ?_
      refine j_ldcf (pc := 55) g 1128792064 dX9_nearness_55 (by decide +kernel) ?_
      refine j_fdiv (pc := 57) g dX9_nearness_57 (fl_n (near_3 hwet) (by decide)) ?_
      refine j_fsub (pc := 58) g dX9_nearness_58 (fl_n (near_4 hwet) (by decide)) ?_
      refine j_fmul (pc := 59) g dX9_nearness_59 (fl_n (near_5 hds hwet) (by decide)) ?_
      exact j_fret (pc := 60) g r rfl  (xq_f rfl rfl) dX9_nearness_60 (Nat.le_of_ble_eq_true rfl) (Nat.le_of_ble_eq_true rfl)
    | succ n ih =>
      intro i hi
      refine j_iload (pc := 6) g dX9_nearness_6 rfl ?_
      refine j_iconst (pc := 8) g (4) dX9_nearness_8 (by decide) ?_
      refine j_icmp_ge (pc := 9) g 39 dX9_nearness_9 (by decide) (fun c9 => absurd c9 (by rw [lit_4]; exact nI_ge (by omega) (by omega))) (fun c9 => ?_)
      refine j_iload (pc := 12) g dX9_nearness_12 rfl ?_
      refine j_aload_n (pc := 14) g 0 dX9_nearness_14 rfl rfl ?_
      refine j_iload_n (pc := 15) g 1 dX9_nearness_15 rfl rfl ?_
      refine j_iload (pc := 16) g dX9_nearness_16 rfl ?_
      refine j_iadd (pc := 18) g dX9_nearness_18 ?_
      refine jm_ald (pc := 19) g hI k dX9_nearness_19 hk hkc (f + i) (lx_a hf rfl) (by omega) ?_
      refine j_aload_n (pc := 20) g 2 dX9_nearness_20 rfl rfl ?_
      refine j_iload_n (pc := 21) g 3 dX9_nearness_21 rfl rfl ?_
      refine j_iload (pc := 22) g dX9_nearness_22 rfl ?_
      refine j_iadd (pc := 24) g dX9_nearness_24 ?_
      refine jm_ald (pc := 25) g hI 5 dX9_nearness_25 (by decide) rfl (t + i) (lx_a ht rfl) (by have : mLen 5 = 144 := rfl; omega) ?_
      refine j_isub (pc := 26) g dX9_nearness_26 ?_
      refine j_cSi (pc := 27) (n := 1) g (m_amount (jl X) (jD X) _ _) dX9_nearness_27 gX9_nearness_X9_amount rfl rfl rfl rfl ⟨by decide, by decide, by decide +kernel⟩ ⟨Nat.le_of_ble_eq_true rfl, Nat.le_of_ble_eq_true rfl⟩ ⟨Nat.le_of_ble_eq_true rfl, Nat.le_of_ble_eq_true rfl⟩ rfl (Nat.le_of_ble_eq_true rfl) ?_
      refine j_iadd (pc := 30) g dX9_nearness_30 ?_
      refine istore_7_5 (pc := 31) g dX9_nearness_31 ?_
      refine iinc_7_6_1 (pc := 33) g dX9_nearness_33 ?_
      refine j_goto (pc := 36) g 6 dX9_nearness_36 (by decide) ?_
      exact (by have q9 := ih (i + 1) (by omega); rw [← nI_1 i] at q9; exact q9)
  exact L6 4 0 (by omega)

set_option maxHeartbeats 400000 in
set_option maxRecDepth 100000 in
theorem m_slope (l : Launch) (D : va_G) (m : Nat) (ad : Nat → Nat) (hI : mI m ad) (S : ST) (k : Nat) (hk : k ∈ mArr) (hkc : mCode k = 10) (frm to : Int32) (f t : Nat) (hf : frm = nI f) (ht : to = nI t) (hfl : f + 4 ≤ mLen k) (htl : t + 4 ≤ 144) (h1 : okC S k f) (h2 : okC S 5 t) : xC l D yX9_slope wsX9_slope ({ frames := 1, cells := 0, slots := 0, locals := 20 }) 0 0 [.ref (ad k), .int frm, .ref (ad 5), .int to] (mM m ad S) (xq (some (.float (slopeS S k f t))) (mM m ad S)) := by
  refine xC_of (cc := cX9_slope) (maxL := 9) (ret := (some .float)) (own := RX9) [some (.ref (ad k)), some (.int frm), some (.ref (ad 5)), some (.int to), none, none, none, none, none] (by decide) rfl rfl (Nat.le_of_ble_eq_true rfl) rfl rfl rfl ?_
  intro X hXl hXD g r
  subst hXl
  subst hXD
  have w1 := okC_way h1
  have w2 := okC_way h2
  refine j_aload_n (pc := 0) g 0 dX9_slope_0 rfl rfl ?_
  refine j_iload_n (pc := 1) g 1 dX9_slope_1 rfl rfl ?_
  refine j_iconst (pc := 2) g (2) dX9_slope_2 (by decide) ?_
  refine j_iadd (pc := 3) g dX9_slope_3 ?_
  refine jm_ald (pc := 4) g hI k dX9_slope_4 hk hkc (f + 2) (lx_a hf lit_2) (by omega) ?_
  refine j_aload_n (pc := 5) g 0 dX9_slope_5 rfl rfl ?_
  refine j_iload_n (pc := 6) g 1 dX9_slope_6 rfl rfl ?_
  refine jm_ald (pc := 7) g hI k dX9_slope_7 hk hkc (f) (hf) (by omega) ?_
  refine j_isub (pc := 8) g dX9_slope_8 ?_
  refine istore_9_4 (pc := 9) g dX9_slope_9 ?_
  refine j_aload_n (pc := 11) g 0 dX9_slope_11 rfl rfl ?_
  refine j_iload_n (pc := 12) g 1 dX9_slope_12 rfl rfl ?_
  refine j_iconst (pc := 13) g (3) dX9_slope_13 (by decide) ?_
  refine j_iadd (pc := 14) g dX9_slope_14 ?_
  refine jm_ald (pc := 15) g hI k dX9_slope_15 hk hkc (f + 3) (lx_a hf lit_3) (by omega) ?_
  refine j_aload_n (pc := 16) g 0 dX9_slope_16 rfl rfl ?_
  refine j_iload_n (pc := 17) g 1 dX9_slope_17 rfl rfl ?_
  refine j_iconst (pc := 18) g (1) dX9_slope_18 (by decide) ?_
  refine j_iadd (pc := 19) g dX9_slope_19 ?_
  refine jm_ald (pc := 20) g hI k dX9_slope_20 hk hkc (f + 1) (lx_a hf lit_1) (by omega) ?_
  refine j_isub (pc := 21) g dX9_slope_21 ?_
  refine istore_9_5 (pc := 22) g dX9_slope_22 ?_
  refine j_aload_n (pc := 24) g 2 dX9_slope_24 rfl rfl ?_
  refine j_iload_n (pc := 25) g 3 dX9_slope_25 rfl rfl ?_
  refine j_iconst (pc := 26) g (2) dX9_slope_26 (by decide) ?_
  refine j_iadd (pc := 27) g dX9_slope_27 ?_
  refine jm_ald (pc := 28) g hI 5 dX9_slope_28 (by decide) rfl (t + 2) (lx_a ht lit_2) (by have : mLen 5 = 144 := rfl; omega) ?_
  refine j_aload_n (pc := 29) g 2 dX9_slope_29 rfl rfl ?_
  refine j_iload_n (pc := 30) g 3 dX9_slope_30 rfl rfl ?_
  refine jm_ald (pc := 31) g hI 5 dX9_slope_31 (by decide) rfl (t) (ht) (by have : mLen 5 = 144 := rfl; omega) ?_
  refine j_isub (pc := 32) g dX9_slope_32 ?_
  refine istore_9_6 (pc := 33) g dX9_slope_33 ?_
  refine j_aload_n (pc := 35) g 2 dX9_slope_35 rfl rfl ?_
  refine j_iload_n (pc := 36) g 3 dX9_slope_36 rfl rfl ?_
  refine j_iconst (pc := 37) g (3) dX9_slope_37 (by decide) ?_
  refine j_iadd (pc := 38) g dX9_slope_38 ?_
  refine jm_ald (pc := 39) g hI 5 dX9_slope_39 (by decide) rfl (t + 3) (lx_a ht lit_3) (by have : mLen 5 = 144 := rfl; omega) ?_
  refine j_aload_n (pc := 40) g 2 dX9_slope_40 rfl rfl ?_
  refine j_iload_n (pc := 41) g 3 dX9_slope_41 rfl rfl ?_
  refine j_iconst (pc := 42) g (1) dX9_slope_42 (by decide) ?_
  refine j_iadd (pc := 43) g dX9_slope_43 ?_
  refine jm_ald (pc := 44) g hI 5 dX9_slope_44 (by decide) rfl (t + 1) (lx_a ht lit_1) (by have : mLen 5 = 144 := rfl; omega) ?_
  refine j_isub (pc := 45) g dX9_slope_45 ?_
  refine istore_9_7 (pc := 46) g dX9_slope_46 ?_
  refine j_iload (pc := 48) g dX9_slope_48 rfl ?_
  refine j_iload (pc := 50) g dX9_slope_50 rfl ?_
  refine j_imul (pc := 52) g dX9_slope_52 ?_
  refine j_iload (pc := 53) g dX9_slope_53 rfl ?_
  refine j_iload (pc := 55) g dX9_slope_55 rfl ?_
  refine j_imul (pc := 57) g dX9_slope_57 ?_
  refine j_iadd (pc := 58) g dX9_slope_58 ?_
  refine istore_9_8 (pc := 59) g dX9_slope_59 ?_
  refine j_iload (pc := 61) g dX9_slope_61 rfl ?_
  refine j_i2f (pc := 63) g dX9_slope_63 ?_
  refine j_iload (pc := 64) g dX9_slope_64 rfl ?_
  refine j_cSi (pc := 66) (n := 1) g (m_amount (jl X) (jD X) _ _) dX9_slope_66 gX9_slope_X9_amount rfl rfl rfl rfl ⟨by decide, by decide, by decide +kernel⟩ ⟨Nat.le_of_ble_eq_true rfl, Nat.le_of_ble_eq_true rfl⟩ ⟨Nat.le_of_ble_eq_true rfl, Nat.le_of_ble_eq_true rfl⟩ rfl (Nat.le_of_ble_eq_true rfl) ?_
  refine j_i2f (pc := 69) g dX9_slope_69 ?_
  refine j_fmul (pc := 70) g dX9_slope_70 (fl_n (sl_1 w1 w2) (by decide)) ?_
  refine j_iload (pc := 71) g dX9_slope_71 rfl ?_
  refine j_iload (pc := 73) g dX9_slope_73 rfl ?_
  refine j_imul (pc := 75) g dX9_slope_75 ?_
  refine j_iload (pc := 76) g dX9_slope_76 rfl ?_
  refine j_iload (pc := 78) g dX9_slope_78 rfl ?_
  refine j_imul (pc := 80) g dX9_slope_80 ?_
  refine j_iadd (pc := 81) g dX9_slope_81 ?_
  refine j_i2f (pc := 82) g dX9_slope_82 ?_
  refine j_fdiv (pc := 83) g dX9_slope_83 (fl_n (sl_2 w1 w2) (by decide)) ?_
  refine j_iload (pc := 84) g dX9_slope_84 rfl ?_
  refine j_iload (pc := 86) g dX9_slope_86 rfl ?_
  refine j_imul (pc := 88) g dX9_slope_88 ?_
  refine j_iload (pc := 89) g dX9_slope_89 rfl ?_
  refine j_iload (pc := 91) g dX9_slope_91 rfl ?_
  refine j_imul (pc := 93) g dX9_slope_93 ?_
  refine j_iadd (pc := 94) g dX9_slope_94 ?_
  refine j_i2f (pc := 95) g dX9_slope_95 ?_
  refine j_fdiv (pc := 96) g dX9_slope_96 (fl_n (sl_3 w1 w2) (by decide)) ?_
  refine j_ldcf (pc := 97) g 1092616192 dX9_slope_97 (by decide +kernel) ?_
  refine j_fmul (pc := 99) g dX9_slope_99 (fl_n (sl_4 w1 w2) (by decide)) ?_
  refine j_cSf (pc := 100) (n := 1) g (m_above (jl X) (jD X) _ _) dX9_slope_100 gX9_slope_X9_above rfl rfl rfl rfl ⟨by decide, by decide, by decide +kernel⟩ ⟨Nat.le_of_ble_eq_true rfl, Nat.le_of_ble_eq_true rfl⟩ ⟨Nat.le_of_ble_eq_true rfl, Nat.le_of_ble_eq_true rfl⟩ rfl (Nat.le_of_ble_eq_true rfl) ?_
  exact j_fret (pc := 103) g r rfl  (xq_f rfl rfl) dX9_slope_103 (Nat.le_of_ble_eq_true rfl) (Nat.le_of_ble_eq_true rfl)
