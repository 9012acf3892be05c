set_option maxHeartbeats 400000 in
set_option maxRecDepth 100000 in
theorem m_roundTo (l : Launch) (D : va_G) (m : Nat) (ad : Nat → Nat) (hI : mI m ad) (S : ST) (ns : Nat) (its round : Int32) (i r_ : Nat) (hi : its = nI i) (hr : round = nI r_) (hi12 : i < 12) (hr5 : r_ < 5) (hq : mHd S ns i) (hkk : mMK S ns) : xC l D yX9_roundTo wsX9_roundTo ({ frames := 5, cells := 0, slots := 0, locals := 130 }) 0 0 [.ref m, .int its, .int round] (mM m ad S) (xq (some (.int (rtS S i r_))) (mM m ad S)) := by
  refine xC_of (cc := cX9_roundTo) (maxL := 6) (ret := (some .int)) (own := RX9) [some (.ref m), some (.int its), some (.int round), none, none, none] (by decide) rfl rfl (Nat.le_of_ble_eq_true rfl) rfl rfl rfl ?_
  intro X hXl hXD g r
  subst hXl
  subst hXD
  have inX9 : ∀ w ∈ wsX90, w ∈ wsX9_roundTo := inwX9_X9_roundTo
  have h22 := hq.1.i22
  have h18 := hq.1.i18
  refine j_bipush (pc := 0) g (10) dX9_roundTo_0 (by decide) ?_
  refine j_iload_n (pc := 2) g 1 dX9_roundTo_2 rfl rfl ?_
  refine j_imul (pc := 3) g dX9_roundTo_3 ?_
  refine j_iconst (pc := 4) g (2) dX9_roundTo_4 (by decide) ?_
  refine j_iload_n (pc := 5) g 2 dX9_roundTo_5 rfl rfl ?_
  refine j_imul (pc := 6) g dX9_roundTo_6 ?_
  refine j_iadd (pc := 7) g dX9_roundTo_7 ?_
  refine j_topi (nI (10 * i + 2 * r_)) (by rw [hi, hr]; exact lx_a (lx_m 10 rfl) (lx_m 2 rfl)) ?_
  refine istore_n_6_3 (pc := 8) g dX9_roundTo_8 ?_
  refine j_iconst (pc := 9) g (2) dX9_roundTo_9 (by decide) ?_
  refine j_iload_n (pc := 10) g 2 dX9_roundTo_10 rfl rfl ?_
  refine j_imul (pc := 11) g dX9_roundTo_11 ?_
  refine j_iconst (pc := 12) g (1) dX9_roundTo_12 (by decide) ?_
  refine j_iadd (pc := 13) g dX9_roundTo_13 ?_
  refine j_topi (nI (2 * r_ + 1)) (by rw [hr]; exact lx_a (lx_m 2 rfl) lit_1) ?_
  refine j_aload_n (pc := 14) g 0 dX9_roundTo_14 rfl rfl ?_
  refine j_get (pc := 15) g dX9_roundTo_15 (mM_m _ _ _) rfl inX9 22 (by decide) (by decide +kernel) rfl rfl ?_
  refine j_iload_n (pc := 18) g 1 dX9_roundTo_18 rfl rfl ?_
  refine jm_ald (pc := 19) g hI 22 dX9_roundTo_19 (by decide) rfl (i) (hi) (by have : mLen 22 = 12 := rfl; omega) ?_
  refine j_icmp_lt (pc := 20) g 25 dX9_roundTo_20 (by decide) (fun c20 => ?_) (fun c20 => ?_)
  · have h20 := Int32.not_le.mpr c20
    have hlt : 2 * r_ + 1 < ix (S 22 i) := by
      have c21 := c20
      rw [h22.1] at c21
      exact (nI_ltI (by omega) (by omega)).mp c21
    refine j_aload_n (pc := 25) g 0 dX9_roundTo_25 rfl rfl ?_
    refine j_get (pc := 26) g dX9_roundTo_26 (mM_m _ _ _) rfl inX9 26 (by decide) (by decide +kernel) rfl rfl ?_
    refine j_iload_n (pc := 29) g 3 dX9_roundTo_29 rfl rfl ?_
    refine jm_zld (pc := 30) g hI 26 dX9_roundTo_30 (by decide) rfl (10 * i + 2 * r_) (rfl) (by have : mLen 26 = 120 := rfl; omega) ?_
    refine j_if_ne (pc := 31) g 45 dX9_roundTo_31 (by decide) (fun c31 => ?_) (fun c31 => ?_)
    · refine j_aload_n (pc := 45) g 0 dX9_roundTo_45 rfl rfl ?_
      refine j_get (pc := 46) g dX9_roundTo_46 (mM_m _ _ _) rfl inX9 26 (by decide) (by decide +kernel) rfl rfl ?_
      refine j_iload_n (pc := 49) g 3 dX9_roundTo_49 rfl rfl ?_
      refine jm_zld (pc := 50) g hI 26 dX9_roundTo_50 (by decide) rfl (10 * i + 2 * r_) (rfl) (by have : mLen 26 = 120 := rfl; omega) ?_
      refine j_if_eq (pc := 51) g 69 dX9_roundTo_51 (by decide) (fun c51 => ?_) (fun c51 => ?_)
      · refine j_aload_n (pc := 69) g 0 dX9_roundTo_69 rfl rfl ?_
        refine j_get (pc := 70) g dX9_roundTo_70 (mM_m _ _ _) rfl inX9 26 (by decide) (by decide +kernel) rfl rfl ?_
        refine j_iload_n (pc := 73) g 3 dX9_roundTo_73 rfl rfl ?_
        refine jm_zld (pc := 74) g hI 26 dX9_roundTo_74 (by decide) rfl (10 * i + 2 * r_) (rfl) (by have : mLen 26 = 120 := rfl; omega) ?_
        refine j_if_eq (pc := 75) g 82 dX9_roundTo_75 (by decide) (fun c75 => ?_) (fun c75 => ?_)
        · refine j_iconst (pc := 82) g (1) dX9_roundTo_82 (by decide) ?_
          exact j_iret (pc := 83) g r rfl rfl (xq_i (by unfold rtS; grind) rfl) dX9_roundTo_83 (Nat.le_of_ble_eq_true rfl) (Nat.le_of_ble_eq_true rfl)
        · refine j_iconst (pc := 78) g (2) dX9_roundTo_78 (by decide) ?_
          refine j_goto (pc := 79) g 83 dX9_roundTo_79 (by decide) ?_
          exact j_iret (pc := 83) g r rfl rfl (xq_i (by unfold rtS; grind) rfl) dX9_roundTo_83 (Nat.le_of_ble_eq_true rfl) (Nat.le_of_ble_eq_true rfl)
      · refine j_aload_n (pc := 54) g 0 dX9_roundTo_54 rfl rfl ?_
        refine j_get (pc := 55) g dX9_roundTo_55 (mM_m _ _ _) rfl inX9 26 (by decide) (by decide +kernel) rfl rfl ?_
        refine j_iload_n (pc := 58) g 3 dX9_roundTo_58 rfl rfl ?_
        refine j_iconst (pc := 59) g (1) dX9_roundTo_59 (by decide) ?_
        refine j_iadd (pc := 60) g dX9_roundTo_60 ?_
        refine jm_zld (pc := 61) g hI 26 dX9_roundTo_61 (by decide) rfl (10 * i + 2 * r_ + 1) (nI_1 _) (by have : mLen 26 = 120 := rfl; omega) ?_
        refine j_if_eq (pc := 62) g 69 dX9_roundTo_62 (by decide) (fun c62 => ?_) (fun c62 => ?_)
        · refine j_aload_n (pc := 69) g 0 dX9_roundTo_69 rfl rfl ?_
          refine j_get (pc := 70) g dX9_roundTo_70 (mM_m _ _ _) rfl inX9 26 (by decide) (by decide +kernel) rfl rfl ?_
          refine j_iload_n (pc := 73) g 3 dX9_roundTo_73 rfl rfl ?_
          refine jm_zld (pc := 74) g hI 26 dX9_roundTo_74 (by decide) rfl (10 * i + 2 * r_) (rfl) (by have : mLen 26 = 120 := rfl; omega) ?_
          refine j_if_eq (pc := 75) g 82 dX9_roundTo_75 (by decide) (fun c75 => ?_) (fun c75 => ?_)
          · refine j_iconst (pc := 82) g (1) dX9_roundTo_82 (by decide) ?_
            exact j_iret (pc := 83) g r rfl rfl (xq_i (by unfold rtS; grind) rfl) dX9_roundTo_83 (Nat.le_of_ble_eq_true rfl) (Nat.le_of_ble_eq_true rfl)
          · refine j_iconst (pc := 78) g (2) dX9_roundTo_78 (by decide) ?_
            refine j_goto (pc := 79) g 83 dX9_roundTo_79 (by decide) ?_
            exact j_iret (pc := 83) g r rfl rfl (xq_i (by unfold rtS; grind) rfl) dX9_roundTo_83 (Nat.le_of_ble_eq_true rfl) (Nat.le_of_ble_eq_true rfl)
        · refine j_iconst (pc := 65) g (0) dX9_roundTo_65 (by decide) ?_
          refine j_goto (pc := 66) g 83 dX9_roundTo_66 (by decide) ?_
          exact j_iret (pc := 83) g r rfl rfl (xq_i (by unfold rtS; grind) rfl) dX9_roundTo_83 (Nat.le_of_ble_eq_true rfl) (Nat.le_of_ble_eq_true rfl)
    · refine j_aload_n (pc := 34) g 0 dX9_roundTo_34 rfl rfl ?_
      refine j_get (pc := 35) g dX9_roundTo_35 (mM_m _ _ _) rfl inX9 26 (by decide) (by decide +kernel) rfl rfl ?_
      refine j_iload_n (pc := 38) g 3 dX9_roundTo_38 rfl rfl ?_
      refine j_iconst (pc := 39) g (1) dX9_roundTo_39 (by decide) ?_
      refine j_iadd (pc := 40) g dX9_roundTo_40 ?_
      refine jm_zld (pc := 41) g hI 26 dX9_roundTo_41 (by decide) rfl (10 * i + 2 * r_ + 1) (nI_1 _) (by have : mLen 26 = 120 := rfl; omega) ?_
      refine j_if_eq (pc := 42) g 84 dX9_roundTo_42 (by decide) (fun c42 => ?_) (fun c42 => ?_)
      · refine j_aload_n (pc := 84) g 0 dX9_roundTo_84 rfl rfl ?_
        refine j_iload_n (pc := 85) g 1 dX9_roundTo_85 rfl rfl ?_
        refine j_iload_n (pc := 86) g 3 dX9_roundTo_86 rfl rfl ?_
        refine j_cVf (pc := 87) (n := 2) g (m_byAll (jl X) (jD X) m ad hI S ns _ _ i (2 * r_) hi rfl hi12 hq hkk (by omega)) dX9_roundTo_87 (mM_m _ _ _) rfl gX9_roundTo_X9_byAll rfl rfl rfl rfl ⟨rfl, by decide, by decide, by decide +kernel⟩ ⟨Nat.le_of_ble_eq_true rfl, Nat.le_of_ble_eq_true rfl⟩ ⟨Nat.le_of_ble_eq_true rfl, Nat.le_of_ble_eq_true rfl⟩ rfl (Nat.le_of_ble_eq_true rfl) ?_
        refine fstore_6_4 (pc := 90) g dX9_roundTo_90 ?_
        refine j_aload_n (pc := 92) g 0 dX9_roundTo_92 rfl rfl ?_
        refine j_iload_n (pc := 93) g 1 dX9_roundTo_93 rfl rfl ?_
        refine j_iload_n (pc := 94) g 3 dX9_roundTo_94 rfl rfl ?_
        refine j_iconst (pc := 95) g (1) dX9_roundTo_95 (by decide) ?_
        refine j_iadd (pc := 96) g dX9_roundTo_96 ?_
        refine j_cVf (pc := 97) (n := 2) g (m_byAll (jl X) (jD X) m ad hI S ns _ _ i (2 * r_ + 1) hi (by rw [nI_1]; rfl) hi12 hq hkk (by omega)) dX9_roundTo_97 (mM_m _ _ _) rfl gX9_roundTo_X9_byAll rfl rfl rfl rfl ⟨rfl, by decide, by decide, by decide +kernel⟩ ⟨Nat.le_of_ble_eq_true rfl, Nat.le_of_ble_eq_true rfl⟩ ⟨Nat.le_of_ble_eq_true rfl, Nat.le_of_ble_eq_true rfl⟩ rfl (Nat.le_of_ble_eq_true rfl) ?_
        refine fstore_6_5 (pc := 100) g dX9_roundTo_100 ?_
        refine j_fload (pc := 102) g dX9_roundTo_102 rfl ?_
        refine j_fload (pc := 104) g dX9_roundTo_104 rfl ?_
        refine j_fcmp (pc := 106) g dX9_roundTo_106 ?_
        refine j_if_le (pc := 107) g 114 dX9_roundTo_107 (by decide) (fun c107 => ?_) (fun c107 => ?_)
        · refine j_fload (pc := 114) g dX9_roundTo_114 rfl ?_
          refine j_fload (pc := 116) g dX9_roundTo_116 rfl ?_
          refine j_fcmp (pc := 118) g dX9_roundTo_118 ?_
          refine j_if_le (pc := 119) g 126 dX9_roundTo_119 (by decide) (fun c119 => ?_) (fun c119 => ?_)
          · refine j_iconst (pc := 126) g (0) dX9_roundTo_126 (by decide) ?_
            exact j_iret (pc := 127) g r rfl rfl (xq_i (by unfold rtS; grind) rfl) dX9_roundTo_127 (Nat.le_of_ble_eq_true rfl) (Nat.le_of_ble_eq_true rfl)
          · refine j_iconst (pc := 122) g (2) dX9_roundTo_122 (by decide) ?_
            refine j_goto (pc := 123) g 127 dX9_roundTo_123 (by decide) ?_
            exact j_iret (pc := 127) g r rfl rfl (xq_i (by unfold rtS; grind) rfl) dX9_roundTo_127 (Nat.le_of_ble_eq_true rfl) (Nat.le_of_ble_eq_true rfl)
        · refine j_iconst (pc := 110) g (1) dX9_roundTo_110 (by decide) ?_
          refine j_goto (pc := 111) g 127 dX9_roundTo_111 (by decide) ?_
          exact j_iret (pc := 127) g r rfl rfl (xq_i (by unfold rtS; grind) rfl) dX9_roundTo_127 (Nat.le_of_ble_eq_true rfl) (Nat.le_of_ble_eq_true rfl)
      · refine j_aload_n (pc := 45) g 0 dX9_roundTo_45 rfl rfl ?_
        refine j_get (pc := 46) g dX9_roundTo_46 (mM_m _ _ _) rfl inX9 26 (by decide) (by decide +kernel) rfl rfl ?_
        refine j_iload_n (pc := 49) g 3 dX9_roundTo_49 rfl rfl ?_
        refine jm_zld (pc := 50) g hI 26 dX9_roundTo_50 (by decide) rfl (10 * i + 2 * r_) (rfl) (by have : mLen 26 = 120 := rfl; omega) ?_
        refine j_if_eq (pc := 51) g 69 dX9_roundTo_51 (by decide) (fun c51 => ?_) (fun c51 => ?_)
        · refine j_aload_n (pc := 69) g 0 dX9_roundTo_69 rfl rfl ?_
          refine j_get (pc := 70) g dX9_roundTo_70 (mM_m _ _ _) rfl inX9 26 (by decide) (by decide +kernel) rfl rfl ?_
          refine j_iload_n (pc := 73) g 3 dX9_roundTo_73 rfl rfl ?_
          refine jm_zld (pc := 74) g hI 26 dX9_roundTo_74 (by decide) rfl (10 * i + 2 * r_) (rfl) (by have : mLen 26 = 120 := rfl; omega) ?_
          refine j_if_eq (pc := 75) g 82 dX9_roundTo_75 (by decide) (fun c75 => ?_) (fun c75 => ?_)
          · refine j_iconst (pc := 82) g (1) dX9_roundTo_82 (by decide) ?_
            exact j_iret (pc := 83) g r rfl rfl (xq_i (by unfold rtS; grind) rfl) dX9_roundTo_83 (Nat.le_of_ble_eq_true rfl) (Nat.le_of_ble_eq_true rfl)
          · refine j_iconst (pc := 78) g (2) dX9_roundTo_78 (by decide) ?_
            refine j_goto (pc := 79) g 83 dX9_roundTo_79 (by decide) ?_
            exact j_iret (pc := 83) g r rfl rfl (xq_i (by unfold rtS; grind) rfl) dX9_roundTo_83 (Nat.le_of_ble_eq_true rfl) (Nat.le_of_ble_eq_true rfl)
        · refine j_aload_n (pc := 54) g 0 dX9_roundTo_54 rfl rfl ?_
          refine j_get (pc := 55) g dX9_roundTo_55 (mM_m _ _ _) rfl inX9 26 (by decide) (by decide +kernel) rfl rfl ?_
          refine j_iload_n (pc := 58) g 3 dX9_roundTo_58 rfl rfl ?_
          refine j_iconst (pc := 59) g (1) dX9_roundTo_59 (by decide) ?_
          refine j_iadd (pc := 60) g dX9_roundTo_60 ?_
          refine jm_zld (pc := 61) g hI 26 dX9_roundTo_61 (by decide) rfl (10 * i + 2 * r_ + 1) (nI_1 _) (by have : mLen 26 = 120 := rfl; omega) ?_
          refine j_if_eq (pc := 62) g 69 dX9_roundTo_62 (by decide) (fun c62 => ?_) (fun c62 => ?_)
          · refine j_aload_n (pc := 69) g 0 dX9_roundTo_69 rfl rfl ?_
            refine j_get (pc := 70) g dX9_roundTo_70 (mM_m _ _ _) rfl inX9 26 (by decide) (by decide +kernel) rfl rfl ?_
            refine j_iload_n (pc := 73) g 3 dX9_roundTo_73 rfl rfl ?_
            refine jm_zld (pc := 74) g hI 26 dX9_roundTo_74 (by decide) rfl (10 * i + 2 * r_) (rfl) (by have : mLen 26 = 120 := rfl; omega) ?_
            refine j_if_eq (pc := 75) g 82 dX9_roundTo_75 (by decide) (fun c75 => ?_) (fun c75 => ?_)
            · refine j_iconst (pc := 82) g (1) dX9_roundTo_82 (by decide) ?_
              exact j_iret (pc := 83) g r rfl rfl (xq_i (by unfold rtS; grind) rfl) dX9_roundTo_83 (Nat.le_of_ble_eq_true rfl) (Nat.le_of_ble_eq_true rfl)
            · refine j_iconst (pc := 78) g (2) dX9_roundTo_78 (by decide) ?_
              refine j_goto (pc := 79) g 83 dX9_roundTo_79 (by decide) ?_
              exact j_iret (pc := 83) g r rfl rfl (xq_i (by unfold rtS; grind) rfl) dX9_roundTo_83 (Nat.le_of_ble_eq_true rfl) (Nat.le_of_ble_eq_true rfl)
          · refine j_iconst (pc := 65) g (0) dX9_roundTo_65 (by decide) ?_
            refine j_goto (pc := 66) g 83 dX9_roundTo_66 (by decide) ?_
            exact j_iret (pc := 83) g r rfl rfl (xq_i (by unfold rtS; grind) rfl) dX9_roundTo_83 (Nat.le_of_ble_eq_true rfl) (Nat.le_of_ble_eq_true rfl)
  · have h20 := Int32.not_lt.mp c20
    refine j_iconst (pc := 23) g (0) dX9_roundTo_23 (by decide) ?_
    exact j_iret (pc := 24) g r rfl rfl (xq_i (by unfold rtS; grind) rfl) dX9_roundTo_24 (Nat.le_of_ble_eq_true rfl) (Nat.le_of_ble_eq_true rfl)

set_option maxHeartbeats 400000 in
set_option maxRecDepth 100000 in
theorem m_roundsTo (l : Launch) (D : va_G) (m : Nat) (ad : Nat → Nat) (hI : mI m ad) (S : ST) (ns : Nat) (its whose : Int32) (i : Nat) (hi : its = nI i) (hi12 : i < 12) (hq : mHd S ns i) (hkk : mMK S ns) : xC l D yX9_roundsTo wsX9_roundsTo ({ frames := 6, cells := 0, slots := 0, locals := 155 }) 0 0 [.ref m, .int its, .int whose] (mM m ad S) (xq (some (.int (rsS S i whose (ix (S 18 i))))) (mM m ad S)) := by
  refine xC_of (cc := cX9_roundsTo) (maxL := 5) (ret := (some .int)) (own := RX9) [some (.ref m), some (.int its), some (.int whose), none, none] (by decide) rfl rfl (Nat.le_of_ble_eq_true rfl) rfl rfl rfl ?_
  intro X hXl hXD g r
  subst hXl
  subst hXD
  have inX9 : ∀ w ∈ wsX90, w ∈ wsX9_roundsTo := inwX9_X9_roundsTo
  have h18 := hq.1.i18
  refine j_iconst (pc := 0) g (0) dX9_roundsTo_0 (by decide) ?_
  refine istore_n_5_3 (pc := 1) g dX9_roundsTo_1 ?_
  refine j_iconst (pc := 2) g (0) dX9_roundsTo_2 (by decide) ?_
  refine istore_5_4 (pc := 3) g dX9_roundsTo_3 ?_
  have L5 : ∀ (n : Nat) (r_ : Nat) (hr : r_ + n = ix (S 18 i)), J X 5 0 0 (mM m ad S) [some (.ref m), some (.int its), some (.int whose), some (.int (rsS S i whose r_)), some (.int (nI r_))] [] 5 := by
    intro n
    induction n with
    | zero =>
      intro r_ hr
      have hi4 : r_ = ix (S 18 i) := by omega
      subst hi4
      refine j_iload (pc := 5) g dX9_roundsTo_5 rfl ?_
      refine j_aload_n (pc := 7) g 0 dX9_roundsTo_7 rfl rfl ?_
      refine j_get (pc := 8) g dX9_roundsTo_8 (mM_m _ _ _) rfl inX9 18 (by decide) (by decide +kernel) rfl rfl ?_
      refine j_iload_n (pc := 11) g 1 dX9_roundsTo_11 rfl rfl ?_
      refine jm_ald (pc := 12) g hI 18 dX9_roundsTo_12 (by decide) rfl (i) (hi) (by have : mLen 18 = 12 := rfl; omega) ?_
      refine j_icmp_ge (pc := 13) g 41 dX9_roundsTo_13 (by decide) (fun c13 => ?_) (fun c13 => absurd (by rw [← h18.1]; exact Int32.le_refl _) c13)
      refine j_iload_n (pc := 41) g 3 dX9_roundsTo_41 rfl rfl ?_
      exact j_iret (pc := 42) g r rfl rfl (xq_i rfl rfl) dX9_roundsTo_42 (Nat.le_of_ble_eq_true rfl) (Nat.le_of_ble_eq_true rfl)
    | succ n ih =>
      intro r_ hr
      refine j_iload (pc := 5) g dX9_roundsTo_5 rfl ?_
      refine j_aload_n (pc := 7) g 0 dX9_roundsTo_7 rfl rfl ?_
      refine j_get (pc := 8) g dX9_roundsTo_8 (mM_m _ _ _) rfl inX9 18 (by decide) (by decide +kernel) rfl rfl ?_
      refine j_iload_n (pc := 11) g 1 dX9_roundsTo_11 rfl rfl ?_
      refine jm_ald (pc := 12) g hI 18 dX9_roundsTo_12 (by decide) rfl (i) (hi) (by have : mLen 18 = 12 := rfl; omega) ?_
      refine j_icmp_ge (pc := 13) g 41 dX9_roundsTo_13 (by decide) (fun c13 => absurd c13 (by rw [h18.1]; exact nI_ge (by omega) (by omega))) (fun c13 => ?_)
      refine j_iload_n (pc := 16) g 3 dX9_roundsTo_16 rfl rfl ?_
      refine j_aload_n (pc := 17) g 0 dX9_roundsTo_17 rfl rfl ?_
      refine j_iload_n (pc := 18) g 1 dX9_roundsTo_18 rfl rfl ?_
      refine j_iload (pc := 19) g dX9_roundsTo_19 rfl ?_
      refine j_cVi (pc := 21) (n := 2) g (m_roundTo (jl X) (jD X) m ad hI S ns _ _ i r_ hi rfl hi12 (by omega) hq hkk) dX9_roundsTo_21 (mM_m _ _ _) rfl gX9_roundsTo_X9_roundTo rfl rfl rfl rfl ⟨rfl, by decide, by decide, by decide +kernel⟩ ⟨Nat.le_of_ble_eq_true rfl, Nat.le_of_ble_eq_true rfl⟩ ⟨Nat.le_of_ble_eq_true rfl, Nat.le_of_ble_eq_true rfl⟩ rfl (Nat.le_of_ble_eq_true rfl) ?_
      refine j_iload_n (pc := 24) g 2 dX9_roundsTo_24 rfl rfl ?_
      refine j_icmp_ne (pc := 25) g 32 dX9_roundsTo_25 (by decide) (fun c25 => ?_) (fun c25 => ?_)
      · refine j_iconst (pc := 32) g (0) dX9_roundsTo_32 (by decide) ?_
        refine j_iadd (pc := 33) g dX9_roundsTo_33 ?_
        refine istore_n_5_3 (pc := 34) g dX9_roundsTo_34 ?_
        refine iinc_5_4_1 (pc := 35) g dX9_roundsTo_35 ?_
        refine j_goto (pc := 38) g 5 dX9_roundsTo_38 (by decide) ?_
        exact (by have q9 := ih (r_ + 1) (by omega); rw [← nI_1 r_] at q9; first | (rw [rsS, if_neg c25] at q9; exact q9) | (rw [rsS, if_pos c25] at q9; exact q9))
      · refine j_iconst (pc := 28) g (1) dX9_roundsTo_28 (by decide) ?_
        refine j_goto (pc := 29) g 33 dX9_roundsTo_29 (by decide) ?_
        refine j_iadd (pc := 33) g dX9_roundsTo_33 ?_
        refine istore_n_5_3 (pc := 34) g dX9_roundsTo_34 ?_
        refine iinc_5_4_1 (pc := 35) g dX9_roundsTo_35 ?_
        refine j_goto (pc := 38) g 5 dX9_roundsTo_38 (by decide) ?_
        exact (by have q9 := ih (r_ + 1) (by omega); rw [← nI_1 r_] at q9; first | (rw [rsS, if_neg c25] at q9; exact q9) | (rw [rsS, if_pos c25] at q9; exact q9))
  exact L5 (ix (S 18 i)) 0 (by omega)

set_option maxHeartbeats 400000 in
set_option maxRecDepth 100000 in
theorem m_winner (l : Launch) (D : va_G) (m : Nat) (ad : Nat → Nat) (hI : mI m ad) (S : ST) (ns : Nat) (its : Int32) (i : Nat) (hi : its = nI i) (hi12 : i < 12) (hq : mHd S ns i) (hkk : mMK S ns) : xC l D yX9_winner wsX9_winner ({ frames := 7, cells := 0, slots := 0, locals := 179 }) 0 0 [.ref m, .int its] (mM m ad S) (xq (some (.int (wnS S i))) (mM m ad S)) := by
  refine xC_of (cc := cX9_winner) (maxL := 3) (ret := (some .int)) (own := RX9) [some (.ref m), some (.int its), none] (by decide) rfl rfl (Nat.le_of_ble_eq_true rfl) rfl rfl rfl ?_
  intro X hXl hXD g r
  subst hXl
  subst hXD
  have inX9 : ∀ w ∈ wsX90, w ∈ wsX9_winner := inwX9_X9_winner
  refine j_aload_n (pc := 0) g 0 dX9_winner_0 rfl rfl ?_
  refine j_iload_n (pc := 1) g 1 dX9_winner_1 rfl rfl ?_
  refine j_cVi (pc := 2) (n := 1) g (m_isOver (jl X) (jD X) m ad hI S _ i hi hi12) dX9_winner_2 (mM_m _ _ _) rfl gX9_winner_X9_isOver rfl rfl rfl rfl ⟨rfl, by decide, by decide, by decide +kernel⟩ ⟨Nat.le_of_ble_eq_true rfl, Nat.le_of_ble_eq_true rfl⟩ ⟨Nat.le_of_ble_eq_true rfl, Nat.le_of_ble_eq_true rfl⟩ rfl (Nat.le_of_ble_eq_true rfl) ?_
  refine j_if_ne (pc := 5) g 10 dX9_winner_5 (by decide) (fun c5 => ?_) (fun c5 => ?_)
  · refine j_aload_n (pc := 10) g 0 dX9_winner_10 rfl rfl ?_
    refine j_iload_n (pc := 11) g 1 dX9_winner_11 rfl rfl ?_
    refine j_iconst (pc := 12) g (1) dX9_winner_12 (by decide) ?_
    refine j_cVi (pc := 13) (n := 2) g (m_roundsTo (jl X) (jD X) m ad hI S ns _ _ i hi hi12 hq hkk) dX9_winner_13 (mM_m _ _ _) rfl gX9_winner_X9_roundsTo rfl rfl rfl rfl ⟨rfl, by decide, by decide, by decide +kernel⟩ ⟨Nat.le_of_ble_eq_true rfl, Nat.le_of_ble_eq_true rfl⟩ ⟨Nat.le_of_ble_eq_true rfl, Nat.le_of_ble_eq_true rfl⟩ rfl (Nat.le_of_ble_eq_true rfl) ?_
    refine j_aload_n (pc := 16) g 0 dX9_winner_16 rfl rfl ?_
    refine j_iload_n (pc := 17) g 1 dX9_winner_17 rfl rfl ?_
    refine j_iconst (pc := 18) g (2) dX9_winner_18 (by decide) ?_
    refine j_cVi (pc := 19) (n := 2) g (m_roundsTo (jl X) (jD X) m ad hI S ns _ _ i hi hi12 hq hkk) dX9_winner_19 (mM_m _ _ _) rfl gX9_winner_X9_roundsTo rfl rfl rfl rfl ⟨rfl, by decide, by decide, by decide +kernel⟩ ⟨Nat.le_of_ble_eq_true rfl, Nat.le_of_ble_eq_true rfl⟩ ⟨Nat.le_of_ble_eq_true rfl, Nat.le_of_ble_eq_true rfl⟩ rfl (Nat.le_of_ble_eq_true rfl) ?_
    refine j_isub (pc := 22) g dX9_winner_22 ?_
    refine istore_n_3_2 (pc := 23) g dX9_winner_23 ?_
    refine j_iload_n (pc := 24) g 2 dX9_winner_24 rfl rfl ?_
    refine j_if_le (pc := 25) g 37 dX9_winner_25 (by decide) (fun c25 => ?_) (fun c25 => ?_)
    · refine j_iload_n (pc := 37) g 2 dX9_winner_37 rfl rfl ?_
      refine j_if_ge (pc := 38) g 50 dX9_winner_38 (by decide) (fun c38 => ?_) (fun c38 => ?_)
      · refine j_iconst (pc := 50) g (-1) dX9_winner_50 (by decide) ?_
        exact j_iret (pc := 51) g r rfl rfl (xq_i (by unfold wnS; grind [b01]) rfl) dX9_winner_51 (Nat.le_of_ble_eq_true rfl) (Nat.le_of_ble_eq_true rfl)
      · refine j_aload_n (pc := 41) g 0 dX9_winner_41 rfl rfl ?_
        refine j_get (pc := 42) g dX9_winner_42 (mM_m _ _ _) rfl inX9 14 (by decide) (by decide +kernel) rfl rfl ?_
        refine j_iload_n (pc := 45) g 1 dX9_winner_45 rfl rfl ?_
        refine jm_ald (pc := 46) g hI 14 dX9_winner_46 (by decide) rfl (i) (hi) (by have : mLen 14 = 12 := rfl; omega) ?_
        refine j_goto (pc := 47) g 51 dX9_winner_47 (by decide) ?_
        exact j_iret (pc := 51) g r rfl rfl (xq_i (by unfold wnS; grind [b01]) rfl) dX9_winner_51 (Nat.le_of_ble_eq_true rfl) (Nat.le_of_ble_eq_true rfl)
    · refine j_aload_n (pc := 28) g 0 dX9_winner_28 rfl rfl ?_
      refine j_get (pc := 29) g dX9_winner_29 (mM_m _ _ _) rfl inX9 13 (by decide) (by decide +kernel) rfl rfl ?_
      refine j_iload_n (pc := 32) g 1 dX9_winner_32 rfl rfl ?_
      refine jm_ald (pc := 33) g hI 13 dX9_winner_33 (by decide) rfl (i) (hi) (by have : mLen 13 = 12 := rfl; omega) ?_
      refine j_goto (pc := 34) g 51 dX9_winner_34 (by decide) ?_
      exact j_iret (pc := 51) g r rfl rfl (xq_i (by unfold wnS; grind [b01]) rfl) dX9_winner_51 (Nat.le_of_ble_eq_true rfl) (Nat.le_of_ble_eq_true rfl)
  · refine j_iconst (pc := 8) g (-1) dX9_winner_8 (by decide) ?_
    exact j_iret (pc := 9) g r rfl rfl (xq_i (by unfold wnS; grind [b01]) rfl) dX9_winner_9 (Nat.le_of_ble_eq_true rfl) (Nat.le_of_ble_eq_true rfl)
