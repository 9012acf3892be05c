set_option maxHeartbeats 400000 in
set_option maxRecDepth 100000 in
theorem m_buy (l : Launch) (D : va_G) (m : Nat) (ad : Nat → Nat) (hI : mI m ad) (S : ST) (its many : Int32) : xC l D yX9_buy wsX9_buy ({ frames := 2, cells := 0, slots := 0, locals := 42 }) 0 0 [.ref m, .int its, .int many] (mM m ad S) (xq (some (.int (mAns (tBuy S its many) (S 6 (ix its) + many)))) (mM m ad (mSt S (tBuy S its many) (fun S => nBuy S its many)))) := by
  refine xC_of (cc := cX9_buy) (maxL := 4) (ret := (some .int)) (own := RX9) [some (.ref m), some (.int its), some (.int many), none] (by decide) rfl rfl (Nat.le_of_ble_eq_true rfl) rfl rfl rfl ?_
  intro X hXl hXD g r
  subst hXl
  subst hXD
  have inX9 : ∀ w ∈ wsX90, w ∈ wsX9_buy := inwX9_X9_buy
  refine j_iload_n (pc := 0) g 1 dX9_buy_0 rfl rfl ?_
  refine j_cSi (pc := 1) (n := 1) g (m_isPaper (jl X) (jD X) _ _) dX9_buy_1 gX9_buy_X9_isPaper rfl rfl rfl rfl ⟨by decide, by decide, by decide +kernel⟩ ⟨Nat.le_of_ble_eq_true rfl, Nat.le_of_ble_eq_true rfl⟩ ⟨Nat.le_of_ble_eq_true rfl, Nat.le_of_ble_eq_true rfl⟩ rfl (Nat.le_of_ble_eq_true rfl) ?_
  refine istore_n_4_3 (pc := 4) g dX9_buy_4 ?_
  refine j_aload_n (pc := 5) g 0 dX9_buy_5 rfl rfl ?_
  refine j_iload_n (pc := 6) g 3 dX9_buy_6 rfl rfl ?_
  refine j_iload_n (pc := 7) g 2 dX9_buy_7 rfl rfl ?_
  refine j_iconst (pc := 8) g (1) dX9_buy_8 (by decide) ?_
  refine j_bipush (pc := 9) g (100) dX9_buy_9 (by decide) ?_
  refine j_cSi (pc := 11) (n := 3) g (m_in (jl X) (jD X) _ _ _ _) dX9_buy_11 gX9_buy_X9_in rfl rfl rfl rfl ⟨by decide, by decide, by decide +kernel⟩ ⟨Nat.le_of_ble_eq_true rfl, Nat.le_of_ble_eq_true rfl⟩ ⟨Nat.le_of_ble_eq_true rfl, Nat.le_of_ble_eq_true rfl⟩ rfl (Nat.le_of_ble_eq_true rfl) ?_
  refine j_iload_n (pc := 14) g 3 dX9_buy_14 rfl rfl ?_
  have K45 : ∀ (b : Int32) (hb : b = b01 (iN its 0 2 ∧ S 6 (ix its) + many ≤ 1000)), J X 4 0 0 (mM m ad S) [some (.ref m), some (.int its), some (.int many), some (.int (b01 (iN its 0 2)))] [.int b, .int (b01 (iN many 1 100)), .int (b01 (iN its 0 2)), .ref m] 45 := by
    intro b hb
    refine j_cVi (pc := 45) (n := 3) g (m_goes (jl X) (jD X) m ad S _ _ _) dX9_buy_45 (mM_m _ _ _) rfl gX9_buy_X9_goes rfl rfl rfl rfl ⟨rfl, by decide, by decide, by decide +kernel⟩ ⟨Nat.le_of_ble_eq_true rfl, Nat.le_of_ble_eq_true rfl⟩ ⟨Nat.le_of_ble_eq_true rfl, Nat.le_of_ble_eq_true rfl⟩ rfl (Nat.le_of_ble_eq_true rfl) ?_
    have ht : gT (b01 (iN its 0 2)) (b01 (iN many 1 100)) b = tBuy S its many := by grind [gT, b01, tBuy]
    rw [ht]
    refine j_if_ne (pc := 48) g 53 dX9_buy_48 (by decide) (fun c48 => ?_) (fun c48 => ?_)
    · have h0 : tBuy S its many = 0 := by grind [b01]
      rw [h0]
      have hi1 : iN its 0 2 := by grind [tBuy]
      have hp := iN_ix (n := 2) (by omega) hi1
      refine j_aload_n (pc := 53) g 0 dX9_buy_53 rfl rfl ?_
      refine j_get (pc := 54) g dX9_buy_54 (mM_m _ _ _) rfl inX9 6 (by decide) (by decide +kernel) rfl rfl ?_
      refine j_iload_n (pc := 57) g 1 dX9_buy_57 rfl rfl ?_
      refine j_dup2 (pc := 58) g dX9_buy_58 rfl rfl ?_
      refine jm_ald (pc := 59) g hI 6 dX9_buy_59 (by decide) rfl (ix its) (hp.1) (by have : mLen 6 = 3 := rfl; omega) ?_
      refine j_iload_n (pc := 60) g 2 dX9_buy_60 rfl rfl ?_
      refine j_iadd (pc := 61) g dX9_buy_61 ?_
      refine jm_ast (pc := 62) g hI 6 dX9_buy_62 (by decide) rfl (ix its) (hp.1) (by have : mLen 6 = 3 := rfl; omega) ?_
      refine j_aload_n (pc := 63) g 0 dX9_buy_63 rfl rfl ?_
      refine j_get (pc := 64) g dX9_buy_64 (mM_m _ _ _) rfl inX9 6 (by decide) (by decide +kernel) rfl rfl ?_
      refine j_iload_n (pc := 67) g 1 dX9_buy_67 rfl rfl ?_
      refine jm_ald (pc := 68) g hI 6 dX9_buy_68 (by decide) rfl (ix its) (hp.1) (by have : mLen 6 = 3 := rfl; omega) ?_
      exact j_iret (pc := 69) g r rfl rfl (by first | exact xq_i (by rw [mAns, if_neg (b01_0.mp c48)]) (by rw [mSt, if_neg (b01_0.mp c48)]) | exact xq_i (by rw [mAns, if_pos h0]; exact su_s) (by rw [mSt, if_pos h0]; rfl)) dX9_buy_69 (Nat.le_of_ble_eq_true rfl) (Nat.le_of_ble_eq_true rfl)
    · refine j_iconst (pc := 51) g (0) dX9_buy_51 (by decide) ?_
      exact j_iret (pc := 52) g r rfl rfl (by first | exact xq_i (by rw [mAns, if_neg (b01_0.mp c48)]) (by rw [mSt, if_neg (b01_0.mp c48)]) | exact xq_i (by rw [mAns, if_pos h0]; exact su_s) (by rw [mSt, if_pos h0]; rfl)) dX9_buy_52 (Nat.le_of_ble_eq_true rfl) (Nat.le_of_ble_eq_true rfl)
  refine j_if_eq (pc := 15) g 44 dX9_buy_15 (by decide) (fun c15 => ?_) (fun c15 => ?_)
  · refine j_iconst (pc := 44) g (0) dX9_buy_44 (by decide) ?_
    exact K45 _ (by grind [b01])
  · have hi1 : iN its 0 2 := by grind [b01]
    have hp := iN_ix (n := 2) (by omega) hi1
    refine j_aload_n (pc := 18) g 0 dX9_buy_18 rfl rfl ?_
    refine j_get (pc := 19) g dX9_buy_19 (mM_m _ _ _) rfl inX9 6 (by decide) (by decide +kernel) rfl rfl ?_
    refine j_iload_n (pc := 22) g 3 dX9_buy_22 rfl rfl ?_
    refine j_if_eq (pc := 23) g 30 dX9_buy_23 (by decide) (fun c23 => absurd c23 c15) (fun c23 => ?_)
    refine j_iload_n (pc := 26) g 1 dX9_buy_26 rfl rfl ?_
    refine j_goto (pc := 27) g 31 dX9_buy_27 (by decide) ?_
    refine jm_ald (pc := 31) g hI 6 dX9_buy_31 (by decide) rfl (ix its) (hp.1) (by have : mLen 6 = 3 := rfl; omega) ?_
    refine j_iload_n (pc := 32) g 2 dX9_buy_32 rfl rfl ?_
    refine j_iadd (pc := 33) g dX9_buy_33 ?_
    refine j_sipush (pc := 34) g (1000) dX9_buy_34 (by decide) ?_
    refine j_icmp_gt (pc := 37) g 44 dX9_buy_37 (by decide) (fun c37 => ?_) (fun c37 => ?_)
    · refine j_iconst (pc := 44) g (0) dX9_buy_44 (by decide) ?_
      exact K45 _ (by grind [b01])
    · refine j_iconst (pc := 40) g (1) dX9_buy_40 (by decide) ?_
      refine j_goto (pc := 41) g 45 dX9_buy_41 (by decide) ?_
      exact K45 _ (by grind [b01])

set_option maxHeartbeats 400000 in
set_option maxRecDepth 100000 in
theorem m_rise (l : Launch) (D : va_G) (m : Nat) (ad : Nat → Nat) (hI : mI m ad) (S : ST) (its by_ : Int32) : xC l D yX9_rise wsX9_rise ({ frames := 2, cells := 0, slots := 0, locals := 42 }) 0 0 [.ref m, .int its, .int by_] (mM m ad S) (xq (some (.int (mAns (tRise its by_) (S 7 (ix its))))) (mM m ad (mSt S (tRise its by_) (fun S => nRise S its by_)))) := by
  refine xC_of (cc := cX9_rise) (maxL := 3) (ret := (some .int)) (own := RX9) [some (.ref m), some (.int its), some (.int by_)] (by decide) rfl rfl (Nat.le_of_ble_eq_true rfl) rfl rfl rfl ?_
  intro X hXl hXD g r
  subst hXl
  subst hXD
  have inX9 : ∀ w ∈ wsX90, w ∈ wsX9_rise := inwX9_X9_rise
  refine j_aload_n (pc := 0) g 0 dX9_rise_0 rfl rfl ?_
  refine j_iload_n (pc := 1) g 1 dX9_rise_1 rfl rfl ?_
  refine j_cSi (pc := 2) (n := 1) g (m_isPaper (jl X) (jD X) _ _) dX9_rise_2 gX9_rise_X9_isPaper rfl rfl rfl rfl ⟨by decide, by decide, by decide +kernel⟩ ⟨Nat.le_of_ble_eq_true rfl, Nat.le_of_ble_eq_true rfl⟩ ⟨Nat.le_of_ble_eq_true rfl, Nat.le_of_ble_eq_true rfl⟩ rfl (Nat.le_of_ble_eq_true rfl) ?_
  refine j_iload_n (pc := 5) g 2 dX9_rise_5 rfl rfl ?_
  refine j_bipush (pc := 6) g (-10) dX9_rise_6 (by decide) ?_
  refine j_bipush (pc := 8) g (10) dX9_rise_8 (by decide) ?_
  refine j_cSi (pc := 10) (n := 3) g (m_in (jl X) (jD X) _ _ _ _) dX9_rise_10 gX9_rise_X9_in rfl rfl rfl rfl ⟨by decide, by decide, by decide +kernel⟩ ⟨Nat.le_of_ble_eq_true rfl, Nat.le_of_ble_eq_true rfl⟩ ⟨Nat.le_of_ble_eq_true rfl, Nat.le_of_ble_eq_true rfl⟩ rfl (Nat.le_of_ble_eq_true rfl) ?_
  refine j_iconst (pc := 13) g (1) dX9_rise_13 (by decide) ?_
  refine j_cVi (pc := 14) (n := 3) g (m_goes (jl X) (jD X) m ad S _ _ _) dX9_rise_14 (mM_m _ _ _) rfl gX9_rise_X9_goes rfl rfl rfl rfl ⟨rfl, by decide, by decide, by decide +kernel⟩ ⟨Nat.le_of_ble_eq_true rfl, Nat.le_of_ble_eq_true rfl⟩ ⟨Nat.le_of_ble_eq_true rfl, Nat.le_of_ble_eq_true rfl⟩ rfl (Nat.le_of_ble_eq_true rfl) ?_
  have ht : gT (b01 (iN its 0 2)) (b01 (iN by_ (-10) 10)) 1 = tRise its by_ := by grind [gT, b01, tRise]
  rw [ht]
  refine j_if_ne (pc := 17) g 22 dX9_rise_17 (by decide) (fun c17 => ?_) (fun c17 => ?_)
  · have h0 : tRise its by_ = 0 := by grind [b01]
    rw [h0]
    have hi1 : iN its 0 2 := by grind [tRise]
    have hp := iN_ix (n := 2) (by omega) hi1
    refine j_aload_n (pc := 22) g 0 dX9_rise_22 rfl rfl ?_
    refine j_get (pc := 23) g dX9_rise_23 (mM_m _ _ _) rfl inX9 8 (by decide) (by decide +kernel) rfl rfl ?_
    refine j_iload_n (pc := 26) g 1 dX9_rise_26 rfl rfl ?_
    refine j_iload_n (pc := 27) g 2 dX9_rise_27 rfl rfl ?_
    refine jm_ast (pc := 28) g hI 8 dX9_rise_28 (by decide) rfl (ix its) (hp.1) (by have : mLen 8 = 3 := rfl; omega) ?_
    refine j_aload_n (pc := 29) g 0 dX9_rise_29 rfl rfl ?_
    refine j_get (pc := 30) g dX9_rise_30 (mM_m _ _ _) rfl inX9 7 (by decide) (by decide +kernel) rfl rfl ?_
    refine j_iload_n (pc := 33) g 1 dX9_rise_33 rfl rfl ?_
    refine jm_ald (pc := 34) g hI 7 dX9_rise_34 (by decide) rfl (ix its) (hp.1) (by have : mLen 7 = 3 := rfl; omega) ?_
    exact j_iret (pc := 35) g r rfl rfl (by first | exact xq_i (by rw [mAns, if_neg (b01_0.mp c17)]) (by rw [mSt, if_neg (b01_0.mp c17)]) | exact xq_i (by rw [mAns, if_pos h0]; rfl) (by rw [mSt, if_pos h0]; rfl)) dX9_rise_35 (Nat.le_of_ble_eq_true rfl) (Nat.le_of_ble_eq_true rfl)
  · refine j_iconst (pc := 20) g (0) dX9_rise_20 (by decide) ?_
    exact j_iret (pc := 21) g r rfl rfl (by first | exact xq_i (by rw [mAns, if_neg (b01_0.mp c17)]) (by rw [mSt, if_neg (b01_0.mp c17)]) | exact xq_i (by rw [mAns, if_pos h0]; rfl) (by rw [mSt, if_pos h0]; rfl)) dX9_rise_21 (Nat.le_of_ble_eq_true rfl) (Nat.le_of_ble_eq_true rfl)

set_option maxHeartbeats 400000 in
set_option maxRecDepth 100000 in
theorem m_style (l : Launch) (D : va_G) (m : Nat) (ad : Nat → Nat) (hI : mI m ad) (S : ST) (its a b c : Int32) : xC l D yX9_style wsX9_style ({ frames := 1, cells := 0, slots := 0, locals := 23 }) 0 0 [.ref m, .int its, .int a, .int b, .int c] (mM m ad S) (xq none (mM m ad (mSt S (tStyle its a b c) (fun S => nStyle S its a b c)))) := by
  refine xC_of (cc := cX9_style) (maxL := 5) (ret := none) (own := RX9) [some (.ref m), some (.int its), some (.int a), some (.int b), some (.int c)] (by decide) rfl rfl (Nat.le_of_ble_eq_true rfl) rfl rfl rfl ?_
  intro X hXl hXD g r
  subst hXl
  subst hXD
  have inX9 : ∀ w ∈ wsX90, w ∈ wsX9_style := inwX9_X9_style
  refine j_aload_n (pc := 0) g 0 dX9_style_0 rfl rfl ?_
  refine j_iload_n (pc := 1) g 1 dX9_style_1 rfl rfl ?_
  refine j_iconst (pc := 2) g (0) dX9_style_2 (by decide) ?_
  refine j_iconst (pc := 3) g (3) dX9_style_3 (by decide) ?_
  refine j_cSi (pc := 4) (n := 3) g (m_in (jl X) (jD X) _ _ _ _) dX9_style_4 gX9_style_X9_in rfl rfl rfl rfl ⟨by decide, by decide, by decide +kernel⟩ ⟨Nat.le_of_ble_eq_true rfl, Nat.le_of_ble_eq_true rfl⟩ ⟨Nat.le_of_ble_eq_true rfl, Nat.le_of_ble_eq_true rfl⟩ rfl (Nat.le_of_ble_eq_true rfl) ?_
  have K43 : ∀ (b2 : Int32) (hb2 : b2 = b01 (iN a 0 100 ∧ iN b 0 100 ∧ iN c 0 100)), J X 5 0 0 (mM m ad S) [some (.ref m), some (.int its), some (.int a), some (.int b), some (.int c)] [.int b2, .int (b01 (iN its 0 3)), .ref m] 43 := by
    intro b2 hb2
    refine j_iconst (pc := 43) g (1) dX9_style_43 (by decide) ?_
    refine j_cVi (pc := 44) (n := 3) g (m_goes (jl X) (jD X) m ad S _ _ _) dX9_style_44 (mM_m _ _ _) rfl gX9_style_X9_goes rfl rfl rfl rfl ⟨rfl, by decide, by decide, by decide +kernel⟩ ⟨Nat.le_of_ble_eq_true rfl, Nat.le_of_ble_eq_true rfl⟩ ⟨Nat.le_of_ble_eq_true rfl, Nat.le_of_ble_eq_true rfl⟩ rfl (Nat.le_of_ble_eq_true rfl) ?_
    have ht : gT (b01 (iN its 0 3)) b2 1 = tStyle its a b c := by grind [gT, b01, tStyle]
    rw [ht]
    refine j_if_eq (pc := 47) g 82 dX9_style_47 (by decide) (fun c47 => ?_) (fun c47 => ?_)
    · exact j_vret (pc := 82) g r rfl  (by first | exact xq_v (by rw [mSt, if_neg (b01_0.mp c47)]) | exact xq_v (by rw [mSt, if_pos h0]; rfl)) dX9_style_82 (Nat.le_of_ble_eq_true rfl) (Nat.le_of_ble_eq_true rfl)
    · have h0 : tStyle its a b c = 0 := by grind [b01]
      rw [h0]
      have hi1 : iN its 0 3 := by grind [tStyle]
      have hp := iN_ix (n := 3) (by omega) hi1
      refine j_aload_n (pc := 50) g 0 dX9_style_50 rfl rfl ?_
      refine j_get (pc := 51) g dX9_style_51 (mM_m _ _ _) rfl inX9 10 (by decide) (by decide +kernel) rfl rfl ?_
      refine j_iconst (pc := 54) g (3) dX9_style_54 (by decide) ?_
      refine j_iload_n (pc := 55) g 1 dX9_style_55 rfl rfl ?_
      refine j_imul (pc := 56) g dX9_style_56 ?_
      refine j_iload_n (pc := 57) g 2 dX9_style_57 rfl rfl ?_
      refine jm_ast (pc := 58) g hI 10 dX9_style_58 (by decide) rfl (3 * ix its) (lx_m 3 hp.1) (by have : mLen 10 = 12 := rfl; omega) ?_
      refine j_aload_n (pc := 59) g 0 dX9_style_59 rfl rfl ?_
      refine j_get (pc := 60) g dX9_style_60 (mM_m _ _ _) rfl inX9 10 (by decide) (by decide +kernel) rfl rfl ?_
      refine j_iconst (pc := 63) g (3) dX9_style_63 (by decide) ?_
      refine j_iload_n (pc := 64) g 1 dX9_style_64 rfl rfl ?_
      refine j_imul (pc := 65) g dX9_style_65 ?_
      refine j_iconst (pc := 66) g (1) dX9_style_66 (by decide) ?_
      refine j_iadd (pc := 67) g dX9_style_67 ?_
      refine j_iload_n (pc := 68) g 3 dX9_style_68 rfl rfl ?_
      refine jm_ast (pc := 69) g hI 10 dX9_style_69 (by decide) rfl (3 * ix its + 1) (lx_a (lx_m 3 hp.1) lit_1) (by have : mLen 10 = 12 := rfl; omega) ?_
      refine j_aload_n (pc := 70) g 0 dX9_style_70 rfl rfl ?_
      refine j_get (pc := 71) g dX9_style_71 (mM_m _ _ _) rfl inX9 10 (by decide) (by decide +kernel) rfl rfl ?_
      refine j_iconst (pc := 74) g (3) dX9_style_74 (by decide) ?_
      refine j_iload_n (pc := 75) g 1 dX9_style_75 rfl rfl ?_
      refine j_imul (pc := 76) g dX9_style_76 ?_
      refine j_iconst (pc := 77) g (2) dX9_style_77 (by decide) ?_
      refine j_iadd (pc := 78) g dX9_style_78 ?_
      refine j_iload (pc := 79) g dX9_style_79 rfl ?_
      refine jm_ast (pc := 81) g hI 10 dX9_style_81 (by decide) rfl (3 * ix its + 2) (lx_a (lx_m 3 hp.1) lit_2) (by have : mLen 10 = 12 := rfl; omega) ?_
      exact j_vret (pc := 82) g r rfl  (by first | exact xq_v (by rw [mSt, if_neg (b01_0.mp c47)]) | exact xq_v (by rw [mSt, if_pos h0]; rfl)) dX9_style_82 (Nat.le_of_ble_eq_true rfl) (Nat.le_of_ble_eq_true rfl)
  refine j_iload_n (pc := 7) g 2 dX9_style_7 rfl rfl ?_
  refine j_iconst (pc := 8) g (0) dX9_style_8 (by decide) ?_
  refine j_bipush (pc := 9) g (100) dX9_style_9 (by decide) ?_
  refine j_cSi (pc := 11) (n := 3) g (m_in (jl X) (jD X) _ _ _ _) dX9_style_11 gX9_style_X9_in rfl rfl rfl rfl ⟨by decide, by decide, by decide +kernel⟩ ⟨Nat.le_of_ble_eq_true rfl, Nat.le_of_ble_eq_true rfl⟩ ⟨Nat.le_of_ble_eq_true rfl, Nat.le_of_ble_eq_true rfl⟩ rfl (Nat.le_of_ble_eq_true rfl) ?_
  refine j_if_eq (pc := 14) g 42 dX9_style_14 (by decide) (fun c14 => ?_) (fun c14 => ?_)
  · refine j_iconst (pc := 42) g (0) dX9_style_42 (by decide) ?_
    exact K43 _ (by grind [b01])
  · refine j_iload_n (pc := 17) g 3 dX9_style_17 rfl rfl ?_
    refine j_iconst (pc := 18) g (0) dX9_style_18 (by decide) ?_
    refine j_bipush (pc := 19) g (100) dX9_style_19 (by decide) ?_
    refine j_cSi (pc := 21) (n := 3) g (m_in (jl X) (jD X) _ _ _ _) dX9_style_21 gX9_style_X9_in rfl rfl rfl rfl ⟨by decide, by decide, by decide +kernel⟩ ⟨Nat.le_of_ble_eq_true rfl, Nat.le_of_ble_eq_true rfl⟩ ⟨Nat.le_of_ble_eq_true rfl, Nat.le_of_ble_eq_true rfl⟩ rfl (Nat.le_of_ble_eq_true rfl) ?_
    refine j_if_eq (pc := 24) g 42 dX9_style_24 (by decide) (fun c24 => ?_) (fun c24 => ?_)
    · refine j_iconst (pc := 42) g (0) dX9_style_42 (by decide) ?_
      exact K43 _ (by grind [b01])
    · refine j_iload (pc := 27) g dX9_style_27 rfl ?_
      refine j_iconst (pc := 29) g (0) dX9_style_29 (by decide) ?_
      refine j_bipush (pc := 30) g (100) dX9_style_30 (by decide) ?_
      refine j_cSi (pc := 32) (n := 3) g (m_in (jl X) (jD X) _ _ _ _) dX9_style_32 gX9_style_X9_in rfl rfl rfl rfl ⟨by decide, by decide, by decide +kernel⟩ ⟨Nat.le_of_ble_eq_true rfl, Nat.le_of_ble_eq_true rfl⟩ ⟨Nat.le_of_ble_eq_true rfl, Nat.le_of_ble_eq_true rfl⟩ rfl (Nat.le_of_ble_eq_true rfl) ?_
      refine j_if_eq (pc := 35) g 42 dX9_style_35 (by decide) (fun c35 => ?_) (fun c35 => ?_)
      · refine j_iconst (pc := 42) g (0) dX9_style_42 (by decide) ?_
        exact K43 _ (by grind [b01])
      · refine j_iconst (pc := 38) g (1) dX9_style_38 (by decide) ?_
        refine j_goto (pc := 39) g 43 dX9_style_39 (by decide) ?_
        exact K43 _ (by grind [b01])

set_option maxHeartbeats 400000 in
set_option maxRecDepth 100000 in
theorem m_learn (l : Launch) (D : va_G) (m : Nat) (ad : Nat → Nat) (hI : mI m ad) (S : ST) (w s : Int32) : xC l D yX9_learn wsX9_learn ({ frames := 1, cells := 0, slots := 0, locals := 23 }) 0 0 [.ref m, .int w, .int s] (mM m ad S) (xq (some (.int (mAns (tLearn S w s) (cntL (nLearn S w s) (ix w) 4)))) (mM m ad (mSt S (tLearn S w s) (fun S => nLearn S w s)))) := by
  refine xC_of (cc := cX9_learn) (maxL := 6) (ret := (some .int)) (own := RX9) [some (.ref m), some (.int w), some (.int s), none, none, none] (by decide) rfl rfl (Nat.le_of_ble_eq_true rfl) rfl rfl rfl ?_
  intro X hXl hXD g r
  subst hXl
  subst hXD
  have inX9 : ∀ w ∈ wsX90, w ∈ wsX9_learn := inwX9_X9_learn
  have K23 : ∀ (b : Int32) (hb : b = b01 (iN w 0 3 ∧ iN s 0 3)), J X 6 0 0 (mM m ad S) [some (.ref m), some (.int w), some (.int s), none, none, none] [.int b] 23 := by
    intro b hb
    refine istore_n_6_3 (pc := 23) g dX9_learn_23 ?_
    have K57 : ∀ (b2 : Int32) (hb2 : b2 = b01 ((iN w 0 3 ∧ iN s 0 3) ∧ S 11 (4 * ix w + ix s) = -1)), J X 6 0 0 (mM m ad S) [some (.ref m), some (.int w), some (.int s), some (.int b), none, none] [.int b2, .int b, .ref m] 57 := by
      intro b2 hb2
      refine j_iconst (pc := 57) g (1) dX9_learn_57 (by decide) ?_
      refine j_cVi (pc := 58) (n := 3) g (m_goes (jl X) (jD X) m ad S _ _ _) dX9_learn_58 (mM_m _ _ _) rfl gX9_learn_X9_goes rfl rfl rfl rfl ⟨rfl, by decide, by decide, by decide +kernel⟩ ⟨Nat.le_of_ble_eq_true rfl, Nat.le_of_ble_eq_true rfl⟩ ⟨Nat.le_of_ble_eq_true rfl, Nat.le_of_ble_eq_true rfl⟩ rfl (Nat.le_of_ble_eq_true rfl) ?_
      have ht : gT b b2 1 = tLearn S w s := by grind [gT, b01, tLearn]
      rw [ht]
      refine j_if_ne (pc := 61) g 66 dX9_learn_61 (by decide) (fun c61 => ?_) (fun c61 => ?_)
      · have h0 : tLearn S w s = 0 := by grind [b01]
        rw [h0]
        have hl : iN w 0 3 ∧ iN s 0 3 := by grind [b01, tLearn]
        have hw := iN_ix (n := 3) (by omega) hl.1
        have hs := iN_ix (n := 3) (by omega) hl.2
        refine j_aload_n (pc := 66) g 0 dX9_learn_66 rfl rfl ?_
        refine j_get (pc := 67) g dX9_learn_67 (mM_m _ _ _) rfl inX9 11 (by decide) (by decide +kernel) rfl rfl ?_
        refine j_iconst (pc := 70) g (4) dX9_learn_70 (by decide) ?_
        refine j_iload_n (pc := 71) g 1 dX9_learn_71 rfl rfl ?_
        refine j_imul (pc := 72) g dX9_learn_72 ?_
        refine j_iload_n (pc := 73) g 2 dX9_learn_73 rfl rfl ?_
        refine j_iadd (pc := 74) g dX9_learn_74 ?_
        refine j_aload_n (pc := 75) g 0 dX9_learn_75 rfl rfl ?_
        refine j_get (pc := 76) g dX9_learn_76 (mM_m _ _ _) rfl inX9 0 (by decide) (by decide +kernel) rfl rfl ?_
        refine jm_ast (pc := 79) g hI 11 dX9_learn_79 (by decide) rfl (4 * ix w + ix s) (lx_a (lx_m 4 hw.1) hs.1) (by have : mLen 11 = 16 := rfl; omega) ?_
        obtain ⟨S1, hS1⟩ : ∃ z, z = su (su S 28 0 0) 11 (4 * ix w + ix s) (su S 28 0 0 0 0) := ⟨_, rfl⟩
        rw [← hS1]
        refine j_iconst (pc := 80) g (0) dX9_learn_80 (by decide) ?_
        refine istore_6_4 (pc := 81) g dX9_learn_81 ?_
        refine j_iconst (pc := 83) g (0) dX9_learn_83 (by decide) ?_
        refine istore_6_5 (pc := 84) g dX9_learn_84 ?_
        have L86 : ∀ (n : Nat) (i : Nat) (hi : i + n = 4), J X 6 0 0 (mM m ad S1) [some (.ref m), some (.int w), some (.int s), some (.int b), some (.int (cntL S1 (ix w) i)), some (.int (nI i))] [] 86 := by
          intro n
          induction n with
          | zero =>
            intro i hi
            have hi4 : i = 4 := by omega
            refine j_iload (pc := 86) g dX9_learn_86 rfl ?_
            refine j_iconst (pc := 88) g (4) dX9_learn_88 (by decide) ?_
            refine j_icmp_ge (pc := 89) g 123 dX9_learn_89 (by decide) (fun c89 => ?_) (fun c89 => absurd (by rw [hi4]; decide) c89)
            refine j_iload (pc := 123) g dX9_learn_123 rfl ?_
            exact j_iret (pc := 125) g r rfl rfl (by first | exact xq_i (by rw [mAns, if_neg (b01_0.mp c61)]) (by rw [mSt, if_neg (b01_0.mp c61)]) | exact xq_i (by rw [mAns, if_pos h0, hi4, hS1]; rfl) (by rw [mSt, if_pos h0, hS1]; rfl)) dX9_learn_125 (Nat.le_of_ble_eq_true rfl) (Nat.le_of_ble_eq_true rfl)
          | succ n ih =>
            intro i hi
            refine j_iload (pc := 86) g dX9_learn_86 rfl ?_
            refine j_iconst (pc := 88) g (4) dX9_learn_88 (by decide) ?_
            refine j_icmp_ge (pc := 89) g 123 dX9_learn_89 (by decide) (fun c89 => absurd c89 (by rw [lit_4]; exact nI_ge (by omega) (by omega))) (fun c89 => ?_)
            refine j_iload (pc := 92) g dX9_learn_92 rfl ?_
            refine j_aload_n (pc := 94) g 0 dX9_learn_94 rfl rfl ?_
            refine j_get (pc := 95) g dX9_learn_95 (mM_m _ _ _) rfl inX9 11 (by decide) (by decide +kernel) rfl rfl ?_
            refine j_iconst (pc := 98) g (4) dX9_learn_98 (by decide) ?_
            refine j_iload_n (pc := 99) g 1 dX9_learn_99 rfl rfl ?_
            refine j_imul (pc := 100) g dX9_learn_100 ?_
            refine j_iload (pc := 101) g dX9_learn_101 rfl ?_
            refine j_iadd (pc := 103) g dX9_learn_103 ?_
            refine jm_ald (pc := 104) g hI 11 dX9_learn_104 (by decide) rfl (4 * ix w + i) (lx_a (lx_m 4 hw.1) rfl) (by have : mLen 11 = 16 := rfl; omega) ?_
            refine j_iconst (pc := 105) g (-1) dX9_learn_105 (by decide) ?_
            refine j_icmp_ne (pc := 106) g 113 dX9_learn_106 (by decide) (fun c106 => ?_) (fun c106 => ?_)
            · refine j_iconst (pc := 113) g (1) dX9_learn_113 (by decide) ?_
              refine j_iadd (pc := 114) g dX9_learn_114 ?_
              refine istore_6_4 (pc := 115) g dX9_learn_115 ?_
              refine iinc_6_5_1 (pc := 117) g dX9_learn_117 ?_
              refine j_goto (pc := 120) g 86 dX9_learn_120 (by decide) ?_
              exact (by have q9 := ih (i + 1) (by omega); rw [← nI_1 i] at q9; first | (rw [cntL, if_neg c106] at q9; exact q9) | (rw [cntL, if_pos c106] at q9; exact q9))
            · refine j_iconst (pc := 109) g (0) dX9_learn_109 (by decide) ?_
              refine j_goto (pc := 110) g 114 dX9_learn_110 (by decide) ?_
              refine j_iadd (pc := 114) g dX9_learn_114 ?_
              refine istore_6_4 (pc := 115) g dX9_learn_115 ?_
              refine iinc_6_5_1 (pc := 117) g dX9_learn_117 ?_
              refine j_goto (pc := 120) g 86 dX9_learn_120 (by decide) ?_
              exact (by have q9 := ih (i + 1) (by omega); rw [← nI_1 i] at q9; first | (rw [cntL, if_neg c106] at q9; exact q9) | (rw [cntL, if_pos c106] at q9; exact q9))
        exact L86 4 0 (by omega)
      · refine j_iconst (pc := 64) g (0) dX9_learn_64 (by decide) ?_
        exact j_iret (pc := 65) g r rfl rfl (by first | exact xq_i (by rw [mAns, if_neg (b01_0.mp c61)]) (by rw [mSt, if_neg (b01_0.mp c61)]) | exact xq_i (by rw [mAns, if_pos h0, hi4, hS1]; rfl) (by rw [mSt, if_pos h0, hS1]; rfl)) dX9_learn_65 (Nat.le_of_ble_eq_true rfl) (Nat.le_of_ble_eq_true rfl)
    refine j_aload_n (pc := 24) g 0 dX9_learn_24 rfl rfl ?_
    refine j_iload_n (pc := 25) g 3 dX9_learn_25 rfl rfl ?_
    refine j_iload_n (pc := 26) g 3 dX9_learn_26 rfl rfl ?_
    refine j_if_eq (pc := 27) g 56 dX9_learn_27 (by decide) (fun c27 => ?_) (fun c27 => ?_)
    · refine j_iconst (pc := 56) g (0) dX9_learn_56 (by decide) ?_
      exact K57 _ (by grind [b01])
    · have hl : iN w 0 3 ∧ iN s 0 3 := by grind [b01, tLearn]
      have hw := iN_ix (n := 3) (by omega) hl.1
      have hs := iN_ix (n := 3) (by omega) hl.2
      refine j_aload_n (pc := 30) g 0 dX9_learn_30 rfl rfl ?_
      refine j_get (pc := 31) g dX9_learn_31 (mM_m _ _ _) rfl inX9 11 (by decide) (by decide +kernel) rfl rfl ?_
      refine j_iload_n (pc := 34) g 3 dX9_learn_34 rfl rfl ?_
      refine j_if_eq (pc := 35) g 46 dX9_learn_35 (by decide) (fun c35 => absurd c35 c27) (fun c35 => ?_)
      refine j_iconst (pc := 38) g (4) dX9_learn_38 (by decide) ?_
      refine j_iload_n (pc := 39) g 1 dX9_learn_39 rfl rfl ?_
      refine j_imul (pc := 40) g dX9_learn_40 ?_
      refine j_iload_n (pc := 41) g 2 dX9_learn_41 rfl rfl ?_
      refine j_iadd (pc := 42) g dX9_learn_42 ?_
      refine j_goto (pc := 43) g 47 dX9_learn_43 (by decide) ?_
      refine jm_ald (pc := 47) g hI 11 dX9_learn_47 (by decide) rfl (4 * ix w + ix s) (lx_a (lx_m 4 hw.1) hs.1) (by have : mLen 11 = 16 := rfl; omega) ?_
      refine j_iconst (pc := 48) g (-1) dX9_learn_48 (by decide) ?_
      refine j_icmp_ne (pc := 49) g 56 dX9_learn_49 (by decide) (fun c49 => ?_) (fun c49 => ?_)
      · refine j_iconst (pc := 56) g (0) dX9_learn_56 (by decide) ?_
        exact K57 _ (by grind [b01])
      · refine j_iconst (pc := 52) g (1) dX9_learn_52 (by decide) ?_
        refine j_goto (pc := 53) g 57 dX9_learn_53 (by decide) ?_
        exact K57 _ (by grind [b01])
  refine j_iload_n (pc := 0) g 1 dX9_learn_0 rfl rfl ?_
  refine j_iconst (pc := 1) g (0) dX9_learn_1 (by decide) ?_
  refine j_iconst (pc := 2) g (3) dX9_learn_2 (by decide) ?_
  refine j_cSi (pc := 3) (n := 3) g (m_in (jl X) (jD X) _ _ _ _) dX9_learn_3 gX9_learn_X9_in rfl rfl rfl rfl ⟨by decide, by decide, by decide +kernel⟩ ⟨Nat.le_of_ble_eq_true rfl, Nat.le_of_ble_eq_true rfl⟩ ⟨Nat.le_of_ble_eq_true rfl, Nat.le_of_ble_eq_true rfl⟩ rfl (Nat.le_of_ble_eq_true rfl) ?_
  refine j_if_eq (pc := 6) g 22 dX9_learn_6 (by decide) (fun c6 => ?_) (fun c6 => ?_)
  · refine j_iconst (pc := 22) g (0) dX9_learn_22 (by decide) ?_
    exact K23 _ (by grind [b01])
  · refine j_iload_n (pc := 9) g 2 dX9_learn_9 rfl rfl ?_
    refine j_iconst (pc := 10) g (0) dX9_learn_10 (by decide) ?_
    refine j_iconst (pc := 11) g (3) dX9_learn_11 (by decide) ?_
    refine j_cSi (pc := 12) (n := 3) g (m_in (jl X) (jD X) _ _ _ _) dX9_learn_12 gX9_learn_X9_in rfl rfl rfl rfl ⟨by decide, by decide, by decide +kernel⟩ ⟨Nat.le_of_ble_eq_true rfl, Nat.le_of_ble_eq_true rfl⟩ ⟨Nat.le_of_ble_eq_true rfl, Nat.le_of_ble_eq_true rfl⟩ rfl (Nat.le_of_ble_eq_true rfl) ?_
    refine j_if_eq (pc := 15) g 22 dX9_learn_15 (by decide) (fun c15 => ?_) (fun c15 => ?_)
    · refine j_iconst (pc := 22) g (0) dX9_learn_22 (by decide) ?_
      exact K23 _ (by grind [b01])
    · refine j_iconst (pc := 18) g (1) dX9_learn_18 (by decide) ?_
      refine j_goto (pc := 19) g 23 dX9_learn_19 (by decide) ?_
      exact K23 _ (by grind [b01])
