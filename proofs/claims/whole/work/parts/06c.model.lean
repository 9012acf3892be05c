set_option maxHeartbeats 400000 in
set_option maxRecDepth 100000 in
theorem m_sign (l : Launch) (D : va_G) (m : Nat) (ad : Nat → Nat) (hI : mI m ad) (S : ST) (d ns : Nat) (hd : S 1 0 = nI d) (hd8 : d ≤ 8) (hs : S 3 0 = nI ns) (hs6 : ns ≤ 6) : xC l D yX9_sign wsX9_sign ({ frames := 1, cells := 0, slots := 0, locals := 23 }) 0 0 [.ref m] (mM m ad S) (xq (some (.int (mAns (tSign S) (nI ns)))) (mM m ad (mSt S (tSign S) (fun S => nSign S d ns)))) := by
  refine xC_of (cc := cX9_sign) (maxL := 2) (ret := (some .int)) (own := RX9) [some (.ref m), none] (by decide) rfl rfl (Nat.le_of_ble_eq_true rfl) rfl rfl rfl ?_
  intro X hXl hXD g r
  subst hXl
  subst hXD
  have inX9 : ∀ w ∈ wsX90, w ∈ wsX9_sign := inwX9_X9_sign
  have K28 : ∀ (b : Int32) (hb : b = b01 (iN (S 1 0) 1 6 ∧ S 3 0 < 6)), J X 2 0 0 (mM m ad S) [some (.ref m), none] [.int b, .ref m] 28 := by
    intro b hb
    refine j_iconst (pc := 28) g (1) dX9_sign_28 (by decide) ?_
    refine j_iconst (pc := 29) g (1) dX9_sign_29 (by decide) ?_
    refine j_cVi (pc := 30) (n := 3) g (m_goes (jl X) (jD X) m ad S _ _ _) dX9_sign_30 (mM_m _ _ _) rfl gX9_sign_X9_goes rfl rfl rfl rfl ⟨rfl, by decide, by decide, by decide +kernel⟩ ⟨Nat.le_of_ble_eq_true rfl, Nat.le_of_ble_eq_true rfl⟩ ⟨Nat.le_of_ble_eq_true rfl, Nat.le_of_ble_eq_true rfl⟩ rfl (Nat.le_of_ble_eq_true rfl) ?_
    have ht : gT b 1 1 = tSign S := by grind [gT, b01, tSign]
    rw [ht]
    refine j_if_ne (pc := 33) g 38 dX9_sign_33 (by decide) (fun c33 => ?_) (fun c33 => ?_)
    · have h0 : tSign S = 0 := by grind [b01]
      rw [h0]
      have h7 : d ≤ 6 ∧ ns < 6 := by
        have h1 : iN (S 1 0) 1 6 ∧ S 3 0 < 6 := by grind [tSign]
        rw [hd, hs] at h1
        exact ⟨(nI_leI (b := 6) (by omega) (by omega)).mp h1.1.2, (nI_ltI (b := 6) (by omega) (by omega)).mp h1.2⟩
      obtain ⟨S0, hS0⟩ : ∃ z, z = su S 28 0 0 := ⟨_, rfl⟩
      rw [← hS0]
      have hd0 : S0 1 0 = nI d := by rw [hS0]; exact hd
      have hs0 : S0 3 0 = nI ns := by rw [hS0]; exact hs
      rw [← cpS_0 S0 5 2 (24 * ns)]
      refine j_iconst (pc := 38) g (0) dX9_sign_38 (by decide) ?_
      refine istore_n_2_1 (pc := 39) g dX9_sign_39 ?_
      have L40 : ∀ (n : Nat) (i : Nat) (hi : i + n = 4 * d), J X 2 0 0 (mM m ad (cpS S0 5 2 (24 * ns) i)) [some (.ref m), some (.int (nI i))] [] 40 := by
        intro n
        induction n with
        | zero =>
          intro i hi
          have hi4 : i = 4 * d := by omega
          have hd2 : cpS S0 5 2 (24 * ns) i 1 0 = nI d := hd0
          have hs2 : cpS S0 5 2 (24 * ns) i 3 0 = nI ns := hs0
          refine j_iload_n (pc := 40) g 1 dX9_sign_40 rfl rfl ?_
          refine j_iconst (pc := 41) g (4) dX9_sign_41 (by decide) ?_
          refine j_aload_n (pc := 42) g 0 dX9_sign_42 rfl rfl ?_
          refine j_get (pc := 43) g dX9_sign_43 (mM_m _ _ _) rfl inX9 1 (by decide) (by decide +kernel) rfl rfl ?_
          refine j_imul (pc := 46) g dX9_sign_46 ?_
          refine j_icmp_ge (pc := 47) g 76 dX9_sign_47 (by decide) (fun c47 => ?_) (fun c47 => absurd (by rw [hd2, lit_4, pk_mul, hi4]; exact Int32.le_refl _) c47)
          refine j_aload_n (pc := 76) g 0 dX9_sign_76 rfl rfl ?_
          refine j_get (pc := 77) g dX9_sign_77 (mM_m _ _ _) rfl inX9 4 (by decide) (by decide +kernel) rfl rfl ?_
          refine j_aload_n (pc := 80) g 0 dX9_sign_80 rfl rfl ?_
          refine j_get (pc := 81) g dX9_sign_81 (mM_m _ _ _) rfl inX9 3 (by decide) (by decide +kernel) rfl rfl ?_
          refine j_aload_n (pc := 84) g 0 dX9_sign_84 rfl rfl ?_
          refine j_get (pc := 85) g dX9_sign_85 (mM_m _ _ _) rfl inX9 1 (by decide) (by decide +kernel) rfl rfl ?_
          refine j_topi (nI d) hd2 ?_
          refine jm_ast (pc := 88) g hI 4 dX9_sign_88 (by decide) rfl (ns) (hs2) (by have : mLen 4 = 6 := rfl; omega) ?_
          refine j_aload_n (pc := 89) g 0 dX9_sign_89 rfl rfl ?_
          refine j_iconst (pc := 90) g (0) dX9_sign_90 (by decide) ?_
          refine jm_put (pc := 91) g dX9_sign_91 inX9 1 (by decide) (by decide +kernel) (by decide) ⟨rfl, rfl, rfl⟩ rfl ?_
          refine j_aload_n (pc := 94) g 0 dX9_sign_94 rfl rfl ?_
          refine j_dup (pc := 95) g dX9_sign_95 rfl ?_
          refine j_get (pc := 96) g dX9_sign_96 (mM_m _ _ _) rfl inX9 3 (by decide) (by decide +kernel) rfl rfl ?_
          refine j_iconst (pc := 99) g (1) dX9_sign_99 (by decide) ?_
          refine j_iadd (pc := 100) g dX9_sign_100 ?_
          refine j_topi (nI (ns + 1)) (by simp only [su]; simp [hs2, nI_1]) ?_
          refine jm_put (pc := 101) g dX9_sign_101 inX9 3 (by decide) (by decide +kernel) (by decide) ⟨rfl, rfl, rfl⟩ rfl ?_
          refine j_aload_n (pc := 104) g 0 dX9_sign_104 rfl rfl ?_
          refine j_get (pc := 105) g dX9_sign_105 (mM_m _ _ _) rfl inX9 3 (by decide) (by decide +kernel) rfl rfl ?_
          refine j_iconst (pc := 108) g (1) dX9_sign_108 (by decide) ?_
          refine j_isub (pc := 109) g dX9_sign_109 ?_
          exact j_iret (pc := 110) g r rfl rfl (by first | exact xq_i (by rw [mAns, if_neg (b01_0.mp c33)]) (by rw [mSt, if_neg (b01_0.mp c33)]) | exact xq_i (by rw [mAns, if_pos h0]; show nI (ns + 1) - 1 = nI ns; exact nI_pred ns) (by rw [mSt, if_pos h0, ← hS0, nSign, hi4])) dX9_sign_110 (Nat.le_of_ble_eq_true rfl) (Nat.le_of_ble_eq_true rfl)
        | succ n ih =>
          intro i hi
          have hd2 : cpS S0 5 2 (24 * ns) i 1 0 = nI d := hd0
          have hs2 : cpS S0 5 2 (24 * ns) i 3 0 = nI ns := hs0
          refine j_iload_n (pc := 40) g 1 dX9_sign_40 rfl rfl ?_
          refine j_iconst (pc := 41) g (4) dX9_sign_41 (by decide) ?_
          refine j_aload_n (pc := 42) g 0 dX9_sign_42 rfl rfl ?_
          refine j_get (pc := 43) g dX9_sign_43 (mM_m _ _ _) rfl inX9 1 (by decide) (by decide +kernel) rfl rfl ?_
          refine j_imul (pc := 46) g dX9_sign_46 ?_
          refine j_icmp_ge (pc := 47) g 76 dX9_sign_47 (by decide) (fun c47 => absurd c47 (by rw [hd2, lit_4, pk_mul]; exact nI_ge (by omega) (by omega))) (fun c47 => ?_)
          refine j_aload_n (pc := 50) g 0 dX9_sign_50 rfl rfl ?_
          refine j_get (pc := 51) g dX9_sign_51 (mM_m _ _ _) rfl inX9 5 (by decide) (by decide +kernel) rfl rfl ?_
          refine j_bipush (pc := 54) g (24) dX9_sign_54 (by decide) ?_
          refine j_aload_n (pc := 56) g 0 dX9_sign_56 rfl rfl ?_
          refine j_get (pc := 57) g dX9_sign_57 (mM_m _ _ _) rfl inX9 3 (by decide) (by decide +kernel) rfl rfl ?_
          refine j_imul (pc := 60) g dX9_sign_60 ?_
          refine j_iload_n (pc := 61) g 1 dX9_sign_61 rfl rfl ?_
          refine j_iadd (pc := 62) g dX9_sign_62 ?_
          refine j_aload_n (pc := 63) g 0 dX9_sign_63 rfl rfl ?_
          refine j_get (pc := 64) g dX9_sign_64 (mM_m _ _ _) rfl inX9 2 (by decide) (by decide +kernel) rfl rfl ?_
          refine j_iload_n (pc := 67) g 1 dX9_sign_67 rfl rfl ?_
          refine jm_ald (pc := 68) g hI 2 dX9_sign_68 (by decide) rfl (i) (rfl) (by have : mLen 2 = 32 := rfl; omega) ?_
          refine jm_ast (pc := 69) g hI 5 dX9_sign_69 (by decide) rfl (24 * ns + i) (by rw [hs2, lit_24, pk_mul, nI_add]) (by have : mLen 5 = 144 := rfl; omega) ?_
          refine j_map (mM m ad (cpS S0 5 2 (24 * ns) (i + 1))) (by rw [cpS_1 (by decide)]) ?_
          refine iinc_2_1_1 (pc := 70) g dX9_sign_70 ?_
          refine j_goto (pc := 73) g 40 dX9_sign_73 (by decide) ?_
          exact (by have q9 := ih (i + 1) (by omega); rw [← nI_1 i] at q9; exact q9)
      exact L40 (4 * d) 0 (by omega)
    · refine j_iconst (pc := 36) g (0) dX9_sign_36 (by decide) ?_
      exact j_iret (pc := 37) g r rfl rfl (by first | exact xq_i (by rw [mAns, if_neg (b01_0.mp c33)]) (by rw [mSt, if_neg (b01_0.mp c33)]) | exact xq_i (by rw [mAns, if_pos h0]; show nI (ns + 1) - 1 = nI ns; exact nI_pred ns) (by rw [mSt, if_pos h0, ← hS0, nSign, hi4])) dX9_sign_37 (Nat.le_of_ble_eq_true rfl) (Nat.le_of_ble_eq_true rfl)
  refine j_aload_n (pc := 0) g 0 dX9_sign_0 rfl rfl ?_
  refine j_aload_n (pc := 1) g 0 dX9_sign_1 rfl rfl ?_
  refine j_get (pc := 2) g dX9_sign_2 (mM_m _ _ _) rfl inX9 1 (by decide) (by decide +kernel) rfl rfl ?_
  refine j_iconst (pc := 5) g (1) dX9_sign_5 (by decide) ?_
  refine j_bipush (pc := 6) g (6) dX9_sign_6 (by decide) ?_
  refine j_cSi (pc := 8) (n := 3) g (m_in (jl X) (jD X) _ _ _ _) dX9_sign_8 gX9_sign_X9_in rfl rfl rfl rfl ⟨by decide, by decide, by decide +kernel⟩ ⟨Nat.le_of_ble_eq_true rfl, Nat.le_of_ble_eq_true rfl⟩ ⟨Nat.le_of_ble_eq_true rfl, Nat.le_of_ble_eq_true rfl⟩ rfl (Nat.le_of_ble_eq_true rfl) ?_
  refine j_if_eq (pc := 11) g 27 dX9_sign_11 (by decide) (fun c11 => ?_) (fun c11 => ?_)
  · refine j_iconst (pc := 27) g (0) dX9_sign_27 (by decide) ?_
    exact K28 _ (by grind [b01])
  · refine j_aload_n (pc := 14) g 0 dX9_sign_14 rfl rfl ?_
    refine j_get (pc := 15) g dX9_sign_15 (mM_m _ _ _) rfl inX9 3 (by decide) (by decide +kernel) rfl rfl ?_
    refine j_bipush (pc := 18) g (6) dX9_sign_18 (by decide) ?_
    refine j_icmp_ge (pc := 20) g 27 dX9_sign_20 (by decide) (fun c20 => ?_) (fun c20 => ?_)
    · refine j_iconst (pc := 27) g (0) dX9_sign_27 (by decide) ?_
      exact K28 _ (by grind [b01])
    · refine j_iconst (pc := 23) g (1) dX9_sign_23 (by decide) ?_
      refine j_goto (pc := 24) g 28 dX9_sign_24 (by decide) ?_
      exact K28 _ (by grind [b01])
