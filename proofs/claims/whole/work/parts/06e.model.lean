set_option maxHeartbeats 400000 in
set_option maxRecDepth 100000 in
theorem m_pass (l : Launch) (D : va_G) (m : Nat) (ad : Nat → Nat) (hI : mI m ad) (S : ST) (many : Int32) : xC l D yX9_pass wsX9_pass ({ frames := 1, cells := 0, slots := 0, locals := 23 }) 0 0 [.ref m, .int many] (mM m ad S) (xq (some (.int (mAns (tPass S many) (S 0 0 + many)))) (mM m ad (mSt S (tPass S many) (fun S => nPass S many)))) := by
  refine xC_of (cc := cX9_pass) (maxL := 5) (ret := (some .int)) (own := RX9) [some (.ref m), some (.int many), none, none, none] (by decide) rfl rfl (Nat.le_of_ble_eq_true rfl) rfl rfl rfl ?_
  intro X hXl hXD g r
  subst hXl
  subst hXD
  have inX9 : ∀ w ∈ wsX90, w ∈ wsX9_pass := inwX9_X9_pass
  refine j_aload_n (pc := 0) g 0 dX9_pass_0 rfl rfl ?_
  refine j_iload_n (pc := 1) g 1 dX9_pass_1 rfl rfl ?_
  refine j_iconst (pc := 2) g (1) dX9_pass_2 (by decide) ?_
  refine j_bipush (pc := 3) g (100) dX9_pass_3 (by decide) ?_
  refine j_cSi (pc := 5) (n := 3) g (m_in (jl X) (jD X) _ _ _ _) dX9_pass_5 gX9_pass_X9_in rfl rfl rfl rfl ⟨by decide, by decide, by decide +kernel⟩ ⟨Nat.le_of_ble_eq_true rfl, Nat.le_of_ble_eq_true rfl⟩ ⟨Nat.le_of_ble_eq_true rfl, Nat.le_of_ble_eq_true rfl⟩ rfl (Nat.le_of_ble_eq_true rfl) ?_
  have K25 : ∀ (b2 : Int32) (hb2 : b2 = b01 (S 0 0 + many ≤ 5000)), J X 5 0 0 (mM m ad S) [some (.ref m), some (.int many), none, none, none] [.int b2, .int (b01 (iN many 1 100)), .ref m] 25 := by
    intro b2 hb2
    refine j_iconst (pc := 25) g (1) dX9_pass_25 (by decide) ?_
    refine j_cVi (pc := 26) (n := 3) g (m_goes (jl X) (jD X) m ad S _ _ _) dX9_pass_26 (mM_m _ _ _) rfl gX9_pass_X9_goes rfl rfl rfl rfl ⟨rfl, by decide, by decide, by decide +kernel⟩ ⟨Nat.le_of_ble_eq_true rfl, Nat.le_of_ble_eq_true rfl⟩ ⟨Nat.le_of_ble_eq_true rfl, Nat.le_of_ble_eq_true rfl⟩ rfl (Nat.le_of_ble_eq_true rfl) ?_
    have ht : gT (b01 (iN many 1 100)) b2 1 = tPass S many := by grind [gT, b01, tPass]
    rw [ht]
    refine j_if_ne (pc := 29) g 34 dX9_pass_29 (by decide) (fun c29 => ?_) (fun c29 => ?_)
    · have h0 : tPass S many = 0 := by grind [b01]
      rw [h0]
      have hi1 : iN many 1 100 := by grind [tPass]
      have hN := iN_ix (n := 100) (by omega) (show iN many 0 (nI 100) from ⟨Int32.le_trans (by decide) hi1.1, hi1.2⟩)
      obtain ⟨S1, hS1⟩ : ∃ z, z = su S 28 0 0 := ⟨_, rfl⟩
      rw [← hS1]
      refine j_iconst (pc := 34) g (0) dX9_pass_34 (by decide) ?_
      refine istore_n_5_2 (pc := 35) g dX9_pass_35 ?_
      have L36 : ∀ (n : Nat) (i : Nat) (hi : i + n = ix many) (a3 a4 : Option Value), J X 5 0 0 (mM m ad (ageN S1 i)) [some (.ref m), some (.int many), some (.int (nI i)), a3, a4] [] 36 := by
        intro n
        induction n with
        | zero =>
          intro i hi a3 a4
          have hi4 : i = ix many := by omega
          refine j_iload_n (pc := 36) g 2 dX9_pass_36 rfl rfl ?_
          refine j_iload_n (pc := 37) g 1 dX9_pass_37 rfl rfl ?_
          refine j_icmp_ge (pc := 38) g 104 dX9_pass_38 (by decide) (fun c38 => ?_) (fun c38 => absurd (by rw [hi4, ← hN.1]; exact Int32.le_refl _) c38)
          refine j_aload_n (pc := 104) g 0 dX9_pass_104 rfl rfl ?_
          refine j_dup (pc := 105) g dX9_pass_105 rfl ?_
          refine j_get (pc := 106) g dX9_pass_106 (mM_m _ _ _) rfl inX9 0 (by decide) (by decide +kernel) rfl rfl ?_
          refine j_iload_n (pc := 109) g 1 dX9_pass_109 rfl rfl ?_
          refine j_iadd (pc := 110) g dX9_pass_110 ?_
          refine jm_put (pc := 111) g dX9_pass_111 inX9 0 (by decide) (by decide +kernel) (by decide) ⟨rfl, rfl, rfl⟩ rfl ?_
          refine j_aload_n (pc := 114) g 0 dX9_pass_114 rfl rfl ?_
          refine j_get (pc := 115) g dX9_pass_115 (mM_m _ _ _) rfl inX9 0 (by decide) (by decide +kernel) rfl rfl ?_
          exact j_iret (pc := 118) g r rfl rfl (by first | exact xq_i (by rw [mAns, if_neg (b01_0.mp c29)]) (by rw [mSt, if_neg (b01_0.mp c29)]) | exact xq_i (by rw [mAns, if_pos h0, su_s, ageN_o _ _ _ (by decide), hS1]; rfl) (by rw [mSt, if_pos h0, ← hS1, nPass, hi4, ageN_o _ _ _ (by decide)])) dX9_pass_118 (Nat.le_of_ble_eq_true rfl) (Nat.le_of_ble_eq_true rfl)
        | succ n ih =>
          intro i hi a3 a4
          refine j_iload_n (pc := 36) g 2 dX9_pass_36 rfl rfl ?_
          refine j_iload_n (pc := 37) g 1 dX9_pass_37 rfl rfl ?_
          refine j_icmp_ge (pc := 38) g 104 dX9_pass_38 (by decide) (fun c38 => absurd c38 (by rw [hN.1]; exact nI_ge (by omega) (by omega))) (fun c38 => ?_)
          refine j_iconst (pc := 41) g (0) dX9_pass_41 (by decide) ?_
          refine istore_n_5_3 (pc := 42) g dX9_pass_42 ?_
          have L43 : ∀ (n : Nat) (k : Nat) (hk : k + n = 3) (a4 : Option Value), J X 5 0 0 (mM m ad (ageK (ageN S1 i) k)) [some (.ref m), some (.int many), some (.int (nI i)), some (.int (nI k)), a4] [] 43 := by
            intro n
            induction n with
            | zero =>
              intro k hk a4
              have hk3 : k = 3 := by omega
              refine j_iload_n (pc := 43) g 3 dX9_pass_43 rfl rfl ?_
              refine j_iconst (pc := 44) g (3) dX9_pass_44 (by decide) ?_
              refine j_icmp_ge (pc := 45) g 98 dX9_pass_45 (by decide) (fun c45 => ?_) (fun c45 => absurd (by rw [hk3]; decide) c45)
              refine iinc_5_2_1 (pc := 98) g dX9_pass_98 ?_
              refine j_goto (pc := 101) g 36 dX9_pass_101 (by decide) ?_
              exact (by have q9 := ih (i + 1) (by omega) (some (.int (nI k))) a4; rw [← nI_1 i] at q9; rw [hk3]; rw [hk3] at q9; exact q9)
            | succ n ih2 =>
              intro k hk a4
              refine j_iload_n (pc := 43) g 3 dX9_pass_43 rfl rfl ?_
              refine j_iconst (pc := 44) g (3) dX9_pass_44 (by decide) ?_
              refine j_icmp_ge (pc := 45) g 98 dX9_pass_45 (by decide) (fun c45 => absurd c45 (by rw [lit_3]; exact nI_ge (by omega) (by omega))) (fun c45 => ?_)
              refine j_aload_n (pc := 48) g 0 dX9_pass_48 rfl rfl ?_
              refine j_get (pc := 49) g dX9_pass_49 (mM_m _ _ _) rfl inX9 7 (by decide) (by decide +kernel) rfl rfl ?_
              refine j_iload_n (pc := 52) g 3 dX9_pass_52 rfl rfl ?_
              refine jm_ald (pc := 53) g hI 7 dX9_pass_53 (by decide) rfl (k) (rfl) (by have : mLen 7 = 3 := rfl; omega) ?_
              refine j_aload_n (pc := 54) g 0 dX9_pass_54 rfl rfl ?_
              refine j_get (pc := 55) g dX9_pass_55 (mM_m _ _ _) rfl inX9 8 (by decide) (by decide +kernel) rfl rfl ?_
              refine j_iload_n (pc := 58) g 3 dX9_pass_58 rfl rfl ?_
              refine jm_ald (pc := 59) g hI 8 dX9_pass_59 (by decide) rfl (k) (rfl) (by have : mLen 8 = 3 := rfl; omega) ?_
              refine j_iadd (pc := 60) g dX9_pass_60 ?_
              refine istore_5_4 (pc := 61) g dX9_pass_61 ?_
              refine j_aload_n (pc := 63) g 0 dX9_pass_63 rfl rfl ?_
              refine j_get (pc := 64) g dX9_pass_64 (mM_m _ _ _) rfl inX9 7 (by decide) (by decide +kernel) rfl rfl ?_
              refine j_iload_n (pc := 67) g 3 dX9_pass_67 rfl rfl ?_
              refine j_iload (pc := 68) g dX9_pass_68 rfl ?_
              refine j_if_ge (pc := 70) g 77 dX9_pass_70 (by decide) (fun c70 => ?_) (fun c70 => ?_)
              · refine j_iload (pc := 77) g dX9_pass_77 rfl ?_
                refine j_bipush (pc := 79) g (100) dX9_pass_79 (by decide) ?_
                refine j_icmp_le (pc := 81) g 89 dX9_pass_81 (by decide) (fun c81 => ?_) (fun c81 => ?_)
                · refine j_iload (pc := 89) g dX9_pass_89 rfl ?_
                  refine jm_ast (pc := 91) g hI 7 dX9_pass_91 (by decide) rfl (k) (rfl) (by have : mLen 7 = 3 := rfl; omega) ?_
                  refine j_map (mM m ad (ageK (ageN S1 i) (k + 1))) (by rw [ageK]; congr 2; grind [clampD]) ?_
                  refine iinc_5_3_1 (pc := 92) g dX9_pass_92 ?_
                  refine j_goto (pc := 95) g 43 dX9_pass_95 (by decide) ?_
                  exact (by have q9 := ih2 (k + 1) (by omega) (some (.int (ageK (ageN S1 i) k 7 k + ageK (ageN S1 i) k 8 k))); rw [← nI_1 k] at q9; exact q9)
                · refine j_bipush (pc := 84) g (100) dX9_pass_84 (by decide) ?_
                  refine j_goto (pc := 86) g 91 dX9_pass_86 (by decide) ?_
                  refine jm_ast (pc := 91) g hI 7 dX9_pass_91 (by decide) rfl (k) (rfl) (by have : mLen 7 = 3 := rfl; omega) ?_
                  refine j_map (mM m ad (ageK (ageN S1 i) (k + 1))) (by rw [ageK]; congr 2; grind [clampD]) ?_
                  refine iinc_5_3_1 (pc := 92) g dX9_pass_92 ?_
                  refine j_goto (pc := 95) g 43 dX9_pass_95 (by decide) ?_
                  exact (by have q9 := ih2 (k + 1) (by omega) (some (.int (ageK (ageN S1 i) k 7 k + ageK (ageN S1 i) k 8 k))); rw [← nI_1 k] at q9; exact q9)
              · refine j_iconst (pc := 73) g (0) dX9_pass_73 (by decide) ?_
                refine j_goto (pc := 74) g 91 dX9_pass_74 (by decide) ?_
                refine jm_ast (pc := 91) g hI 7 dX9_pass_91 (by decide) rfl (k) (rfl) (by have : mLen 7 = 3 := rfl; omega) ?_
                refine j_map (mM m ad (ageK (ageN S1 i) (k + 1))) (by rw [ageK]; congr 2; grind [clampD]) ?_
                refine iinc_5_3_1 (pc := 92) g dX9_pass_92 ?_
                refine j_goto (pc := 95) g 43 dX9_pass_95 (by decide) ?_
                exact (by have q9 := ih2 (k + 1) (by omega) (some (.int (ageK (ageN S1 i) k 7 k + ageK (ageN S1 i) k 8 k))); rw [← nI_1 k] at q9; exact q9)
          exact L43 3 0 (by omega) a4
      exact L36 (ix many) 0 (by omega) none none
    · refine j_iconst (pc := 32) g (0) dX9_pass_32 (by decide) ?_
      exact j_iret (pc := 33) g r rfl rfl (by first | exact xq_i (by rw [mAns, if_neg (b01_0.mp c29)]) (by rw [mSt, if_neg (b01_0.mp c29)]) | exact xq_i (by rw [mAns, if_pos h0, su_s, ageN_o _ _ _ (by decide), hS1]; rfl) (by rw [mSt, if_pos h0, ← hS1, nPass, hi4, ageN_o _ _ _ (by decide)])) dX9_pass_33 (Nat.le_of_ble_eq_true rfl) (Nat.le_of_ble_eq_true rfl)
  refine j_aload_n (pc := 8) g 0 dX9_pass_8 rfl rfl ?_
  refine j_get (pc := 9) g dX9_pass_9 (mM_m _ _ _) rfl inX9 0 (by decide) (by decide +kernel) rfl rfl ?_
  refine j_iload_n (pc := 12) g 1 dX9_pass_12 rfl rfl ?_
  refine j_iadd (pc := 13) g dX9_pass_13 ?_
  refine j_sipush (pc := 14) g (5000) dX9_pass_14 (by decide) ?_
  refine j_icmp_gt (pc := 17) g 24 dX9_pass_17 (by decide) (fun c17 => ?_) (fun c17 => ?_)
  · refine j_iconst (pc := 24) g (0) dX9_pass_24 (by decide) ?_
    exact K25 _ (by grind [b01])
  · refine j_iconst (pc := 20) g (1) dX9_pass_20 (by decide) ?_
    refine j_goto (pc := 21) g 25 dX9_pass_21 (by decide) ?_
    exact K25 _ (by grind [b01])
