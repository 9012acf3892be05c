set_option maxHeartbeats 400000 in
set_option maxRecDepth 100000 in
theorem m_isHanded (l : Launch) (D : va_G) (m : Nat) (ad : Nat → Nat) (hI : mI m ad) (S : ST) (nd : Nat) (hn : S 12 0 = nI nd) (hn12 : nd ≤ 12) (hdu : ∀ i, i < nd → mDu S i) (its round o : Int32) : xC l D yX9_isHanded wsX9_isHanded ({ frames := 2, cells := 0, slots := 0, locals := 43 }) 0 0 [.ref m, .int its, .int round, .int o] (mM m ad S) (xq (some (.int (b01 (isHa S its round o)))) (mM m ad S)) := by
  refine xC_of (cc := cX9_isHanded) (maxL := 4) (ret := (some .boolean)) (own := RX9) [some (.ref m), some (.int its), some (.int round), some (.int o)] (by decide) rfl rfl (Nat.le_of_ble_eq_true rfl) rfl rfl rfl ?_
  intro X hXl hXD g r
  subst hXl
  subst hXD
  have inX9 : ∀ w ∈ wsX90, w ∈ wsX9_isHanded := inwX9_X9_isHanded
  have e0 : nI 0 = 0 := rfl
  have e1 : nI 1 = 1 := rfl
  refine j_aload_n (pc := 0) g 0 dX9_isHanded_0 rfl rfl ?_
  refine j_iload_n (pc := 1) g 1 dX9_isHanded_1 rfl rfl ?_
  refine j_cVi (pc := 2) (n := 1) g (m_isDuel (jl X) (jD X) m ad S _) dX9_isHanded_2 (mM_m _ _ _) rfl gX9_isHanded_X9_isDuel rfl rfl rfl rfl ⟨rfl, by decide, by decide, by decide +kernel⟩ ⟨Nat.le_of_ble_eq_true rfl, Nat.le_of_ble_eq_true rfl⟩ ⟨Nat.le_of_ble_eq_true rfl, Nat.le_of_ble_eq_true rfl⟩ rfl (Nat.le_of_ble_eq_true rfl) ?_
  refine j_if_eq (pc := 5) g 43 dX9_isHanded_5 (by decide) (fun c5 => ?_) (fun c5 => ?_)
  · refine j_iconst (pc := 43) g (0) dX9_isHanded_43 (by decide) ?_
    exact j_iret (pc := 44) g r rfl rfl (xq_i (by grind [b01, ofI]) rfl) dX9_isHanded_44 (Nat.le_of_ble_eq_true rfl) (Nat.le_of_ble_eq_true rfl)
  · have hd1 : isDu S its := by grind [b01]
    have hi := isDu_ix hn hn12 hd1
    have hq := hdu (ix its) hi.2
    refine j_iload_n (pc := 8) g 2 dX9_isHanded_8 rfl rfl ?_
    refine j_iconst (pc := 9) g (0) dX9_isHanded_9 (by decide) ?_
    refine j_iconst (pc := 10) g (4) dX9_isHanded_10 (by decide) ?_
    refine j_cSi (pc := 11) (n := 3) g (m_in (jl X) (jD X) _ _ _ _) dX9_isHanded_11 gX9_isHanded_X9_in rfl rfl rfl rfl ⟨by decide, by decide, by decide +kernel⟩ ⟨Nat.le_of_ble_eq_true rfl, Nat.le_of_ble_eq_true rfl⟩ ⟨Nat.le_of_ble_eq_true rfl, Nat.le_of_ble_eq_true rfl⟩ rfl (Nat.le_of_ble_eq_true rfl) ?_
    refine j_if_eq (pc := 14) g 43 dX9_isHanded_14 (by decide) (fun c14 => ?_) (fun c14 => ?_)
    · refine j_iconst (pc := 43) g (0) dX9_isHanded_43 (by decide) ?_
      exact j_iret (pc := 44) g r rfl rfl (xq_i (by grind [b01, ofI]) rfl) dX9_isHanded_44 (Nat.le_of_ble_eq_true rfl) (Nat.le_of_ble_eq_true rfl)
    · refine j_iconst (pc := 17) g (2) dX9_isHanded_17 (by decide) ?_
      refine j_iload_n (pc := 18) g 2 dX9_isHanded_18 rfl rfl ?_
      refine j_imul (pc := 19) g dX9_isHanded_19 ?_
      refine j_iload_n (pc := 20) g 3 dX9_isHanded_20 rfl rfl ?_
      refine j_if_eq (pc := 21) g 28 dX9_isHanded_21 (by decide) (fun c21 => ?_) (fun c21 => ?_)
      · refine j_iconst (pc := 28) g (0) dX9_isHanded_28 (by decide) ?_
        refine j_iadd (pc := 29) g dX9_isHanded_29 ?_
        refine j_aload_n (pc := 30) g 0 dX9_isHanded_30 rfl rfl ?_
        refine j_get (pc := 31) g dX9_isHanded_31 (mM_m _ _ _) rfl inX9 22 (by decide) (by decide +kernel) rfl rfl ?_
        refine j_iload_n (pc := 34) g 1 dX9_isHanded_34 rfl rfl ?_
        refine jm_ald (pc := 35) g hI 22 dX9_isHanded_35 (by decide) rfl (ix its) (hi.1) (by have : mLen 22 = 12 := rfl; omega) ?_
        refine j_icmp_ge (pc := 36) g 43 dX9_isHanded_36 (by decide) (fun c36 => ?_) (fun c36 => ?_)
        · refine j_iconst (pc := 43) g (0) dX9_isHanded_43 (by decide) ?_
          exact j_iret (pc := 44) g r rfl rfl (xq_i (by grind [b01, ofI]) rfl) dX9_isHanded_44 (Nat.le_of_ble_eq_true rfl) (Nat.le_of_ble_eq_true rfl)
        · refine j_iconst (pc := 39) g (1) dX9_isHanded_39 (by decide) ?_
          refine j_goto (pc := 40) g 44 dX9_isHanded_40 (by decide) ?_
          exact j_iret (pc := 44) g r rfl rfl (xq_i (by grind [b01, ofI]) rfl) dX9_isHanded_44 (Nat.le_of_ble_eq_true rfl) (Nat.le_of_ble_eq_true rfl)
      · refine j_iconst (pc := 24) g (1) dX9_isHanded_24 (by decide) ?_
        refine j_goto (pc := 25) g 29 dX9_isHanded_25 (by decide) ?_
        refine j_iadd (pc := 29) g dX9_isHanded_29 ?_
        refine j_aload_n (pc := 30) g 0 dX9_isHanded_30 rfl rfl ?_
        refine j_get (pc := 31) g dX9_isHanded_31 (mM_m _ _ _) rfl inX9 22 (by decide) (by decide +kernel) rfl rfl ?_
        refine j_iload_n (pc := 34) g 1 dX9_isHanded_34 rfl rfl ?_
        refine jm_ald (pc := 35) g hI 22 dX9_isHanded_35 (by decide) rfl (ix its) (hi.1) (by have : mLen 22 = 12 := rfl; omega) ?_
        refine j_icmp_ge (pc := 36) g 43 dX9_isHanded_36 (by decide) (fun c36 => ?_) (fun c36 => ?_)
        · refine j_iconst (pc := 43) g (0) dX9_isHanded_43 (by decide) ?_
          exact j_iret (pc := 44) g r rfl rfl (xq_i (by grind [b01, ofI]) rfl) dX9_isHanded_44 (Nat.le_of_ble_eq_true rfl) (Nat.le_of_ble_eq_true rfl)
        · refine j_iconst (pc := 39) g (1) dX9_isHanded_39 (by decide) ?_
          refine j_goto (pc := 40) g 44 dX9_isHanded_40 (by decide) ?_
          exact j_iret (pc := 44) g r rfl rfl (xq_i (by grind [b01, ofI]) rfl) dX9_isHanded_44 (Nat.le_of_ble_eq_true rfl) (Nat.le_of_ble_eq_true rfl)

set_option maxHeartbeats 400000 in
set_option maxRecDepth 100000 in
theorem m_writing (l : Launch) (D : va_G) (M : MH) (its round o : Int32) (i r_ : Nat) (hi : its = nI i) (hr : round = nI r_) : xC l D yX9_writing wsX9_writing ({ frames := 0, cells := 0, slots := 0, locals := 0 }) 0 0 [.int its, .int round, .int o] (M) (xq (some (.int (nI (wI i r_ o)))) M) := by
  refine xC_of (cc := cX9_writing) (maxL := 3) (ret := (some .int)) (own := RX9) [some (.int its), some (.int round), some (.int o)] (by decide) rfl rfl (Nat.le_of_ble_eq_true rfl) rfl rfl rfl ?_
  intro X hXl hXD g r
  subst hXl
  subst hXD
  refine j_bipush (pc := 0) g (10) dX9_writing_0 (by decide) ?_
  refine j_iload_n (pc := 2) g 0 dX9_writing_2 rfl rfl ?_
  refine j_imul (pc := 3) g dX9_writing_3 ?_
  refine j_iconst (pc := 4) g (2) dX9_writing_4 (by decide) ?_
  refine j_iload_n (pc := 5) g 1 dX9_writing_5 rfl rfl ?_
  refine j_imul (pc := 6) g dX9_writing_6 ?_
  refine j_iadd (pc := 7) g dX9_writing_7 ?_
  refine j_iload_n (pc := 8) g 2 dX9_writing_8 rfl rfl ?_
  refine j_if_eq (pc := 9) g 16 dX9_writing_9 (by decide) (fun c9 => ?_) (fun c9 => ?_)
  · refine j_iconst (pc := 16) g (0) dX9_writing_16 (by decide) ?_
    refine j_iadd (pc := 17) g dX9_writing_17 ?_
    exact j_iret (pc := 18) g r rfl rfl (by first | exact xq_i (by rw [wI, ofI, if_neg c9]; exact lx_a (lx_a (lx_m 10 hi) (lx_m 2 hr)) lit_1) rfl | exact xq_i (by rw [wI, ofI, if_pos c9]; exact lx_a (lx_a (lx_m 10 hi) (lx_m 2 hr)) lit_0) rfl) dX9_writing_18 (Nat.le_of_ble_eq_true rfl) (Nat.le_of_ble_eq_true rfl)
  · refine j_iconst (pc := 12) g (1) dX9_writing_12 (by decide) ?_
    refine j_goto (pc := 13) g 17 dX9_writing_13 (by decide) ?_
    refine j_iadd (pc := 17) g dX9_writing_17 ?_
    exact j_iret (pc := 18) g r rfl rfl (by first | exact xq_i (by rw [wI, ofI, if_neg c9]; exact lx_a (lx_a (lx_m 10 hi) (lx_m 2 hr)) lit_1) rfl | exact xq_i (by rw [wI, ofI, if_pos c9]; exact lx_a (lx_a (lx_m 10 hi) (lx_m 2 hr)) lit_0) rfl) dX9_writing_18 (Nat.le_of_ble_eq_true rfl) (Nat.le_of_ble_eq_true rfl)

set_option maxHeartbeats 400000 in
set_option maxRecDepth 100000 in
theorem m_look (l : Launch) (D : va_G) (m : Nat) (ad : Nat → Nat) (hI : mI m ad) (S : ST) (nd : Nat) (hn : S 12 0 = nI nd) (hn12 : nd ≤ 12) (hdu : ∀ i, i < nd → mDu S i) (hbit : ∀ w, w < 120 → S 25 w = 0 ∨ S 25 w = 1) (its round o : Int32) : xC l D yX9_look wsX9_look ({ frames := 3, cells := 0, slots := 0, locals := 66 }) 0 0 [.ref m, .int its, .int round, .int o] (mM m ad S) (xq (some (.int (mAns (tLook S its round o) (S 25 (wI (ix its) (ix round) o))))) (mM m ad (mSt S (tLook S its round o) (fun S => nLook S its round o)))) := by
  refine xC_of (cc := cX9_look) (maxL := 5) (ret := (some .boolean)) (own := RX9) [some (.ref m), some (.int its), some (.int round), some (.int o), none] (by decide) rfl rfl (Nat.le_of_ble_eq_true rfl) rfl rfl rfl ?_
  intro X hXl hXD g r
  subst hXl
  subst hXD
  have inX9 : ∀ w ∈ wsX90, w ∈ wsX9_look := inwX9_X9_look
  refine j_aload_n (pc := 0) g 0 dX9_look_0 rfl rfl ?_
  refine j_aload_n (pc := 1) g 0 dX9_look_1 rfl rfl ?_
  refine j_iload_n (pc := 2) g 1 dX9_look_2 rfl rfl ?_
  refine j_iload_n (pc := 3) g 2 dX9_look_3 rfl rfl ?_
  refine j_iload_n (pc := 4) g 3 dX9_look_4 rfl rfl ?_
  refine j_cVi (pc := 5) (n := 3) g (m_isHanded (jl X) (jD X) m ad hI S nd hn hn12 hdu _ _ _) dX9_look_5 (mM_m _ _ _) rfl gX9_look_X9_isHanded rfl rfl rfl rfl ⟨rfl, by decide, by decide, by decide +kernel⟩ ⟨Nat.le_of_ble_eq_true rfl, Nat.le_of_ble_eq_true rfl⟩ ⟨Nat.le_of_ble_eq_true rfl, Nat.le_of_ble_eq_true rfl⟩ rfl (Nat.le_of_ble_eq_true rfl) ?_
  refine j_iconst (pc := 8) g (1) dX9_look_8 (by decide) ?_
  refine j_iconst (pc := 9) g (1) dX9_look_9 (by decide) ?_
  refine j_cVi (pc := 10) (n := 3) g (m_goes (jl X) (jD X) m ad S _ _ _) dX9_look_10 (mM_m _ _ _) rfl gX9_look_X9_goes rfl rfl rfl rfl ⟨rfl, by decide, by decide, by decide +kernel⟩ ⟨Nat.le_of_ble_eq_true rfl, Nat.le_of_ble_eq_true rfl⟩ ⟨Nat.le_of_ble_eq_true rfl, Nat.le_of_ble_eq_true rfl⟩ rfl (Nat.le_of_ble_eq_true rfl) ?_
  have ht : gT (b01 (isHa S its round o)) 1 1 = tLook S its round o := by grind [gT, b01, tLook]
  rw [ht]
  refine j_if_ne (pc := 13) g 18 dX9_look_13 (by decide) (fun c13 => ?_) (fun c13 => ?_)
  · have h0 : tLook S its round o = 0 := by grind [b01]
    rw [h0]
    have hha : isHa S its round o := by grind [tLook]
    have hi := isDu_ix hn hn12 hha.1
    have hr := iN_ix (n := 4) (by omega) hha.2.1
    have hw : wI (ix its) (ix round) o < 120 := by
      unfold wI ofI
      split <;> omega
    refine j_iload_n (pc := 18) g 1 dX9_look_18 rfl rfl ?_
    refine j_iload_n (pc := 19) g 2 dX9_look_19 rfl rfl ?_
    refine j_iload_n (pc := 20) g 3 dX9_look_20 rfl rfl ?_
    refine j_cSi (pc := 21) (n := 3) g (m_writing (jl X) (jD X) _ _ _ _ _ _ hi.1 hr.1) dX9_look_21 gX9_look_X9_writing rfl rfl rfl rfl ⟨by decide, by decide, by decide +kernel⟩ ⟨Nat.le_of_ble_eq_true rfl, Nat.le_of_ble_eq_true rfl⟩ ⟨Nat.le_of_ble_eq_true rfl, Nat.le_of_ble_eq_true rfl⟩ rfl (Nat.le_of_ble_eq_true rfl) ?_
    refine istore_5_4 (pc := 24) g dX9_look_24 ?_
    refine j_aload_n (pc := 26) g 0 dX9_look_26 rfl rfl ?_
    refine j_get (pc := 27) g dX9_look_27 (mM_m _ _ _) rfl inX9 26 (by decide) (by decide +kernel) rfl rfl ?_
    refine j_iload (pc := 30) g dX9_look_30 rfl ?_
    refine j_aload_n (pc := 32) g 0 dX9_look_32 rfl rfl ?_
    refine j_get (pc := 33) g dX9_look_33 (mM_m _ _ _) rfl inX9 25 (by decide) (by decide +kernel) rfl rfl ?_
    refine j_iload (pc := 36) g dX9_look_36 rfl ?_
    refine jm_zld (pc := 38) g hI 25 dX9_look_38 (by decide) rfl (wI (ix its) (ix round) o) (rfl) (by have : mLen 25 = 120 := rfl; omega) ?_
    refine jm_zst (pc := 39) g hI 26 dX9_look_39 (by decide) rfl (bit_vn (hbit _ hw)) (wI (ix its) (ix round) o) (rfl) (by have : mLen 26 = 120 := rfl; omega) ?_
    refine j_aload_n (pc := 40) g 0 dX9_look_40 rfl rfl ?_
    refine j_get (pc := 41) g dX9_look_41 (mM_m _ _ _) rfl inX9 25 (by decide) (by decide +kernel) rfl rfl ?_
    refine j_iload (pc := 44) g dX9_look_44 rfl ?_
    refine jm_zld (pc := 46) g hI 25 dX9_look_46 (by decide) rfl (wI (ix its) (ix round) o) (rfl) (by have : mLen 25 = 120 := rfl; omega) ?_
    exact j_iret (pc := 47) g r rfl (by first | rfl | exact bit_nar (hbit _ hw)) (by first | exact xq_i (by rw [mAns, if_neg (b01_0.mp c13)]) (by rw [mSt, if_neg (b01_0.mp c13)]) | exact xq_i (by rw [mAns, if_pos h0]; rfl) (by rw [mSt, if_pos h0]; rfl)) dX9_look_47 (Nat.le_of_ble_eq_true rfl) (Nat.le_of_ble_eq_true rfl)
  · refine j_iconst (pc := 16) g (0) dX9_look_16 (by decide) ?_
    exact j_iret (pc := 17) g r rfl (by first | rfl | exact bit_nar (hbit _ hw)) (by first | exact xq_i (by rw [mAns, if_neg (b01_0.mp c13)]) (by rw [mSt, if_neg (b01_0.mp c13)]) | exact xq_i (by rw [mAns, if_pos h0]; rfl) (by rw [mSt, if_pos h0]; rfl)) dX9_look_17 (Nat.le_of_ble_eq_true rfl) (Nat.le_of_ble_eq_true rfl)
