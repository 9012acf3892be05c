set_option maxHeartbeats 400000 in
set_option maxRecDepth 100000 in
theorem m_appeal (l : Launch) (D : va_G) (m : Nat) (ad : Nat → Nat) (hI : mI m ad) (S : ST) (ns nd : Nat) (hn : S 12 0 = nI nd) (hn12 : nd ≤ 12) (hdu : ∀ i, i < nd → mHd S ns i) (hkk : mMK S ns) (its w : Int32) : xC l D yX9_appeal wsX9_appeal ({ frames := 8, cells := 0, slots := 0, locals := 201 }) 0 0 [.ref m, .int its, .int w] (mM m ad S) (xq (some (.int (mAns (tAppeal S its w) (wnS (nAppeal (su S 28 0 0) its w) (ix its))))) (mM m ad (mSt S (tAppeal S its w) (fun S => nAppeal S its w)))) := by
  refine xC_of (cc := cX9_appeal) (maxL := 4) (ret := (some .int)) (own := RX9) [some (.ref m), some (.int its), some (.int w), none] (by decide) rfl rfl (Nat.le_of_ble_eq_true rfl) rfl rfl rfl ?_
  intro X hXl hXD g r
  subst hXl
  subst hXD
  have inX9 : ∀ w ∈ wsX90, w ∈ wsX9_appeal := inwX9_X9_appeal
  have K22 : ∀ (b : Int32) (hb : b = b01 (okAp S its w)), J X 4 0 0 (mM m ad S) [some (.ref m), some (.int its), some (.int w), none] [.int b] 22 := by
    intro b hb
    refine istore_n_4_3 (pc := 22) g dX9_appeal_22 ?_
    have K62 : ∀ (b2 : Int32) (hb2 : b2 = b01 (okAp S its w ∧ isOv S (ix its) ∧ S 16 (ix its) = -1 ∧ S 15 (ix its) ≠ w)), J X 4 0 0 (mM m ad S) [some (.ref m), some (.int its), some (.int w), some (.int b)] [.int b2, .int b, .ref m] 62 := by
      intro b2 hb2
      refine j_iconst (pc := 62) g (1) dX9_appeal_62 (by decide) ?_
      refine j_cVi (pc := 63) (n := 3) g (m_goes (jl X) (jD X) m ad S _ _ _) dX9_appeal_63 (mM_m _ _ _) rfl gX9_appeal_X9_goes rfl rfl rfl rfl ⟨rfl, by decide, by decide, by decide +kernel⟩ ⟨Nat.le_of_ble_eq_true rfl, Nat.le_of_ble_eq_true rfl⟩ ⟨Nat.le_of_ble_eq_true rfl, Nat.le_of_ble_eq_true rfl⟩ rfl (Nat.le_of_ble_eq_true rfl) ?_
      have ht : gT b b2 1 = tAppeal S its w := by grind [gT, b01, tAppeal]
      rw [ht]
      refine j_if_ne (pc := 66) g 71 dX9_appeal_66 (by decide) (fun c66 => ?_) (fun c66 => ?_)
      · have h0 : tAppeal S its w = 0 := by grind [b01]
        rw [h0]
        have hok : okAp S its w := by grind [tAppeal]
        have hd1 : isDu S its := hok.1
        have hi := isDu_ix hn hn12 hd1
        have hq := hdu (ix its) hi.2
        refine j_aload_n (pc := 71) g 0 dX9_appeal_71 rfl rfl ?_
        refine j_get (pc := 72) g dX9_appeal_72 (mM_m _ _ _) rfl inX9 16 (by decide) (by decide +kernel) rfl rfl ?_
        refine j_iload_n (pc := 75) g 1 dX9_appeal_75 rfl rfl ?_
        refine j_iload_n (pc := 76) g 2 dX9_appeal_76 rfl rfl ?_
        refine jm_ast (pc := 77) g hI 16 dX9_appeal_77 (by decide) rfl (ix its) (hi.1) (by have : mLen 16 = 12 := rfl; omega) ?_
        refine j_aload_n (pc := 78) g 0 dX9_appeal_78 rfl rfl ?_
        refine j_iload_n (pc := 79) g 1 dX9_appeal_79 rfl rfl ?_
        refine j_cVi (pc := 80) (n := 1) g (m_winner (jl X) (jD X) m ad hI (su (su S 28 0 0) 16 (ix its) w) ns _ (ix its) hi.1 (by omega) (mHd_16 (S := su S 28 0 0) hq (iN_rg hok.2)) hkk) dX9_appeal_80 (mM_m _ _ _) rfl gX9_appeal_X9_winner rfl rfl rfl rfl ⟨rfl, by decide, by decide, by decide +kernel⟩ ⟨Nat.le_of_ble_eq_true rfl, Nat.le_of_ble_eq_true rfl⟩ ⟨Nat.le_of_ble_eq_true rfl, Nat.le_of_ble_eq_true rfl⟩ rfl (Nat.le_of_ble_eq_true rfl) ?_
        exact j_iret (pc := 83) g r rfl rfl (by first | exact xq_i (by rw [mAns, if_neg (b01_0.mp c66)]) (by rw [mSt, if_neg (b01_0.mp c66)]) | exact xq_i (by rw [mAns, if_pos h0]; rfl) (by rw [mSt, if_pos h0]; rfl)) dX9_appeal_83 (Nat.le_of_ble_eq_true rfl) (Nat.le_of_ble_eq_true rfl)
      · refine j_iconst (pc := 69) g (0) dX9_appeal_69 (by decide) ?_
        exact j_iret (pc := 70) g r rfl rfl (by first | exact xq_i (by rw [mAns, if_neg (b01_0.mp c66)]) (by rw [mSt, if_neg (b01_0.mp c66)]) | exact xq_i (by rw [mAns, if_pos h0]; rfl) (by rw [mSt, if_pos h0]; rfl)) dX9_appeal_70 (Nat.le_of_ble_eq_true rfl) (Nat.le_of_ble_eq_true rfl)
    refine j_aload_n (pc := 23) g 0 dX9_appeal_23 rfl rfl ?_
    refine j_iload_n (pc := 24) g 3 dX9_appeal_24 rfl rfl ?_
    refine j_iload_n (pc := 25) g 3 dX9_appeal_25 rfl rfl ?_
    refine j_if_eq (pc := 26) g 61 dX9_appeal_26 (by decide) (fun c26 => ?_) (fun c26 => ?_)
    · refine j_iconst (pc := 61) g (0) dX9_appeal_61 (by decide) ?_
      exact K62 _ (by grind [b01])
    · have hok : okAp S its w := by grind [b01]
      have hd1 : isDu S its := hok.1
      have hi := isDu_ix hn hn12 hd1
      have hq := hdu (ix its) hi.2
      refine j_aload_n (pc := 29) g 0 dX9_appeal_29 rfl rfl ?_
      refine j_iload_n (pc := 30) g 1 dX9_appeal_30 rfl rfl ?_
      refine j_cVi (pc := 31) (n := 1) g (m_isOver (jl X) (jD X) m ad hI S _ (ix its) hi.1 (by omega)) dX9_appeal_31 (mM_m _ _ _) rfl gX9_appeal_X9_isOver rfl rfl rfl rfl ⟨rfl, by decide, by decide, by decide +kernel⟩ ⟨Nat.le_of_ble_eq_true rfl, Nat.le_of_ble_eq_true rfl⟩ ⟨Nat.le_of_ble_eq_true rfl, Nat.le_of_ble_eq_true rfl⟩ rfl (Nat.le_of_ble_eq_true rfl) ?_
      refine j_if_eq (pc := 34) g 61 dX9_appeal_34 (by decide) (fun c34 => ?_) (fun c34 => ?_)
      · refine j_iconst (pc := 61) g (0) dX9_appeal_61 (by decide) ?_
        exact K62 _ (by grind [b01])
      · refine j_aload_n (pc := 37) g 0 dX9_appeal_37 rfl rfl ?_
        refine j_get (pc := 38) g dX9_appeal_38 (mM_m _ _ _) rfl inX9 16 (by decide) (by decide +kernel) rfl rfl ?_
        refine j_iload_n (pc := 41) g 1 dX9_appeal_41 rfl rfl ?_
        refine jm_ald (pc := 42) g hI 16 dX9_appeal_42 (by decide) rfl (ix its) (hi.1) (by have : mLen 16 = 12 := rfl; omega) ?_
        refine j_iconst (pc := 43) g (-1) dX9_appeal_43 (by decide) ?_
        refine j_icmp_ne (pc := 44) g 61 dX9_appeal_44 (by decide) (fun c44 => ?_) (fun c44 => ?_)
        · refine j_iconst (pc := 61) g (0) dX9_appeal_61 (by decide) ?_
          exact K62 _ (by grind [b01])
        · refine j_aload_n (pc := 47) g 0 dX9_appeal_47 rfl rfl ?_
          refine j_get (pc := 48) g dX9_appeal_48 (mM_m _ _ _) rfl inX9 15 (by decide) (by decide +kernel) rfl rfl ?_
          refine j_iload_n (pc := 51) g 1 dX9_appeal_51 rfl rfl ?_
          refine jm_ald (pc := 52) g hI 15 dX9_appeal_52 (by decide) rfl (ix its) (hi.1) (by have : mLen 15 = 12 := rfl; omega) ?_
          refine j_iload_n (pc := 53) g 2 dX9_appeal_53 rfl rfl ?_
          refine j_icmp_eq (pc := 54) g 61 dX9_appeal_54 (by decide) (fun c54 => ?_) (fun c54 => ?_)
          · refine j_iconst (pc := 61) g (0) dX9_appeal_61 (by decide) ?_
            exact K62 _ (by grind [b01])
          · refine j_iconst (pc := 57) g (1) dX9_appeal_57 (by decide) ?_
            refine j_goto (pc := 58) g 62 dX9_appeal_58 (by decide) ?_
            exact K62 _ (by grind [b01])
  refine j_aload_n (pc := 0) g 0 dX9_appeal_0 rfl rfl ?_
  refine j_iload_n (pc := 1) g 1 dX9_appeal_1 rfl rfl ?_
  refine j_cVi (pc := 2) (n := 1) g (m_isDuel (jl X) (jD X) m ad S _) dX9_appeal_2 (mM_m _ _ _) rfl gX9_appeal_X9_isDuel rfl rfl rfl rfl ⟨rfl, by decide, by decide, by decide +kernel⟩ ⟨Nat.le_of_ble_eq_true rfl, Nat.le_of_ble_eq_true rfl⟩ ⟨Nat.le_of_ble_eq_true rfl, Nat.le_of_ble_eq_true rfl⟩ rfl (Nat.le_of_ble_eq_true rfl) ?_
  refine j_if_eq (pc := 5) g 21 dX9_appeal_5 (by decide) (fun c5 => ?_) (fun c5 => ?_)
  · refine j_iconst (pc := 21) g (0) dX9_appeal_21 (by decide) ?_
    exact K22 _ (by grind [b01])
  · refine j_iload_n (pc := 8) g 2 dX9_appeal_8 rfl rfl ?_
    refine j_iconst (pc := 9) g (0) dX9_appeal_9 (by decide) ?_
    refine j_iconst (pc := 10) g (3) dX9_appeal_10 (by decide) ?_
    refine j_cSi (pc := 11) (n := 3) g (m_in (jl X) (jD X) _ _ _ _) dX9_appeal_11 gX9_appeal_X9_in rfl rfl rfl rfl ⟨by decide, by decide, by decide +kernel⟩ ⟨Nat.le_of_ble_eq_true rfl, Nat.le_of_ble_eq_true rfl⟩ ⟨Nat.le_of_ble_eq_true rfl, Nat.le_of_ble_eq_true rfl⟩ rfl (Nat.le_of_ble_eq_true rfl) ?_
    refine j_if_eq (pc := 14) g 21 dX9_appeal_14 (by decide) (fun c14 => ?_) (fun c14 => ?_)
    · refine j_iconst (pc := 21) g (0) dX9_appeal_21 (by decide) ?_
      exact K22 _ (by grind [b01])
    · refine j_iconst (pc := 17) g (1) dX9_appeal_17 (by decide) ?_
      refine j_goto (pc := 18) g 22 dX9_appeal_18 (by decide) ?_
      exact K22 _ (by grind [b01])

set_option maxHeartbeats 400000 in
set_option maxRecDepth 100000 in
theorem m_mark (l : Launch) (D : va_G) (m : Nat) (ad : Nat → Nat) (hI : mI m ad) (S : ST) (d ns : Nat) (hd : S 1 0 = nI d) (hd8 : d ≤ 8) (hdr : ∀ i, i < d → okC S 2 (4 * i)) (hs : S 3 0 = nI ns) (hkk : mMK S ns) (gg y : Int32) : xC l D yX9_mark wsX9_mark ({ frames := 3, cells := 0, slots := 0, locals := 79 }) 0 0 [.ref m, .int gg, .int y] (mM m ad S) (xq (some (.float (mAnsF (tMark S gg y) (markS (su S 28 0 0) 2 0 d (ix gg) (ix y) (ix (S 4 (ix gg))) 0)))) (mM m ad (mSt S (tMark S gg y) (fun S => S)))) := by
  refine xC_of (cc := cX9_mark) (maxL := 3) (ret := (some .float)) (own := RX9) [some (.ref m), some (.int gg), some (.int y)] (by decide) rfl rfl (Nat.le_of_ble_eq_true rfl) rfl rfl rfl ?_
  intro X hXl hXD g r
  subst hXl
  subst hXD
  have inX9 : ∀ w ∈ wsX90, w ∈ wsX9_mark := inwX9_X9_mark
  have K23 : ∀ (b : Int32) (hb : b = b01 (isSi S gg ∧ iN y 0 3)), J X 3 0 0 (mM m ad S) [some (.ref m), some (.int gg), some (.int y)] [.int b, .ref m] 23 := by
    intro b hb
    refine j_iconst (pc := 23) g (1) dX9_mark_23 (by decide) ?_
    refine j_iconst (pc := 24) g (1) dX9_mark_24 (by decide) ?_
    refine j_cVi (pc := 25) (n := 3) g (m_goes (jl X) (jD X) m ad S _ _ _) dX9_mark_25 (mM_m _ _ _) rfl gX9_mark_X9_goes rfl rfl rfl rfl ⟨rfl, by decide, by decide, by decide +kernel⟩ ⟨Nat.le_of_ble_eq_true rfl, Nat.le_of_ble_eq_true rfl⟩ ⟨Nat.le_of_ble_eq_true rfl, Nat.le_of_ble_eq_true rfl⟩ rfl (Nat.le_of_ble_eq_true rfl) ?_
    have ht : gT b 1 1 = tMark S gg y := by grind [gT, b01, tMark]
    rw [ht]
    refine j_if_ne (pc := 28) g 33 dX9_mark_28 (by decide) (fun c28 => ?_) (fun c28 => ?_)
    · have h0 : tMark S gg y = 0 := by grind [b01]
      rw [h0]
      have hok : isSi S gg ∧ iN y 0 3 := by grind [tMark]
      have hns := hkk.2.1
      have hg := isSi_ix hs hns hok.1
      have hy := iN_ix (n := 3) (by omega) hok.2
      have hsg := hkk.2.2 _ hg.2
      refine j_aload_n (pc := 33) g 0 dX9_mark_33 rfl rfl ?_
      refine j_aload_n (pc := 34) g 0 dX9_mark_34 rfl rfl ?_
      refine j_get (pc := 35) g dX9_mark_35 (mM_m _ _ _) rfl inX9 2 (by decide) (by decide +kernel) rfl rfl ?_
      refine j_iconst (pc := 38) g (0) dX9_mark_38 (by decide) ?_
      refine j_aload_n (pc := 39) g 0 dX9_mark_39 rfl rfl ?_
      refine j_get (pc := 40) g dX9_mark_40 (mM_m _ _ _) rfl inX9 1 (by decide) (by decide +kernel) rfl rfl ?_
      refine j_iload_n (pc := 43) g 1 dX9_mark_43 rfl rfl ?_
      refine j_iload_n (pc := 44) g 2 dX9_mark_44 rfl rfl ?_
      refine j_iconst (pc := 45) g (0) dX9_mark_45 (by decide) ?_
      refine j_cVf (pc := 46) (n := 6) g (m_markOf (jl X) (jD X) m ad hI (su S 28 0 0) 2 (by decide) rfl _ _ _ _ _ 0 d (ix gg) (ix y) (ix (S 4 (ix gg))) lit_0 hd hg.1 hy.1 hd8 (by omega) (by omega) hsg.i4.1 hsg.i4.2.2 hsg.i4.2.1 hkk.1 (by unfold rg; decide) (fun q h9 => by have : mLen 2 = 32 := rfl; omega) (fun q h9 => ⟨by rw [Nat.zero_add]; exact hdr q (by omega), hsg.2 q (by omega)⟩)) dX9_mark_46 (mM_m _ _ _) rfl gX9_mark_X9_markOf rfl rfl rfl rfl ⟨rfl, by decide, by decide, by decide +kernel⟩ ⟨Nat.le_of_ble_eq_true rfl, Nat.le_of_ble_eq_true rfl⟩ ⟨Nat.le_of_ble_eq_true rfl, Nat.le_of_ble_eq_true rfl⟩ rfl (Nat.le_of_ble_eq_true rfl) ?_
      exact j_fret (pc := 49) g r rfl  (by first | exact xq_f (by rw [mAnsF, if_neg (b01_0.mp c28)]) (by rw [mSt, if_neg (b01_0.mp c28)]) | exact xq_f (by rw [mAnsF, if_pos h0]) (by rw [mSt, if_pos h0])) dX9_mark_49 (Nat.le_of_ble_eq_true rfl) (Nat.le_of_ble_eq_true rfl)
    · refine j_fconst0 (pc := 31) g dX9_mark_31 ?_
      exact j_fret (pc := 32) g r rfl  (by first | exact xq_f (by rw [mAnsF, if_neg (b01_0.mp c28)]) (by rw [mSt, if_neg (b01_0.mp c28)]) | exact xq_f (by rw [mAnsF, if_pos h0]) (by rw [mSt, if_pos h0])) dX9_mark_32 (Nat.le_of_ble_eq_true rfl) (Nat.le_of_ble_eq_true rfl)
  refine j_aload_n (pc := 0) g 0 dX9_mark_0 rfl rfl ?_
  refine j_aload_n (pc := 1) g 0 dX9_mark_1 rfl rfl ?_
  refine j_iload_n (pc := 2) g 1 dX9_mark_2 rfl rfl ?_
  refine j_cVi (pc := 3) (n := 1) g (m_isSign (jl X) (jD X) m ad S _) dX9_mark_3 (mM_m _ _ _) rfl gX9_mark_X9_isSign rfl rfl rfl rfl ⟨rfl, by decide, by decide, by decide +kernel⟩ ⟨Nat.le_of_ble_eq_true rfl, Nat.le_of_ble_eq_true rfl⟩ ⟨Nat.le_of_ble_eq_true rfl, Nat.le_of_ble_eq_true rfl⟩ rfl (Nat.le_of_ble_eq_true rfl) ?_
  refine j_if_eq (pc := 6) g 22 dX9_mark_6 (by decide) (fun c6 => ?_) (fun c6 => ?_)
  · refine j_iconst (pc := 22) g (0) dX9_mark_22 (by decide) ?_
    exact K23 _ (by grind [b01])
  · refine j_iload_n (pc := 9) g 2 dX9_mark_9 rfl rfl ?_
    refine j_iconst (pc := 10) g (0) dX9_mark_10 (by decide) ?_
    refine j_iconst (pc := 11) g (3) dX9_mark_11 (by decide) ?_
    refine j_cSi (pc := 12) (n := 3) g (m_in (jl X) (jD X) _ _ _ _) dX9_mark_12 gX9_mark_X9_in rfl rfl rfl rfl ⟨by decide, by decide, by decide +kernel⟩ ⟨Nat.le_of_ble_eq_true rfl, Nat.le_of_ble_eq_true rfl⟩ ⟨Nat.le_of_ble_eq_true rfl, Nat.le_of_ble_eq_true rfl⟩ rfl (Nat.le_of_ble_eq_true rfl) ?_
    refine j_if_eq (pc := 15) g 22 dX9_mark_15 (by decide) (fun c15 => ?_) (fun c15 => ?_)
    · refine j_iconst (pc := 22) g (0) dX9_mark_22 (by decide) ?_
      exact K23 _ (by grind [b01])
    · refine j_iconst (pc := 18) g (1) dX9_mark_18 (by decide) ?_
      refine j_goto (pc := 19) g 23 dX9_mark_19 (by decide) ?_
      exact K23 _ (by grind [b01])

set_option maxHeartbeats 400000 in
set_option maxRecDepth 100000 in
theorem m_part (l : Launch) (D : va_G) (m : Nat) (ad : Nat → Nat) (hI : mI m ad) (S : ST) (d ns : Nat) (hd : S 1 0 = nI d) (hd8 : d ≤ 8) (hdr : ∀ i, i < d → okC S 2 (4 * i)) (hs : S 3 0 = nI ns) (hkk : mMK S ns) (gg k w : Int32) : xC l D yX9_part wsX9_part ({ frames := 2, cells := 0, slots := 0, locals := 48 }) 0 0 [.ref m, .int gg, .int k, .int w] (mM m ad S) (xq (some (.float (mAnsF (tPart S gg k w) (vPart S gg k w)))) (mM m ad (mSt S (tPart S gg k w) (fun S => S)))) := by
  refine xC_of (cc := cX9_part) (maxL := 6) (ret := (some .float)) (own := RX9) [some (.ref m), some (.int gg), some (.int k), some (.int w), none, none] (by decide) rfl rfl (Nat.le_of_ble_eq_true rfl) rfl rfl rfl ?_
  intro X hXl hXD g r
  subst hXl
  subst hXD
  have inX9 : ∀ w ∈ wsX90, w ∈ wsX9_part := inwX9_X9_part
  have K49 : ∀ (b : Int32) (hb : b = b01 (okPart S gg k)), J X 6 0 0 (mM m ad S) [some (.ref m), some (.int gg), some (.int k), some (.int w), none, none] [.int b] 49 := by
    intro b hb
    refine istore_6_4 (pc := 49) g dX9_part_49 ?_
    refine j_aload_n (pc := 51) g 0 dX9_part_51 rfl rfl ?_
    refine j_iload (pc := 52) g dX9_part_52 rfl ?_
    refine j_iload_n (pc := 54) g 3 dX9_part_54 rfl rfl ?_
    refine j_iconst (pc := 55) g (0) dX9_part_55 (by decide) ?_
    refine j_iconst (pc := 56) g (2) dX9_part_56 (by decide) ?_
    refine j_cSi (pc := 57) (n := 3) g (m_in (jl X) (jD X) _ _ _ _) dX9_part_57 gX9_part_X9_in rfl rfl rfl rfl ⟨by decide, by decide, by decide +kernel⟩ ⟨Nat.le_of_ble_eq_true rfl, Nat.le_of_ble_eq_true rfl⟩ ⟨Nat.le_of_ble_eq_true rfl, Nat.le_of_ble_eq_true rfl⟩ rfl (Nat.le_of_ble_eq_true rfl) ?_
    refine j_iconst (pc := 60) g (1) dX9_part_60 (by decide) ?_
    refine j_cVi (pc := 61) (n := 3) g (m_goes (jl X) (jD X) m ad S _ _ _) dX9_part_61 (mM_m _ _ _) rfl gX9_part_X9_goes rfl rfl rfl rfl ⟨rfl, by decide, by decide, by decide +kernel⟩ ⟨Nat.le_of_ble_eq_true rfl, Nat.le_of_ble_eq_true rfl⟩ ⟨Nat.le_of_ble_eq_true rfl, Nat.le_of_ble_eq_true rfl⟩ rfl (Nat.le_of_ble_eq_true rfl) ?_
    have ht : gT b (b01 (iN w 0 2)) 1 = tPart S gg k w := by grind [gT, b01, tPart]
    rw [ht]
    refine j_if_ne (pc := 64) g 69 dX9_part_64 (by decide) (fun c64 => ?_) (fun c64 => ?_)
    · have h0 : tPart S gg k w = 0 := by grind [b01]
      rw [h0]
      have hok : okPart S gg k := by grind [tPart]
      have hns := hkk.2.1
      have hg := isSi_ix hs hns hok.1
      have hk := iN_ix1 (n := d) (by omega) (by rw [← hd]; exact hok.2.1)
      have hsg := hkk.2.2 _ hg.2
      have h4 := hsg.i4
      have hk4 : ix k < ix (S 4 (ix gg)) := by
        have c1 := hok.2.2
        rw [hk.1, h4.1] at c1
        exact (nI_ltI (by omega) (by omega)).mp c1
      have ho1 : okC (su S 28 0 0) 2 (4 * ix k) := hdr _ hk.2
      have ho2 : okC (su S 28 0 0) 5 (24 * ix gg + 4 * ix k) := hsg.2 _ hk4
      refine j_bipush (pc := 69) g (24) dX9_part_69 (by decide) ?_
      refine j_iload_n (pc := 71) g 1 dX9_part_71 rfl rfl ?_
      refine j_imul (pc := 72) g dX9_part_72 ?_
      refine j_iconst (pc := 73) g (4) dX9_part_73 (by decide) ?_
      refine j_iload_n (pc := 74) g 2 dX9_part_74 rfl rfl ?_
      refine j_imul (pc := 75) g dX9_part_75 ?_
      refine j_iadd (pc := 76) g dX9_part_76 ?_
      refine j_topi (nI (24 * ix gg + 4 * ix k)) (lx_a (lx_m 24 hg.1) (lx_m 4 hk.1)) ?_
      refine istore_6_5 (pc := 77) g dX9_part_77 ?_
      refine j_iload_n (pc := 79) g 3 dX9_part_79 rfl rfl ?_
      refine j_if_ne (pc := 80) g 103 dX9_part_80 (by decide) (fun c80 => ?_) (fun c80 => ?_)
      · refine j_iload_n (pc := 103) g 3 dX9_part_103 rfl rfl ?_
        refine j_iconst (pc := 104) g (1) dX9_part_104 (by decide) ?_
        refine j_icmp_ne (pc := 105) g 127 dX9_part_105 (by decide) (fun c105 => ?_) (fun c105 => ?_)
        · refine j_aload_n (pc := 127) g 0 dX9_part_127 rfl rfl ?_
          refine j_get (pc := 128) g dX9_part_128 (mM_m _ _ _) rfl inX9 1 (by decide) (by decide +kernel) rfl rfl ?_
          refine j_aload_n (pc := 131) g 0 dX9_part_131 rfl rfl ?_
          refine j_get (pc := 132) g dX9_part_132 (mM_m _ _ _) rfl inX9 4 (by decide) (by decide +kernel) rfl rfl ?_
          refine j_iload_n (pc := 135) g 1 dX9_part_135 rfl rfl ?_
          refine jm_ald (pc := 136) g hI 4 dX9_part_136 (by decide) rfl (ix gg) (hg.1) (by have : mLen 4 = 6 := rfl; omega) ?_
          refine j_cSf (pc := 137) (n := 2) g (m_order (jl X) (jD X) _ _ _) dX9_part_137 gX9_part_X9_order rfl rfl rfl rfl ⟨by decide, by decide, by decide +kernel⟩ ⟨Nat.le_of_ble_eq_true rfl, Nat.le_of_ble_eq_true rfl⟩ ⟨Nat.le_of_ble_eq_true rfl, Nat.le_of_ble_eq_true rfl⟩ rfl (Nat.le_of_ble_eq_true rfl) ?_
          exact j_fret (pc := 140) g r rfl  (by first | exact xq_f (by rw [mAnsF, if_neg (b01_0.mp c64)]) (by rw [mSt, if_neg (b01_0.mp c64)]) | exact xq_f (by rw [mAnsF, if_pos h0, vPart, if_pos c80]; rfl) (by rw [mSt, if_pos h0]) | exact xq_f (by rw [mAnsF, if_pos h0, vPart, if_neg c80, if_pos c105]; rfl) (by rw [mSt, if_pos h0]) | exact xq_f (by rw [mAnsF, if_pos h0, vPart, if_neg c80, if_neg c105]; rfl) (by rw [mSt, if_pos h0])) dX9_part_140 (Nat.le_of_ble_eq_true rfl) (Nat.le_of_ble_eq_true rfl)
        · refine j_aload_n (pc := 108) g 0 dX9_part_108 rfl rfl ?_
          refine j_get (pc := 109) g dX9_part_109 (mM_m _ _ _) rfl inX9 2 (by decide) (by decide +kernel) rfl rfl ?_
          refine j_iconst (pc := 112) g (4) dX9_part_112 (by decide) ?_
          refine j_iload_n (pc := 113) g 2 dX9_part_113 rfl rfl ?_
          refine j_imul (pc := 114) g dX9_part_114 ?_
          refine j_aload_n (pc := 115) g 0 dX9_part_115 rfl rfl ?_
          refine j_get (pc := 116) g dX9_part_116 (mM_m _ _ _) rfl inX9 5 (by decide) (by decide +kernel) rfl rfl ?_
          refine j_iload (pc := 119) g dX9_part_119 rfl ?_
          refine j_cSf (pc := 121) (n := 4) g (m_slope (jl X) (jD X) m ad hI (su S 28 0 0) 2 (by decide) rfl _ _ (4 * ix k) (24 * ix gg + 4 * ix k) (lx_m 4 hk.1) rfl (by have : mLen 2 = 32 := rfl; omega) (by omega) ho1 ho2) dX9_part_121 gX9_part_X9_slope rfl rfl rfl rfl ⟨by decide, by decide, by decide +kernel⟩ ⟨Nat.le_of_ble_eq_true rfl, Nat.le_of_ble_eq_true rfl⟩ ⟨Nat.le_of_ble_eq_true rfl, Nat.le_of_ble_eq_true rfl⟩ rfl (Nat.le_of_ble_eq_true rfl) ?_
          refine j_goto (pc := 124) g 140 dX9_part_124 (by decide) ?_
          exact j_fret (pc := 140) g r rfl  (by first | exact xq_f (by rw [mAnsF, if_neg (b01_0.mp c64)]) (by rw [mSt, if_neg (b01_0.mp c64)]) | exact xq_f (by rw [mAnsF, if_pos h0, vPart, if_pos c80]; rfl) (by rw [mSt, if_pos h0]) | exact xq_f (by rw [mAnsF, if_pos h0, vPart, if_neg c80, if_pos c105]; rfl) (by rw [mSt, if_pos h0]) | exact xq_f (by rw [mAnsF, if_pos h0, vPart, if_neg c80, if_neg c105]; rfl) (by rw [mSt, if_pos h0])) dX9_part_140 (Nat.le_of_ble_eq_true rfl) (Nat.le_of_ble_eq_true rfl)
      · refine j_aload_n (pc := 83) g 0 dX9_part_83 rfl rfl ?_
        refine j_get (pc := 84) g dX9_part_84 (mM_m _ _ _) rfl inX9 2 (by decide) (by decide +kernel) rfl rfl ?_
        refine j_iconst (pc := 87) g (4) dX9_part_87 (by decide) ?_
        refine j_iload_n (pc := 88) g 2 dX9_part_88 rfl rfl ?_
        refine j_imul (pc := 89) g dX9_part_89 ?_
        refine j_aload_n (pc := 90) g 0 dX9_part_90 rfl rfl ?_
        refine j_get (pc := 91) g dX9_part_91 (mM_m _ _ _) rfl inX9 5 (by decide) (by decide +kernel) rfl rfl ?_
        refine j_iload (pc := 94) g dX9_part_94 rfl ?_
        refine j_iconst (pc := 96) g (0) dX9_part_96 (by decide) ?_
        refine j_cSf (pc := 97) (n := 5) g (m_nearness (jl X) (jD X) m ad hI (su S 28 0 0) 2 (by decide) rfl _ _ (4 * ix k) (24 * ix gg + 4 * ix k) (lx_m 4 hk.1) rfl (by have : mLen 2 = 32 := rfl; omega) (by omega) ho1 ho2 0 (by unfold rg; decide)) dX9_part_97 gX9_part_X9_nearness rfl rfl rfl rfl ⟨by decide, by decide, by decide +kernel⟩ ⟨Nat.le_of_ble_eq_true rfl, Nat.le_of_ble_eq_true rfl⟩ ⟨Nat.le_of_ble_eq_true rfl, Nat.le_of_ble_eq_true rfl⟩ rfl (Nat.le_of_ble_eq_true rfl) ?_
        refine j_goto (pc := 100) g 140 dX9_part_100 (by decide) ?_
        exact j_fret (pc := 140) g r rfl  (by first | exact xq_f (by rw [mAnsF, if_neg (b01_0.mp c64)]) (by rw [mSt, if_neg (b01_0.mp c64)]) | exact xq_f (by rw [mAnsF, if_pos h0, vPart, if_pos c80]; rfl) (by rw [mSt, if_pos h0]) | exact xq_f (by rw [mAnsF, if_pos h0, vPart, if_neg c80, if_pos c105]; rfl) (by rw [mSt, if_pos h0]) | exact xq_f (by rw [mAnsF, if_pos h0, vPart, if_neg c80, if_neg c105]; rfl) (by rw [mSt, if_pos h0])) dX9_part_140 (Nat.le_of_ble_eq_true rfl) (Nat.le_of_ble_eq_true rfl)
    · refine j_fconst0 (pc := 67) g dX9_part_67 ?_
      exact j_fret (pc := 68) g r rfl  (by first | exact xq_f (by rw [mAnsF, if_neg (b01_0.mp c64)]) (by rw [mSt, if_neg (b01_0.mp c64)]) | exact xq_f (by rw [mAnsF, if_pos h0, vPart, if_pos c80]; rfl) (by rw [mSt, if_pos h0]) | exact xq_f (by rw [mAnsF, if_pos h0, vPart, if_neg c80, if_pos c105]; rfl) (by rw [mSt, if_pos h0]) | exact xq_f (by rw [mAnsF, if_pos h0, vPart, if_neg c80, if_neg c105]; rfl) (by rw [mSt, if_pos h0])) dX9_part_68 (Nat.le_of_ble_eq_true rfl) (Nat.le_of_ble_eq_true rfl)
  refine j_aload_n (pc := 0) g 0 dX9_part_0 rfl rfl ?_
  refine j_iload_n (pc := 1) g 1 dX9_part_1 rfl rfl ?_
  refine j_cVi (pc := 2) (n := 1) g (m_isSign (jl X) (jD X) m ad S _) dX9_part_2 (mM_m _ _ _) rfl gX9_part_X9_isSign rfl rfl rfl rfl ⟨rfl, by decide, by decide, by decide +kernel⟩ ⟨Nat.le_of_ble_eq_true rfl, Nat.le_of_ble_eq_true rfl⟩ ⟨Nat.le_of_ble_eq_true rfl, Nat.le_of_ble_eq_true rfl⟩ rfl (Nat.le_of_ble_eq_true rfl) ?_
  refine j_if_eq (pc := 5) g 48 dX9_part_5 (by decide) (fun c5 => ?_) (fun c5 => ?_)
  · refine j_iconst (pc := 48) g (0) dX9_part_48 (by decide) ?_
    exact K49 _ (by grind [b01])
  · refine j_iload_n (pc := 8) g 2 dX9_part_8 rfl rfl ?_
    refine j_iconst (pc := 9) g (0) dX9_part_9 (by decide) ?_
    refine j_aload_n (pc := 10) g 0 dX9_part_10 rfl rfl ?_
    refine j_get (pc := 11) g dX9_part_11 (mM_m _ _ _) rfl inX9 1 (by decide) (by decide +kernel) rfl rfl ?_
    refine j_iconst (pc := 14) g (1) dX9_part_14 (by decide) ?_
    refine j_isub (pc := 15) g dX9_part_15 ?_
    refine j_cSi (pc := 16) (n := 3) g (m_in (jl X) (jD X) _ _ _ _) dX9_part_16 gX9_part_X9_in rfl rfl rfl rfl ⟨by decide, by decide, by decide +kernel⟩ ⟨Nat.le_of_ble_eq_true rfl, Nat.le_of_ble_eq_true rfl⟩ ⟨Nat.le_of_ble_eq_true rfl, Nat.le_of_ble_eq_true rfl⟩ rfl (Nat.le_of_ble_eq_true rfl) ?_
    refine j_if_eq (pc := 19) g 48 dX9_part_19 (by decide) (fun c19 => ?_) (fun c19 => ?_)
    · refine j_iconst (pc := 48) g (0) dX9_part_48 (by decide) ?_
      exact K49 _ (by grind [b01])
    · have hsi : isSi S gg := by grind [b01]
      have hns := hkk.2.1
      have hg := isSi_ix hs hns hsi
      refine j_iload_n (pc := 22) g 2 dX9_part_22 rfl rfl ?_
      refine j_aload_n (pc := 23) g 0 dX9_part_23 rfl rfl ?_
      refine j_get (pc := 24) g dX9_part_24 (mM_m _ _ _) rfl inX9 4 (by decide) (by decide +kernel) rfl rfl ?_
      refine j_aload_n (pc := 27) g 0 dX9_part_27 rfl rfl ?_
      refine j_iload_n (pc := 28) g 1 dX9_part_28 rfl rfl ?_
      refine j_cVi (pc := 29) (n := 1) g (m_isSign (jl X) (jD X) m ad S _) dX9_part_29 (mM_m _ _ _) rfl gX9_part_X9_isSign rfl rfl rfl rfl ⟨rfl, by decide, by decide, by decide +kernel⟩ ⟨Nat.le_of_ble_eq_true rfl, Nat.le_of_ble_eq_true rfl⟩ ⟨Nat.le_of_ble_eq_true rfl, Nat.le_of_ble_eq_true rfl⟩ rfl (Nat.le_of_ble_eq_true rfl) ?_
      refine j_if_eq (pc := 32) g 39 dX9_part_32 (by decide) (fun c32 => absurd c32 c5) (fun c32 => ?_)
      refine j_iload_n (pc := 35) g 1 dX9_part_35 rfl rfl ?_
      refine j_goto (pc := 36) g 40 dX9_part_36 (by decide) ?_
      refine jm_ald (pc := 40) g hI 4 dX9_part_40 (by decide) rfl (ix gg) (hg.1) (by have : mLen 4 = 6 := rfl; omega) ?_
      refine j_icmp_ge (pc := 41) g 48 dX9_part_41 (by decide) (fun c41 => ?_) (fun c41 => ?_)
      · refine j_iconst (pc := 48) g (0) dX9_part_48 (by decide) ?_
        exact K49 _ (by grind [b01])
      · refine j_iconst (pc := 44) g (1) dX9_part_44 (by decide) ?_
        refine j_goto (pc := 45) g 49 dX9_part_45 (by decide) ?_
        exact K49 _ (by grind [b01])
