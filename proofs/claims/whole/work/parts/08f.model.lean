set_option maxHeartbeats 400000 in
set_option maxRecDepth 100000 in
theorem m_marked (l : Launch) (D : va_G) (m : Nat) (ad : Nat → Nat) (hI : mI m ad) (S : ST) (ns nd : Nat) (hn : S 12 0 = nI nd) (hn12 : nd ≤ 12) (hdu : ∀ i, i < nd → mHd S ns i) (hkk : mMK S ns) (its round o : Int32) : xC l D yX9_marked wsX9_marked ({ frames := 5, cells := 0, slots := 0, locals := 130 }) 0 0 [.ref m, .int its, .int round, .int o] (mM m ad S) (xq (some (.float (mAnsF (tMarked S its round o) (allS (su S 28 0 0) (ix its) (wI (ix its) (ix round) o))))) (mM m ad (mSt S (tMarked S its round o) (fun S => S)))) := by
  refine xC_of (cc := cX9_marked) (maxL := 4) (ret := (some .float)) (own := RX9) [some (.ref m), some (.int its), some (.int round), some (.int o)] (by decide) rfl rfl (Nat.le_of_ble_eq_true rfl) rfl rfl rfl ?_
  intro X hXl hXD g r
  subst hXl
  subst hXD
  have inX9 : ∀ w ∈ wsX90, w ∈ wsX9_marked := inwX9_X9_marked
  refine j_aload_n (pc := 0) g 0 dX9_marked_0 rfl rfl ?_
  refine j_aload_n (pc := 1) g 0 dX9_marked_1 rfl rfl ?_
  refine j_iload_n (pc := 2) g 1 dX9_marked_2 rfl rfl ?_
  refine j_iload_n (pc := 3) g 2 dX9_marked_3 rfl rfl ?_
  refine j_iload_n (pc := 4) g 3 dX9_marked_4 rfl rfl ?_
  refine j_cVi (pc := 5) (n := 3) g (m_isHanded (jl X) (jD X) m ad hI S nd hn hn12 (fun i hi => (hdu i hi).1) _ _ _) dX9_marked_5 (mM_m _ _ _) rfl gX9_marked_X9_isHanded rfl rfl rfl rfl ⟨rfl, by decide, by decide, by decide +kernel⟩ ⟨Nat.le_of_ble_eq_true rfl, Nat.le_of_ble_eq_true rfl⟩ ⟨Nat.le_of_ble_eq_true rfl, Nat.le_of_ble_eq_true rfl⟩ rfl (Nat.le_of_ble_eq_true rfl) ?_
  refine j_iconst (pc := 8) g (1) dX9_marked_8 (by decide) ?_
  refine j_iconst (pc := 9) g (1) dX9_marked_9 (by decide) ?_
  refine j_cVi (pc := 10) (n := 3) g (m_goes (jl X) (jD X) m ad S _ _ _) dX9_marked_10 (mM_m _ _ _) rfl gX9_marked_X9_goes rfl rfl rfl rfl ⟨rfl, by decide, by decide, by decide +kernel⟩ ⟨Nat.le_of_ble_eq_true rfl, Nat.le_of_ble_eq_true rfl⟩ ⟨Nat.le_of_ble_eq_true rfl, Nat.le_of_ble_eq_true rfl⟩ rfl (Nat.le_of_ble_eq_true rfl) ?_
  have ht : gT (b01 (isHa S its round o)) 1 1 = tMarked S its round o := by grind [gT, b01, tMarked]
  rw [ht]
  refine j_if_eq (pc := 13) g 30 dX9_marked_13 (by decide) (fun c13 => ?_) (fun c13 => ?_)
  · refine j_fconst0 (pc := 30) g dX9_marked_30 ?_
    exact j_fret (pc := 31) g r rfl  (by first | exact xq_f (by rw [mAnsF, if_neg (b01_0.mp c13)]) (by rw [mSt, if_neg (b01_0.mp c13)]) | exact xq_f (by rw [mAnsF, if_pos h0, wI, Nat.add_assoc]) (by rw [mSt, if_pos h0])) dX9_marked_31 (Nat.le_of_ble_eq_true rfl) (Nat.le_of_ble_eq_true rfl)
  · have h0 : tMarked S its round o = 0 := by grind [b01]
    rw [h0]
    have hha : isHa S its round o := by grind [tMarked]
    have hi := isDu_ix hn hn12 hha.1
    have hr := iN_ix (n := 4) (by omega) hha.2.1
    have hq := hdu (ix its) hi.2
    have h22 := hq.1.i22
    have h18 := hq.1.i18
    have ho1 : ofI o ≤ 1 := by unfold ofI; split <;> omega
    have hlt : 2 * ix round + ofI o < ix (S 22 (ix its)) := by
      have c1 := hha.2.2
      have e1 : 2 * round + nI (ofI o) = nI (2 * ix round + ofI o) := lx_a (lx_m 2 hr.1) rfl
      rw [e1, h22.1] at c1
      exact (nI_ltI (by omega) (by omega)).mp c1
    refine j_aload_n (pc := 16) g 0 dX9_marked_16 rfl rfl ?_
    refine j_iload_n (pc := 17) g 1 dX9_marked_17 rfl rfl ?_
    refine j_iload_n (pc := 18) g 1 dX9_marked_18 rfl rfl ?_
    refine j_iload_n (pc := 19) g 2 dX9_marked_19 rfl rfl ?_
    refine j_iload_n (pc := 20) g 3 dX9_marked_20 rfl rfl ?_
    refine j_cSi (pc := 21) (n := 3) g (m_writing (jl X) (jD X) _ _ _ _ _ _ hi.1 hr.1) dX9_marked_21 gX9_marked_X9_writing rfl rfl rfl rfl ⟨by decide, by decide, by decide +kernel⟩ ⟨Nat.le_of_ble_eq_true rfl, Nat.le_of_ble_eq_true rfl⟩ ⟨Nat.le_of_ble_eq_true rfl, Nat.le_of_ble_eq_true rfl⟩ rfl (Nat.le_of_ble_eq_true rfl) ?_
    refine j_cVf (pc := 24) (n := 2) g (m_byAll (jl X) (jD X) m ad hI (su S 28 0 0) ns _ _ (ix its) (2 * ix round + ofI o) hi.1 (by rw [wI, Nat.add_assoc]) (by omega) hq hkk hlt) dX9_marked_24 (mM_m _ _ _) rfl gX9_marked_X9_byAll rfl rfl rfl rfl ⟨rfl, by decide, by decide, by decide +kernel⟩ ⟨Nat.le_of_ble_eq_true rfl, Nat.le_of_ble_eq_true rfl⟩ ⟨Nat.le_of_ble_eq_true rfl, Nat.le_of_ble_eq_true rfl⟩ rfl (Nat.le_of_ble_eq_true rfl) ?_
    refine j_goto (pc := 27) g 31 dX9_marked_27 (by decide) ?_
    exact j_fret (pc := 31) g r rfl  (by first | exact xq_f (by rw [mAnsF, if_neg (b01_0.mp c13)]) (by rw [mSt, if_neg (b01_0.mp c13)]) | exact xq_f (by rw [mAnsF, if_pos h0, wI, Nat.add_assoc]) (by rw [mSt, if_pos h0])) dX9_marked_31 (Nat.le_of_ble_eq_true rfl) (Nat.le_of_ble_eq_true rfl)

set_option maxHeartbeats 400000 in
set_option maxRecDepth 100000 in
theorem m_of (l : Launch) (D : va_G) (m : Nat) (ad : Nat → Nat) (hI : mI m ad) (S : ST) (ns nd : Nat) (hn : S 12 0 = nI nd) (hn12 : nd ≤ 12) (hdu : ∀ i, i < nd → mHd S ns i) (hkk : mMK S ns) (its w : Int32) : xC l D yX9_of wsX9_of ({ frames := 8, cells := 0, slots := 0, locals := 201 }) 0 0 [.ref m, .int its, .int w] (mM m ad S) (xq (some (.int (mAns (tOf S its w) (vOf (su S 28 0 0) (ix its) w)))) (mM m ad (mSt S (tOf S its w) (fun S => S)))) := by
  refine xC_of (cc := cX9_of) (maxL := 3) (ret := (some .int)) (own := RX9) [some (.ref m), some (.int its), some (.int w)] (by decide) rfl rfl (Nat.le_of_ble_eq_true rfl) rfl rfl rfl ?_
  intro X hXl hXD g r
  subst hXl
  subst hXD
  have inX9 : ∀ w ∈ wsX90, w ∈ wsX9_of := inwX9_X9_of
  refine j_aload_n (pc := 0) g 0 dX9_of_0 rfl rfl ?_
  refine j_aload_n (pc := 1) g 0 dX9_of_1 rfl rfl ?_
  refine j_iload_n (pc := 2) g 1 dX9_of_2 rfl rfl ?_
  refine j_cVi (pc := 3) (n := 1) g (m_isDuel (jl X) (jD X) m ad S _) dX9_of_3 (mM_m _ _ _) rfl gX9_of_X9_isDuel rfl rfl rfl rfl ⟨rfl, by decide, by decide, by decide +kernel⟩ ⟨Nat.le_of_ble_eq_true rfl, Nat.le_of_ble_eq_true rfl⟩ ⟨Nat.le_of_ble_eq_true rfl, Nat.le_of_ble_eq_true rfl⟩ rfl (Nat.le_of_ble_eq_true rfl) ?_
  refine j_iload_n (pc := 6) g 2 dX9_of_6 rfl rfl ?_
  refine j_iconst (pc := 7) g (0) dX9_of_7 (by decide) ?_
  refine j_iconst (pc := 8) g (5) dX9_of_8 (by decide) ?_
  refine j_cSi (pc := 9) (n := 3) g (m_in (jl X) (jD X) _ _ _ _) dX9_of_9 gX9_of_X9_in rfl rfl rfl rfl ⟨by decide, by decide, by decide +kernel⟩ ⟨Nat.le_of_ble_eq_true rfl, Nat.le_of_ble_eq_true rfl⟩ ⟨Nat.le_of_ble_eq_true rfl, Nat.le_of_ble_eq_true rfl⟩ rfl (Nat.le_of_ble_eq_true rfl) ?_
  refine j_iconst (pc := 12) g (1) dX9_of_12 (by decide) ?_
  refine j_cVi (pc := 13) (n := 3) g (m_goes (jl X) (jD X) m ad S _ _ _) dX9_of_13 (mM_m _ _ _) rfl gX9_of_X9_goes rfl rfl rfl rfl ⟨rfl, by decide, by decide, by decide +kernel⟩ ⟨Nat.le_of_ble_eq_true rfl, Nat.le_of_ble_eq_true rfl⟩ ⟨Nat.le_of_ble_eq_true rfl, Nat.le_of_ble_eq_true rfl⟩ rfl (Nat.le_of_ble_eq_true rfl) ?_
  have ht : gT (b01 (iN its 0 (S 12 0 - 1))) (b01 (iN w 0 5)) 1 = tOf S its w := by grind [gT, b01, tOf]
  rw [ht]
  refine j_if_ne (pc := 16) g 21 dX9_of_16 (by decide) (fun c16 => ?_) (fun c16 => ?_)
  · have h0 : tOf S its w = 0 := by grind [b01]
    rw [h0]
    have hok : isDu S its ∧ iN w 0 5 := by grind [tOf]
    have hd1 : isDu S its := hok.1
    have hi := isDu_ix hn hn12 hd1
    have hq := hdu (ix its) hi.2
    have hw6 := i5_cases hok.2
    refine j_iload_n (pc := 21) g 2 dX9_of_21 rfl rfl ?_
    rcases hw6 with rfl | rfl | rfl | rfl | rfl | rfl
    · refine j_tableIn (pc := 22) g (34) 56 dX9_of_22 (by decide) (by decide) (by decide) (by decide) ?_
      refine j_aload_n (pc := 56) g 0 dX9_of_56 rfl rfl ?_
      refine j_get (pc := 57) g dX9_of_57 (mM_m _ _ _) rfl inX9 22 (by decide) (by decide +kernel) rfl rfl ?_
      refine j_iload_n (pc := 60) g 1 dX9_of_60 rfl rfl ?_
      refine jm_ald (pc := 61) g hI 22 dX9_of_61 (by decide) rfl (ix its) (hi.1) (by have : mLen 22 = 12 := rfl; omega) ?_
      exact j_iret (pc := 62) g r rfl rfl (by first | exact xq_i (by rw [mAns, if_neg (b01_0.mp c16)]) (by rw [mSt, if_neg (b01_0.mp c16)]) | exact xq_i (by rw [mAns, if_pos h0]; rfl) (by rw [mSt, if_pos h0])) dX9_of_62 (Nat.le_of_ble_eq_true rfl) (Nat.le_of_ble_eq_true rfl)
    · refine j_tableIn (pc := 22) g (41) 63 dX9_of_22 (by decide) (by decide) (by decide) (by decide) ?_
      refine j_aload_n (pc := 63) g 0 dX9_of_63 rfl rfl ?_
      refine j_iload_n (pc := 64) g 1 dX9_of_64 rfl rfl ?_
      refine j_iload_n (pc := 65) g 2 dX9_of_65 rfl rfl ?_
      refine j_cVi (pc := 66) (n := 2) g (m_roundsTo (jl X) (jD X) m ad hI (su S 28 0 0) ns _ _ (ix its) hi.1 (by omega) hq hkk) dX9_of_66 (mM_m _ _ _) rfl gX9_of_X9_roundsTo rfl rfl rfl rfl ⟨rfl, by decide, by decide, by decide +kernel⟩ ⟨Nat.le_of_ble_eq_true rfl, Nat.le_of_ble_eq_true rfl⟩ ⟨Nat.le_of_ble_eq_true rfl, Nat.le_of_ble_eq_true rfl⟩ rfl (Nat.le_of_ble_eq_true rfl) ?_
      exact j_iret (pc := 69) g r rfl rfl (by first | exact xq_i (by rw [mAns, if_neg (b01_0.mp c16)]) (by rw [mSt, if_neg (b01_0.mp c16)]) | exact xq_i (by rw [mAns, if_pos h0]; rfl) (by rw [mSt, if_pos h0])) dX9_of_69 (Nat.le_of_ble_eq_true rfl) (Nat.le_of_ble_eq_true rfl)
    · refine j_tableIn (pc := 22) g (41) 63 dX9_of_22 (by decide) (by decide) (by decide) (by decide) ?_
      refine j_aload_n (pc := 63) g 0 dX9_of_63 rfl rfl ?_
      refine j_iload_n (pc := 64) g 1 dX9_of_64 rfl rfl ?_
      refine j_iload_n (pc := 65) g 2 dX9_of_65 rfl rfl ?_
      refine j_cVi (pc := 66) (n := 2) g (m_roundsTo (jl X) (jD X) m ad hI (su S 28 0 0) ns _ _ (ix its) hi.1 (by omega) hq hkk) dX9_of_66 (mM_m _ _ _) rfl gX9_of_X9_roundsTo rfl rfl rfl rfl ⟨rfl, by decide, by decide, by decide +kernel⟩ ⟨Nat.le_of_ble_eq_true rfl, Nat.le_of_ble_eq_true rfl⟩ ⟨Nat.le_of_ble_eq_true rfl, Nat.le_of_ble_eq_true rfl⟩ rfl (Nat.le_of_ble_eq_true rfl) ?_
      exact j_iret (pc := 69) g r rfl rfl (by first | exact xq_i (by rw [mAns, if_neg (b01_0.mp c16)]) (by rw [mSt, if_neg (b01_0.mp c16)]) | exact xq_i (by rw [mAns, if_pos h0]; rfl) (by rw [mSt, if_pos h0])) dX9_of_69 (Nat.le_of_ble_eq_true rfl) (Nat.le_of_ble_eq_true rfl)
    · refine j_tableIn (pc := 22) g (48) 70 dX9_of_22 (by decide) (by decide) (by decide) (by decide) ?_
      refine j_aload_n (pc := 70) g 0 dX9_of_70 rfl rfl ?_
      refine j_iload_n (pc := 71) g 1 dX9_of_71 rfl rfl ?_
      refine j_cVi (pc := 72) (n := 1) g (m_winner (jl X) (jD X) m ad hI (su S 28 0 0) ns _ (ix its) hi.1 (by omega) hq hkk) dX9_of_72 (mM_m _ _ _) rfl gX9_of_X9_winner rfl rfl rfl rfl ⟨rfl, by decide, by decide, by decide +kernel⟩ ⟨Nat.le_of_ble_eq_true rfl, Nat.le_of_ble_eq_true rfl⟩ ⟨Nat.le_of_ble_eq_true rfl, Nat.le_of_ble_eq_true rfl⟩ rfl (Nat.le_of_ble_eq_true rfl) ?_
      exact j_iret (pc := 75) g r rfl rfl (by first | exact xq_i (by rw [mAns, if_neg (b01_0.mp c16)]) (by rw [mSt, if_neg (b01_0.mp c16)]) | exact xq_i (by rw [mAns, if_pos h0]; rfl) (by rw [mSt, if_pos h0])) dX9_of_75 (Nat.le_of_ble_eq_true rfl) (Nat.le_of_ble_eq_true rfl)
    · refine j_tableIn (pc := 22) g (54) 76 dX9_of_22 (by decide) (by decide) (by decide) (by decide) ?_
      refine j_aload_n (pc := 76) g 0 dX9_of_76 rfl rfl ?_
      refine j_get (pc := 77) g dX9_of_77 (mM_m _ _ _) rfl inX9 21 (by decide) (by decide +kernel) rfl rfl ?_
      refine j_iload_n (pc := 80) g 1 dX9_of_80 rfl rfl ?_
      refine jm_ald (pc := 81) g hI 21 dX9_of_81 (by decide) rfl (ix its) (hi.1) (by have : mLen 21 = 12 := rfl; omega) ?_
      exact j_iret (pc := 82) g r rfl rfl (by first | exact xq_i (by rw [mAns, if_neg (b01_0.mp c16)]) (by rw [mSt, if_neg (b01_0.mp c16)]) | exact xq_i (by rw [mAns, if_pos h0]; rfl) (by rw [mSt, if_pos h0])) dX9_of_82 (Nat.le_of_ble_eq_true rfl) (Nat.le_of_ble_eq_true rfl)
    · refine j_tableOut (pc := 22) g 83 dX9_of_22 (by decide) (by decide) ?_
      refine j_aload_n (pc := 83) g 0 dX9_of_83 rfl rfl ?_
      refine j_get (pc := 84) g dX9_of_84 (mM_m _ _ _) rfl inX9 16 (by decide) (by decide +kernel) rfl rfl ?_
      refine j_iload_n (pc := 87) g 1 dX9_of_87 rfl rfl ?_
      refine jm_ald (pc := 88) g hI 16 dX9_of_88 (by decide) rfl (ix its) (hi.1) (by have : mLen 16 = 12 := rfl; omega) ?_
      exact j_iret (pc := 89) g r rfl rfl (by first | exact xq_i (by rw [mAns, if_neg (b01_0.mp c16)]) (by rw [mSt, if_neg (b01_0.mp c16)]) | exact xq_i (by rw [mAns, if_pos h0]; rfl) (by rw [mSt, if_pos h0])) dX9_of_89 (Nat.le_of_ble_eq_true rfl) (Nat.le_of_ble_eq_true rfl)
  · refine j_iconst (pc := 19) g (0) dX9_of_19 (by decide) ?_
    exact j_iret (pc := 20) g r rfl rfl (by first | exact xq_i (by rw [mAns, if_neg (b01_0.mp c16)]) (by rw [mSt, if_neg (b01_0.mp c16)]) | exact xq_i (by rw [mAns, if_pos h0]; rfl) (by rw [mSt, if_pos h0])) dX9_of_20 (Nat.le_of_ble_eq_true rfl) (Nat.le_of_ble_eq_true rfl)

set_option maxHeartbeats 400000 in
set_option maxRecDepth 100000 in
theorem m_won (l : Launch) (D : va_G) (m : Nat) (ad : Nat → Nat) (hI : mI m ad) (S : ST) (ns nd : Nat) (hn : S 12 0 = nI nd) (hn12 : nd ≤ 12) (hdu : ∀ i, i < nd → mHd S ns i) (hkk : mMK S ns) (w : Int32) : xC l D yX9_won wsX9_won ({ frames := 8, cells := 0, slots := 0, locals := 201 }) 0 0 [.ref m, .int w] (mM m ad S) (xq (some (.int (mAns (tWon w) (cntW (su S 28 0 0) w nd)))) (mM m ad (mSt S (tWon w) (fun S => S)))) := by
  refine xC_of (cc := cX9_won) (maxL := 4) (ret := (some .int)) (own := RX9) [some (.ref m), some (.int w), none, none] (by decide) rfl rfl (Nat.le_of_ble_eq_true rfl) rfl rfl rfl ?_
  intro X hXl hXD g r
  subst hXl
  subst hXD
  have inX9 : ∀ w ∈ wsX90, w ∈ wsX9_won := inwX9_X9_won
  refine j_aload_n (pc := 0) g 0 dX9_won_0 rfl rfl ?_
  refine j_iload_n (pc := 1) g 1 dX9_won_1 rfl rfl ?_
  refine j_iconst (pc := 2) g (0) dX9_won_2 (by decide) ?_
  refine j_bipush (pc := 3) g (7) dX9_won_3 (by decide) ?_
  refine j_cSi (pc := 5) (n := 3) g (m_in (jl X) (jD X) _ _ _ _) dX9_won_5 gX9_won_X9_in rfl rfl rfl rfl ⟨by decide, by decide, by decide +kernel⟩ ⟨Nat.le_of_ble_eq_true rfl, Nat.le_of_ble_eq_true rfl⟩ ⟨Nat.le_of_ble_eq_true rfl, Nat.le_of_ble_eq_true rfl⟩ rfl (Nat.le_of_ble_eq_true rfl) ?_
  refine j_iconst (pc := 8) g (1) dX9_won_8 (by decide) ?_
  refine j_iconst (pc := 9) g (1) dX9_won_9 (by decide) ?_
  refine j_cVi (pc := 10) (n := 3) g (m_goes (jl X) (jD X) m ad S _ _ _) dX9_won_10 (mM_m _ _ _) rfl gX9_won_X9_goes rfl rfl rfl rfl ⟨rfl, by decide, by decide, by decide +kernel⟩ ⟨Nat.le_of_ble_eq_true rfl, Nat.le_of_ble_eq_true rfl⟩ ⟨Nat.le_of_ble_eq_true rfl, Nat.le_of_ble_eq_true rfl⟩ rfl (Nat.le_of_ble_eq_true rfl) ?_
  have ht : gT (b01 (iN w 0 7)) 1 1 = tWon w := by grind [gT, b01, tWon]
  rw [ht]
  refine j_if_ne (pc := 13) g 18 dX9_won_13 (by decide) (fun c13 => ?_) (fun c13 => ?_)
  · have h0 : tWon w = 0 := by grind [b01]
    rw [h0]
    obtain ⟨S1, hS1⟩ : ∃ z, z = su S 28 0 0 := ⟨_, rfl⟩
    rw [← hS1]
    have hn1 : S1 12 0 = nI nd := by rw [hS1]; exact hn
    have hdu1 : ∀ i, i < nd → mHd S1 ns i := by rw [hS1]; exact hdu
    have hkk1 : mMK S1 ns := by rw [hS1]; exact hkk
    refine j_iconst (pc := 18) g (0) dX9_won_18 (by decide) ?_
    refine istore_n_4_2 (pc := 19) g dX9_won_19 ?_
    refine j_iconst (pc := 20) g (0) dX9_won_20 (by decide) ?_
    refine istore_n_4_3 (pc := 21) g dX9_won_21 ?_
    have L22 : ∀ (n : Nat) (k : Nat) (hk : k + n = nd), J X 4 0 0 (mM m ad S1) [some (.ref m), some (.int w), some (.int (cntW S1 w k)), some (.int (nI k))] [] 22 := by
      intro n
      induction n with
      | zero =>
        intro k hk
        have hi4 : k = nd := by omega
        subst hi4
        refine j_iload_n (pc := 22) g 3 dX9_won_22 rfl rfl ?_
        refine j_aload_n (pc := 23) g 0 dX9_won_23 rfl rfl ?_
        refine j_get (pc := 24) g dX9_won_24 (mM_m _ _ _) rfl inX9 12 (by decide) (by decide +kernel) rfl rfl ?_
        refine j_icmp_ge (pc := 27) g 53 dX9_won_27 (by decide) (fun c27 => ?_) (fun c27 => absurd (by rw [hn1]; exact Int32.le_refl _) c27)
        refine j_iload_n (pc := 53) g 2 dX9_won_53 rfl rfl ?_
        exact j_iret (pc := 54) g r rfl rfl (by first | exact xq_i (by rw [mAns, if_neg (b01_0.mp c13)]) (by rw [mSt, if_neg (b01_0.mp c13)]) | exact xq_i (by rw [mAns, if_pos h0, hS1]) (by rw [mSt, if_pos h0, hS1])) dX9_won_54 (Nat.le_of_ble_eq_true rfl) (Nat.le_of_ble_eq_true rfl)
      | succ n ih =>
        intro k hk
        refine j_iload_n (pc := 22) g 3 dX9_won_22 rfl rfl ?_
        refine j_aload_n (pc := 23) g 0 dX9_won_23 rfl rfl ?_
        refine j_get (pc := 24) g dX9_won_24 (mM_m _ _ _) rfl inX9 12 (by decide) (by decide +kernel) rfl rfl ?_
        refine j_icmp_ge (pc := 27) g 53 dX9_won_27 (by decide) (fun c27 => absurd c27 (by rw [hn1]; exact nI_ge (by omega) (by omega))) (fun c27 => ?_)
        refine j_iload_n (pc := 30) g 2 dX9_won_30 rfl rfl ?_
        refine j_aload_n (pc := 31) g 0 dX9_won_31 rfl rfl ?_
        refine j_iload_n (pc := 32) g 3 dX9_won_32 rfl rfl ?_
        refine j_cVi (pc := 33) (n := 1) g (m_winner (jl X) (jD X) m ad hI S1 ns _ k rfl (by omega) (hdu1 k (by omega)) hkk1) dX9_won_33 (mM_m _ _ _) rfl gX9_won_X9_winner rfl rfl rfl rfl ⟨rfl, by decide, by decide, by decide +kernel⟩ ⟨Nat.le_of_ble_eq_true rfl, Nat.le_of_ble_eq_true rfl⟩ ⟨Nat.le_of_ble_eq_true rfl, Nat.le_of_ble_eq_true rfl⟩ rfl (Nat.le_of_ble_eq_true rfl) ?_
        refine j_iload_n (pc := 36) g 1 dX9_won_36 rfl rfl ?_
        refine j_icmp_ne (pc := 37) g 44 dX9_won_37 (by decide) (fun c37 => ?_) (fun c37 => ?_)
        · refine j_iconst (pc := 44) g (0) dX9_won_44 (by decide) ?_
          refine j_iadd (pc := 45) g dX9_won_45 ?_
          refine istore_n_4_2 (pc := 46) g dX9_won_46 ?_
          refine iinc_4_3_1 (pc := 47) g dX9_won_47 ?_
          refine j_goto (pc := 50) g 22 dX9_won_50 (by decide) ?_
          exact (by have q9 := ih (k + 1) (by omega); rw [← nI_1 k] at q9; first | (rw [cntW, if_neg c37] at q9; exact q9) | (rw [cntW, if_pos c37] at q9; exact q9))
        · refine j_iconst (pc := 40) g (1) dX9_won_40 (by decide) ?_
          refine j_goto (pc := 41) g 45 dX9_won_41 (by decide) ?_
          refine j_iadd (pc := 45) g dX9_won_45 ?_
          refine istore_n_4_2 (pc := 46) g dX9_won_46 ?_
          refine iinc_4_3_1 (pc := 47) g dX9_won_47 ?_
          refine j_goto (pc := 50) g 22 dX9_won_50 (by decide) ?_
          exact (by have q9 := ih (k + 1) (by omega); rw [← nI_1 k] at q9; first | (rw [cntW, if_neg c37] at q9; exact q9) | (rw [cntW, if_pos c37] at q9; exact q9))
    exact L22 nd 0 (by omega)
  · refine j_iconst (pc := 16) g (0) dX9_won_16 (by decide) ?_
    exact j_iret (pc := 17) g r rfl rfl (by first | exact xq_i (by rw [mAns, if_neg (b01_0.mp c13)]) (by rw [mSt, if_neg (b01_0.mp c13)]) | exact xq_i (by rw [mAns, if_pos h0, hS1]) (by rw [mSt, if_pos h0, hS1])) dX9_won_17 (Nat.le_of_ble_eq_true rfl) (Nat.le_of_ble_eq_true rfl)
