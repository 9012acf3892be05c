set_option maxHeartbeats 400000 in
set_option maxRecDepth 100000 in
theorem m_prompt (l : Launch) (D : va_G) (m : Nat) (ad : Nat → Nat) (hI : mI m ad) (S : ST) (nd : Nat) (hn : S 12 0 = nI nd) (hn12 : nd ≤ 12) (hdu : ∀ i, i < nd → mDu S i) (its round : Int32) : xC l D yX9_prompt wsX9_prompt ({ frames := 2, cells := 0, slots := 0, locals := 43 }) 0 0 [.ref m, .int its, .int round] (mM m ad S) (xq (some (.int (mAns (tPrompt S its round) (nI (promptI S (ix its) (ix round)))))) (mM m ad (mSt S (tPrompt S its round) (fun S => S)))) := by
  refine xC_of (cc := cX9_prompt) (maxL := 4) (ret := (some .int)) (own := RX9) [some (.ref m), some (.int its), some (.int round), none] (by decide) rfl rfl (Nat.le_of_ble_eq_true rfl) rfl rfl rfl ?_
  intro X hXl hXD g r
  subst hXl
  subst hXD
  have inX9 : ∀ w ∈ wsX90, w ∈ wsX9_prompt := inwX9_X9_prompt
  have K39 : ∀ (b : Int32) (hb : b = b01 (okPrompt S its round)), J X 4 0 0 (mM m ad S) [some (.ref m), some (.int its), some (.int round), none] [.int b] 39 := by
    intro b hb
    refine istore_n_4_3 (pc := 39) g dX9_prompt_39 ?_
    refine j_aload_n (pc := 40) g 0 dX9_prompt_40 rfl rfl ?_
    refine j_iload_n (pc := 41) g 3 dX9_prompt_41 rfl rfl ?_
    refine j_iconst (pc := 42) g (1) dX9_prompt_42 (by decide) ?_
    refine j_iconst (pc := 43) g (1) dX9_prompt_43 (by decide) ?_
    refine j_cVi (pc := 44) (n := 3) g (m_goes (jl X) (jD X) m ad S _ _ _) dX9_prompt_44 (mM_m _ _ _) rfl gX9_prompt_X9_goes rfl rfl rfl rfl ⟨rfl, by decide, by decide, by decide +kernel⟩ ⟨Nat.le_of_ble_eq_true rfl, Nat.le_of_ble_eq_true rfl⟩ ⟨Nat.le_of_ble_eq_true rfl, Nat.le_of_ble_eq_true rfl⟩ rfl (Nat.le_of_ble_eq_true rfl) ?_
    have ht : gT b 1 1 = tPrompt S its round := by grind [gT, b01, tPrompt]
    rw [ht]
    refine j_if_eq (pc := 47) g 59 dX9_prompt_47 (by decide) (fun c47 => ?_) (fun c47 => ?_)
    · refine j_iconst (pc := 59) g (0) dX9_prompt_59 (by decide) ?_
      exact j_iret (pc := 60) g r rfl rfl (by first | exact xq_i (by rw [mAns, if_neg (b01_0.mp c47)]) (by rw [mSt, if_neg (b01_0.mp c47)]) | exact xq_i (by rw [mAns, if_pos h0]; rfl) (by rw [mSt, if_pos h0])) dX9_prompt_60 (Nat.le_of_ble_eq_true rfl) (Nat.le_of_ble_eq_true rfl)
    · have h0 : tPrompt S its round = 0 := by grind [b01]
      rw [h0]
      have hok : okPrompt S its round := by grind [tPrompt]
      have hd1 : isDu S its := hok.1
      have hi := isDu_ix hn hn12 hd1
      have hq := hdu (ix its) hi.2
      have h18 := hq.i18
      have hr := ix_lt (n := ix (S 18 (ix its))) (by omega) hok.2.1 (by rw [← h18.1]; exact hok.2.2)
      refine j_aload_n (pc := 50) g 0 dX9_prompt_50 rfl rfl ?_
      refine j_iload_n (pc := 51) g 1 dX9_prompt_51 rfl rfl ?_
      refine j_iload_n (pc := 52) g 2 dX9_prompt_52 rfl rfl ?_
      refine j_cVi (pc := 53) (n := 2) g (m_promptOf (jl X) (jD X) m ad hI (su S 28 0 0) its round (ix its) (ix round) hi.1 (by omega) hr.1 (by omega) hq) dX9_prompt_53 (mM_m _ _ _) rfl gX9_prompt_X9_promptOf rfl rfl rfl rfl ⟨rfl, by decide, by decide, by decide +kernel⟩ ⟨Nat.le_of_ble_eq_true rfl, Nat.le_of_ble_eq_true rfl⟩ ⟨Nat.le_of_ble_eq_true rfl, Nat.le_of_ble_eq_true rfl⟩ rfl (Nat.le_of_ble_eq_true rfl) ?_
      refine j_goto (pc := 56) g 60 dX9_prompt_56 (by decide) ?_
      exact j_iret (pc := 60) g r rfl rfl (by first | exact xq_i (by rw [mAns, if_neg (b01_0.mp c47)]) (by rw [mSt, if_neg (b01_0.mp c47)]) | exact xq_i (by rw [mAns, if_pos h0]; rfl) (by rw [mSt, if_pos h0])) dX9_prompt_60 (Nat.le_of_ble_eq_true rfl) (Nat.le_of_ble_eq_true rfl)
  refine j_aload_n (pc := 0) g 0 dX9_prompt_0 rfl rfl ?_
  refine j_iload_n (pc := 1) g 1 dX9_prompt_1 rfl rfl ?_
  refine j_cVi (pc := 2) (n := 1) g (m_isDuel (jl X) (jD X) m ad S _) dX9_prompt_2 (mM_m _ _ _) rfl gX9_prompt_X9_isDuel rfl rfl rfl rfl ⟨rfl, by decide, by decide, by decide +kernel⟩ ⟨Nat.le_of_ble_eq_true rfl, Nat.le_of_ble_eq_true rfl⟩ ⟨Nat.le_of_ble_eq_true rfl, Nat.le_of_ble_eq_true rfl⟩ rfl (Nat.le_of_ble_eq_true rfl) ?_
  refine j_if_eq (pc := 5) g 38 dX9_prompt_5 (by decide) (fun c5 => ?_) (fun c5 => ?_)
  · refine j_iconst (pc := 38) g (0) dX9_prompt_38 (by decide) ?_
    exact K39 _ (by grind [b01])
  · have hd1 : isDu S its := by grind [b01]
    have hi := isDu_ix hn hn12 hd1
    have hq := hdu (ix its) hi.2
    refine j_iload_n (pc := 8) g 2 dX9_prompt_8 rfl rfl ?_
    refine j_if_lt (pc := 9) g 38 dX9_prompt_9 (by decide) (fun c9 => ?_) (fun c9 => ?_)
    · refine j_iconst (pc := 38) g (0) dX9_prompt_38 (by decide) ?_
      exact K39 _ (by grind [b01])
    · refine j_iload_n (pc := 12) g 2 dX9_prompt_12 rfl rfl ?_
      refine j_aload_n (pc := 13) g 0 dX9_prompt_13 rfl rfl ?_
      refine j_get (pc := 14) g dX9_prompt_14 (mM_m _ _ _) rfl inX9 18 (by decide) (by decide +kernel) rfl rfl ?_
      refine j_aload_n (pc := 17) g 0 dX9_prompt_17 rfl rfl ?_
      refine j_iload_n (pc := 18) g 1 dX9_prompt_18 rfl rfl ?_
      refine j_cVi (pc := 19) (n := 1) g (m_isDuel (jl X) (jD X) m ad S _) dX9_prompt_19 (mM_m _ _ _) rfl gX9_prompt_X9_isDuel rfl rfl rfl rfl ⟨rfl, by decide, by decide, by decide +kernel⟩ ⟨Nat.le_of_ble_eq_true rfl, Nat.le_of_ble_eq_true rfl⟩ ⟨Nat.le_of_ble_eq_true rfl, Nat.le_of_ble_eq_true rfl⟩ rfl (Nat.le_of_ble_eq_true rfl) ?_
      refine j_if_eq (pc := 22) g 29 dX9_prompt_22 (by decide) (fun c22 => absurd c22 c5) (fun c22 => ?_)
      refine j_iload_n (pc := 25) g 1 dX9_prompt_25 rfl rfl ?_
      refine j_goto (pc := 26) g 30 dX9_prompt_26 (by decide) ?_
      refine jm_ald (pc := 30) g hI 18 dX9_prompt_30 (by decide) rfl (ix its) (hi.1) (by have : mLen 18 = 12 := rfl; omega) ?_
      refine j_icmp_ge (pc := 31) g 38 dX9_prompt_31 (by decide) (fun c31 => ?_) (fun c31 => ?_)
      · refine j_iconst (pc := 38) g (0) dX9_prompt_38 (by decide) ?_
        exact K39 _ (by grind [b01])
      · refine j_iconst (pc := 34) g (1) dX9_prompt_34 (by decide) ?_
        refine j_goto (pc := 35) g 39 dX9_prompt_35 (by decide) ?_
        exact K39 _ (by grind [b01])

set_option maxHeartbeats 400000 in
set_option maxRecDepth 100000 in
theorem m_paper (l : Launch) (D : va_G) (m : Nat) (ad : Nat → Nat) (hI : mI m ad) (S : ST) (its what : Int32) : xC l D yX9_paper wsX9_paper ({ frames := 2, cells := 0, slots := 0, locals := 42 }) 0 0 [.ref m, .int its, .int what] (mM m ad S) (xq (some (.int (mAns (tPaper its what) (vPaper S its what)))) (mM m ad (mSt S (tPaper its what) (fun S => S)))) := by
  refine xC_of (cc := cX9_paper) (maxL := 3) (ret := (some .int)) (own := RX9) [some (.ref m), some (.int its), some (.int what)] (by decide) rfl rfl (Nat.le_of_ble_eq_true rfl) rfl rfl rfl ?_
  intro X hXl hXD g r
  subst hXl
  subst hXD
  have inX9 : ∀ w ∈ wsX90, w ∈ wsX9_paper := inwX9_X9_paper
  refine j_aload_n (pc := 0) g 0 dX9_paper_0 rfl rfl ?_
  refine j_iload_n (pc := 1) g 1 dX9_paper_1 rfl rfl ?_
  refine j_cSi (pc := 2) (n := 1) g (m_isPaper (jl X) (jD X) _ _) dX9_paper_2 gX9_paper_X9_isPaper rfl rfl rfl rfl ⟨by decide, by decide, by decide +kernel⟩ ⟨Nat.le_of_ble_eq_true rfl, Nat.le_of_ble_eq_true rfl⟩ ⟨Nat.le_of_ble_eq_true rfl, Nat.le_of_ble_eq_true rfl⟩ rfl (Nat.le_of_ble_eq_true rfl) ?_
  refine j_iload_n (pc := 5) g 2 dX9_paper_5 rfl rfl ?_
  refine j_iconst (pc := 6) g (0) dX9_paper_6 (by decide) ?_
  refine j_iconst (pc := 7) g (1) dX9_paper_7 (by decide) ?_
  refine j_cSi (pc := 8) (n := 3) g (m_in (jl X) (jD X) _ _ _ _) dX9_paper_8 gX9_paper_X9_in rfl rfl rfl rfl ⟨by decide, by decide, by decide +kernel⟩ ⟨Nat.le_of_ble_eq_true rfl, Nat.le_of_ble_eq_true rfl⟩ ⟨Nat.le_of_ble_eq_true rfl, Nat.le_of_ble_eq_true rfl⟩ rfl (Nat.le_of_ble_eq_true rfl) ?_
  refine j_iconst (pc := 11) g (1) dX9_paper_11 (by decide) ?_
  refine j_cVi (pc := 12) (n := 3) g (m_goes (jl X) (jD X) m ad S _ _ _) dX9_paper_12 (mM_m _ _ _) rfl gX9_paper_X9_goes rfl rfl rfl rfl ⟨rfl, by decide, by decide, by decide +kernel⟩ ⟨Nat.le_of_ble_eq_true rfl, Nat.le_of_ble_eq_true rfl⟩ ⟨Nat.le_of_ble_eq_true rfl, Nat.le_of_ble_eq_true rfl⟩ rfl (Nat.le_of_ble_eq_true rfl) ?_
  have ht : gT (b01 (iN its 0 2)) (b01 (iN what 0 1)) 1 = tPaper its what := by grind [gT, b01, tPaper]
  rw [ht]
  refine j_if_ne (pc := 15) g 20 dX9_paper_15 (by decide) (fun c15 => ?_) (fun c15 => ?_)
  · have h0 : tPaper its what = 0 := by grind [b01]
    rw [h0]
    have hi1 : iN its 0 2 := by grind [tPaper]
    have hp := iN_ix (n := 2) (by omega) hi1
    refine j_iload_n (pc := 20) g 2 dX9_paper_20 rfl rfl ?_
    refine j_if_ne (pc := 21) g 33 dX9_paper_21 (by decide) (fun c21 => ?_) (fun c21 => ?_)
    · refine j_aload_n (pc := 33) g 0 dX9_paper_33 rfl rfl ?_
      refine j_get (pc := 34) g dX9_paper_34 (mM_m _ _ _) rfl inX9 7 (by decide) (by decide +kernel) rfl rfl ?_
      refine j_iload_n (pc := 37) g 1 dX9_paper_37 rfl rfl ?_
      refine jm_ald (pc := 38) g hI 7 dX9_paper_38 (by decide) rfl (ix its) (hp.1) (by have : mLen 7 = 3 := rfl; omega) ?_
      exact j_iret (pc := 39) g r rfl rfl (by first | exact xq_i (by rw [mAns, if_neg (b01_0.mp c15)]) (by rw [mSt, if_neg (b01_0.mp c15)]) | exact xq_i (by rw [mAns, if_pos h0, vPaper, if_pos c21]; rfl) (by rw [mSt, if_pos h0]) | exact xq_i (by rw [mAns, if_pos h0, vPaper, if_neg c21]; rfl) (by rw [mSt, if_pos h0])) dX9_paper_39 (Nat.le_of_ble_eq_true rfl) (Nat.le_of_ble_eq_true rfl)
    · refine j_aload_n (pc := 24) g 0 dX9_paper_24 rfl rfl ?_
      refine j_get (pc := 25) g dX9_paper_25 (mM_m _ _ _) rfl inX9 6 (by decide) (by decide +kernel) rfl rfl ?_
      refine j_iload_n (pc := 28) g 1 dX9_paper_28 rfl rfl ?_
      refine jm_ald (pc := 29) g hI 6 dX9_paper_29 (by decide) rfl (ix its) (hp.1) (by have : mLen 6 = 3 := rfl; omega) ?_
      refine j_goto (pc := 30) g 39 dX9_paper_30 (by decide) ?_
      exact j_iret (pc := 39) g r rfl rfl (by first | exact xq_i (by rw [mAns, if_neg (b01_0.mp c15)]) (by rw [mSt, if_neg (b01_0.mp c15)]) | exact xq_i (by rw [mAns, if_pos h0, vPaper, if_pos c21]; rfl) (by rw [mSt, if_pos h0]) | exact xq_i (by rw [mAns, if_pos h0, vPaper, if_neg c21]; rfl) (by rw [mSt, if_pos h0])) dX9_paper_39 (Nat.le_of_ble_eq_true rfl) (Nat.le_of_ble_eq_true rfl)
  · refine j_iconst (pc := 18) g (0) dX9_paper_18 (by decide) ?_
    exact j_iret (pc := 19) g r rfl rfl (by first | exact xq_i (by rw [mAns, if_neg (b01_0.mp c15)]) (by rw [mSt, if_neg (b01_0.mp c15)]) | exact xq_i (by rw [mAns, if_pos h0, vPaper, if_pos c21]; rfl) (by rw [mSt, if_pos h0]) | exact xq_i (by rw [mAns, if_pos h0, vPaper, if_neg c21]; rfl) (by rw [mSt, if_pos h0])) dX9_paper_19 (Nat.le_of_ble_eq_true rfl) (Nat.le_of_ble_eq_true rfl)
