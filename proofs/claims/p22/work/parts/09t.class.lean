
theorem inwX0_X8_appeal : ∀ w ∈ wsX00, w ∈ wsX8_appeal := fun w h => List.mem_cons_of_mem _ (List.mem_append_left _ (List.mem_append_left _ (List.mem_append_left _ (List.mem_append_left _ (List.mem_append_left _ (List.mem_append_left _ (List.mem_append_left _ (List.mem_append_right _ h))))))))
theorem inwX7_X8_look : ∀ w ∈ wsX70, w ∈ wsX8_look := fun w h => List.mem_cons_of_mem _ (List.mem_append_left _ (List.mem_append_left _ (List.mem_append_left _ (List.mem_append_right _ h))))
theorem inwX8_X8_pass : ∀ w ∈ wsX80, w ∈ wsX8_pass := fun w h => List.mem_cons_of_mem _ (List.mem_append_left _ (List.mem_append_left _ (List.mem_append_left _ (List.mem_append_right _ h))))
theorem atX8_appeal_68 : ∀ w ∈ (vx_atS RX8 68 eIS eNs).filter goodWord, w ∈ wsX8_appeal := fun w h => List.mem_cons_of_mem _ (List.mem_append_right _ h)
theorem atX8_appeal_100 : ∀ w ∈ (vx_atS RX8 100 eIO eNs).filter goodWord, w ∈ wsX8_appeal := fun w h => List.mem_cons_of_mem _ (List.mem_append_left _ (List.mem_append_right _ h))
theorem atX8_look_100 : ∀ w ∈ (vx_atS RX8 100 eIO eNs).filter goodWord, w ∈ wsX8_look := fun w h => List.mem_cons_of_mem _ (List.mem_append_right _ h)
theorem atX8_pass_55 : ∀ w ∈ (vx_atS RX8 55 eIA eNs).filter goodWord, w ∈ wsX8_pass := fun w h => List.mem_cons_of_mem _ (List.mem_append_left _ (List.mem_append_right _ h))
theorem atX8_pass_68 : ∀ w ∈ (vx_atS RX8 68 eIS eNs).filter goodWord, w ∈ wsX8_pass := fun w h => List.mem_cons_of_mem _ (List.mem_append_right _ h)

set_option maxHeartbeats 400000 in
set_option maxRecDepth 100000 in
theorem k_pass (l : Launch) (D : va_G) (hst : l.stackTraces = false) (M : MH) (x : Nat) (al : Nat → Nat → Nat) (S : ST) (d ns nd : Nat) (hc : CRep M x al S d ns nd) (hpa : ∀ i, i < 3 → rg (S 7 i) 0 100 ∧ rg (S 8 i) (-10) 10) (days : Int32) : xT l D yX8_pass wsX8_pass ({ frames := 6, cells := 1, slots := 6, locals := 96 }) 1 6 [.ref x, .int days] (M) (fun v M' => tPass S days = 0 ∧ v = some (.int (S 0 0 + days)) ∧ CRep M' x al (nPass S days) d ns nd) (fun E M' => xE (tPass S days) eIA eIS "" E ∧ M' = M) := by
  refine xT_of (cc := cX8_pass) (maxL := 3) (ret := (some .int)) (own := RX8) hst [some (.ref x), some (.int days), none] (by decide) rfl rfl (Nat.le_of_ble_eq_true rfl) rfl rfl rfl ?_
  intro X hXl hXD g r t
  subst hXl
  subst hXD
  have inX8 : ∀ w ∈ wsX80, w ∈ wsX8_pass := inwX8_X8_pass
  have hc0 := hc
  obtain ⟨⟨hx, hT0, hT1, hT2, hT3, hT4⟩, hP, hY, hJ, hG, hD, hW⟩ := hc
  refine j_iload_n (pc := 0) g 1 dX8_pass_0 rfl rfl ?_
  refine j_iconst (pc := 1) g (1) dX8_pass_1 (by decide) ?_
  refine j_bipush (pc := 2) g (100) dX8_pass_2 (by decide) ?_
  refine j_cSi (pc := 4) (n := 3) g (c_isWithin (jl X) (jD X) _ _ _ _) dX8_pass_4 gX8_pass_X8_isWithin rfl rfl rfl rfl ⟨by decide, by decide, by decide +kernel⟩ ⟨Nat.le_of_ble_eq_true rfl, Nat.le_of_ble_eq_true rfl⟩ ⟨Nat.le_of_ble_eq_true rfl, Nat.le_of_ble_eq_true rfl⟩ rfl (Nat.le_of_ble_eq_true rfl) ?_
  refine j_if_ne (pc := 7) g 20 dX8_pass_7 (by decide) (fun c7 => ?_) (fun c7 => ?_)
  · refine j_aload_n (pc := 20) g 0 dX8_pass_20 rfl rfl ?_
    refine j_get (pc := 21) g dX8_pass_21 (by assumption) rfl inX8 9 (by decide) (by decide +kernel) rfl rfl ?_
    refine j_iload_n (pc := 24) g 1 dX8_pass_24 rfl rfl ?_
    refine j_iadd (pc := 25) g dX8_pass_25 ?_
    refine j_sipush (pc := 26) g (5000) dX8_pass_26 (by decide) ?_
    refine j_icmp_le (pc := 29) g 42 dX8_pass_29 (by decide) (fun c29 => ?_) (fun c29 => ?_)
    · refine j_aload_n (pc := 42) g 0 dX8_pass_42 rfl rfl ?_
      refine j_dup (pc := 43) g dX8_pass_43 rfl ?_
      refine j_get (pc := 44) g dX8_pass_44 (by assumption) rfl inX8 9 (by decide) (by decide +kernel) rfl rfl ?_
      refine j_iload_n (pc := 47) g 1 dX8_pass_47 rfl rfl ?_
      refine j_iadd (pc := 48) g dX8_pass_48 ?_
      have hin : iN days 1 100 := by grind [b01]
      refine j_put (pc := 49) g dX8_pass_49 (hx) rfl inX8 tyX8 tyX8_ok nmX8 9 (by decide) (by decide +kernel) rfl rfl rfl (rfl) (rfl) (Nat.le_of_ble_eq_true rfl) ?_
      refine j_iconst (pc := 52) g (0) dX8_pass_52 (by decide) ?_
      refine istore_n_3_2 (pc := 53) g dX8_pass_53 ?_
      have L54 : ∀ (n : Nat) (k : Nat) (M2 : MH) (hk : k + n = 3) (hc2 : CRep M2 x al (pasK S days k) d ns nd), J X 3 0 0 (M2) [some (.ref x), some (.int days), some (.int (nI k))] [] 54 := by
        intro n
        induction n with
        | zero =>
          intro k M2 hk hc2
          have hk3 : k = 3 := by omega
          subst hk3
          have hx2 := hc2.1.1
          have hT12 := hc2.1.2.2.1
          refine j_iload_n (pc := 54) g 2 dX8_pass_54 rfl rfl ?_
          refine j_aload_n (pc := 55) g 0 dX8_pass_55 rfl rfl ?_
          refine j_get (pc := 56) g dX8_pass_56 (hx2) rfl inX8 1 (by decide) (by decide +kernel) rfl rfl ?_
          refine j_alen (pc := 59) g (nI 3) dX8_pass_59 (hT12) rfl ?_
          refine j_icmp_ge (pc := 60) g 88 dX8_pass_60 (by decide) (fun c60 => ?_) (fun c60 => absurd (by decide) c60)
          refine j_aload_n (pc := 88) g 0 dX8_pass_88 rfl rfl ?_
          refine j_get (pc := 89) g dX8_pass_89 (hx2) rfl inX8 9 (by decide) (by decide +kernel) rfl rfl ?_
          exact j_iret (pc := 92) g r rfl rfl (⟨by unfold tPass; rw [if_neg (not_not_intro hin), if_neg (not_not_intro c29)], by rw [pasK_0], R_pas hc2⟩) dX8_pass_92 (Nat.le_of_ble_eq_true rfl) (Nat.le_of_ble_eq_true rfl)
        | succ n ih =>
          intro k M2 hk hc2
          have hx2 := hc2.1.1
          have hT12 := hc2.1.2.2.1
          have hpc := hc2.2.1.1 k (by omega)
          have hpk := hpa k (by omega)
          refine j_iload_n (pc := 54) g 2 dX8_pass_54 rfl rfl ?_
          refine j_aload_n (pc := 55) g 0 dX8_pass_55 rfl rfl ?_
          refine j_get (pc := 56) g dX8_pass_56 (hx2) rfl inX8 1 (by decide) (by decide +kernel) rfl rfl ?_
          refine j_alen (pc := 59) g (nI 3) dX8_pass_59 (hT12) rfl ?_
          refine j_icmp_ge (pc := 60) g 88 dX8_pass_60 (by decide) (fun c60 => absurd c60 (nI_ge (by omega) (by omega))) (fun c60 => ?_)
          refine j_aload_n (pc := 63) g 0 dX8_pass_63 rfl rfl ?_
          refine j_get (pc := 64) g dX8_pass_64 (hx2) rfl inX8 1 (by decide) (by decide +kernel) rfl rfl ?_
          refine j_iload_n (pc := 67) g 2 dX8_pass_67 rfl rfl ?_
          refine j_aald (pc := 68) g dX8_pass_68 (hT12) rfl (vp_in_nI (by omega) (by omega)) ?_
          rw [nI_clamp (by omega : k < 2 ^ 31), rowF_in (by omega)]
          refine j_ifnull (pc := 69) g dX8_pass_69 ?_
          refine j_aload_n (pc := 72) g 0 dX8_pass_72 rfl rfl ?_
          refine j_get (pc := 73) g dX8_pass_73 (hx2) rfl inX8 1 (by decide) (by decide +kernel) rfl rfl ?_
          refine j_iload_n (pc := 76) g 2 dX8_pass_76 rfl rfl ?_
          refine j_aald (pc := 77) g dX8_pass_77 (hT12) rfl (vp_in_nI (by omega) (by omega)) ?_
          rw [nI_clamp (by omega : k < 2 ^ 31), rowF_in (by omega)]
          refine j_iload_n (pc := 78) g 1 dX8_pass_78 rfl rfl ?_
          refine j_cVv (pc := 79) (n := 1) g (c_age (jl X) (jD X) M2 (al 1 k) _ _ _ hpc days) dX8_pass_79 (hpc) rfl gX8_pass_X2_age rfl rfl rfl rfl ⟨rfl, by decide, by decide, by decide +kernel⟩ ⟨Nat.le_of_ble_eq_true rfl, Nat.le_of_ble_eq_true rfl⟩ ⟨Nat.le_of_ble_eq_true rfl, Nat.le_of_ble_eq_true rfl⟩ rfl (Nat.le_of_ble_eq_true rfl) ?_
          refine iinc_3_2_1 (pc := 82) g dX8_pass_82 ?_
          refine j_goto (pc := 85) g 54 dX8_pass_85 (by decide) ?_
          exact (by have q9 := ih (k + 1) _ (by omega) (R_pap hc2 (by omega) pasK_n ⟨rfl, pasK_7 (by omega) hpk.1 hpk.2 hin, rfl⟩ (fun i hi => ⟨rfl, pasK_7o hi, rfl⟩)); rw [← nI_1 k] at q9; exact q9)
      exact L54 3 0 _ rfl (R_top hc0 pasK_sf (by rw [pasK_o (by decide) (by decide)]) pasK_0)
    · exact j_throwS (pc := 32) g t "java/lang/IllegalStateException" "the day would be too late" dX8_pass_32 dX8_pass_35 dX8_pass_36 dX8_pass_38 dX8_pass_41 rfl (by decide +kernel) (by decide) (by decide +kernel) (by decide +kernel) atX8_pass_68 atB_68 atG_68 (Nat.le_of_ble_eq_true rfl) (Nat.le_of_ble_eq_true rfl) (Nat.le_of_ble_eq_true rfl) (Nat.le_of_ble_eq_true rfl) (Nat.le_of_ble_eq_true rfl) (Nat.le_of_ble_eq_true rfl) (⟨Or.inr (Or.inl ⟨by unfold tPass; rw [if_neg (by grind [b01]), if_pos c29], rfl⟩), rfl⟩)
  · exact j_throwS (pc := 10) g t "java/lang/IllegalArgumentException" "days is out of range" dX8_pass_10 dX8_pass_13 dX8_pass_14 dX8_pass_16 dX8_pass_19 rfl (by decide +kernel) (by decide) (by decide +kernel) (by decide +kernel) atX8_pass_55 atB_55 atG_55 (Nat.le_of_ble_eq_true rfl) (Nat.le_of_ble_eq_true rfl) (Nat.le_of_ble_eq_true rfl) (Nat.le_of_ble_eq_true rfl) (Nat.le_of_ble_eq_true rfl) (Nat.le_of_ble_eq_true rfl) (⟨Or.inl ⟨by unfold tPass; rw [if_pos (by grind [b01])], rfl⟩, rfl⟩)

set_option maxHeartbeats 400000 in
set_option maxRecDepth 100000 in
theorem k_look (l : Launch) (D : va_G) (hst : l.stackTraces = false) (M : MH) (x : Nat) (al : Nat → Nat → Nat) (S : ST) (d ns nd : Nat) (hc : CRep M x al S d ns nd) (hnd : S 12 0 = nI nd) (hnd12 : nd ≤ 12) (hq : ∀ i, i < nd → mDu S i) (hbit : ∀ w, w < 120 → S 25 w = 0 ∨ S 25 w = 1) (its k o : Int32) : xT l D yX8_look wsX8_look ({ frames := 6, cells := 1, slots := 6, locals := 96 }) 1 6 [.ref x, .int its, .int k, .int o] (M) (fun v M' => tLook S its k o = 0 ∧ v = some (.int (S 25 (wI (ix its) (ix k) o))) ∧ CRep M' x al (nLook S its k o) d ns nd) (fun E M' => xE (tLook S its k o) eIO "" "" E ∧ M' = M) := by
  refine xT_of (cc := cX8_look) (maxL := 6) (ret := (some .boolean)) (own := RX8) hst [some (.ref x), some (.int its), some (.int k), some (.int o), none, none] (by decide) rfl rfl (Nat.le_of_ble_eq_true rfl) rfl rfl rfl ?_
  intro X hXl hXD g r t
  subst hXl
  subst hXD
  have inX7 : ∀ w ∈ wsX70, w ∈ wsX8_look := inwX7_X8_look
  have hc0 := hc
  obtain ⟨⟨hx, hT0, hT1, hT2, hT3, hT4⟩, hP, hY, hJ, hG, hD, hW⟩ := hc
  refine j_aload_n (pc := 0) g 0 dX8_look_0 rfl rfl ?_
  refine j_iload_n (pc := 1) g 1 dX8_look_1 rfl rfl ?_
  refine j_cVr (pc := 2) (n := 1) g (c_duelAt (jl X) (jD X) M x _ _ _ _ _ _ _ _ _ _ hx (rowF (al 7) nd) hT4 _) dX8_look_2 (hx) rfl gX8_look_X8_duelAt rfl rfl rfl rfl ⟨rfl, by decide, by decide, by decide +kernel⟩ ⟨Nat.le_of_ble_eq_true rfl, Nat.le_of_ble_eq_true rfl⟩ ⟨Nat.le_of_ble_eq_true rfl, Nat.le_of_ble_eq_true rfl⟩ rfl (Nat.le_of_ble_eq_true rfl) ?_
  rcases at_or (g := al 7) (i := its) hnd12 (by decide) with ⟨hdu, hix, hlt, e1⟩ | ⟨hdu, e1⟩
  · rw [e1]
    have hdS : isDu S its := by unfold isDu; rw [hnd]; exact hdu
    obtain ⟨hd, ⟨fp, hfp, hfv⟩, hdw⟩ := hD.1 _ hlt
    have hqi := hq _ hlt
    refine astore_6_4 (pc := 5) g dX8_look_5 ?_
    refine j_aload (pc := 7) g dX8_look_7 rfl ?_
    refine j_ifnonnull (pc := 9) g 16 dX8_look_9 (by decide) ?_
    refine j_aload (pc := 16) g dX8_look_16 rfl ?_
    refine j_iload_n (pc := 18) g 2 dX8_look_18 rfl rfl ?_
    refine j_iload_n (pc := 19) g 3 dX8_look_19 rfl rfl ?_
    refine j_cVr (pc := 20) (n := 2) g (c_writingAt (jl X) (jD X) M _ _ _ _ _ _ _ _ _ _ _ hd _ hdw k o) dX8_look_20 (hd) rfl gX8_look_X0_writingAt rfl rfl rfl rfl ⟨rfl, by decide, by decide, by decide +kernel⟩ ⟨Nat.le_of_ble_eq_true rfl, Nat.le_of_ble_eq_true rfl⟩ ⟨Nat.le_of_ble_eq_true rfl, Nat.le_of_ble_eq_true rfl⟩ rfl (Nat.le_of_ble_eq_true rfl) ?_
    rcases wa_or (g := fun j => al 10 (10 * ix its + j)) (k := k) (o := o) hqi with ⟨hk, hk2, hkx, hk5, hkl, e2⟩ | ⟨hkn, e2⟩
    · rw [e2]
      have hw1 := (hW.1 _ _ hlt hkl).1
      have h10 := mDu_10 hqi
      have hb9 := hbit (10 * ix its + (2 * ix k + ofI o)) (by omega)
      refine astore_6_5 (pc := 23) g dX8_look_23 ?_
      refine j_aload (pc := 25) g dX8_look_25 rfl ?_
      refine j_ifnonnull (pc := 27) g 40 dX8_look_27 (by decide) ?_
      refine j_aload (pc := 40) g dX8_look_40 rfl ?_
      refine j_aload (pc := 42) g dX8_look_42 rfl ?_
      refine j_get (pc := 44) g dX8_look_44 (hw1) rfl inX7 2 (by decide) (by decide +kernel) rfl rfl ?_
      refine j_put (pc := 47) g dX8_look_47 (hw1) rfl inX7 tyX7 tyX7_ok nmX7 3 (by decide) (by decide +kernel) rfl rfl rfl (bit_nar hb9) (by rcases hb9 with h | h <;> rw [h] <;> rfl) (Nat.le_of_ble_eq_true rfl) ?_
      refine j_aload (pc := 50) g dX8_look_50 rfl ?_
      refine j_get (pc := 52) g dX8_look_52 (xu_s _ _ _) rfl inX7 2 (by decide) (by decide +kernel) rfl rfl ?_
      exact j_iret (pc := 55) g r rfl (bit_nar hb9) (⟨by unfold tLook; rw [if_neg (not_not_intro (⟨hdS, hk, hk2⟩))], by unfold wI; rw [Nat.add_assoc], by unfold nLook wI; rw [Nat.add_assoc]; exact R_look hc0 hlt hkl (fun i hi => mDu_10 (hq i hi)) hw1⟩) dX8_look_55 (Nat.le_of_ble_eq_true rfl) (Nat.le_of_ble_eq_true rfl)
    · rw [e2]
      refine astoreN_6_5 (pc := 23) g dX8_look_23 ?_
      refine j_aloadN (pc := 25) g dX8_look_25 rfl ?_
      refine j_ifnonnullN (pc := 27) g dX8_look_27 ?_
      exact j_throwS (pc := 30) g t "java/lang/IndexOutOfBoundsException" "no such duel, or not handed in" dX8_look_30 dX8_look_33 dX8_look_34 dX8_look_36 dX8_look_39 rfl (by decide +kernel) (by decide) (by decide +kernel) (by decide +kernel) atX8_look_100 atB_100 atG_100 (Nat.le_of_ble_eq_true rfl) (Nat.le_of_ble_eq_true rfl) (Nat.le_of_ble_eq_true rfl) (Nat.le_of_ble_eq_true rfl) (Nat.le_of_ble_eq_true rfl) (Nat.le_of_ble_eq_true rfl) (⟨Or.inl ⟨by unfold tLook; rw [if_pos (fun z => hkn z.2)], rfl⟩, rfl⟩)
  · rw [e1]
    have hdN : ¬ isDu S its := by unfold isDu; rw [hnd]; exact hdu
    refine astoreN_6_4 (pc := 5) g dX8_look_5 ?_
    refine j_aloadN (pc := 7) g dX8_look_7 rfl ?_
    refine j_ifnonnullN (pc := 9) g dX8_look_9 ?_
    refine j_aconst_null (pc := 12) g dX8_look_12 ?_
    refine j_goto (pc := 13) g 23 dX8_look_13 (by decide) ?_
    refine astoreN_6_5 (pc := 23) g dX8_look_23 ?_
    refine j_aloadN (pc := 25) g dX8_look_25 rfl ?_
    refine j_ifnonnullN (pc := 27) g dX8_look_27 ?_
    exact j_throwS (pc := 30) g t "java/lang/IndexOutOfBoundsException" "no such duel, or not handed in" dX8_look_30 dX8_look_33 dX8_look_34 dX8_look_36 dX8_look_39 rfl (by decide +kernel) (by decide) (by decide +kernel) (by decide +kernel) atX8_look_100 atB_100 atG_100 (Nat.le_of_ble_eq_true rfl) (Nat.le_of_ble_eq_true rfl) (Nat.le_of_ble_eq_true rfl) (Nat.le_of_ble_eq_true rfl) (Nat.le_of_ble_eq_true rfl) (Nat.le_of_ble_eq_true rfl) (⟨Or.inl ⟨by unfold tLook; rw [if_pos (fun z => hdN z.1)], rfl⟩, rfl⟩)

set_option maxHeartbeats 400000 in
set_option maxRecDepth 100000 in
theorem k_appeal (l : Launch) (D : va_G) (hst : l.stackTraces = false) (M : MH) (x : Nat) (al : Nat → Nat → Nat) (S : ST) (d ns nd : Nat) (hc : CRep M x al S d ns nd) (hnd : S 12 0 = nI nd) (hnd12 : nd ≤ 12) (hq : ∀ i, i < nd → mHd S ns i) (hkk : mMK S ns) (its w : Int32) : xT l D yX8_appeal wsX8_appeal ({ frames := 6, cells := 1, slots := 6, locals := 144 }) 1 6 [.ref x, .int its, .int w] (M) (fun v M' => tAppeal S its w = 0 ∧ v = some (.int (wnS (nAppeal S its w) (ix its))) ∧ CRep M' x al (nAppeal S its w) d ns nd) (fun E M' => xE (tAppeal S its w) eIO eIS "" E ∧ M' = M) := by
  refine xT_of (cc := cX8_appeal) (maxL := 4) (ret := (some .int)) (own := RX8) hst [some (.ref x), some (.int its), some (.int w), none] (by decide) rfl rfl (Nat.le_of_ble_eq_true rfl) rfl rfl rfl ?_
  intro X hXl hXD g r t
  subst hXl
  subst hXD
  have inX0 : ∀ w ∈ wsX00, w ∈ wsX8_appeal := inwX0_X8_appeal
  have hc0 := hc
  obtain ⟨⟨hx, hT0, hT1, hT2, hT3, hT4⟩, hP, hY, hJ, hG, hD, hW⟩ := hc
  refine j_aload_n (pc := 0) g 0 dX8_appeal_0 rfl rfl ?_
  refine j_iload_n (pc := 1) g 1 dX8_appeal_1 rfl rfl ?_
  refine j_cVr (pc := 2) (n := 1) g (c_duelAt (jl X) (jD X) M x _ _ _ _ _ _ _ _ _ _ hx (rowF (al 7) nd) hT4 _) dX8_appeal_2 (hx) rfl gX8_appeal_X8_duelAt rfl rfl rfl rfl ⟨rfl, by decide, by decide, by decide +kernel⟩ ⟨Nat.le_of_ble_eq_true rfl, Nat.le_of_ble_eq_true rfl⟩ ⟨Nat.le_of_ble_eq_true rfl, Nat.le_of_ble_eq_true rfl⟩ rfl (Nat.le_of_ble_eq_true rfl) ?_
  rcases at_or (g := al 7) (i := its) hnd12 (by decide) with ⟨hdu, hix, hlt, e1⟩ | ⟨hdu, e1⟩
  · rw [e1]
    have hdS : isDu S its := by unfold isDu; rw [hnd]; exact hdu
    obtain ⟨hd, ⟨fp, hfp, hfv⟩, hdw⟩ := hD.1 _ hlt
    have hqi := hq _ hlt
    have hov := isOv_le hqi.1
    refine astore_n_4_3 (pc := 5) g dX8_appeal_5 ?_
    refine j_aload_n (pc := 6) g 3 dX8_appeal_6 rfl rfl ?_
    refine j_ifnull (pc := 7) g dX8_appeal_7 ?_
    refine j_aload_n (pc := 10) g 0 dX8_appeal_10 rfl rfl ?_
    refine j_iload_n (pc := 11) g 2 dX8_appeal_11 rfl rfl ?_
    refine j_cVr (pc := 12) (n := 1) g (c_judgeAt (jl X) (jD X) M x _ _ _ _ _ _ _ _ _ _ hx (rowF (al 3) 4) hT3 _) dX8_appeal_12 (hx) rfl gX8_appeal_X8_judgeAt rfl rfl rfl rfl ⟨rfl, by decide, by decide, by decide +kernel⟩ ⟨Nat.le_of_ble_eq_true rfl, Nat.le_of_ble_eq_true rfl⟩ ⟨Nat.le_of_ble_eq_true rfl, Nat.le_of_ble_eq_true rfl⟩ rfl (Nat.le_of_ble_eq_true rfl) ?_
    rcases at_or (g := al 3) (n := 4) (m := 4) (i := w) (by decide) (by decide) with ⟨hwu, hwx, hwl, e2⟩ | ⟨hwu, e2⟩
    · rw [e2]
      have hwi : iN w 0 3 := hwu
      refine j_ifnonnull (pc := 15) g 28 dX8_appeal_15 (by decide) ?_
      refine j_aload_n (pc := 28) g 3 dX8_appeal_28 rfl rfl ?_
      refine j_cVi (pc := 29) (n := 0) g (c_dOver (jl X) (jD X) M (al 7 (ix its)) _ _ _ _ _ _ _ _ _ _ hd) dX8_appeal_29 (hd) rfl gX8_appeal_X0_isOver rfl rfl rfl rfl ⟨rfl, by decide, by decide, by decide +kernel⟩ ⟨Nat.le_of_ble_eq_true rfl, Nat.le_of_ble_eq_true rfl⟩ ⟨Nat.le_of_ble_eq_true rfl, Nat.le_of_ble_eq_true rfl⟩ rfl (Nat.le_of_ble_eq_true rfl) ?_
      refine j_if_eq (pc := 32) g 51 dX8_appeal_32 (by decide) (fun c32 => ?_) (fun c32 => ?_)
      · exact j_throwS (pc := 51) g t "java/lang/IllegalStateException" "it goes on, was appealed, or it is its judge" dX8_appeal_51 dX8_appeal_54 dX8_appeal_55 dX8_appeal_57 dX8_appeal_60 rfl (by decide +kernel) (by decide) (by decide +kernel) (by decide +kernel) atX8_appeal_68 atB_68 atG_68 (Nat.le_of_ble_eq_true rfl) (Nat.le_of_ble_eq_true rfl) (Nat.le_of_ble_eq_true rfl) (Nat.le_of_ble_eq_true rfl) (Nat.le_of_ble_eq_true rfl) (Nat.le_of_ble_eq_true rfl) (⟨Or.inr (Or.inl ⟨by unfold tAppeal; rw [if_neg (not_not_intro ⟨hdS, hwi⟩), if_pos (fun z => by have z1 := hov.mp z.1; grind [b01])], rfl⟩), rfl⟩)
      · refine j_aload_n (pc := 35) g 3 dX8_appeal_35 rfl rfl ?_
        refine j_get (pc := 36) g dX8_appeal_36 (hd) rfl inX0 9 (by decide) (by decide +kernel) rfl rfl ?_
        refine j_iconst (pc := 39) g (-1) dX8_appeal_39 (by decide) ?_
        refine j_icmp_ne (pc := 40) g 51 dX8_appeal_40 (by decide) (fun c40 => ?_) (fun c40 => ?_)
        · exact j_throwS (pc := 51) g t "java/lang/IllegalStateException" "it goes on, was appealed, or it is its judge" dX8_appeal_51 dX8_appeal_54 dX8_appeal_55 dX8_appeal_57 dX8_appeal_60 rfl (by decide +kernel) (by decide) (by decide +kernel) (by decide +kernel) atX8_appeal_68 atB_68 atG_68 (Nat.le_of_ble_eq_true rfl) (Nat.le_of_ble_eq_true rfl) (Nat.le_of_ble_eq_true rfl) (Nat.le_of_ble_eq_true rfl) (Nat.le_of_ble_eq_true rfl) (Nat.le_of_ble_eq_true rfl) (⟨Or.inr (Or.inl ⟨by unfold tAppeal; rw [if_neg (not_not_intro ⟨hdS, hwi⟩), if_pos (fun z => by have z1 := hov.mp z.1; grind [b01])], rfl⟩), rfl⟩)
        · refine j_iload_n (pc := 43) g 2 dX8_appeal_43 rfl rfl ?_
          refine j_aload_n (pc := 44) g 3 dX8_appeal_44 rfl rfl ?_
          refine j_get (pc := 45) g dX8_appeal_45 (hd) rfl inX0 2 (by decide) (by decide +kernel) rfl rfl ?_
          refine j_icmp_ne (pc := 48) g 61 dX8_appeal_48 (by decide) (fun c48 => ?_) (fun c48 => ?_)
          · refine j_aload_n (pc := 61) g 3 dX8_appeal_61 rfl rfl ?_
            refine j_iload_n (pc := 62) g 2 dX8_appeal_62 rfl rfl ?_
            refine j_put (pc := 63) g dX8_appeal_63 (hd) rfl inX0 tyX0 tyX0_ok nmX0 9 (by decide) (by decide +kernel) rfl rfl rfl (rfl) (rfl) (Nat.le_of_ble_eq_true rfl) ?_
            refine j_map (xu M (al 7 (ix its)) (dlC (S 13 (ix its)) (S 14 (ix its)) (S 15 (ix its)) (S 17 (ix its)) (S 21 (ix its)) (S 18 (ix its)) (al 8 (ix its)) (al 9 (ix its)) (S 22 (ix its)) w)) rfl ?_
            have hcn := R_app (v := w) hc0 hlt
            refine j_aload_n (pc := 66) g 0 dX8_appeal_66 rfl rfl ?_
            refine j_aload_n (pc := 67) g 3 dX8_appeal_67 rfl rfl ?_
            refine j_cVi (pc := 68) (n := 1) g (c_winnerOf (jl X) (jD X) _ x al (su S 16 (ix its) w) d ns nd hcn (ix its) hlt (mHd_16 hqi (iN_rg hwi)) hkk) dX8_appeal_68 (hcn.1.1) rfl gX8_appeal_X8_winnerOf rfl rfl rfl rfl ⟨rfl, by decide, by decide, by decide +kernel⟩ ⟨Nat.le_of_ble_eq_true rfl, Nat.le_of_ble_eq_true rfl⟩ ⟨Nat.le_of_ble_eq_true rfl, Nat.le_of_ble_eq_true rfl⟩ rfl (Nat.le_of_ble_eq_true rfl) ?_
            exact j_iret (pc := 71) g r rfl rfl (⟨by unfold tAppeal; rw [if_neg (not_not_intro ⟨hdS, hwi⟩), if_neg (not_not_intro ⟨hov.mpr (by grind [b01]), by grind, by grind⟩)], rfl, hcn⟩) dX8_appeal_71 (Nat.le_of_ble_eq_true rfl) (Nat.le_of_ble_eq_true rfl)
          · exact j_throwS (pc := 51) g t "java/lang/IllegalStateException" "it goes on, was appealed, or it is its judge" dX8_appeal_51 dX8_appeal_54 dX8_appeal_55 dX8_appeal_57 dX8_appeal_60 rfl (by decide +kernel) (by decide) (by decide +kernel) (by decide +kernel) atX8_appeal_68 atB_68 atG_68 (Nat.le_of_ble_eq_true rfl) (Nat.le_of_ble_eq_true rfl) (Nat.le_of_ble_eq_true rfl) (Nat.le_of_ble_eq_true rfl) (Nat.le_of_ble_eq_true rfl) (Nat.le_of_ble_eq_true rfl) (⟨Or.inr (Or.inl ⟨by unfold tAppeal; rw [if_neg (not_not_intro ⟨hdS, hwi⟩), if_pos (fun z => by have z1 := hov.mp z.1; grind [b01])], rfl⟩), rfl⟩)
    · rw [e2]
      have hwi : ¬ iN w 0 3 := hwu
      refine j_ifnonnullN (pc := 15) g dX8_appeal_15 ?_
      exact j_throwS (pc := 18) g t "java/lang/IndexOutOfBoundsException" "no such duel or judge" dX8_appeal_18 dX8_appeal_21 dX8_appeal_22 dX8_appeal_24 dX8_appeal_27 rfl (by decide +kernel) (by decide) (by decide +kernel) (by decide +kernel) atX8_appeal_100 atB_100 atG_100 (Nat.le_of_ble_eq_true rfl) (Nat.le_of_ble_eq_true rfl) (Nat.le_of_ble_eq_true rfl) (Nat.le_of_ble_eq_true rfl) (Nat.le_of_ble_eq_true rfl) (Nat.le_of_ble_eq_true rfl) (⟨Or.inl ⟨by unfold tAppeal; rw [if_pos (fun z => hwi z.2)], rfl⟩, rfl⟩)
  · rw [e1]
    have hdN : ¬ isDu S its := by unfold isDu; rw [hnd]; exact hdu
    refine astore_nN_4_3 (pc := 5) g dX8_appeal_5 ?_
    refine j_aload_nN (pc := 6) g 3 dX8_appeal_6 rfl rfl ?_
    refine j_ifnullN (pc := 7) g 18 dX8_appeal_7 (by decide) ?_
    exact j_throwS (pc := 18) g t "java/lang/IndexOutOfBoundsException" "no such duel or judge" dX8_appeal_18 dX8_appeal_21 dX8_appeal_22 dX8_appeal_24 dX8_appeal_27 rfl (by decide +kernel) (by decide) (by decide +kernel) (by decide +kernel) atX8_appeal_100 atB_100 atG_100 (Nat.le_of_ble_eq_true rfl) (Nat.le_of_ble_eq_true rfl) (Nat.le_of_ble_eq_true rfl) (Nat.le_of_ble_eq_true rfl) (Nat.le_of_ble_eq_true rfl) (Nat.le_of_ble_eq_true rfl) (⟨Or.inl ⟨by unfold tAppeal; rw [if_pos (fun z => hdN z.1)], rfl⟩, rfl⟩)
