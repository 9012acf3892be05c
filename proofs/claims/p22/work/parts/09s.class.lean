
theorem inwX2_X8_buy : ∀ w ∈ wsX20, w ∈ wsX8_buy := fun w h => List.mem_cons_of_mem _ (List.mem_append_left _ (List.mem_append_left _ (List.mem_append_left _ (List.mem_append_left _ (List.mem_append_right _ h)))))
theorem inwX2_X8_rise : ∀ w ∈ wsX20, w ∈ wsX8_rise := fun w h => List.mem_cons_of_mem _ (List.mem_append_left _ (List.mem_append_left _ (List.mem_append_left _ (List.mem_append_right _ h))))
theorem inwX5_X8_clear : ∀ w ∈ wsX50, w ∈ wsX8_clear := fun w h => List.mem_cons_of_mem _ (List.mem_append_right _ h)
theorem inwX6_X8_style : ∀ w ∈ wsX60, w ∈ wsX8_style := fun w h => List.mem_cons_of_mem _ (List.mem_append_left _ (List.mem_append_left _ (List.mem_append_left _ (List.mem_append_right _ h))))
theorem inwX8_X8_clear : ∀ w ∈ wsX80, w ∈ wsX8_clear := fun w h => List.mem_cons_of_mem _ (List.mem_append_left _ (List.mem_append_right _ h))
theorem inwX8_X8_learn : ∀ w ∈ wsX80, w ∈ wsX8_learn := fun w h => List.mem_cons_of_mem _ (List.mem_append_left _ (List.mem_append_left _ (List.mem_append_left _ (List.mem_append_right _ h))))
theorem atX8_buy_55 : ∀ w ∈ (vx_atS RX8 55 eIA eNs).filter goodWord, w ∈ wsX8_buy := fun w h => List.mem_cons_of_mem _ (List.mem_append_left _ (List.mem_append_right _ h))
theorem atX8_buy_68 : ∀ w ∈ (vx_atS RX8 68 eIS eNs).filter goodWord, w ∈ wsX8_buy := fun w h => List.mem_cons_of_mem _ (List.mem_append_right _ h)
theorem atX8_buy_100 : ∀ w ∈ (vx_atS RX8 100 eIO eNs).filter goodWord, w ∈ wsX8_buy := fun w h => List.mem_cons_of_mem _ (List.mem_append_left _ (List.mem_append_left _ (List.mem_append_right _ h)))
theorem atX8_learn_68 : ∀ w ∈ (vx_atS RX8 68 eIS eNs).filter goodWord, w ∈ wsX8_learn := fun w h => List.mem_cons_of_mem _ (List.mem_append_right _ h)
theorem atX8_learn_100 : ∀ w ∈ (vx_atS RX8 100 eIO eNs).filter goodWord, w ∈ wsX8_learn := fun w h => List.mem_cons_of_mem _ (List.mem_append_left _ (List.mem_append_right _ h))
theorem atX8_rise_55 : ∀ w ∈ (vx_atS RX8 55 eIA eNs).filter goodWord, w ∈ wsX8_rise := fun w h => List.mem_cons_of_mem _ (List.mem_append_right _ h)
theorem atX8_rise_100 : ∀ w ∈ (vx_atS RX8 100 eIO eNs).filter goodWord, w ∈ wsX8_rise := fun w h => List.mem_cons_of_mem _ (List.mem_append_left _ (List.mem_append_right _ h))
theorem atX8_style_55 : ∀ w ∈ (vx_atS RX8 55 eIA eNs).filter goodWord, w ∈ wsX8_style := fun w h => List.mem_cons_of_mem _ (List.mem_append_right _ h)
theorem atX8_style_100 : ∀ w ∈ (vx_atS RX8 100 eIO eNs).filter goodWord, w ∈ wsX8_style := fun w h => List.mem_cons_of_mem _ (List.mem_append_left _ (List.mem_append_right _ h))

theorem c_knowsOnV (l : Launch) (D : va_G) (M : MH) (x a y : Nat) (f : Nat → Int32) (hx : M x = some (oB 1 [.ref a])) (ha : M a = some (aI 4 f)) (hy : y < 4) (v : Int32) (hv : v = nI y) (day : Int32) : xC l D yX1_knowsOn wsX1_knowsOn ({ frames := 0, cells := 0, slots := 0, locals := 0 }) 0 0 [.ref x, .int v, .int day] M (xq (some (.int (b01 (¬ f y = -1 ∧ f y ≤ day)))) M) := by
  subst hv
  exact c_knowsOn l D M x a y f hx ha hy day

theorem c_takeUpV (l : Launch) (D : va_G) (M : MH) (x a y : Nat) (f : Nat → Int32) (hx : M x = some (oB 1 [.ref a])) (ha : M a = some (aI 4 f)) (hy : y < 4) (v : Int32) (hv : v = nI y) (day : Int32) : xC l D yX1_takeUp wsX1_takeUp ({ frames := 0, cells := 0, slots := 0, locals := 0 }) 0 0 [.ref x, .int v, .int day] M (xq none (xu M a (aI 4 (upd f y day)))) := by
  subst hv
  exact c_takeUp l D M x a y f hx ha hy day

set_option maxHeartbeats 400000 in
set_option maxRecDepth 100000 in
theorem k_clear (l : Launch) (D : va_G) (M : MH) (x : Nat) (al : Nat → Nat → Nat) (S : ST) (d ns nd : Nat) (hc : CRep M x al S d ns nd) : xC l D yX8_clear wsX8_clear ({ frames := 1, cells := 0, slots := 0, locals := 20 }) 0 0 [.ref x] (M) (fun v M' => v = some (.int (nI d)) ∧ CRep M' x al (nClear S) 0 ns nd) := by
  refine xC_of (cc := cX8_clear) (maxL := 2) (ret := (some .int)) (own := RX8) [some (.ref x), none] (by decide) rfl rfl (Nat.le_of_ble_eq_true rfl) rfl rfl rfl ?_
  intro X hXl hXD g r
  subst hXl
  subst hXD
  have inX8 : ∀ w ∈ wsX80, w ∈ wsX8_clear := inwX8_X8_clear
  have inX5 : ∀ w ∈ wsX50, w ∈ wsX8_clear := inwX5_X8_clear
  have hc0 := hc
  obtain ⟨⟨hx, hT0, hT1, hT2, hT3, hT4⟩, hP, hY, hJ, hG, hD, hW⟩ := hc
  have hdr := hG.2.1.1
  refine j_aload_n (pc := 0) g 0 dX8_clear_0 rfl rfl ?_
  refine j_get (pc := 1) g dX8_clear_1 (by assumption) rfl inX8 5 (by decide) (by decide +kernel) rfl rfl ?_
  refine j_get (pc := 4) g dX8_clear_4 (hdr) rfl inX5 1 (by decide) (by decide +kernel) rfl rfl ?_
  refine istore_n_2_1 (pc := 7) g dX8_clear_7 ?_
  refine j_aload_n (pc := 8) g 0 dX8_clear_8 rfl rfl ?_
  refine j_get (pc := 9) g dX8_clear_9 (by assumption) rfl inX8 5 (by decide) (by decide +kernel) rfl rfl ?_
  refine j_cVv (pc := 12) (n := 0) g (c_sEmpty (jl X) (jD X) M _ _ d hdr) dX8_clear_12 (hdr) rfl gX8_clear_X5_empty rfl rfl rfl rfl ⟨rfl, by decide, by decide, by decide +kernel⟩ ⟨Nat.le_of_ble_eq_true rfl, Nat.le_of_ble_eq_true rfl⟩ ⟨Nat.le_of_ble_eq_true rfl, Nat.le_of_ble_eq_true rfl⟩ rfl (Nat.le_of_ble_eq_true rfl) ?_
  refine j_iload_n (pc := 15) g 1 dX8_clear_15 rfl rfl ?_
  exact j_iret (pc := 16) g r rfl rfl (⟨rfl, R_clr hc0 (sf.rf.su (by decide))⟩) dX8_clear_16 (Nat.le_of_ble_eq_true rfl) (Nat.le_of_ble_eq_true rfl)

set_option maxHeartbeats 400000 in
set_option maxRecDepth 100000 in
theorem k_buy (l : Launch) (D : va_G) (hst : l.stackTraces = false) (M : MH) (x : Nat) (al : Nat → Nat → Nat) (S : ST) (d ns nd : Nat) (hc : CRep M x al S d ns nd) (its many : Int32) : xT l D yX8_buy wsX8_buy ({ frames := 6, cells := 1, slots := 6, locals := 96 }) 1 6 [.ref x, .int its, .int many] (M) (fun v M' => tBuy S its many = 0 ∧ v = some (.int (S 6 (ix its) + many)) ∧ CRep M' x al (nBuy S its many) d ns nd) (fun E M' => xE (tBuy S its many) eIO eIA eIS E ∧ M' = M) := by
  refine xT_of (cc := cX8_buy) (maxL := 4) (ret := (some .int)) (own := RX8) hst [some (.ref x), some (.int its), some (.int many), none] (by decide) rfl rfl (Nat.le_of_ble_eq_true rfl) rfl rfl rfl ?_
  intro X hXl hXD g r t
  subst hXl
  subst hXD
  have inX2 : ∀ w ∈ wsX20, w ∈ wsX8_buy := inwX2_X8_buy
  have hc0 := hc
  obtain ⟨⟨hx, hT0, hT1, hT2, hT3, hT4⟩, hP, hY, hJ, hG, hD, hW⟩ := hc
  refine j_aload_n (pc := 0) g 0 dX8_buy_0 rfl rfl ?_
  refine j_iload_n (pc := 1) g 1 dX8_buy_1 rfl rfl ?_
  refine j_cVr (pc := 2) (n := 1) g (c_paperAt (jl X) (jD X) M x _ _ _ _ _ _ _ _ _ _ hx (rowF (al 1) 3) hT1 _) dX8_buy_2 (hx) rfl gX8_buy_X8_paperAt rfl rfl rfl rfl ⟨rfl, by decide, by decide, by decide +kernel⟩ ⟨Nat.le_of_ble_eq_true rfl, Nat.le_of_ble_eq_true rfl⟩ ⟨Nat.le_of_ble_eq_true rfl, Nat.le_of_ble_eq_true rfl⟩ rfl (Nat.le_of_ble_eq_true rfl) ?_
  rcases at_or (g := al 1) (n := 3) (m := 3) (i := its) (by decide) (by decide) with ⟨hdu, hix, hlt, e1⟩ | ⟨hdu, e1⟩
  · rw [e1]
    have hin : iN its 0 2 := hdu
    have hpc := hP.1 _ hlt
    refine astore_n_4_3 (pc := 5) g dX8_buy_5 ?_
    refine j_aload_n (pc := 6) g 3 dX8_buy_6 rfl rfl ?_
    refine j_ifnonnull (pc := 7) g 20 dX8_buy_7 (by decide) ?_
    refine j_iload_n (pc := 20) g 2 dX8_buy_20 rfl rfl ?_
    refine j_iconst (pc := 21) g (1) dX8_buy_21 (by decide) ?_
    refine j_bipush (pc := 22) g (100) dX8_buy_22 (by decide) ?_
    refine j_cSi (pc := 24) (n := 3) g (c_isWithin (jl X) (jD X) _ _ _ _) dX8_buy_24 gX8_buy_X8_isWithin rfl rfl rfl rfl ⟨by decide, by decide, by decide +kernel⟩ ⟨Nat.le_of_ble_eq_true rfl, Nat.le_of_ble_eq_true rfl⟩ ⟨Nat.le_of_ble_eq_true rfl, Nat.le_of_ble_eq_true rfl⟩ rfl (Nat.le_of_ble_eq_true rfl) ?_
    refine j_if_ne (pc := 27) g 40 dX8_buy_27 (by decide) (fun c27 => ?_) (fun c27 => ?_)
    · refine j_aload_n (pc := 40) g 3 dX8_buy_40 rfl rfl ?_
      refine j_get (pc := 41) g dX8_buy_41 (hpc) rfl inX2 0 (by decide) (by decide +kernel) rfl rfl ?_
      refine j_iload_n (pc := 44) g 2 dX8_buy_44 rfl rfl ?_
      refine j_iadd (pc := 45) g dX8_buy_45 ?_
      refine j_sipush (pc := 46) g (1000) dX8_buy_46 (by decide) ?_
      refine j_icmp_le (pc := 49) g 62 dX8_buy_49 (by decide) (fun c49 => ?_) (fun c49 => ?_)
      · refine j_aload_n (pc := 62) g 3 dX8_buy_62 rfl rfl ?_
        refine j_dup (pc := 63) g dX8_buy_63 rfl ?_
        refine j_get (pc := 64) g dX8_buy_64 (hpc) rfl inX2 0 (by decide) (by decide +kernel) rfl rfl ?_
        refine j_iload_n (pc := 67) g 2 dX8_buy_67 rfl rfl ?_
        refine j_iadd (pc := 68) g dX8_buy_68 ?_
        refine j_put (pc := 69) g dX8_buy_69 (hpc) rfl inX2 tyX2 tyX2_ok nmX2 0 (by decide) (by decide +kernel) rfl rfl rfl (rfl) (rfl) (Nat.le_of_ble_eq_true rfl) ?_
        refine j_aload_n (pc := 72) g 3 dX8_buy_72 rfl rfl ?_
        refine j_get (pc := 73) g dX8_buy_73 (xu_s _ _ _) rfl inX2 0 (by decide) (by decide +kernel) rfl rfl ?_
        exact j_iret (pc := 76) g r rfl rfl (⟨by unfold tBuy; rw [if_neg (not_not_intro hin), if_neg (by grind [b01]), if_neg (not_not_intro c49)], rfl, R_pap hc0 hlt (sf.rf.su (by decide)) ⟨su_s, rfl, rfl⟩ (fun i hi => ⟨su_n hi, rfl, rfl⟩)⟩) dX8_buy_76 (Nat.le_of_ble_eq_true rfl) (Nat.le_of_ble_eq_true rfl)
      · exact j_throwS (pc := 52) g t "java/lang/IllegalStateException" "there would be too many sheets" dX8_buy_52 dX8_buy_55 dX8_buy_56 dX8_buy_58 dX8_buy_61 rfl (by decide +kernel) (by decide) (by decide +kernel) (by decide +kernel) atX8_buy_68 atB_68 atG_68 (Nat.le_of_ble_eq_true rfl) (Nat.le_of_ble_eq_true rfl) (Nat.le_of_ble_eq_true rfl) (Nat.le_of_ble_eq_true rfl) (Nat.le_of_ble_eq_true rfl) (Nat.le_of_ble_eq_true rfl) (⟨Or.inr (Or.inr ⟨by unfold tBuy; rw [if_neg (not_not_intro hin), if_neg (by grind [b01]), if_pos c49], rfl⟩), rfl⟩)
    · exact j_throwS (pc := 30) g t "java/lang/IllegalArgumentException" "sheets is out of range" dX8_buy_30 dX8_buy_33 dX8_buy_34 dX8_buy_36 dX8_buy_39 rfl (by decide +kernel) (by decide) (by decide +kernel) (by decide +kernel) atX8_buy_55 atB_55 atG_55 (Nat.le_of_ble_eq_true rfl) (Nat.le_of_ble_eq_true rfl) (Nat.le_of_ble_eq_true rfl) (Nat.le_of_ble_eq_true rfl) (Nat.le_of_ble_eq_true rfl) (Nat.le_of_ble_eq_true rfl) (⟨Or.inr (Or.inl ⟨by unfold tBuy; rw [if_neg (not_not_intro hin), if_pos (by grind [b01])], rfl⟩), rfl⟩)
  · rw [e1]
    have hnin : ¬ iN its 0 2 := hdu
    refine astore_nN_4_3 (pc := 5) g dX8_buy_5 ?_
    refine j_aload_nN (pc := 6) g 3 dX8_buy_6 rfl rfl ?_
    refine j_ifnonnullN (pc := 7) g dX8_buy_7 ?_
    exact j_throwS (pc := 10) g t "java/lang/IndexOutOfBoundsException" "no such paper" dX8_buy_10 dX8_buy_13 dX8_buy_14 dX8_buy_16 dX8_buy_19 rfl (by decide +kernel) (by decide) (by decide +kernel) (by decide +kernel) atX8_buy_100 atB_100 atG_100 (Nat.le_of_ble_eq_true rfl) (Nat.le_of_ble_eq_true rfl) (Nat.le_of_ble_eq_true rfl) (Nat.le_of_ble_eq_true rfl) (Nat.le_of_ble_eq_true rfl) (Nat.le_of_ble_eq_true rfl) (⟨Or.inl ⟨by unfold tBuy; rw [if_pos hnin], rfl⟩, rfl⟩)

set_option maxHeartbeats 400000 in
set_option maxRecDepth 100000 in
theorem k_rise (l : Launch) (D : va_G) (hst : l.stackTraces = false) (M : MH) (x : Nat) (al : Nat → Nat → Nat) (S : ST) (d ns nd : Nat) (hc : CRep M x al S d ns nd) (its b : Int32) : xT l D yX8_rise wsX8_rise ({ frames := 6, cells := 1, slots := 6, locals := 96 }) 1 6 [.ref x, .int its, .int b] (M) (fun v M' => tRise its b = 0 ∧ v = some (.int (S 7 (ix its))) ∧ CRep M' x al (nRise S its b) d ns nd) (fun E M' => xE (tRise its b) eIO eIA "" E ∧ M' = M) := by
  refine xT_of (cc := cX8_rise) (maxL := 4) (ret := (some .int)) (own := RX8) hst [some (.ref x), some (.int its), some (.int b), none] (by decide) rfl rfl (Nat.le_of_ble_eq_true rfl) rfl rfl rfl ?_
  intro X hXl hXD g r t
  subst hXl
  subst hXD
  have inX2 : ∀ w ∈ wsX20, w ∈ wsX8_rise := inwX2_X8_rise
  have hc0 := hc
  obtain ⟨⟨hx, hT0, hT1, hT2, hT3, hT4⟩, hP, hY, hJ, hG, hD, hW⟩ := hc
  refine j_aload_n (pc := 0) g 0 dX8_rise_0 rfl rfl ?_
  refine j_iload_n (pc := 1) g 1 dX8_rise_1 rfl rfl ?_
  refine j_cVr (pc := 2) (n := 1) g (c_paperAt (jl X) (jD X) M x _ _ _ _ _ _ _ _ _ _ hx (rowF (al 1) 3) hT1 _) dX8_rise_2 (hx) rfl gX8_rise_X8_paperAt rfl rfl rfl rfl ⟨rfl, by decide, by decide, by decide +kernel⟩ ⟨Nat.le_of_ble_eq_true rfl, Nat.le_of_ble_eq_true rfl⟩ ⟨Nat.le_of_ble_eq_true rfl, Nat.le_of_ble_eq_true rfl⟩ rfl (Nat.le_of_ble_eq_true rfl) ?_
  rcases at_or (g := al 1) (n := 3) (m := 3) (i := its) (by decide) (by decide) with ⟨hdu, hix, hlt, e1⟩ | ⟨hdu, e1⟩
  · rw [e1]
    have hin : iN its 0 2 := hdu
    have hpc := hP.1 _ hlt
    refine astore_n_4_3 (pc := 5) g dX8_rise_5 ?_
    refine j_aload_n (pc := 6) g 3 dX8_rise_6 rfl rfl ?_
    refine j_ifnonnull (pc := 7) g 20 dX8_rise_7 (by decide) ?_
    refine j_iload_n (pc := 20) g 2 dX8_rise_20 rfl rfl ?_
    refine j_bipush (pc := 21) g (-10) dX8_rise_21 (by decide) ?_
    refine j_bipush (pc := 23) g (10) dX8_rise_23 (by decide) ?_
    refine j_cSi (pc := 25) (n := 3) g (c_isWithin (jl X) (jD X) _ _ _ _) dX8_rise_25 gX8_rise_X8_isWithin rfl rfl rfl rfl ⟨by decide, by decide, by decide +kernel⟩ ⟨Nat.le_of_ble_eq_true rfl, Nat.le_of_ble_eq_true rfl⟩ ⟨Nat.le_of_ble_eq_true rfl, Nat.le_of_ble_eq_true rfl⟩ rfl (Nat.le_of_ble_eq_true rfl) ?_
    refine j_if_ne (pc := 28) g 41 dX8_rise_28 (by decide) (fun c28 => ?_) (fun c28 => ?_)
    · refine j_aload_n (pc := 41) g 3 dX8_rise_41 rfl rfl ?_
      refine j_iload_n (pc := 42) g 2 dX8_rise_42 rfl rfl ?_
      refine j_put (pc := 43) g dX8_rise_43 (hpc) rfl inX2 tyX2 tyX2_ok nmX2 2 (by decide) (by decide +kernel) rfl rfl rfl (rfl) (rfl) (Nat.le_of_ble_eq_true rfl) ?_
      refine j_aload_n (pc := 46) g 3 dX8_rise_46 rfl rfl ?_
      refine j_get (pc := 47) g dX8_rise_47 (xu_s _ _ _) rfl inX2 1 (by decide) (by decide +kernel) rfl rfl ?_
      exact j_iret (pc := 50) g r rfl rfl (⟨by unfold tRise; rw [if_neg (not_not_intro hin), if_neg (by grind [b01])], rfl, R_pap hc0 hlt (sf.rf.su (by decide)) ⟨rfl, rfl, su_s⟩ (fun i hi => ⟨rfl, rfl, su_n hi⟩)⟩) dX8_rise_50 (Nat.le_of_ble_eq_true rfl) (Nat.le_of_ble_eq_true rfl)
    · exact j_throwS (pc := 31) g t "java/lang/IllegalArgumentException" "rise is out of range" dX8_rise_31 dX8_rise_34 dX8_rise_35 dX8_rise_37 dX8_rise_40 rfl (by decide +kernel) (by decide) (by decide +kernel) (by decide +kernel) atX8_rise_55 atB_55 atG_55 (Nat.le_of_ble_eq_true rfl) (Nat.le_of_ble_eq_true rfl) (Nat.le_of_ble_eq_true rfl) (Nat.le_of_ble_eq_true rfl) (Nat.le_of_ble_eq_true rfl) (Nat.le_of_ble_eq_true rfl) (⟨Or.inr (Or.inl ⟨by unfold tRise; rw [if_neg (not_not_intro hin), if_pos (by grind [b01])], rfl⟩), rfl⟩)
  · rw [e1]
    have hnin : ¬ iN its 0 2 := hdu
    refine astore_nN_4_3 (pc := 5) g dX8_rise_5 ?_
    refine j_aload_nN (pc := 6) g 3 dX8_rise_6 rfl rfl ?_
    refine j_ifnonnullN (pc := 7) g dX8_rise_7 ?_
    exact j_throwS (pc := 10) g t "java/lang/IndexOutOfBoundsException" "no such paper" dX8_rise_10 dX8_rise_13 dX8_rise_14 dX8_rise_16 dX8_rise_19 rfl (by decide +kernel) (by decide) (by decide +kernel) (by decide +kernel) atX8_rise_100 atB_100 atG_100 (Nat.le_of_ble_eq_true rfl) (Nat.le_of_ble_eq_true rfl) (Nat.le_of_ble_eq_true rfl) (Nat.le_of_ble_eq_true rfl) (Nat.le_of_ble_eq_true rfl) (Nat.le_of_ble_eq_true rfl) (⟨Or.inl ⟨by unfold tRise; rw [if_pos hnin], rfl⟩, rfl⟩)

set_option maxHeartbeats 400000 in
set_option maxRecDepth 100000 in
theorem k_style (l : Launch) (D : va_G) (hst : l.stackTraces = false) (M : MH) (x : Nat) (al : Nat → Nat → Nat) (S : ST) (d ns nd : Nat) (hc : CRep M x al S d ns nd) (its a b c : Int32) : xT l D yX8_style wsX8_style ({ frames := 6, cells := 1, slots := 6, locals := 96 }) 1 6 [.ref x, .int its, .int a, .int b, .int c] (M) (fun v M' => tStyle its a b c = 0 ∧ v = none ∧ CRep M' x al (nStyle S its a b c) d ns nd) (fun E M' => xE (tStyle its a b c) eIO eIA "" E ∧ M' = M) := by
  refine xT_of (cc := cX8_style) (maxL := 6) (ret := none) (own := RX8) hst [some (.ref x), some (.int its), some (.int a), some (.int b), some (.int c), none] (by decide) rfl rfl (Nat.le_of_ble_eq_true rfl) rfl rfl rfl ?_
  intro X hXl hXD g r t
  subst hXl
  subst hXD
  have inX6 : ∀ w ∈ wsX60, w ∈ wsX8_style := inwX6_X8_style
  have hc0 := hc
  obtain ⟨⟨hx, hT0, hT1, hT2, hT3, hT4⟩, hP, hY, hJ, hG, hD, hW⟩ := hc
  refine j_aload_n (pc := 0) g 0 dX8_style_0 rfl rfl ?_
  refine j_iload_n (pc := 1) g 1 dX8_style_1 rfl rfl ?_
  refine j_cVr (pc := 2) (n := 1) g (c_styleAt (jl X) (jD X) M x _ _ _ _ _ _ _ _ _ _ hx (rowF (al 2) 4) hT2 _) dX8_style_2 (hx) rfl gX8_style_X8_styleAt rfl rfl rfl rfl ⟨rfl, by decide, by decide, by decide +kernel⟩ ⟨Nat.le_of_ble_eq_true rfl, Nat.le_of_ble_eq_true rfl⟩ ⟨Nat.le_of_ble_eq_true rfl, Nat.le_of_ble_eq_true rfl⟩ rfl (Nat.le_of_ble_eq_true rfl) ?_
  rcases at_or (g := al 2) (n := 4) (m := 4) (i := its) (by decide) (by decide) with ⟨hdu, hix, hlt, e1⟩ | ⟨hdu, e1⟩
  · rw [e1]
    have hin : iN its 0 3 := hdu
    have hpc := hY.1 _ hlt
    refine astore_6_5 (pc := 5) g dX8_style_5 ?_
    refine j_aload (pc := 7) g dX8_style_7 rfl ?_
    refine j_ifnonnull (pc := 9) g 22 dX8_style_9 (by decide) ?_
    refine j_iload_n (pc := 22) g 2 dX8_style_22 rfl rfl ?_
    refine j_iconst (pc := 23) g (0) dX8_style_23 (by decide) ?_
    refine j_bipush (pc := 24) g (100) dX8_style_24 (by decide) ?_
    refine j_cSi (pc := 26) (n := 3) g (c_isWithin (jl X) (jD X) _ _ _ _) dX8_style_26 gX8_style_X8_isWithin rfl rfl rfl rfl ⟨by decide, by decide, by decide +kernel⟩ ⟨Nat.le_of_ble_eq_true rfl, Nat.le_of_ble_eq_true rfl⟩ ⟨Nat.le_of_ble_eq_true rfl, Nat.le_of_ble_eq_true rfl⟩ rfl (Nat.le_of_ble_eq_true rfl) ?_
    refine j_if_eq (pc := 29) g 53 dX8_style_29 (by decide) (fun c29 => ?_) (fun c29 => ?_)
    · exact j_throwS (pc := 53) g t "java/lang/IllegalArgumentException" "a weight is out of range" dX8_style_53 dX8_style_56 dX8_style_57 dX8_style_59 dX8_style_62 rfl (by decide +kernel) (by decide) (by decide +kernel) (by decide +kernel) atX8_style_55 atB_55 atG_55 (Nat.le_of_ble_eq_true rfl) (Nat.le_of_ble_eq_true rfl) (Nat.le_of_ble_eq_true rfl) (Nat.le_of_ble_eq_true rfl) (Nat.le_of_ble_eq_true rfl) (Nat.le_of_ble_eq_true rfl) (⟨Or.inr (Or.inl ⟨by unfold tStyle; rw [if_neg (not_not_intro hin), if_pos (by grind [b01])], rfl⟩), rfl⟩)
    · refine j_iload_n (pc := 32) g 3 dX8_style_32 rfl rfl ?_
      refine j_iconst (pc := 33) g (0) dX8_style_33 (by decide) ?_
      refine j_bipush (pc := 34) g (100) dX8_style_34 (by decide) ?_
      refine j_cSi (pc := 36) (n := 3) g (c_isWithin (jl X) (jD X) _ _ _ _) dX8_style_36 gX8_style_X8_isWithin rfl rfl rfl rfl ⟨by decide, by decide, by decide +kernel⟩ ⟨Nat.le_of_ble_eq_true rfl, Nat.le_of_ble_eq_true rfl⟩ ⟨Nat.le_of_ble_eq_true rfl, Nat.le_of_ble_eq_true rfl⟩ rfl (Nat.le_of_ble_eq_true rfl) ?_
      refine j_if_eq (pc := 39) g 53 dX8_style_39 (by decide) (fun c39 => ?_) (fun c39 => ?_)
      · exact j_throwS (pc := 53) g t "java/lang/IllegalArgumentException" "a weight is out of range" dX8_style_53 dX8_style_56 dX8_style_57 dX8_style_59 dX8_style_62 rfl (by decide +kernel) (by decide) (by decide +kernel) (by decide +kernel) atX8_style_55 atB_55 atG_55 (Nat.le_of_ble_eq_true rfl) (Nat.le_of_ble_eq_true rfl) (Nat.le_of_ble_eq_true rfl) (Nat.le_of_ble_eq_true rfl) (Nat.le_of_ble_eq_true rfl) (Nat.le_of_ble_eq_true rfl) (⟨Or.inr (Or.inl ⟨by unfold tStyle; rw [if_neg (not_not_intro hin), if_pos (by grind [b01])], rfl⟩), rfl⟩)
      · refine j_iload (pc := 42) g dX8_style_42 rfl ?_
        refine j_iconst (pc := 44) g (0) dX8_style_44 (by decide) ?_
        refine j_bipush (pc := 45) g (100) dX8_style_45 (by decide) ?_
        refine j_cSi (pc := 47) (n := 3) g (c_isWithin (jl X) (jD X) _ _ _ _) dX8_style_47 gX8_style_X8_isWithin rfl rfl rfl rfl ⟨by decide, by decide, by decide +kernel⟩ ⟨Nat.le_of_ble_eq_true rfl, Nat.le_of_ble_eq_true rfl⟩ ⟨Nat.le_of_ble_eq_true rfl, Nat.le_of_ble_eq_true rfl⟩ rfl (Nat.le_of_ble_eq_true rfl) ?_
        refine j_if_ne (pc := 50) g 63 dX8_style_50 (by decide) (fun c50 => ?_) (fun c50 => ?_)
        · refine j_aload (pc := 63) g dX8_style_63 rfl ?_
          refine j_iload_n (pc := 65) g 2 dX8_style_65 rfl rfl ?_
          refine j_put (pc := 66) g dX8_style_66 (hpc) rfl inX6 tyX6 tyX6_ok nmX6 0 (by decide) (by decide +kernel) rfl rfl rfl (rfl) (rfl) (Nat.le_of_ble_eq_true rfl) ?_
          refine j_aload (pc := 69) g dX8_style_69 rfl ?_
          refine j_iload_n (pc := 71) g 3 dX8_style_71 rfl rfl ?_
          refine j_put (pc := 72) g dX8_style_72 (xu_s _ _ _) rfl inX6 tyX6 tyX6_ok nmX6 1 (by decide) (by decide +kernel) rfl rfl rfl (rfl) (rfl) (Nat.le_of_ble_eq_true rfl) ?_
          refine j_aload (pc := 75) g dX8_style_75 rfl ?_
          refine j_iload (pc := 77) g dX8_style_77 rfl ?_
          refine j_put (pc := 79) g dX8_style_79 (xu_s _ _ _) rfl inX6 tyX6 tyX6_ok nmX6 2 (by decide) (by decide +kernel) rfl rfl rfl (rfl) (rfl) (Nat.le_of_ble_eq_true rfl) ?_
          exact j_vret (pc := 82) g r rfl  (⟨by unfold tStyle; rw [if_neg (not_not_intro hin), if_neg (by grind [b01])], rfl, by rw [xu_xu, xu_xu]; exact R_sty hc0 hlt (((sf.rf.su (by decide)).su (by decide)).su (by decide)) ⟨by unfold nStyle; rw [su_n (by omega), su_n (by omega), su_s], by unfold nStyle; rw [su_n (by omega), su_s], by unfold nStyle; rw [su_s]⟩ (fun i hi => by unfold nStyle; refine ⟨?_, ?_, ?_⟩ <;> rw [su_n (by omega), su_n (by omega), su_n (by omega)])⟩) dX8_style_82 (Nat.le_of_ble_eq_true rfl) (Nat.le_of_ble_eq_true rfl)
        · exact j_throwS (pc := 53) g t "java/lang/IllegalArgumentException" "a weight is out of range" dX8_style_53 dX8_style_56 dX8_style_57 dX8_style_59 dX8_style_62 rfl (by decide +kernel) (by decide) (by decide +kernel) (by decide +kernel) atX8_style_55 atB_55 atG_55 (Nat.le_of_ble_eq_true rfl) (Nat.le_of_ble_eq_true rfl) (Nat.le_of_ble_eq_true rfl) (Nat.le_of_ble_eq_true rfl) (Nat.le_of_ble_eq_true rfl) (Nat.le_of_ble_eq_true rfl) (⟨Or.inr (Or.inl ⟨by unfold tStyle; rw [if_neg (not_not_intro hin), if_pos (by grind [b01])], rfl⟩), rfl⟩)
  · rw [e1]
    have hnin : ¬ iN its 0 3 := hdu
    refine astoreN_6_5 (pc := 5) g dX8_style_5 ?_
    refine j_aloadN (pc := 7) g dX8_style_7 rfl ?_
    refine j_ifnonnullN (pc := 9) g dX8_style_9 ?_
    exact j_throwS (pc := 12) g t "java/lang/IndexOutOfBoundsException" "no such style" dX8_style_12 dX8_style_15 dX8_style_16 dX8_style_18 dX8_style_21 rfl (by decide +kernel) (by decide) (by decide +kernel) (by decide +kernel) atX8_style_100 atB_100 atG_100 (Nat.le_of_ble_eq_true rfl) (Nat.le_of_ble_eq_true rfl) (Nat.le_of_ble_eq_true rfl) (Nat.le_of_ble_eq_true rfl) (Nat.le_of_ble_eq_true rfl) (Nat.le_of_ble_eq_true rfl) (⟨Or.inl ⟨by unfold tStyle; rw [if_pos hnin], rfl⟩, rfl⟩)

set_option maxHeartbeats 400000 in
set_option maxRecDepth 100000 in
theorem k_learn (l : Launch) (D : va_G) (hst : l.stackTraces = false) (M : MH) (x : Nat) (al : Nat → Nat → Nat) (S : ST) (d ns nd : Nat) (hc : CRep M x al S d ns nd) (hle : ∀ j, j < 16 → S 11 j = -1 ∨ S 11 j ≤ S 0 0) (w s : Int32) : xT l D yX8_learn wsX8_learn ({ frames := 6, cells := 1, slots := 6, locals := 96 }) 1 6 [.ref x, .int w, .int s] (M) (fun v M' => tLearn S w s = 0 ∧ v = some (.int (cntL (nLearn S w s) (ix w) 4)) ∧ CRep M' x al (nLearn S w s) d ns nd) (fun E M' => xE (tLearn S w s) eIO eIS "" E ∧ M' = M) := by
  refine xT_of (cc := cX8_learn) (maxL := 4) (ret := (some .int)) (own := RX8) hst [some (.ref x), some (.int w), some (.int s), none] (by decide) rfl rfl (Nat.le_of_ble_eq_true rfl) rfl rfl rfl ?_
  intro X hXl hXD g r t
  subst hXl
  subst hXD
  have inX8 : ∀ w ∈ wsX80, w ∈ wsX8_learn := inwX8_X8_learn
  have hc0 := hc
  obtain ⟨⟨hx, hT0, hT1, hT2, hT3, hT4⟩, hP, hY, hJ, hG, hD, hW⟩ := hc
  refine j_aload_n (pc := 0) g 0 dX8_learn_0 rfl rfl ?_
  refine j_iload_n (pc := 1) g 1 dX8_learn_1 rfl rfl ?_
  refine j_cVr (pc := 2) (n := 1) g (c_judgeAt (jl X) (jD X) M x _ _ _ _ _ _ _ _ _ _ hx (rowF (al 3) 4) hT3 _) dX8_learn_2 (hx) rfl gX8_learn_X8_judgeAt rfl rfl rfl rfl ⟨rfl, by decide, by decide, by decide +kernel⟩ ⟨Nat.le_of_ble_eq_true rfl, Nat.le_of_ble_eq_true rfl⟩ ⟨Nat.le_of_ble_eq_true rfl, Nat.le_of_ble_eq_true rfl⟩ rfl (Nat.le_of_ble_eq_true rfl) ?_
  rcases at_or (g := al 3) (n := 4) (m := 4) (i := w) (by decide) (by decide) with ⟨hwu, hwx, hwl, e1⟩ | ⟨hwu, e1⟩
  · rw [e1]
    have hwi : iN w 0 3 := hwu
    obtain ⟨hj1, fj, hj2, hj3⟩ := hJ.1 _ hwl
    refine astore_n_4_3 (pc := 5) g dX8_learn_5 ?_
    refine j_aload_n (pc := 6) g 3 dX8_learn_6 rfl rfl ?_
    refine j_ifnull (pc := 7) g dX8_learn_7 ?_
    refine j_aload_n (pc := 10) g 0 dX8_learn_10 rfl rfl ?_
    refine j_iload_n (pc := 11) g 2 dX8_learn_11 rfl rfl ?_
    refine j_cVr (pc := 12) (n := 1) g (c_styleAt (jl X) (jD X) M x _ _ _ _ _ _ _ _ _ _ hx (rowF (al 2) 4) hT2 _) dX8_learn_12 (hx) rfl gX8_learn_X8_styleAt rfl rfl rfl rfl ⟨rfl, by decide, by decide, by decide +kernel⟩ ⟨Nat.le_of_ble_eq_true rfl, Nat.le_of_ble_eq_true rfl⟩ ⟨Nat.le_of_ble_eq_true rfl, Nat.le_of_ble_eq_true rfl⟩ rfl (Nat.le_of_ble_eq_true rfl) ?_
    rcases at_or (g := al 2) (n := 4) (m := 4) (i := s) (by decide) (by decide) with ⟨hsu, hsx, hsl, e2⟩ | ⟨hsu, e2⟩
    · rw [e2]
      have hsi : iN s 0 3 := hsu
      have hj4 := hj3 _ hsl
      have hl9 := hle (4 * ix w + ix s) (by omega)
      refine j_ifnonnull (pc := 15) g 28 dX8_learn_15 (by decide) ?_
      refine j_aload_n (pc := 28) g 3 dX8_learn_28 rfl rfl ?_
      refine j_iload_n (pc := 29) g 2 dX8_learn_29 rfl rfl ?_
      refine j_aload_n (pc := 30) g 0 dX8_learn_30 rfl rfl ?_
      refine j_get (pc := 31) g dX8_learn_31 (by assumption) rfl inX8 9 (by decide) (by decide +kernel) rfl rfl ?_
      refine j_cVi (pc := 34) (n := 2) g (c_knowsOnV (jl X) (jD X) M _ _ (ix s) fj hj1 hj2 hsl _ hsx _) dX8_learn_34 (hj1) rfl gX8_learn_X1_knowsOn rfl rfl rfl rfl ⟨rfl, by decide, by decide, by decide +kernel⟩ ⟨Nat.le_of_ble_eq_true rfl, Nat.le_of_ble_eq_true rfl⟩ ⟨Nat.le_of_ble_eq_true rfl, Nat.le_of_ble_eq_true rfl⟩ rfl (Nat.le_of_ble_eq_true rfl) ?_
      refine j_topi (b01 (¬ S 11 (4 * ix w + ix s) = -1 ∧ S 11 (4 * ix w + ix s) ≤ S 0 0)) (by rw [hj4]) ?_
      refine j_if_eq (pc := 37) g 50 dX8_learn_37 (by decide) (fun c37 => ?_) (fun c37 => ?_)
      · refine j_aload_n (pc := 50) g 3 dX8_learn_50 rfl rfl ?_
        refine j_iload_n (pc := 51) g 2 dX8_learn_51 rfl rfl ?_
        refine j_aload_n (pc := 52) g 0 dX8_learn_52 rfl rfl ?_
        refine j_get (pc := 53) g dX8_learn_53 (by assumption) rfl inX8 9 (by decide) (by decide +kernel) rfl rfl ?_
        refine j_cVv (pc := 56) (n := 2) g (c_takeUpV (jl X) (jD X) M _ _ (ix s) fj hj1 hj2 hsl _ hsx _) dX8_learn_56 (hj1) rfl gX8_learn_X1_takeUp rfl rfl rfl rfl ⟨rfl, by decide, by decide, by decide +kernel⟩ ⟨Nat.le_of_ble_eq_true rfl, Nat.le_of_ble_eq_true rfl⟩ ⟨Nat.le_of_ble_eq_true rfl, Nat.le_of_ble_eq_true rfl⟩ rfl (Nat.le_of_ble_eq_true rfl) ?_
        have hj8 := xu_o (e' := aI 4 (upd fj (ix s) (S 0 0))) hj1 hj2 (by simp)
        have hun : S 11 (4 * ix w + ix s) = -1 := by grind [b01]
        refine j_aload_n (pc := 59) g 3 dX8_learn_59 rfl rfl ?_
        refine j_cVi (pc := 60) (n := 0) g (c_countKnown (jl X) (jD X) _ (al 3 (ix w)) (al 4 (ix w)) (upd fj (ix s) (S 0 0)) hj8 (xu_s _ _ _)) dX8_learn_60 (hj8) rfl gX8_learn_X1_countKnown rfl rfl rfl rfl ⟨rfl, by decide, by decide, by decide +kernel⟩ ⟨Nat.le_of_ble_eq_true rfl, Nat.le_of_ble_eq_true rfl⟩ ⟨Nat.le_of_ble_eq_true rfl, Nat.le_of_ble_eq_true rfl⟩ rfl (Nat.le_of_ble_eq_true rfl) ?_
        exact j_iret (pc := 63) g r rfl rfl (⟨by unfold tLearn; rw [if_neg (not_not_intro ⟨hwi, hsi⟩), if_neg (not_not_intro hun)], by rw [cntf_L 4 (upd_11 hj3)]; rfl, R_jud hc0 hwl hsl hj2 hj3⟩) dX8_learn_63 (Nat.le_of_ble_eq_true rfl) (Nat.le_of_ble_eq_true rfl)
      · exact j_throwS (pc := 40) g t "java/lang/IllegalStateException" "the judge knows it" dX8_learn_40 dX8_learn_43 dX8_learn_44 dX8_learn_46 dX8_learn_49 rfl (by decide +kernel) (by decide) (by decide +kernel) (by decide +kernel) atX8_learn_68 atB_68 atG_68 (Nat.le_of_ble_eq_true rfl) (Nat.le_of_ble_eq_true rfl) (Nat.le_of_ble_eq_true rfl) (Nat.le_of_ble_eq_true rfl) (Nat.le_of_ble_eq_true rfl) (Nat.le_of_ble_eq_true rfl) (⟨Or.inr (Or.inl ⟨by unfold tLearn; rw [if_neg (not_not_intro ⟨hwi, hsi⟩), if_pos (fun z => c37 (if_neg (fun q => q.1 z)))], rfl⟩), rfl⟩)
    · rw [e2]
      have hsi : ¬ iN s 0 3 := hsu
      refine j_ifnonnullN (pc := 15) g dX8_learn_15 ?_
      exact j_throwS (pc := 18) g t "java/lang/IndexOutOfBoundsException" "no such judge or style" dX8_learn_18 dX8_learn_21 dX8_learn_22 dX8_learn_24 dX8_learn_27 rfl (by decide +kernel) (by decide) (by decide +kernel) (by decide +kernel) atX8_learn_100 atB_100 atG_100 (Nat.le_of_ble_eq_true rfl) (Nat.le_of_ble_eq_true rfl) (Nat.le_of_ble_eq_true rfl) (Nat.le_of_ble_eq_true rfl) (Nat.le_of_ble_eq_true rfl) (Nat.le_of_ble_eq_true rfl) (⟨Or.inl ⟨by unfold tLearn; rw [if_pos (fun z => hsi z.2)], rfl⟩, rfl⟩)
  · rw [e1]
    have hwi : ¬ iN w 0 3 := hwu
    refine astore_nN_4_3 (pc := 5) g dX8_learn_5 ?_
    refine j_aload_nN (pc := 6) g 3 dX8_learn_6 rfl rfl ?_
    refine j_ifnullN (pc := 7) g 18 dX8_learn_7 (by decide) ?_
    exact j_throwS (pc := 18) g t "java/lang/IndexOutOfBoundsException" "no such judge or style" dX8_learn_18 dX8_learn_21 dX8_learn_22 dX8_learn_24 dX8_learn_27 rfl (by decide +kernel) (by decide) (by decide +kernel) (by decide +kernel) atX8_learn_100 atB_100 atG_100 (Nat.le_of_ble_eq_true rfl) (Nat.le_of_ble_eq_true rfl) (Nat.le_of_ble_eq_true rfl) (Nat.le_of_ble_eq_true rfl) (Nat.le_of_ble_eq_true rfl) (Nat.le_of_ble_eq_true rfl) (⟨Or.inl ⟨by unfold tLearn; rw [if_pos (fun z => hwi z.1)], rfl⟩, rfl⟩)
