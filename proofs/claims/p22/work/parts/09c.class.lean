set_option maxHeartbeats 400000 in
set_option maxRecDepth 100000 in
theorem c_squaredWay (l : Launch) (D : va_G) (M : MH) (a : Nat) (px py pex pey : Int32) (ha : M a = some (oB 4 [.int px, .int py, .int pex, .int pey])) : xC l D yX4_squaredWay wsX4_squaredWay ({ frames := 0, cells := 0, slots := 0, locals := 0 }) 0 0 [.ref a] (M) (xq (some (.int (slN (pex - px) (pey - py)))) M) := by
  refine xC_of (cc := cX4_squaredWay) (maxL := 1) (ret := (some .int)) (own := RX4) [some (.ref a)] (by decide) rfl rfl (Nat.le_of_ble_eq_true rfl) rfl rfl rfl ?_
  intro X hXl hXD g r
  subst hXl
  subst hXD
  have inX4 : ∀ w ∈ wsX40, w ∈ wsX4_squaredWay := inwX4_X4_squaredWay
  refine j_aload_n (pc := 0) g 0 dX4_squaredWay_0 rfl rfl ?_
  refine j_get (pc := 1) g dX4_squaredWay_1 (by assumption) rfl inX4 2 (by decide) (by decide +kernel) rfl rfl ?_
  refine j_aload_n (pc := 4) g 0 dX4_squaredWay_4 rfl rfl ?_
  refine j_get (pc := 5) g dX4_squaredWay_5 (by assumption) rfl inX4 0 (by decide) (by decide +kernel) rfl rfl ?_
  refine j_isub (pc := 8) g dX4_squaredWay_8 ?_
  refine j_aload_n (pc := 9) g 0 dX4_squaredWay_9 rfl rfl ?_
  refine j_get (pc := 10) g dX4_squaredWay_10 (by assumption) rfl inX4 2 (by decide) (by decide +kernel) rfl rfl ?_
  refine j_aload_n (pc := 13) g 0 dX4_squaredWay_13 rfl rfl ?_
  refine j_get (pc := 14) g dX4_squaredWay_14 (by assumption) rfl inX4 0 (by decide) (by decide +kernel) rfl rfl ?_
  refine j_isub (pc := 17) g dX4_squaredWay_17 ?_
  refine j_imul (pc := 18) g dX4_squaredWay_18 ?_
  refine j_aload_n (pc := 19) g 0 dX4_squaredWay_19 rfl rfl ?_
  refine j_get (pc := 20) g dX4_squaredWay_20 (by assumption) rfl inX4 3 (by decide) (by decide +kernel) rfl rfl ?_
  refine j_aload_n (pc := 23) g 0 dX4_squaredWay_23 rfl rfl ?_
  refine j_get (pc := 24) g dX4_squaredWay_24 (by assumption) rfl inX4 1 (by decide) (by decide +kernel) rfl rfl ?_
  refine j_isub (pc := 27) g dX4_squaredWay_27 ?_
  refine j_aload_n (pc := 28) g 0 dX4_squaredWay_28 rfl rfl ?_
  refine j_get (pc := 29) g dX4_squaredWay_29 (by assumption) rfl inX4 3 (by decide) (by decide +kernel) rfl rfl ?_
  refine j_aload_n (pc := 32) g 0 dX4_squaredWay_32 rfl rfl ?_
  refine j_get (pc := 33) g dX4_squaredWay_33 (by assumption) rfl inX4 1 (by decide) (by decide +kernel) rfl rfl ?_
  refine j_isub (pc := 36) g dX4_squaredWay_36 ?_
  refine j_imul (pc := 37) g dX4_squaredWay_37 ?_
  refine j_iadd (pc := 38) g dX4_squaredWay_38 ?_
  exact j_iret (pc := 39) g r rfl rfl (⟨rfl, rfl⟩) dX4_squaredWay_39 (Nat.le_of_ble_eq_true rfl) (Nat.le_of_ble_eq_true rfl)

set_option maxHeartbeats 400000 in
set_option maxRecDepth 100000 in
theorem c_nearnessTo (l : Launch) (D : va_G) (M : MH) (a b : Nat) (px py pex pey qx qy qex qey : Int32) (ha : M a = some (oB 4 [.int px, .int py, .int pex, .int pey])) (hb : M b = some (oB 4 [.int qx, .int qy, .int qex, .int qey])) (hp : okS px py pex pey) (hq : okS qx qy qex qey) (wet : Int32) (hw : rg wet 0 100) : xC l D yX4_nearnessTo wsX4_nearnessTo ({ frames := 1, cells := 0, slots := 0, locals := 24 }) 0 0 [.ref a, .ref b, .int wet] (M) (xq (some (.float (nearV (sum4 px py pex pey qx qy qex qey) wet))) M) := by
  refine xC_of (cc := cX4_nearnessTo) (maxL := 5) (ret := (some .float)) (own := RX4) [some (.ref a), some (.ref b), some (.int wet), none, none] (by decide) rfl rfl (Nat.le_of_ble_eq_true rfl) rfl rfl rfl ?_
  intro X hXl hXD g r
  subst hXl
  subst hXD
  have inX4 : ∀ w ∈ wsX40, w ∈ wsX4_nearnessTo := inwX4_X4_nearnessTo
  have hr := sum4_rg hp hq
  refine j_aload_n (pc := 0) g 0 dX4_nearnessTo_0 rfl rfl ?_
  refine j_get (pc := 1) g dX4_nearnessTo_1 (by assumption) rfl inX4 0 (by decide) (by decide +kernel) rfl rfl ?_
  refine j_aload_n (pc := 4) g 1 dX4_nearnessTo_4 rfl rfl ?_
  refine j_get (pc := 5) g dX4_nearnessTo_5 (by assumption) rfl inX4 0 (by decide) (by decide +kernel) rfl rfl ?_
  refine j_isub (pc := 8) g dX4_nearnessTo_8 ?_
  refine j_mabs (pc := 9) g dX4_nearnessTo_9 (by decide +kernel) (by decide +kernel) (by decide +kernel) (by decide +kernel) (Nat.le_of_ble_eq_true rfl) (Nat.le_of_ble_eq_true rfl) (Nat.le_of_ble_eq_true rfl) (Nat.le_of_ble_eq_true rfl) ?_
  refine j_topi (amI (px - qx)) am_abs ?_
  refine j_aload_n (pc := 12) g 0 dX4_nearnessTo_12 rfl rfl ?_
  refine j_get (pc := 13) g dX4_nearnessTo_13 (by assumption) rfl inX4 1 (by decide) (by decide +kernel) rfl rfl ?_
  refine j_aload_n (pc := 16) g 1 dX4_nearnessTo_16 rfl rfl ?_
  refine j_get (pc := 17) g dX4_nearnessTo_17 (by assumption) rfl inX4 1 (by decide) (by decide +kernel) rfl rfl ?_
  refine j_isub (pc := 20) g dX4_nearnessTo_20 ?_
  refine j_mabs (pc := 21) g dX4_nearnessTo_21 (by decide +kernel) (by decide +kernel) (by decide +kernel) (by decide +kernel) (Nat.le_of_ble_eq_true rfl) (Nat.le_of_ble_eq_true rfl) (Nat.le_of_ble_eq_true rfl) (Nat.le_of_ble_eq_true rfl) ?_
  refine j_topi (amI (py - qy)) am_abs ?_
  refine j_iadd (pc := 24) g dX4_nearnessTo_24 ?_
  refine j_aload_n (pc := 25) g 0 dX4_nearnessTo_25 rfl rfl ?_
  refine j_get (pc := 26) g dX4_nearnessTo_26 (by assumption) rfl inX4 2 (by decide) (by decide +kernel) rfl rfl ?_
  refine j_aload_n (pc := 29) g 1 dX4_nearnessTo_29 rfl rfl ?_
  refine j_get (pc := 30) g dX4_nearnessTo_30 (by assumption) rfl inX4 2 (by decide) (by decide +kernel) rfl rfl ?_
  refine j_isub (pc := 33) g dX4_nearnessTo_33 ?_
  refine j_mabs (pc := 34) g dX4_nearnessTo_34 (by decide +kernel) (by decide +kernel) (by decide +kernel) (by decide +kernel) (Nat.le_of_ble_eq_true rfl) (Nat.le_of_ble_eq_true rfl) (Nat.le_of_ble_eq_true rfl) (Nat.le_of_ble_eq_true rfl) ?_
  refine j_topi (amI (pex - qex)) am_abs ?_
  refine j_iadd (pc := 37) g dX4_nearnessTo_37 ?_
  refine j_aload_n (pc := 38) g 0 dX4_nearnessTo_38 rfl rfl ?_
  refine j_get (pc := 39) g dX4_nearnessTo_39 (by assumption) rfl inX4 3 (by decide) (by decide +kernel) rfl rfl ?_
  refine j_aload_n (pc := 42) g 1 dX4_nearnessTo_42 rfl rfl ?_
  refine j_get (pc := 43) g dX4_nearnessTo_43 (by assumption) rfl inX4 3 (by decide) (by decide +kernel) rfl rfl ?_
  refine j_isub (pc := 46) g dX4_nearnessTo_46 ?_
  refine j_mabs (pc := 47) g dX4_nearnessTo_47 (by decide +kernel) (by decide +kernel) (by decide +kernel) (by decide +kernel) (Nat.le_of_ble_eq_true rfl) (Nat.le_of_ble_eq_true rfl) (Nat.le_of_ble_eq_true rfl) (Nat.le_of_ble_eq_true rfl) ?_
  refine j_topi (amI (pey - qey)) am_abs ?_
  refine j_iadd (pc := 50) g dX4_nearnessTo_50 ?_
  refine j_topi (sum4 px py pex pey qx qy qex qey) rfl ?_
  refine istore_n_5_3 (pc := 51) g dX4_nearnessTo_51 ?_
  refine j_ldcf (pc := 52) g 1092616192 dX4_nearnessTo_52 (by decide +kernel) ?_
  refine j_iload_n (pc := 54) g 3 dX4_nearnessTo_54 rfl rfl ?_
  refine j_i2f (pc := 55) g dX4_nearnessTo_55 ?_
  refine j_ldcf (pc := 56) g 1092616192 dX4_nearnessTo_56 (by decide +kernel) ?_
  refine j_fdiv (pc := 58) g dX4_nearnessTo_58 (fl_n (near_1 hr) (by decide)) ?_
  refine j_fsub (pc := 59) g dX4_nearnessTo_59 (fl_n (near_2 hr) (by decide)) ?_
  refine j_topf (nearA (sum4 px py pex pey qx qy qex qey)) rfl ?_
  refine fstore_5_4 (pc := 60) g dX4_nearnessTo_60 ?_
  have K75 : ∀ (v : UInt32) (hv : v = abF (nearA (sum4 px py pex pey qx qy qex qey))), J X 5 0 0 (M) [some (.ref a), some (.ref b), some (.int wet), some (.int (sum4 px py pex pey qx qy qex qey)), some (.float (nearA (sum4 px py pex pey qx qy qex qey)))] [.float v] 75 := by
    intro v hv
    subst hv
    refine fstore_5_4 (pc := 75) g dX4_nearnessTo_75 ?_
    refine j_fload (pc := 77) g dX4_nearnessTo_77 rfl ?_
    refine j_fconst1 (pc := 79) g dX4_nearnessTo_79 ?_
    refine j_iload_n (pc := 80) g 2 dX4_nearnessTo_80 rfl rfl ?_
    refine j_i2f (pc := 81) g dX4_nearnessTo_81 ?_
    refine j_ldcf (pc := 82) g 1128792064 dX4_nearnessTo_82 (by decide +kernel) ?_
    refine j_fdiv (pc := 84) g dX4_nearnessTo_84 (fl_n (near_3 hw) (by decide)) ?_
    refine j_fsub (pc := 85) g dX4_nearnessTo_85 (fl_n (near_4 hw) (by decide)) ?_
    refine j_fmul (pc := 86) g dX4_nearnessTo_86 (fl_n (near_5 hr hw) (by decide)) ?_
    exact j_fret (pc := 87) g r rfl  (xq_f rfl rfl) dX4_nearnessTo_87 (Nat.le_of_ble_eq_true rfl) (Nat.le_of_ble_eq_true rfl)
  refine j_fload (pc := 62) g dX4_nearnessTo_62 rfl ?_
  refine j_fconst0 (pc := 64) g dX4_nearnessTo_64 ?_
  refine j_fcmp (pc := 65) g dX4_nearnessTo_65 ?_
  refine j_if_ge (pc := 66) g 73 dX4_nearnessTo_66 (by decide) (fun c66 => ?_) (fun c66 => ?_)
  · refine j_fload (pc := 73) g dX4_nearnessTo_73 rfl ?_
    exact K75 _ (by rw [← near_cl hr]; unfold clF; first | exact (if_pos c66).symm | exact (if_neg c66).symm)
  · refine j_fconst0 (pc := 69) g dX4_nearnessTo_69 ?_
    refine j_goto (pc := 70) g 75 dX4_nearnessTo_70 (by decide) ?_
    exact K75 _ (by rw [← near_cl hr]; unfold clF; first | exact (if_pos c66).symm | exact (if_neg c66).symm)

set_option maxHeartbeats 400000 in
set_option maxRecDepth 100000 in
theorem c_slopeTo (l : Launch) (D : va_G) (M : MH) (a b : Nat) (px py pex pey qx qy qex qey : Int32) (ha : M a = some (oB 4 [.int px, .int py, .int pex, .int pey])) (hb : M b = some (oB 4 [.int qx, .int qy, .int qex, .int qey])) (hp : okS px py pex pey) (hq : okS qx qy qex qey) : xC l D yX4_slopeTo wsX4_slopeTo ({ frames := 1, cells := 0, slots := 0, locals := 20 }) 0 0 [.ref a, .ref b] (M) (xq (some (.float (slopeV (pex - px) (pey - py) (qex - qx) (qey - qy)))) M) := by
  refine xC_of (cc := cX4_slopeTo) (maxL := 7) (ret := (some .float)) (own := RX4) [some (.ref a), some (.ref b), none, none, none, none, none] (by decide) rfl rfl (Nat.le_of_ble_eq_true rfl) rfl rfl rfl ?_
  intro X hXl hXD g r
  subst hXl
  subst hXD
  have inX4 : ∀ w ∈ wsX40, w ∈ wsX4_slopeTo := inwX4_X4_slopeTo
  have w1 := okS_way hp
  have w2 := okS_way hq
  refine j_aload_n (pc := 0) g 0 dX4_slopeTo_0 rfl rfl ?_
  refine j_cVi (pc := 1) (n := 0) g (c_squaredWay (jl X) (jD X) _ _ _ _ _ _ ha) dX4_slopeTo_1 (by assumption) rfl gX4_slopeTo_X4_squaredWay rfl rfl rfl rfl ⟨rfl, by decide, by decide, by decide +kernel⟩ ⟨Nat.le_of_ble_eq_true rfl, Nat.le_of_ble_eq_true rfl⟩ ⟨Nat.le_of_ble_eq_true rfl, Nat.le_of_ble_eq_true rfl⟩ rfl (Nat.le_of_ble_eq_true rfl) ?_
  refine j_i2f (pc := 4) g dX4_slopeTo_4 ?_
  refine fstore_n_7_2 (pc := 5) g dX4_slopeTo_5 ?_
  refine j_aload_n (pc := 6) g 1 dX4_slopeTo_6 rfl rfl ?_
  refine j_cVi (pc := 7) (n := 0) g (c_squaredWay (jl X) (jD X) _ _ _ _ _ _ hb) dX4_slopeTo_7 (by assumption) rfl gX4_slopeTo_X4_squaredWay rfl rfl rfl rfl ⟨rfl, by decide, by decide, by decide +kernel⟩ ⟨Nat.le_of_ble_eq_true rfl, Nat.le_of_ble_eq_true rfl⟩ ⟨Nat.le_of_ble_eq_true rfl, Nat.le_of_ble_eq_true rfl⟩ rfl (Nat.le_of_ble_eq_true rfl) ?_
  refine j_i2f (pc := 10) g dX4_slopeTo_10 ?_
  refine fstore_n_7_3 (pc := 11) g dX4_slopeTo_11 ?_
  refine j_fload_n (pc := 12) g 2 dX4_slopeTo_12 rfl rfl ?_
  refine j_fconst0 (pc := 13) g dX4_slopeTo_13 ?_
  refine j_fcmp (pc := 14) g dX4_slopeTo_14 ?_
  refine j_if_le (pc := 15) g 24 dX4_slopeTo_15 (by decide) (fun c15 => absurd c15 (by rw [i2f_gt (sl_n w1)]; decide)) (fun c15 => ?_)
  refine j_fload_n (pc := 18) g 3 dX4_slopeTo_18 rfl rfl ?_
  refine j_fconst0 (pc := 19) g dX4_slopeTo_19 ?_
  refine j_fcmp (pc := 20) g dX4_slopeTo_20 ?_
  refine j_if_gt (pc := 21) g 26 dX4_slopeTo_21 (by decide) (fun c21 => ?_) (fun c21 => absurd (by rw [i2f_gt (sl_n w2)]; decide) c21)
  refine j_aload_n (pc := 26) g 0 dX4_slopeTo_26 rfl rfl ?_
  refine j_get (pc := 27) g dX4_slopeTo_27 (by assumption) rfl inX4 2 (by decide) (by decide +kernel) rfl rfl ?_
  refine j_aload_n (pc := 30) g 0 dX4_slopeTo_30 rfl rfl ?_
  refine j_get (pc := 31) g dX4_slopeTo_31 (by assumption) rfl inX4 0 (by decide) (by decide +kernel) rfl rfl ?_
  refine j_isub (pc := 34) g dX4_slopeTo_34 ?_
  refine j_aload_n (pc := 35) g 1 dX4_slopeTo_35 rfl rfl ?_
  refine j_get (pc := 36) g dX4_slopeTo_36 (by assumption) rfl inX4 2 (by decide) (by decide +kernel) rfl rfl ?_
  refine j_aload_n (pc := 39) g 1 dX4_slopeTo_39 rfl rfl ?_
  refine j_get (pc := 40) g dX4_slopeTo_40 (by assumption) rfl inX4 0 (by decide) (by decide +kernel) rfl rfl ?_
  refine j_isub (pc := 43) g dX4_slopeTo_43 ?_
  refine j_imul (pc := 44) g dX4_slopeTo_44 ?_
  refine j_aload_n (pc := 45) g 0 dX4_slopeTo_45 rfl rfl ?_
  refine j_get (pc := 46) g dX4_slopeTo_46 (by assumption) rfl inX4 3 (by decide) (by decide +kernel) rfl rfl ?_
  refine j_aload_n (pc := 49) g 0 dX4_slopeTo_49 rfl rfl ?_
  refine j_get (pc := 50) g dX4_slopeTo_50 (by assumption) rfl inX4 1 (by decide) (by decide +kernel) rfl rfl ?_
  refine j_isub (pc := 53) g dX4_slopeTo_53 ?_
  refine j_aload_n (pc := 54) g 1 dX4_slopeTo_54 rfl rfl ?_
  refine j_get (pc := 55) g dX4_slopeTo_55 (by assumption) rfl inX4 3 (by decide) (by decide +kernel) rfl rfl ?_
  refine j_aload_n (pc := 58) g 1 dX4_slopeTo_58 rfl rfl ?_
  refine j_get (pc := 59) g dX4_slopeTo_59 (by assumption) rfl inX4 1 (by decide) (by decide +kernel) rfl rfl ?_
  refine j_isub (pc := 62) g dX4_slopeTo_62 ?_
  refine j_imul (pc := 63) g dX4_slopeTo_63 ?_
  refine j_iadd (pc := 64) g dX4_slopeTo_64 ?_
  refine j_topi (slP (pex - px) (pey - py) (qex - qx) (qey - qy)) rfl ?_
  refine j_i2f (pc := 65) g dX4_slopeTo_65 ?_
  refine fstore_7_4 (pc := 66) g dX4_slopeTo_66 ?_
  have K83 : ∀ (v : UInt32) (hv : v = FP.i2f (amI (slP (pex - px) (pey - py) (qex - qx) (qey - qy)))), J X 7 0 0 (M) [some (.ref a), some (.ref b), some (.float (FP.i2f (slN (pex - px) (pey - py)))), some (.float (FP.i2f (slN (qex - qx) (qey - qy)))), some (.float (FP.i2f (slP (pex - px) (pey - py) (qex - qx) (qey - qy)))), none, none] [.float v] 83 := by
    intro v hv
    subst hv
    refine fstore_7_5 (pc := 83) g dX4_slopeTo_83 ?_
    refine j_fload (pc := 85) g dX4_slopeTo_85 rfl ?_
    refine j_fload (pc := 87) g dX4_slopeTo_87 rfl ?_
    refine j_fmul (pc := 89) g dX4_slopeTo_89 (fl_n (sl_1 w1 w2) (by decide)) ?_
    refine j_fload_n (pc := 90) g 2 dX4_slopeTo_90 rfl rfl ?_
    refine j_fdiv (pc := 91) g dX4_slopeTo_91 (fl_n (sl_2 w1 w2) (by decide)) ?_
    refine j_fload_n (pc := 92) g 3 dX4_slopeTo_92 rfl rfl ?_
    refine j_fdiv (pc := 93) g dX4_slopeTo_93 (fl_n (sl_3 w1 w2) (by decide)) ?_
    refine j_ldcf (pc := 94) g 1092616192 dX4_slopeTo_94 (by decide +kernel) ?_
    refine j_fmul (pc := 96) g dX4_slopeTo_96 (fl_n (sl_4 w1 w2) (by decide)) ?_
    refine j_topf (slA (pex - px) (pey - py) (qex - qx) (qey - qy)) rfl ?_
    refine fstore_7_6 (pc := 97) g dX4_slopeTo_97 ?_
    refine j_fload (pc := 99) g dX4_slopeTo_99 rfl ?_
    refine j_fconst0 (pc := 101) g dX4_slopeTo_101 ?_
    refine j_fcmp (pc := 102) g dX4_slopeTo_102 ?_
    refine j_if_ge (pc := 103) g 110 dX4_slopeTo_103 (by decide) (fun c103 => ?_) (fun c103 => ?_)
    · refine j_fload (pc := 110) g dX4_slopeTo_110 rfl ?_
      exact j_fret (pc := 112) g r rfl  (by first | exact xq_f (by rw [← sl_cl w1 w2]; unfold clF; exact (if_pos c103).symm) rfl | exact xq_f (by rw [← sl_cl w1 w2]; unfold clF; exact (if_neg c103).symm) rfl) dX4_slopeTo_112 (Nat.le_of_ble_eq_true rfl) (Nat.le_of_ble_eq_true rfl)
    · refine j_fconst0 (pc := 106) g dX4_slopeTo_106 ?_
      refine j_goto (pc := 107) g 112 dX4_slopeTo_107 (by decide) ?_
      exact j_fret (pc := 112) g r rfl  (by first | exact xq_f (by rw [← sl_cl w1 w2]; unfold clF; exact (if_pos c103).symm) rfl | exact xq_f (by rw [← sl_cl w1 w2]; unfold clF; exact (if_neg c103).symm) rfl) dX4_slopeTo_112 (Nat.le_of_ble_eq_true rfl) (Nat.le_of_ble_eq_true rfl)
  refine j_fload (pc := 68) g dX4_slopeTo_68 rfl ?_
  refine j_fconst0 (pc := 70) g dX4_slopeTo_70 ?_
  refine j_fcmp (pc := 71) g dX4_slopeTo_71 ?_
  refine j_if_ge (pc := 72) g 81 dX4_slopeTo_72 (by decide) (fun c72 => ?_) (fun c72 => ?_)
  · refine j_fload (pc := 81) g dX4_slopeTo_81 rfl ?_
    exact K83 _ (by rw [← amt_f (sl_p w1 w2)]; first | exact (if_pos c72).symm | exact (if_neg c72).symm)
  · refine j_fload (pc := 75) g dX4_slopeTo_75 rfl ?_
    refine j_fneg (pc := 77) g dX4_slopeTo_77 ?_
    refine j_goto (pc := 78) g 83 dX4_slopeTo_78 (by decide) ?_
    exact K83 _ (by rw [← amt_f (sl_p w1 w2)]; first | exact (if_pos c72).symm | exact (if_neg c72).symm)
