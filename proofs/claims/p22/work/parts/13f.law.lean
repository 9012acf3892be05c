


set_option maxHeartbeats 1000000 in
set_option maxRecDepth 100000 in
theorem h_days (l : Launch) (D : va_G) (hst : l.stackTraces = false) {n0 : Nat} {M Mx : MH} {x : Nat} {ra : Nat → Nat} {al : Nat → Nat → Nat} {R S : ST} {d ns nd : Nat} (hr : LR M Mx ra R) (hc : CRep Mx x al S d ns nd) (hk : mOK S d ns nd) (ht : tie n0 S R d ns nd) (hn0 : n0 ≤ 58) (a0 : Int32) : xW l D yL_days wsL_days ({ frames := 8, cells := 4, slots := 24, locals := 142 }) 4 24 [.ref x, .ref (ra 0), .ref (ra 2), .int a0] M (fun v M1 => v = some (.int 1) ∧ ∃ R1 S1 d1 ns1 nd1, LV (n0 + 1) M1 x ra R1 S1 d1 ns1 nd1) := by
  refine xV_of (cc := cL_days) (maxL := 9) (ret := (some .boolean)) (own := RL) [some (.ref x), some (.ref (ra 0)), some (.ref (ra 2)), some (.int a0), none, none, none, none, none] (by decide) rfl rfl (Nat.le_of_ble_eq_true rfl) rfl rfl rfl ?_
  intro X hXl hXD g r t0
  subst hXl
  subst hXD
  refine j_iconst (pc := 0) g (1) dL_days_0 (by decide) ?_
  refine j_iload_n (pc := 1) g 3 dL_days_1 rfl rfl ?_
  refine j_bipush (pc := 2) g (12) dL_days_2 (by decide) ?_
  refine j_callS (pc := 4) (n := 2) g (c_low (jl X) (jD X) _ _ 12 (by omega) (by omega)) dL_days_4 gL_days_L_low rfl rfl rfl rfl ⟨by decide, by decide, by decide +kernel⟩ ⟨Nat.le_of_ble_eq_true rfl, Nat.le_of_ble_eq_true rfl⟩ ⟨by show _ ≤ 4; omega, by show _ ≤ 24; omega⟩ rfl (Nat.le_of_ble_eq_true rfl) (fun v M1 hp => ?_)
  obtain ⟨t, h9, rfl, rfl⟩ := hp
  show J X 9 _ _ _ _ [.int (nI t), .int 1] (4 + 3)
  refine j_iadd (pc := 7) g dL_days_7 ?_
  refine j_topi (nI (1 + t)) (nI_add 1 t) ?_
  refine istore_9_4 (pc := 8) g dL_days_8 ?_
  refine j_aload_n (pc := 10) g 1 dL_days_10 rfl rfl ?_
  refine j_iconst (pc := 11) g (0) dL_days_11 (by decide) ?_
  refine j_dup2 (pc := 12) g dL_days_12 rfl rfl ?_
  refine j_rd (pc := 13) g hr 0 (by decide) (0) (S 0 0) dL_days_13 (rfl) (by decide) (ht.1.1) ?_
  refine j_iload (pc := 14) g dL_days_14 rfl ?_
  refine j_iadd (pc := 16) g dL_days_16 ?_
  refine j_wr (pc := 17) g hr 0 (by decide) (0) dL_days_17 (rfl) (by decide) (fun M hr => ?_)
  refine j_aload_n (pc := 18) g 0 dL_days_18 rfl rfl ?_
  refine j_iload (pc := 19) g dL_days_19 rfl ?_
  refine j_cW (pc := 21) (n := 2) g t0 hr (w_pass (jl X) (jD X) hst Mx x al S d ns nd hc hk (nI (1 + t))) dL_days_21 gL_days_L_pass rfl rfl rfl rfl ⟨by decide, by decide, by decide +kernel⟩ ⟨Nat.le_of_ble_eq_true rfl, Nat.le_of_ble_eq_true rfl⟩ ⟨by show _ ≤ 4; omega, by show _ ≤ 24; omega⟩ rfl (Nat.le_of_ble_eq_true rfl) (fun v Mx M hp hr => ?_)
  obtain ⟨rfl, al, hc⟩ := hp.ok (pass_ok hk ht (by omega) h9)
  have hk2 := ok_pass hk (pass_ok hk ht (by omega) h9)
  show J X 9 _ _ _ _ [.int (S 0 0 + nI (1 + t))] (21 + 3)
  refine j_aload_n (pc := 24) g 1 dL_days_24 rfl rfl ?_
  refine j_iconst (pc := 25) g (0) dL_days_25 (by decide) ?_
  refine j_rd (pc := 26) g hr 0 (by decide) (0) (S 0 0 + nI (1 + t)) dL_days_26 (rfl) (by decide) (su_s) ?_
  refine j_icmp_ne (pc := 27) g 34 dL_days_27 (by decide) (fun c27 => absurd c27 (not_not_intro rfl)) (fun c27 => ?_)
  refine j_iconst (pc := 30) g (1) dL_days_30 (by decide) ?_
  refine j_goto (pc := 31) g 35 dL_days_31 (by decide) ?_
  refine istore_9_5 (pc := 35) g dL_days_35 ?_
  refine j_iconst (pc := 37) g (0) dL_days_37 (by decide) ?_
  refine istore_9_6 (pc := 38) g dL_days_38 ?_
  have L40 : ∀ (n : Nat) (k : Nat) (M Mx : MH) (al : Nat → Nat → Nat) (R2 : ST) (hr : LR M Mx ra R2) (hc : CRep Mx x al (nPass S (nI (1 + t))) d ns nd) (hd : dI S R R2 t k) (hkn : k + n = 3), J X 9 (4 - n) (6 * (4 - n)) (M) [some (.ref x), some (.ref (ra 0)), some (.ref (ra 2)), some (.int a0), some (.int (nI (1 + t))), some (.int 1), some (.int (nI k)), none, none] [] 40 := by
    intro n
    induction n with
    | zero =>
      intro k M Mx al R2 hr hc hd hkn
      refine j_iload (pc := 40) g dL_days_40 rfl ?_
      refine j_iconst (pc := 42) g (3) dL_days_42 (by decide) ?_
      refine j_icmp_ge (pc := 43) g 133 dL_days_43 (by decide) (fun c43 => ?_) (fun c43 => absurd (nI_le (a := 3) (by omega) (by omega)) c43)
      refine j_iload (pc := 133) g dL_days_133 rfl ?_
      exact j_iret (pc := 135) g r rfl rfl (⟨rfl, _, _, _, _, _, _, _, hr, hc, hk2, dI_3 (by rw [show 3 = k by omega]; exact hd) ht (by omega) h9⟩) dL_days_135 (by omega) (by omega)
    | succ n ih =>
      intro k M Mx al R2 hr hc hd hkn
      refine j_iload (pc := 40) g dL_days_40 rfl ?_
      refine j_iconst (pc := 42) g (3) dL_days_42 (by decide) ?_
      refine j_icmp_ge (pc := 43) g 133 dL_days_43 (by decide) (fun c43 => absurd c43 (nI_ge (b := 3) (by omega) (by omega))) (fun c43 => ?_)
      refine j_iload (pc := 46) g dL_days_46 rfl ?_
      refine j_if_eq (pc := 48) g 133 dL_days_48 (by decide) (fun c48 => absurd c48 (by decide)) (fun c48 => ?_)
      refine j_aload_n (pc := 51) g 0 dL_days_51 rfl rfl ?_
      refine j_iload (pc := 52) g dL_days_52 rfl ?_
      refine j_iconst (pc := 54) g (1) dL_days_54 (by decide) ?_
      refine j_cW (pc := 55) (n := 3) g t0 hr (w_paper (jl X) (jD X) hst Mx x al (nPass S (nI (1 + t))) d ns nd hc hk2 (nI k) 1) dL_days_55 gL_days_L_paper rfl rfl rfl rfl ⟨by decide, by decide, by decide +kernel⟩ ⟨Nat.le_of_ble_eq_true rfl, Nat.le_of_ble_eq_true rfl⟩ ⟨by show _ ≤ 4; omega, by show _ ≤ 24; omega⟩ rfl (Nat.le_of_ble_eq_true rfl) (fun v Mx M hp hr => ?_)
      obtain ⟨rfl, al, hc⟩ := hp.ok (tpap (by omega) (by decide))
      show J X 9 _ _ _ _ [.int (vPaper (nPass S (nI (1 + t))) (nI k) 1)] (55 + 3)
      rw [vpap1 (by omega), pass_7 hk h9 (by omega)]
      refine istore_9_7 (pc := 58) g dL_days_58 ?_
      refine j_aload_n (pc := 60) g 2 dL_days_60 rfl rfl ?_
      refine j_iconst (pc := 61) g (3) dL_days_61 (by decide) ?_
      refine j_iload (pc := 62) g dL_days_62 rfl ?_
      refine j_imul (pc := 64) g dL_days_64 ?_
      refine j_iconst (pc := 65) g (1) dL_days_65 (by decide) ?_
      refine j_iadd (pc := 66) g dL_days_66 ?_
      refine j_rd (pc := 67) g hr 2 (by decide) (3 * k + 1) (S 7 k) dL_days_67 (lx_a (lx_m 3 rfl) (lx_l 1)) (by show 3 * k + 1 < 9; omega) (by have q := (hd.2.2.2 k (by omega)).2.1; rw [if_neg (Nat.lt_irrefl k)] at q; exact q.trans (ht.2.2.1 k (by omega)).2.1) ?_
      refine j_iload (pc := 68) g dL_days_68 rfl ?_
      refine j_aload_n (pc := 70) g 2 dL_days_70 rfl rfl ?_
      refine j_iconst (pc := 71) g (3) dL_days_71 (by decide) ?_
      refine j_iload (pc := 72) g dL_days_72 rfl ?_
      refine j_imul (pc := 74) g dL_days_74 ?_
      refine j_iconst (pc := 75) g (2) dL_days_75 (by decide) ?_
      refine j_iadd (pc := 76) g dL_days_76 ?_
      refine j_rd (pc := 77) g hr 2 (by decide) (3 * k + 2) (S 8 k) dL_days_77 (lx_a (lx_m 3 rfl) (lx_l 2)) (by show 3 * k + 2 < 9; omega) ((hd.2.2.2 k (by omega)).2.2.trans (ht.2.2.1 k (by omega)).2.2) ?_
      refine j_imul (pc := 78) g dL_days_78 ?_
      refine j_iadd (pc := 79) g dL_days_79 ?_
      refine istore_9_8 (pc := 80) g dL_days_80 ?_
      have K107 : ∀ (vv : Int32) (hvv : vv = (ageV (S 7 k + nI (1 + t) * S 8 k))), J X 9 (4 - (n + 1) + 1) (6 * (4 - (n + 1)) + 6) (M) [some (.ref x), some (.ref (ra 0)), some (.ref (ra 2)), some (.int a0), some (.int (nI (1 + t))), some (.int 1), some (.int (nI k)), some (.int (ageV (S 7 k + nI (1 + t) * S 8 k))), some (.int (S 7 k + nI (1 + t) * S 8 k))] [.int vv, .int (ageV (S 7 k + nI (1 + t) * S 8 k))] 107 := by
        intro vv hvv
        refine j_icmp_ne (pc := 107) g 114 dL_days_107 (by decide) (fun c107 => absurd c107 (not_not_intro hvv.symm)) (fun c107 => ?_)
        refine j_iconst (pc := 110) g (1) dL_days_110 (by decide) ?_
        refine j_goto (pc := 111) g 115 dL_days_111 (by decide) ?_
        refine istore_9_5 (pc := 115) g dL_days_115 ?_
        refine j_aload_n (pc := 117) g 2 dL_days_117 rfl rfl ?_
        refine j_iconst (pc := 118) g (3) dL_days_118 (by decide) ?_
        refine j_iload (pc := 119) g dL_days_119 rfl ?_
        refine j_imul (pc := 121) g dL_days_121 ?_
        refine j_iconst (pc := 122) g (1) dL_days_122 (by decide) ?_
        refine j_iadd (pc := 123) g dL_days_123 ?_
        refine j_iload (pc := 124) g dL_days_124 rfl ?_
        refine j_wr (pc := 126) g hr 2 (by decide) (3 * k + 1) dL_days_126 (lx_a (lx_m 3 rfl) (lx_l 1)) (by show 3 * k + 1 < 9; omega) (fun M hr => ?_)
        refine iinc_9_6_1 (pc := 127) g dL_days_127 ?_
        refine j_goto (pc := 130) g 40 dL_days_130 (by decide) ?_
        refine j_keep 7 ?_
        have q9 := ih (k + 1) M Mx al _ hr hc (by have q := dI_s hd (by omega); rw [pass_7 hk h9 (by omega)] at q; exact q) (by omega)
        rw [← nI_1 k] at q9
        exact j_room _ _ (by omega) (by omega) q9
      refine j_iload (pc := 82) g dL_days_82 rfl ?_
      refine j_iload (pc := 84) g dL_days_84 rfl ?_
      refine j_if_ge (pc := 86) g 93 dL_days_86 (by decide) (fun c86 => ?_) (fun c86 => ?_)
      · refine j_iload (pc := 93) g dL_days_93 rfl ?_
        refine j_bipush (pc := 95) g (100) dL_days_95 (by decide) ?_
        refine j_icmp_le (pc := 97) g 105 dL_days_97 (by decide) (fun c97 => ?_) (fun c97 => ?_)
        · refine j_iload (pc := 105) g dL_days_105 rfl ?_
          exact K107 _ ((ag_v c86 c97).symm)
        · refine j_bipush (pc := 100) g (100) dL_days_100 (by decide) ?_
          refine j_goto (pc := 102) g 107 dL_days_102 (by decide) ?_
          exact K107 _ ((ag_100 c86 (Int32.not_le.mp c97)).symm)
      · refine j_iconst (pc := 89) g (0) dL_days_89 (by decide) ?_
        refine j_goto (pc := 90) g 107 dL_days_90 (by decide) ?_
        exact K107 _ ((ag_0 (Int32.not_le.mp c86)).symm)
  exact j_room _ _ (by omega) (by omega) (L40 3 0 M Mx al _ hr hc dI_0 (by omega))

set_option maxHeartbeats 1000000 in
set_option maxRecDepth 100000 in
theorem h_appeals (l : Launch) (D : va_G) (hst : l.stackTraces = false) {n0 : Nat} {M Mx : MH} {x : Nat} {ra : Nat → Nat} {al : Nat → Nat → Nat} {R S : ST} {d ns nd : Nat} (hr : LR M Mx ra R) (hc : CRep Mx x al S d ns nd) (hk : mOK S d ns nd) (ht : tie n0 S R d ns nd) (hnd0 : 0 < nd) (a0 : Int32) : xW l D yL_appeals wsL_appeals ({ frames := 8, cells := 2, slots := 12, locals := 191 }) 2 12 [.ref x, .ref (ra 0), .ref (ra 4), .int a0] M (fun v M1 => v = some (.int 1) ∧ ∃ R1 S1 d1 ns1 nd1, LV n0 M1 x ra R1 S1 d1 ns1 nd1) := by
  refine xV_of (cc := cL_appeals) (maxL := 9) (ret := (some .boolean)) (own := RL) [some (.ref x), some (.ref (ra 0)), some (.ref (ra 4)), some (.int a0), none, none, none, none, none] (by decide) rfl rfl (Nat.le_of_ble_eq_true rfl) rfl rfl rfl ?_
  intro X hXl hXD g r t0
  subst hXl
  subst hXD
  have n8 := ht.2.2.2.2.2.2.2.2.2
  refine j_iload_n (pc := 0) g 3 dL_appeals_0 rfl rfl ?_
  refine j_aload_n (pc := 1) g 1 dL_appeals_1 rfl rfl ?_
  refine j_iconst (pc := 2) g (3) dL_appeals_2 (by decide) ?_
  refine j_rd (pc := 3) g hr 0 (by decide) (3) (nI nd) dL_appeals_3 (rfl) (by decide) (ht.1.2.2.2.1) ?_
  refine j_callS (pc := 4) (n := 2) g (c_low (jl X) (jD X) _ _ nd (by omega) (by omega)) dL_appeals_4 gL_appeals_L_low rfl rfl rfl rfl ⟨by decide, by decide, by decide +kernel⟩ ⟨Nat.le_of_ble_eq_true rfl, Nat.le_of_ble_eq_true rfl⟩ ⟨by show _ ≤ 2; omega, by show _ ≤ 12; omega⟩ rfl (Nat.le_of_ble_eq_true rfl) (fun v M1 hp => ?_)
  obtain ⟨i, hi, rfl, rfl⟩ := hp
  show J X 9 _ _ _ _ [.int (nI i)] (4 + 3)
  have hdt := ht.2.2.2.2.1 i hi
  have i8 : i < 8 := by omega
  obtain ⟨hN, rN, e22, e18, x22, x18, hh, r5, r1⟩ := du_nums hk hi
  refine istore_9_4 (pc := 7) g dL_appeals_7 ?_
  refine j_iload_n (pc := 9) g 3 dL_appeals_9 rfl rfl ?_
  refine j_iconst (pc := 10) g (4) dL_appeals_10 (by decide) ?_
  refine j_ishr (pc := 11) g dL_appeals_11 ?_
  refine j_iconst (pc := 12) g (4) dL_appeals_12 (by decide) ?_
  refine j_callS (pc := 13) (n := 2) g (c_low (jl X) (jD X) _ _ 4 (by omega) (by omega)) dL_appeals_13 gL_appeals_L_low rfl rfl rfl rfl ⟨by decide, by decide, by decide +kernel⟩ ⟨Nat.le_of_ble_eq_true rfl, Nat.le_of_ble_eq_true rfl⟩ ⟨by show _ ≤ 2; omega, by show _ ≤ 12; omega⟩ rfl (Nat.le_of_ble_eq_true rfl) (fun v M1 hp => ?_)
  obtain ⟨j, hj, rfl, rfl⟩ := hp
  show J X 9 _ _ _ _ [.int (nI j)] (13 + 3)
  refine istore_9_5 (pc := 16) g dL_appeals_16 ?_
  refine j_bipush (pc := 18) g (8) dL_appeals_18 (by decide) ?_
  refine j_iload (pc := 20) g dL_appeals_20 rfl ?_
  refine j_imul (pc := 22) g dL_appeals_22 ?_
  refine j_topi (nI (8 * i)) (pk_mul 8 i) ?_
  refine istore_9_6 (pc := 23) g dL_appeals_23 ?_
  refine j_aload_n (pc := 25) g 2 dL_appeals_25 rfl rfl ?_
  refine j_iload (pc := 26) g dL_appeals_26 rfl ?_
  refine j_iconst (pc := 28) g (5) dL_appeals_28 (by decide) ?_
  refine j_iadd (pc := 29) g dL_appeals_29 ?_
  refine j_rd (pc := 30) g hr 4 (by decide) (8 * i + 5) (nI hN) dL_appeals_30 (nI_add _ 5) (by show 8 * i + 5 < 64; omega) (hdt.2.2.2.2.2.1.trans e22) ?_
  refine j_iconst (pc := 31) g (2) dL_appeals_31 (by decide) ?_
  refine j_aload_n (pc := 32) g 2 dL_appeals_32 rfl rfl ?_
  refine j_iload (pc := 33) g dL_appeals_33 rfl ?_
  refine j_iconst (pc := 35) g (4) dL_appeals_35 (by decide) ?_
  refine j_iadd (pc := 36) g dL_appeals_36 ?_
  refine j_rd (pc := 37) g hr 4 (by decide) (8 * i + 4) (nI rN) dL_appeals_37 (nI_add _ 4) (by show 8 * i + 4 < 64; omega) (hdt.2.2.2.2.1.trans e18) ?_
  refine j_imul (pc := 38) g dL_appeals_38 ?_
  have K68 : ∀ (cc : Int32) (hcc : cc = b01 (hN = 2 * rN ∧ S 16 i < 0 ∧ ¬ nI j = S 15 i)), J X 9 0 0 (M) [some (.ref x), some (.ref (ra 0)), some (.ref (ra 4)), some (.int a0), some (.int (nI i)), some (.int (nI j)), some (.int (nI (8 * i))), none, none] [.int cc] 68 := by
    intro cc hcc
    refine istore_9_7 (pc := 68) g dL_appeals_68 ?_
    refine j_aload_n (pc := 70) g 0 dL_appeals_70 rfl rfl ?_
    refine j_iload (pc := 71) g dL_appeals_71 rfl ?_
    refine j_iload (pc := 73) g dL_appeals_73 rfl ?_
    refine j_cW (pc := 75) (n := 3) g t0 hr (w_appeal (jl X) (jD X) hst Mx x al S d ns nd hc hk (nI i) (nI j)) dL_appeals_75 gL_appeals_L_appeal rfl rfl rfl rfl ⟨by decide, by decide, by decide +kernel⟩ ⟨Nat.le_of_ble_eq_true rfl, Nat.le_of_ble_eq_true rfl⟩ ⟨by show _ ≤ 2; omega, by show _ ≤ 12; omega⟩ rfl (Nat.le_of_ble_eq_true rfl) (fun v Mx M hp hr => ?_)
    have hq := appeal_cases hk ht hi hj e22 e18 hh r5 hp
    rcases hq with ⟨e1, S2, rfl, al, hc, hk2, ht2⟩ | ⟨e1, rfl, al, hc⟩
    · obtain rfl := hcc.trans (b01_t e1)
      show J X 9 _ _ _ _ [.int (wnS S2 i)] (75 + 3)
      refine istore_9_8 (pc := 78) g dL_appeals_78 ?_
      refine j_aload_n (pc := 80) g 2 dL_appeals_80 rfl rfl ?_
      refine j_iload (pc := 81) g dL_appeals_81 rfl ?_
      refine j_bipush (pc := 83) g (7) dL_appeals_83 (by decide) ?_
      refine j_iadd (pc := 85) g dL_appeals_85 ?_
      refine j_iload (pc := 86) g dL_appeals_86 rfl ?_
      refine j_if_eq (pc := 88) g 96 dL_appeals_88 (by decide) (fun c88 => absurd c88 (by decide)) (fun c88 => ?_)
      refine j_iload (pc := 91) g dL_appeals_91 rfl ?_
      refine j_goto (pc := 93) g 103 dL_appeals_93 (by decide) ?_
      refine j_wr (pc := 103) g hr 4 (by decide) (8 * i + 7) dL_appeals_103 (nI_add _ 7) (by show 8 * i + 7 < 64; omega) (fun M hr => ?_)
      refine j_iload (pc := 104) g dL_appeals_104 rfl ?_
      refine j_if_eq (pc := 106) g 155 dL_appeals_106 (by decide) (fun c106 => absurd c106 (by decide)) (fun c106 => ?_)
      refine j_iload (pc := 109) g dL_appeals_109 rfl ?_
      refine j_aload_n (pc := 111) g 0 dL_appeals_111 rfl rfl ?_
      refine j_iload (pc := 112) g dL_appeals_112 rfl ?_
      refine j_iconst (pc := 114) g (3) dL_appeals_114 (by decide) ?_
      refine j_cW (pc := 115) (n := 3) g t0 hr (w_of (jl X) (jD X) hst Mx x al S2 d ns nd hc hk2 (nI i) 3) dL_appeals_115 gL_appeals_L_of rfl rfl rfl rfl ⟨by decide, by decide, by decide +kernel⟩ ⟨Nat.le_of_ble_eq_true rfl, Nat.le_of_ble_eq_true rfl⟩ ⟨by show _ ≤ 2; omega, by show _ ≤ 12; omega⟩ rfl (Nat.le_of_ble_eq_true rfl) (fun v Mx M hp hr => ?_)
      obtain ⟨rfl, al, hc⟩ := hp.ok (to0 hk2 hi (by decide))
      show J X 9 _ _ _ _ [.int (vOf S2 (ix (nI i)) 3), .int (wnS S2 i)] (115 + 3)
      rw [ve3 i8]
      refine j_icmp_ne (pc := 118) g 151 dL_appeals_118 (by decide) (fun c118 => absurd c118 (not_not_intro rfl)) (fun c118 => ?_)
      refine j_iload (pc := 121) g dL_appeals_121 rfl ?_
      refine j_iconst (pc := 123) g (-1) dL_appeals_123 (by decide) ?_
      refine j_icmp_eq (pc := 124) g 147 dL_appeals_124 (by decide) (fun c124 => ?_) (fun c124 => ?_)
      · refine j_iconst (pc := 147) g (1) dL_appeals_147 (by decide) ?_
        refine j_goto (pc := 148) g 167 dL_appeals_148 (by decide) ?_
        exact j_iret (pc := 167) g r rfl rfl (⟨rfl, _, _, _, _, _, _, _, hr, hc, hk2, ht2⟩) dL_appeals_167 (by omega) (by omega)
      · refine j_iload (pc := 127) g dL_appeals_127 rfl ?_
        refine j_aload_n (pc := 129) g 2 dL_appeals_129 rfl rfl ?_
        refine j_iload (pc := 130) g dL_appeals_130 rfl ?_
        refine j_rd (pc := 132) g hr 4 (by decide) (8 * i) (S2 13 i) dL_appeals_132 (rfl) (by show 8 * i + 0 < 64; omega) ((ht2.2.2.2.2.1 i hi).1) ?_
        refine j_icmp_eq (pc := 133) g 147 dL_appeals_133 (by decide) (fun c133 => ?_) (fun c133 => ?_)
        · refine j_iconst (pc := 147) g (1) dL_appeals_147 (by decide) ?_
          refine j_goto (pc := 148) g 167 dL_appeals_148 (by decide) ?_
          exact j_iret (pc := 167) g r rfl rfl (⟨rfl, _, _, _, _, _, _, _, hr, hc, hk2, ht2⟩) dL_appeals_167 (by omega) (by omega)
        · refine j_iload (pc := 136) g dL_appeals_136 rfl ?_
          refine j_aload_n (pc := 138) g 2 dL_appeals_138 rfl rfl ?_
          refine j_iload (pc := 139) g dL_appeals_139 rfl ?_
          refine j_iconst (pc := 141) g (1) dL_appeals_141 (by decide) ?_
          refine j_iadd (pc := 142) g dL_appeals_142 ?_
          refine j_rd (pc := 143) g hr 4 (by decide) (8 * i + 1) (S2 14 i) dL_appeals_143 (nI_add _ 1) (by show 8 * i + 1 < 64; omega) ((ht2.2.2.2.2.1 i hi).2.1) ?_
          refine j_icmp_ne (pc := 144) g 151 dL_appeals_144 (by decide) (fun c144 => absurd c144 (not_not_intro ((wn_3 hk2 hi).elim (fun z => absurd z c124) (fun z => z.elim (fun z => absurd z c133) (fun z => z))))) (fun c144 => ?_)
          refine j_iconst (pc := 147) g (1) dL_appeals_147 (by decide) ?_
          refine j_goto (pc := 148) g 167 dL_appeals_148 (by decide) ?_
          exact j_iret (pc := 167) g r rfl rfl (⟨rfl, _, _, _, _, _, _, _, hr, hc, hk2, ht2⟩) dL_appeals_167 (by omega) (by omega)
    · obtain rfl := hcc.trans (b01_f e1)
      show J X 9 _ _ _ _ [.int (-1000003)] (75 + 3)
      refine istore_9_8 (pc := 78) g dL_appeals_78 ?_
      refine j_aload_n (pc := 80) g 2 dL_appeals_80 rfl rfl ?_
      refine j_iload (pc := 81) g dL_appeals_81 rfl ?_
      refine j_bipush (pc := 83) g (7) dL_appeals_83 (by decide) ?_
      refine j_iadd (pc := 85) g dL_appeals_85 ?_
      refine j_iload (pc := 86) g dL_appeals_86 rfl ?_
      refine j_if_eq (pc := 88) g 96 dL_appeals_88 (by decide) (fun c88 => ?_) (fun c88 => absurd rfl c88)
      refine j_aload_n (pc := 96) g 2 dL_appeals_96 rfl rfl ?_
      refine j_iload (pc := 97) g dL_appeals_97 rfl ?_
      refine j_bipush (pc := 99) g (7) dL_appeals_99 (by decide) ?_
      refine j_iadd (pc := 101) g dL_appeals_101 ?_
      refine j_rd (pc := 102) g hr 4 (by decide) (8 * i + 7) (S 16 i) dL_appeals_102 (nI_add _ 7) (by show 8 * i + 7 < 64; omega) (hdt.2.2.2.2.2.2.2.1) ?_
      refine j_wr (pc := 103) g hr 4 (by decide) (8 * i + 7) dL_appeals_103 (nI_add _ 7) (by show 8 * i + 7 < 64; omega) (fun M hr => ?_)
      refine j_iload (pc := 104) g dL_appeals_104 rfl ?_
      refine j_if_eq (pc := 106) g 155 dL_appeals_106 (by decide) (fun c106 => ?_) (fun c106 => absurd rfl c106)
      refine j_iload (pc := 155) g dL_appeals_155 rfl ?_
      refine j_ldci (pc := 157) g (-1000003) dL_appeals_157 (by decide +kernel) ?_
      refine j_icmp_ne (pc := 159) g 166 dL_appeals_159 (by decide) (fun c159 => absurd c159 (not_not_intro rfl)) (fun c159 => ?_)
      refine j_iconst (pc := 162) g (1) dL_appeals_162 (by decide) ?_
      refine j_goto (pc := 163) g 167 dL_appeals_163 (by decide) ?_
      exact j_iret (pc := 167) g r rfl rfl (⟨rfl, _, _, _, _, _, _, _, hr, hc, hk, by rw [su_id hdt.2.2.2.2.2.2.2.1]; exact ht⟩) dL_appeals_167 (by omega) (by omega)
  refine j_topi (nI (2 * rN)) (pk_mul 2 rN) ?_
  refine j_icmp_ne (pc := 39) g 67 dL_appeals_39 (by decide) (fun c39 => ?_) (fun c39 => ?_)
  · refine j_iconst (pc := 67) g (0) dL_appeals_67 (by decide) ?_
    exact K68 _ ((b01_f (fun z => by first | exact c39 (by rw [z.1]) | exact absurd z.2.1 (Int32.not_lt.mpr c49) | exact z.2.2 c60)).symm)
  · refine j_aload_n (pc := 42) g 2 dL_appeals_42 rfl rfl ?_
    refine j_iload (pc := 43) g dL_appeals_43 rfl ?_
    refine j_bipush (pc := 45) g (7) dL_appeals_45 (by decide) ?_
    refine j_iadd (pc := 47) g dL_appeals_47 ?_
    refine j_rd (pc := 48) g hr 4 (by decide) (8 * i + 7) (S 16 i) dL_appeals_48 (nI_add _ 7) (by show 8 * i + 7 < 64; omega) (hdt.2.2.2.2.2.2.2.1) ?_
    refine j_if_ge (pc := 49) g 67 dL_appeals_49 (by decide) (fun c49 => ?_) (fun c49 => ?_)
    · refine j_iconst (pc := 67) g (0) dL_appeals_67 (by decide) ?_
      exact K68 _ ((b01_f (fun z => by first | exact c39 (by rw [z.1]) | exact absurd z.2.1 (Int32.not_lt.mpr c49) | exact z.2.2 c60)).symm)
    · refine j_iload (pc := 52) g dL_appeals_52 rfl ?_
      refine j_aload_n (pc := 54) g 2 dL_appeals_54 rfl rfl ?_
      refine j_iload (pc := 55) g dL_appeals_55 rfl ?_
      refine j_iconst (pc := 57) g (2) dL_appeals_57 (by decide) ?_
      refine j_iadd (pc := 58) g dL_appeals_58 ?_
      refine j_rd (pc := 59) g hr 4 (by decide) (8 * i + 2) (S 15 i) dL_appeals_59 (nI_add _ 2) (by show 8 * i + 2 < 64; omega) (hdt.2.2.1) ?_
      refine j_icmp_eq (pc := 60) g 67 dL_appeals_60 (by decide) (fun c60 => ?_) (fun c60 => ?_)
      · refine j_iconst (pc := 67) g (0) dL_appeals_67 (by decide) ?_
        exact K68 _ ((b01_f (fun z => by first | exact c39 (by rw [z.1]) | exact absurd z.2.1 (Int32.not_lt.mpr c49) | exact z.2.2 c60)).symm)
      · refine j_iconst (pc := 63) g (1) dL_appeals_63 (by decide) ?_
        refine j_goto (pc := 64) g 68 dL_appeals_64 (by decide) ?_
        exact K68 _ ((b01_t ⟨(nI_eq (by omega) (by omega)).mp c39, Int32.not_le.mp c49, c60⟩).symm)
