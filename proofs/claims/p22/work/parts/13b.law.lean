theorem fstore_9_6 {X : JC} {cc : ByteArray} {own : String} {Ts : List Cond} {cells slots pc : Nat} {rm : Room} {M : MH} {st : List Value} {a0 a1 a2 a3 a4 a5 a6 a7 a8 : Option Value} (g : jG X cc own Ts 9 rm) {x : UInt32} (hd : decode cc pc = .ok (.fstore 6, 2)) (k : J X 9 cells slots M [a0, a1, a2, a3, a4, a5, some (.float x), a7, a8] st (pc + 2)) : J X 9 cells slots M [a0, a1, a2, a3, a4, a5, a6, a7, a8] (.float x :: st) pc := j_fstore g hd (Nat.le_of_ble_eq_true rfl) k
theorem fstore_9_7 {X : JC} {cc : ByteArray} {own : String} {Ts : List Cond} {cells slots pc : Nat} {rm : Room} {M : MH} {st : List Value} {a0 a1 a2 a3 a4 a5 a6 a7 a8 : Option Value} (g : jG X cc own Ts 9 rm) {x : UInt32} (hd : decode cc pc = .ok (.fstore 7, 2)) (k : J X 9 cells slots M [a0, a1, a2, a3, a4, a5, a6, some (.float x), a8] st (pc + 2)) : J X 9 cells slots M [a0, a1, a2, a3, a4, a5, a6, a7, a8] (.float x :: st) pc := j_fstore g hd (Nat.le_of_ble_eq_true rfl) k



set_option maxHeartbeats 1000000 in
set_option maxRecDepth 100000 in
theorem h_isDraft (l : Launch) (D : va_G) (hst : l.stackTraces = false) {n0 : Nat} {M Mx : MH} {x : Nat} {ra : Nat → Nat} {al : Nat → Nat → Nat} {R S : ST} {d ns nd : Nat} (hr : LR M Mx ra R) (hc : CRep Mx x al S d ns nd) (hk : mOK S d ns nd) (ht : tie n0 S R d ns nd) (v0 : Int32) : xW l D yL_isDraft wsL_isDraft ({ frames := 8, cells := 70, slots := 299, locals := 146 }) 70 299 [.ref x, .ref (ra 0), .ref (ra 1), .int v0] M (fun v M1 => v = some (.int 1) ∧ LV n0 M1 x ra R S d ns nd) := by
  refine xV_of (cc := cL_isDraft) (maxL := 9) (ret := (some .boolean)) (own := RL) [some (.ref x), some (.ref (ra 0)), some (.ref (ra 1)), some (.int v0), none, none, none, none, none] (by decide) rfl rfl (Nat.le_of_ble_eq_true rfl) rfl rfl rfl ?_
  intro X hXl hXD g r t0
  subst hXl
  subst hXD
  have d8 := hk.1.2.1
  have n6 := hk.2.1.2.2.1
  refine j_aload_n (pc := 0) g 1 dL_isDraft_0 rfl rfl ?_
  refine j_iconst (pc := 1) g (1) dL_isDraft_1 (by decide) ?_
  refine j_rd (pc := 2) g hr 0 (by decide) (1) (nI ns) dL_isDraft_2 (rfl) (by decide) (ht.1.2.1) ?_
  refine j_if_ne (pc := 3) g 24 dL_isDraft_3 (by decide) (fun c3 => ?_) (fun c3 => ?_)
  · have hns0 : 0 < ns := Nat.pos_of_ne_zero (fun z => c3 (by rw [z]; rfl))
    refine j_iload_n (pc := 24) g 3 dL_isDraft_24 rfl rfl ?_
    refine j_aload_n (pc := 25) g 1 dL_isDraft_25 rfl rfl ?_
    refine j_iconst (pc := 26) g (1) dL_isDraft_26 (by decide) ?_
    refine j_rd (pc := 27) g hr 0 (by decide) (1) (nI ns) dL_isDraft_27 (rfl) (by decide) (ht.1.2.1) ?_
    refine j_callS (pc := 28) (n := 2) g (c_low (jl X) (jD X) _ _ ns (by omega) (by omega)) dL_isDraft_28 gL_isDraft_L_low rfl rfl rfl rfl ⟨by decide, by decide, by decide +kernel⟩ ⟨Nat.le_of_ble_eq_true rfl, Nat.le_of_ble_eq_true rfl⟩ ⟨by show _ ≤ 70; omega, by show _ ≤ 299; omega⟩ rfl (Nat.le_of_ble_eq_true rfl) (fun v M1 hp => ?_)
    obtain ⟨s, hs, rfl, rfl⟩ := hp
    show J X 9 _ _ _ _ [.int (nI s)] (28 + 3)
    obtain ⟨mn, emn, e4, m6, m1⟩ : ∃ mn, ix (S 4 s) = mn ∧ S 4 s = nI mn ∧ mn ≤ 6 ∧ 1 ≤ mn := ⟨_, rfl, (hk.2.1.2.2.2 s hs).i4⟩
    have hsg := hk.2.1.2.2.2 s hs
    refine istore_9_4 (pc := 31) g dL_isDraft_31 ?_
    refine j_aload_n (pc := 33) g 0 dL_isDraft_33 rfl rfl ?_
    refine j_iload (pc := 34) g dL_isDraft_34 rfl ?_
    refine j_aload_n (pc := 36) g 1 dL_isDraft_36 rfl rfl ?_
    refine j_iconst (pc := 37) g (2) dL_isDraft_37 (by decide) ?_
    refine j_rd (pc := 38) g hr 0 (by decide) (2) (nI d) dL_isDraft_38 (rfl) (by decide) (ht.1.2.2.1) ?_
    refine j_iconst (pc := 39) g (0) dL_isDraft_39 (by decide) ?_
    refine j_cW (pc := 40) (n := 4) g t0 hr (w_part (jl X) (jD X) hst Mx x al S d ns nd hc hk (nI s) (nI d) 0) dL_isDraft_40 gL_isDraft_L_part rfl rfl rfl rfl ⟨by decide, by decide, by decide +kernel⟩ ⟨Nat.le_of_ble_eq_true rfl, Nat.le_of_ble_eq_true rfl⟩ ⟨by show _ ≤ 70; omega, by show _ ≤ 299; omega⟩ rfl (Nat.le_of_ble_eq_true rfl) (fun v Mx M hp hr => ?_)
    obtain ⟨rfl, al, hc⟩ := hp.no1 (tp1 hk)
    show J X 9 _ _ _ _ [.float 3379831824] (40 + 3)
    refine j_ldcf (pc := 43) g 3379831824 dL_isDraft_43 (by decide +kernel) ?_
    refine j_fcmp (pc := 45) g dL_isDraft_45 ?_
    refine j_if_ne (pc := 46) g 85 dL_isDraft_46 (by decide) (fun c46 => absurd c46 (not_not_intro fc_s1)) (fun c46 => ?_)
    refine j_aload_n (pc := 49) g 0 dL_isDraft_49 rfl rfl ?_
    refine j_iload (pc := 50) g dL_isDraft_50 rfl ?_
    refine j_aload_n (pc := 52) g 2 dL_isDraft_52 rfl rfl ?_
    refine j_iload (pc := 53) g dL_isDraft_53 rfl ?_
    refine j_rd (pc := 55) g hr 1 (by decide) (s) (nI mn) dL_isDraft_55 (rfl) (by show s < 6; omega) ((ht.2.1 s hs).trans e4) ?_
    refine j_iconst (pc := 56) g (2) dL_isDraft_56 (by decide) ?_
    refine j_cW (pc := 57) (n := 4) g t0 hr (w_part (jl X) (jD X) hst Mx x al S d ns nd hc hk (nI s) (nI mn) 2) dL_isDraft_57 gL_isDraft_L_part rfl rfl rfl rfl ⟨by decide, by decide, by decide +kernel⟩ ⟨Nat.le_of_ble_eq_true rfl, Nat.le_of_ble_eq_true rfl⟩ ⟨by show _ ≤ 70; omega, by show _ ≤ 299; omega⟩ rfl (Nat.le_of_ble_eq_true rfl) (fun v Mx M hp hr => ?_)
    obtain ⟨rfl, al, hc⟩ := hp.no1 (tp2 hk hs e4)
    show J X 9 _ _ _ _ [.float 3379831824] (57 + 3)
    refine j_ldcf (pc := 60) g 3379831824 dL_isDraft_60 (by decide +kernel) ?_
    refine j_fcmp (pc := 62) g dL_isDraft_62 ?_
    refine j_if_ne (pc := 63) g 85 dL_isDraft_63 (by decide) (fun c63 => absurd c63 (not_not_intro fc_s1)) (fun c63 => ?_)
    refine j_aload_n (pc := 66) g 0 dL_isDraft_66 rfl rfl ?_
    refine j_aload_n (pc := 67) g 1 dL_isDraft_67 rfl rfl ?_
    refine j_iconst (pc := 68) g (1) dL_isDraft_68 (by decide) ?_
    refine j_rd (pc := 69) g hr 0 (by decide) (1) (nI ns) dL_isDraft_69 (rfl) (by decide) (ht.1.2.1) ?_
    refine j_iconst (pc := 70) g (0) dL_isDraft_70 (by decide) ?_
    refine j_iconst (pc := 71) g (0) dL_isDraft_71 (by decide) ?_
    refine j_cW (pc := 72) (n := 4) g t0 hr (w_part (jl X) (jD X) hst Mx x al S d ns nd hc hk (nI ns) 0 0) dL_isDraft_72 gL_isDraft_L_part rfl rfl rfl rfl ⟨by decide, by decide, by decide +kernel⟩ ⟨Nat.le_of_ble_eq_true rfl, Nat.le_of_ble_eq_true rfl⟩ ⟨by show _ ≤ 70; omega, by show _ ≤ 299; omega⟩ rfl (Nat.le_of_ble_eq_true rfl) (fun v Mx M hp hr => ?_)
    obtain ⟨rfl, al, hc⟩ := hp.no1 (tp3 hk)
    show J X 9 _ _ _ _ [.float 3379831824] (72 + 3)
    refine j_ldcf (pc := 75) g 3379831824 dL_isDraft_75 (by decide +kernel) ?_
    refine j_fcmp (pc := 77) g dL_isDraft_77 ?_
    refine j_if_ne (pc := 78) g 85 dL_isDraft_78 (by decide) (fun c78 => absurd c78 (not_not_intro fc_s1)) (fun c78 => ?_)
    refine j_iconst (pc := 81) g (1) dL_isDraft_81 (by decide) ?_
    refine j_goto (pc := 82) g 86 dL_isDraft_82 (by decide) ?_
    refine istore_9_5 (pc := 86) g dL_isDraft_86 ?_
    have K222 : ∀ (M Mx : MH) (al : Nat → Nat → Nat) (hr : LR M Mx ra R) (hc : CRep Mx x al S d ns nd), J X 9 54 243 (M) [some (.ref x), some (.ref (ra 0)), some (.ref (ra 1)), some (.int v0), some (.int (nI s)), some (.int 1), none, none, none] [] 222 := by
      intro M Mx al hr hc
      refine j_aload_n (pc := 222) g 0 dL_isDraft_222 rfl rfl ?_
      refine j_iload (pc := 223) g dL_isDraft_223 rfl ?_
      refine j_iload_n (pc := 225) g 3 dL_isDraft_225 rfl rfl ?_
      refine j_iconst (pc := 226) g (4) dL_isDraft_226 (by decide) ?_
      refine j_ishr (pc := 227) g dL_isDraft_227 ?_
      refine j_iconst (pc := 228) g (4) dL_isDraft_228 (by decide) ?_
      refine j_callS (pc := 229) (n := 2) g (c_low (jl X) (jD X) _ _ 4 (by omega) (by omega)) dL_isDraft_229 gL_isDraft_L_low rfl rfl rfl rfl ⟨by decide, by decide, by decide +kernel⟩ ⟨Nat.le_of_ble_eq_true rfl, Nat.le_of_ble_eq_true rfl⟩ ⟨by show _ ≤ 70; omega, by show _ ≤ 299; omega⟩ rfl (Nat.le_of_ble_eq_true rfl) (fun v M1 hp => ?_)
      obtain ⟨y, hy, rfl, rfl⟩ := hp
      show J X 9 _ _ _ _ [.int (nI y), .int (nI s), .ref x] (229 + 3)
      refine j_cW (pc := 232) (n := 3) g t0 hr (w_mark (jl X) (jD X) hst Mx x al S d ns nd hc hk (nI s) (nI y)) dL_isDraft_232 gL_isDraft_L_mark rfl rfl rfl rfl ⟨by decide, by decide, by decide +kernel⟩ ⟨Nat.le_of_ble_eq_true rfl, Nat.le_of_ble_eq_true rfl⟩ ⟨by show _ ≤ 70; omega, by show _ ≤ 299; omega⟩ rfl (Nat.le_of_ble_eq_true rfl) (fun v Mx M hp hr => ?_)
      obtain ⟨rfl, al, hc⟩ := hp.ok (tmk hk hs hy)
      show J X 9 _ _ _ _ [.float (markS S 2 0 d (ix (nI s)) (ix (nI y)) (ix (S 4 (ix (nI s)))) 0)] (232 + 3)
      have b2 := mkd_b hk hs hy
      refine fstore_9_6 (pc := 235) g dL_isDraft_235 ?_
      refine j_iload (pc := 237) g dL_isDraft_237 rfl ?_
      refine j_if_eq (pc := 239) g 274 dL_isDraft_239 (by decide) (fun c239 => absurd c239 (by decide)) (fun c239 => ?_)
      refine j_fload (pc := 242) g dL_isDraft_242 rfl ?_
      refine j_fconst0 (pc := 244) g dL_isDraft_244 ?_
      refine j_fcmp (pc := 245) g dL_isDraft_245 ?_
      refine j_if_lt (pc := 246) g 274 dL_isDraft_246 (by decide) (fun c246 => absurd c246 (Int32.not_lt.mpr (c_ge0 b2))) (fun c246 => ?_)
      refine j_fload (pc := 249) g dL_isDraft_249 rfl ?_
      refine j_ldcf (pc := 251) g 1106252923 dL_isDraft_251 (by decide +kernel) ?_
      refine j_fcmp (pc := 253) g dL_isDraft_253 ?_
      refine j_if_gt (pc := 254) g 274 dL_isDraft_254 (by decide) (fun c254 => absurd c254 (Int32.not_lt.mpr (c_le b2 k31.1))) (fun c254 => ?_)
      refine j_aload_n (pc := 257) g 0 dL_isDraft_257 rfl rfl ?_
      refine j_iload (pc := 258) g dL_isDraft_258 rfl ?_
      refine j_iconst (pc := 260) g (4) dL_isDraft_260 (by decide) ?_
      refine j_cW (pc := 261) (n := 3) g t0 hr (w_mark (jl X) (jD X) hst Mx x al S d ns nd hc hk (nI s) 4) dL_isDraft_261 gL_isDraft_L_mark rfl rfl rfl rfl ⟨by decide, by decide, by decide +kernel⟩ ⟨Nat.le_of_ble_eq_true rfl, Nat.le_of_ble_eq_true rfl⟩ ⟨by show _ ≤ 70; omega, by show _ ≤ 299; omega⟩ rfl (Nat.le_of_ble_eq_true rfl) (fun v Mx M hp hr => ?_)
      obtain ⟨rfl, al, hc⟩ := hp.no1 (tm4 hk)
      show J X 9 _ _ _ _ [.float 3379831824] (261 + 3)
      refine j_ldcf (pc := 264) g 3379831824 dL_isDraft_264 (by decide +kernel) ?_
      refine j_fcmp (pc := 266) g dL_isDraft_266 ?_
      refine j_if_ne (pc := 267) g 274 dL_isDraft_267 (by decide) (fun c267 => absurd c267 (not_not_intro fc_s1)) (fun c267 => ?_)
      refine j_iconst (pc := 270) g (1) dL_isDraft_270 (by decide) ?_
      refine j_goto (pc := 271) g 275 dL_isDraft_271 (by decide) ?_
      exact j_iret (pc := 275) g r rfl rfl (⟨rfl, _, _, hr, hc, hk, ht⟩) dL_isDraft_275 (by omega) (by omega)
    refine j_iconst (pc := 88) g (0) dL_isDraft_88 (by decide) ?_
    refine istore_9_6 (pc := 89) g dL_isDraft_89 ?_
    have L91 : ∀ (n : Nat) (k : Nat) (M Mx : MH) (al : Nat → Nat → Nat) (hr : LR M Mx ra R) (hc : CRep Mx x al S d ns nd) (hkn : k + n = min d mn), J X 9 (54 - 8 * n) (243 - 36 * n) (M) [some (.ref x), some (.ref (ra 0)), some (.ref (ra 1)), some (.int v0), some (.int (nI s)), some (.int 1), some (.int (nI k)), none, none] [] 91 := by
      intro n
      induction n with
      | zero =>
        intro k M Mx al hr hc hkn
        refine j_iload (pc := 91) g dL_isDraft_91 rfl ?_
        refine j_aload_n (pc := 93) g 1 dL_isDraft_93 rfl rfl ?_
        refine j_iconst (pc := 94) g (2) dL_isDraft_94 (by decide) ?_
        refine j_rd (pc := 95) g hr 0 (by decide) (2) (nI d) dL_isDraft_95 (rfl) (by decide) (ht.1.2.2.1) ?_
        refine j_icmp_ge (pc := 96) g 222 dL_isDraft_96 (by decide) (fun c96 => ?_) (fun c96 => ?_)
        · refine j_keep 6 ?_
          exact j_room _ _ (by omega) (by omega) (K222 M Mx al hr hc)
        · refine j_iload (pc := 99) g dL_isDraft_99 rfl ?_
          refine j_aload_n (pc := 101) g 2 dL_isDraft_101 rfl rfl ?_
          refine j_iload (pc := 102) g dL_isDraft_102 rfl ?_
          refine j_rd (pc := 104) g hr 1 (by decide) (s) (nI mn) dL_isDraft_104 (rfl) (by show s < 6; omega) ((ht.2.1 s hs).trans e4) ?_
          refine j_icmp_ge (pc := 105) g 222 dL_isDraft_105 (by decide) (fun c105 => ?_) (fun c105 => absurd (nI_le (by have q : k < d := Nat.lt_of_not_le (fun z => c96 ((nI_leI (by omega) (by omega)).mpr z)); omega) (by omega)) c105)
          refine j_keep 6 ?_
          exact j_room _ _ (by omega) (by omega) (K222 M Mx al hr hc)
      | succ n ih =>
        intro k M Mx al hr hc hkn
        have hkd : k < d := by omega
        have hkm : k < mn := by omega
        refine j_iload (pc := 91) g dL_isDraft_91 rfl ?_
        refine j_aload_n (pc := 93) g 1 dL_isDraft_93 rfl rfl ?_
        refine j_iconst (pc := 94) g (2) dL_isDraft_94 (by decide) ?_
        refine j_rd (pc := 95) g hr 0 (by decide) (2) (nI d) dL_isDraft_95 (rfl) (by decide) (ht.1.2.2.1) ?_
        refine j_icmp_ge (pc := 96) g 222 dL_isDraft_96 (by decide) (fun c96 => absurd c96 (nI_ge (by omega) (by omega))) (fun c96 => ?_)
        refine j_iload (pc := 99) g dL_isDraft_99 rfl ?_
        refine j_aload_n (pc := 101) g 2 dL_isDraft_101 rfl rfl ?_
        refine j_iload (pc := 102) g dL_isDraft_102 rfl ?_
        refine j_rd (pc := 104) g hr 1 (by decide) (s) (nI mn) dL_isDraft_104 (rfl) (by show s < 6; omega) ((ht.2.1 s hs).trans e4) ?_
        refine j_icmp_ge (pc := 105) g 222 dL_isDraft_105 (by decide) (fun c105 => absurd c105 (nI_ge (by omega) (by omega))) (fun c105 => ?_)
        refine j_iload (pc := 108) g dL_isDraft_108 rfl ?_
        refine j_if_eq (pc := 110) g 222 dL_isDraft_110 (by decide) (fun c110 => absurd c110 (by decide)) (fun c110 => ?_)
        refine j_aload_n (pc := 113) g 0 dL_isDraft_113 rfl rfl ?_
        refine j_iload (pc := 114) g dL_isDraft_114 rfl ?_
        refine j_iload (pc := 116) g dL_isDraft_116 rfl ?_
        refine j_iconst (pc := 118) g (0) dL_isDraft_118 (by decide) ?_
        refine j_cW (pc := 119) (n := 4) g t0 hr (w_part (jl X) (jD X) hst Mx x al S d ns nd hc hk (nI s) (nI k) 0) dL_isDraft_119 gL_isDraft_L_part rfl rfl rfl rfl ⟨by decide, by decide, by decide +kernel⟩ ⟨Nat.le_of_ble_eq_true rfl, Nat.le_of_ble_eq_true rfl⟩ ⟨by show _ ≤ 70; omega, by show _ ≤ 299; omega⟩ rfl (Nat.le_of_ble_eq_true rfl) (fun v Mx M hp hr => ?_)
        obtain ⟨rfl, al, hc⟩ := hp.ok (tp0 hk hs emn hkd hkm (by decide))
        show J X 9 _ _ _ _ [.float (vPart S (nI s) (nI k) 0)] (119 + 3)
        have b0 := vp_0 hk hs emn hkd hkm
        refine fstore_9_7 (pc := 122) g dL_isDraft_122 ?_
        refine j_aload_n (pc := 124) g 0 dL_isDraft_124 rfl rfl ?_
        refine j_iload (pc := 125) g dL_isDraft_125 rfl ?_
        refine j_iload (pc := 127) g dL_isDraft_127 rfl ?_
        refine j_iconst (pc := 129) g (1) dL_isDraft_129 (by decide) ?_
        refine j_cW (pc := 130) (n := 4) g t0 hr (w_part (jl X) (jD X) hst Mx x al S d ns nd hc hk (nI s) (nI k) 1) dL_isDraft_130 gL_isDraft_L_part rfl rfl rfl rfl ⟨by decide, by decide, by decide +kernel⟩ ⟨Nat.le_of_ble_eq_true rfl, Nat.le_of_ble_eq_true rfl⟩ ⟨by show _ ≤ 70; omega, by show _ ≤ 299; omega⟩ rfl (Nat.le_of_ble_eq_true rfl) (fun v Mx M hp hr => ?_)
        obtain ⟨rfl, al, hc⟩ := hp.ok (tp0 hk hs emn hkd hkm (by decide))
        show J X 9 _ _ _ _ [.float (vPart S (nI s) (nI k) 1)] (130 + 3)
        have b1 := vp_1 hk hs emn hkd hkm
        refine fstore_9_8 (pc := 133) g dL_isDraft_133 ?_
        refine j_fload (pc := 135) g dL_isDraft_135 rfl ?_
        refine j_fconst0 (pc := 137) g dL_isDraft_137 ?_
        refine j_fcmp (pc := 138) g dL_isDraft_138 ?_
        refine j_if_lt (pc := 139) g 213 dL_isDraft_139 (by decide) (fun c139 => absurd c139 (Int32.not_lt.mpr (c_ge0 b0))) (fun c139 => ?_)
        refine j_fload (pc := 142) g dL_isDraft_142 rfl ?_
        refine j_ldcf (pc := 144) g 1092616192 dL_isDraft_144 (by decide +kernel) ?_
        refine j_fcmp (pc := 146) g dL_isDraft_146 ?_
        refine j_if_gt (pc := 147) g 213 dL_isDraft_147 (by decide) (fun c147 => absurd c147 (Int32.not_lt.mpr (c_le b0 k10.1.1))) (fun c147 => ?_)
        refine j_fload (pc := 150) g dL_isDraft_150 rfl ?_
        refine j_fconst0 (pc := 152) g dL_isDraft_152 ?_
        refine j_fcmp (pc := 153) g dL_isDraft_153 ?_
        refine j_if_lt (pc := 154) g 213 dL_isDraft_154 (by decide) (fun c154 => absurd c154 (Int32.not_lt.mpr (c_ge0 b1))) (fun c154 => ?_)
        refine j_fload (pc := 157) g dL_isDraft_157 rfl ?_
        refine j_ldcf (pc := 159) g 1092617241 dL_isDraft_159 (by decide +kernel) ?_
        refine j_fcmp (pc := 161) g dL_isDraft_161 ?_
        refine j_if_gt (pc := 162) g 213 dL_isDraft_162 (by decide) (fun c162 => absurd c162 (Int32.not_lt.mpr (c_le b1 kSl.1))) (fun c162 => ?_)
        refine j_aload_n (pc := 165) g 0 dL_isDraft_165 rfl rfl ?_
        refine j_iload (pc := 166) g dL_isDraft_166 rfl ?_
        refine j_iload (pc := 168) g dL_isDraft_168 rfl ?_
        refine j_iconst (pc := 170) g (2) dL_isDraft_170 (by decide) ?_
        refine j_cW (pc := 171) (n := 4) g t0 hr (w_part (jl X) (jD X) hst Mx x al S d ns nd hc hk (nI s) (nI k) 2) dL_isDraft_171 gL_isDraft_L_part rfl rfl rfl rfl ⟨by decide, by decide, by decide +kernel⟩ ⟨Nat.le_of_ble_eq_true rfl, Nat.le_of_ble_eq_true rfl⟩ ⟨by show _ ≤ 70; omega, by show _ ≤ 299; omega⟩ rfl (Nat.le_of_ble_eq_true rfl) (fun v Mx M hp hr => ?_)
        obtain ⟨rfl, al, hc⟩ := hp.ok (tp0 hk hs emn hkd hkm (by decide))
        rw [vp_2 hk hs e4]
        show J X 9 _ _ _ _ [.float (ordV (nI d) (nI mn))] (171 + 3)
        refine j_aload_n (pc := 174) g 1 dL_isDraft_174 rfl rfl ?_
        refine j_iconst (pc := 175) g (2) dL_isDraft_175 (by decide) ?_
        refine j_rd (pc := 176) g hr 0 (by decide) (2) (nI d) dL_isDraft_176 (rfl) (by decide) (ht.1.2.2.1) ?_
        refine j_aload_n (pc := 177) g 2 dL_isDraft_177 rfl rfl ?_
        refine j_iload (pc := 178) g dL_isDraft_178 rfl ?_
        refine j_rd (pc := 180) g hr 1 (by decide) (s) (nI mn) dL_isDraft_180 (rfl) (by show s < 6; omega) ((ht.2.1 s hs).trans e4) ?_
        refine j_icmp_ne (pc := 181) g 189 dL_isDraft_181 (by decide) (fun c181 => ?_) (fun c181 => ?_)
        · refine j_fconst0 (pc := 189) g dL_isDraft_189 ?_
          refine j_fcmp (pc := 190) g dL_isDraft_190 ?_
          refine j_if_ne (pc := 191) g 213 dL_isDraft_191 (by decide) (fun c191 => absurd c191 (not_not_intro (by unfold ordV; first | (rw [if_neg c181]; exact fc_0) | (rw [if_pos c181]; exact fc_10)))) (fun c191 => ?_)
          refine j_aload_n (pc := 194) g 0 dL_isDraft_194 rfl rfl ?_
          refine j_iload (pc := 195) g dL_isDraft_195 rfl ?_
          refine j_iload (pc := 197) g dL_isDraft_197 rfl ?_
          refine j_iconst (pc := 199) g (3) dL_isDraft_199 (by decide) ?_
          refine j_cW (pc := 200) (n := 4) g t0 hr (w_part (jl X) (jD X) hst Mx x al S d ns nd hc hk (nI s) (nI k) 3) dL_isDraft_200 gL_isDraft_L_part rfl rfl rfl rfl ⟨by decide, by decide, by decide +kernel⟩ ⟨Nat.le_of_ble_eq_true rfl, Nat.le_of_ble_eq_true rfl⟩ ⟨by show _ ≤ 70; omega, by show _ ≤ 299; omega⟩ rfl (Nat.le_of_ble_eq_true rfl) (fun v Mx M hp hr => ?_)
          obtain ⟨rfl, al, hc⟩ := hp.no2 (tp9 hk hs emn hkd hkm)
          show J X 9 _ _ _ _ [.float 3379831840] (200 + 3)
          refine j_ldcf (pc := 203) g 3379831840 dL_isDraft_203 (by decide +kernel) ?_
          refine j_fcmp (pc := 205) g dL_isDraft_205 ?_
          refine j_if_ne (pc := 206) g 213 dL_isDraft_206 (by decide) (fun c206 => absurd c206 (not_not_intro fc_s2)) (fun c206 => ?_)
          refine j_iconst (pc := 209) g (1) dL_isDraft_209 (by decide) ?_
          refine j_goto (pc := 210) g 214 dL_isDraft_210 (by decide) ?_
          refine istore_9_5 (pc := 214) g dL_isDraft_214 ?_
          refine iinc_9_6_1 (pc := 216) g dL_isDraft_216 ?_
          refine j_goto (pc := 219) g 91 dL_isDraft_219 (by decide) ?_
          refine j_keep 7 ?_
          have q9 := ih (k + 1) M Mx al hr hc (by omega)
          rw [← nI_1 k] at q9
          exact j_room _ _ (by omega) (by omega) q9
        · refine j_ldcf (pc := 184) g 1092616192 dL_isDraft_184 (by decide +kernel) ?_
          refine j_goto (pc := 186) g 190 dL_isDraft_186 (by decide) ?_
          refine j_fcmp (pc := 190) g dL_isDraft_190 ?_
          refine j_if_ne (pc := 191) g 213 dL_isDraft_191 (by decide) (fun c191 => absurd c191 (not_not_intro (by unfold ordV; first | (rw [if_neg c181]; exact fc_0) | (rw [if_pos c181]; exact fc_10)))) (fun c191 => ?_)
          refine j_aload_n (pc := 194) g 0 dL_isDraft_194 rfl rfl ?_
          refine j_iload (pc := 195) g dL_isDraft_195 rfl ?_
          refine j_iload (pc := 197) g dL_isDraft_197 rfl ?_
          refine j_iconst (pc := 199) g (3) dL_isDraft_199 (by decide) ?_
          refine j_cW (pc := 200) (n := 4) g t0 hr (w_part (jl X) (jD X) hst Mx x al S d ns nd hc hk (nI s) (nI k) 3) dL_isDraft_200 gL_isDraft_L_part rfl rfl rfl rfl ⟨by decide, by decide, by decide +kernel⟩ ⟨Nat.le_of_ble_eq_true rfl, Nat.le_of_ble_eq_true rfl⟩ ⟨by show _ ≤ 70; omega, by show _ ≤ 299; omega⟩ rfl (Nat.le_of_ble_eq_true rfl) (fun v Mx M hp hr => ?_)
          obtain ⟨rfl, al, hc⟩ := hp.no2 (tp9 hk hs emn hkd hkm)
          show J X 9 _ _ _ _ [.float 3379831840] (200 + 3)
          refine j_ldcf (pc := 203) g 3379831840 dL_isDraft_203 (by decide +kernel) ?_
          refine j_fcmp (pc := 205) g dL_isDraft_205 ?_
          refine j_if_ne (pc := 206) g 213 dL_isDraft_206 (by decide) (fun c206 => absurd c206 (not_not_intro fc_s2)) (fun c206 => ?_)
          refine j_iconst (pc := 209) g (1) dL_isDraft_209 (by decide) ?_
          refine j_goto (pc := 210) g 214 dL_isDraft_210 (by decide) ?_
          refine istore_9_5 (pc := 214) g dL_isDraft_214 ?_
          refine iinc_9_6_1 (pc := 216) g dL_isDraft_216 ?_
          refine j_goto (pc := 219) g 91 dL_isDraft_219 (by decide) ?_
          refine j_keep 7 ?_
          have q9 := ih (k + 1) M Mx al hr hc (by omega)
          rw [← nI_1 k] at q9
          exact j_room _ _ (by omega) (by omega) q9
    exact j_room _ _ (by omega) (by omega) (L91 (min d mn) 0 M Mx al hr hc (by omega))
  · refine j_aload_n (pc := 6) g 0 dL_isDraft_6 rfl rfl ?_
    refine j_iconst (pc := 7) g (0) dL_isDraft_7 (by decide) ?_
    refine j_iconst (pc := 8) g (0) dL_isDraft_8 (by decide) ?_
    refine j_cW (pc := 9) (n := 3) g t0 hr (w_mark (jl X) (jD X) hst Mx x al S d ns nd hc hk 0 0) dL_isDraft_9 gL_isDraft_L_mark rfl rfl rfl rfl ⟨by decide, by decide, by decide +kernel⟩ ⟨Nat.le_of_ble_eq_true rfl, Nat.le_of_ble_eq_true rfl⟩ ⟨by show _ ≤ 70; omega, by show _ ≤ 299; omega⟩ rfl (Nat.le_of_ble_eq_true rfl) (fun v Mx M hp hr => ?_)
    obtain ⟨rfl, al, hc⟩ := hp.no1 (tm0 hk (by have q := (nI_eq (b := 0) (by omega) (by decide)).mp c3; exact q))
    show J X 9 _ _ _ _ [.float 3379831824] (9 + 3)
    refine j_ldcf (pc := 12) g 3379831824 dL_isDraft_12 (by decide +kernel) ?_
    refine j_fcmp (pc := 14) g dL_isDraft_14 ?_
    refine j_if_ne (pc := 15) g 22 dL_isDraft_15 (by decide) (fun c15 => absurd c15 (not_not_intro fc_s1)) (fun c15 => ?_)
    refine j_iconst (pc := 18) g (1) dL_isDraft_18 (by decide) ?_
    refine j_goto (pc := 19) g 23 dL_isDraft_19 (by decide) ?_
    exact j_iret (pc := 23) g r rfl rfl (⟨rfl, _, _, hr, hc, hk, ht⟩) dL_isDraft_23 (by omega) (by omega)
