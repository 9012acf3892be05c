theorem fstore_13_12 {X : JC} {cc : ByteArray} {own : String} {Ts : List Cond} {cells slots pc : Nat} {rm : Room} {M : MH} {st : List Value} {a0 a1 a2 a3 a4 a5 a6 a7 a8 a9 a10 a11 a12 : Option Value} (g : jG X cc own Ts 13 rm) {x : UInt32} (hd : decode cc pc = .ok (.fstore 12, 2)) (k : J X 13 cells slots M [a0, a1, a2, a3, a4, a5, a6, a7, a8, a9, a10, a11, some (.float x)] st (pc + 2)) : J X 13 cells slots M [a0, a1, a2, a3, a4, a5, a6, a7, a8, a9, a10, a11, a12] (.float x :: st) pc := j_fstore g hd (Nat.le_of_ble_eq_true rfl) k
theorem iinc_13_11_1 {X : JC} {cc : ByteArray} {own : String} {Ts : List Cond} {cells slots pc : Nat} {rm : Room} {M : MH} {st : List Value} {a0 a1 a2 a3 a4 a5 a6 a7 a8 a9 a10 a12 : Option Value} (g : jG X cc own Ts 13 rm) {x : Int32} (hd : decode cc pc = .ok (.iinc 11 1, 3)) (k : J X 13 cells slots M [a0, a1, a2, a3, a4, a5, a6, a7, a8, a9, a10, some (.int (x + 1)), a12] st (pc + 3)) : J X 13 cells slots M [a0, a1, a2, a3, a4, a5, a6, a7, a8, a9, a10, some (.int x), a12] st pc := j_iinc g (x + 1) hd rfl rfl k



set_option maxHeartbeats 1000000 in
set_option maxRecDepth 100000 in
theorem h_isDuel (l : Launch) (D : va_G) (hst : l.stackTraces = false) {n0 : Nat} {M Mx : MH} {x : Nat} {ra : Nat → Nat} {al : Nat → Nat → Nat} {R S : ST} {d ns nd : Nat} (hr : LR M Mx ra R) (hc : CRep Mx x al S d ns nd) (hk : mOK S d ns nd) (ht : tie n0 S R d ns nd) (i : Nat) (hi : i < nd) : xW l D yL_isDuel wsL_isDuel ({ frames := 8, cells := 18, slots := 108, locals := 191 }) 18 108 [.ref x, .ref (ra 0), .ref (ra 4), .int (nI i)] M (fun v M1 => v = some (.int 1) ∧ LV n0 M1 x ra R S d ns nd) := by
  refine xV_of (cc := cL_isDuel) (maxL := 13) (ret := (some .boolean)) (own := RL) [some (.ref x), some (.ref (ra 0)), some (.ref (ra 4)), some (.int (nI i)), none, none, none, none, none, none, none, none, none] (by decide) rfl rfl (Nat.le_of_ble_eq_true rfl) rfl rfl rfl ?_
  intro X hXl hXD g r t0
  subst hXl
  subst hXD
  have n8 := ht.2.2.2.2.2.2.2.2.2
  have i8 : i < 8 := by omega
  have hdt := ht.2.2.2.2.1 i hi
  obtain ⟨hN, rN, e22, e18, x22, x18, hh, r5, r1⟩ := du_nums hk hi
  obtain ⟨a, b, ea, eb, hab, hab2⟩ := rs_ok e22 (by omega) rN r5
  have h10 : hN ≤ 10 := by omega
  have hwn := wn_f e22 e18 x18 hh r5 ea eb (by omega)
  refine j_bipush (pc := 0) g (8) dL_isDuel_0 (by decide) ?_
  refine j_iload_n (pc := 2) g 3 dL_isDuel_2 rfl rfl ?_
  refine j_imul (pc := 3) g dL_isDuel_3 ?_
  refine j_topi (nI (8 * i)) (pk_mul 8 i) ?_
  refine istore_13_4 (pc := 4) g dL_isDuel_4 ?_
  refine j_aload_n (pc := 6) g 0 dL_isDuel_6 rfl rfl ?_
  refine j_iload_n (pc := 7) g 3 dL_isDuel_7 rfl rfl ?_
  refine j_iconst (pc := 8) g (1) dL_isDuel_8 (by decide) ?_
  refine j_cW (pc := 9) (n := 3) g t0 hr (w_of (jl X) (jD X) hst Mx x al S d ns nd hc hk (nI i) 1) dL_isDuel_9 gL_isDuel_L_of rfl rfl rfl rfl ⟨by decide, by decide, by decide +kernel⟩ ⟨Nat.le_of_ble_eq_true rfl, Nat.le_of_ble_eq_true rfl⟩ ⟨by show _ ≤ 18; omega, by show _ ≤ 108; omega⟩ rfl (Nat.le_of_ble_eq_true rfl) (fun v Mx M hp hr => ?_)
  obtain ⟨rfl, al, hc⟩ := hp.ok (to0 hk hi (by decide))
  show J X 13 _ _ _ _ [.int (vOf S (ix (nI i)) 1)] (9 + 3)
  rw [ve1 i8 x18 ea]
  refine istore_13_5 (pc := 12) g dL_isDuel_12 ?_
  refine j_aload_n (pc := 14) g 0 dL_isDuel_14 rfl rfl ?_
  refine j_iload_n (pc := 15) g 3 dL_isDuel_15 rfl rfl ?_
  refine j_iconst (pc := 16) g (2) dL_isDuel_16 (by decide) ?_
  refine j_cW (pc := 17) (n := 3) g t0 hr (w_of (jl X) (jD X) hst Mx x al S d ns nd hc hk (nI i) 2) dL_isDuel_17 gL_isDuel_L_of rfl rfl rfl rfl ⟨by decide, by decide, by decide +kernel⟩ ⟨Nat.le_of_ble_eq_true rfl, Nat.le_of_ble_eq_true rfl⟩ ⟨by show _ ≤ 18; omega, by show _ ≤ 108; omega⟩ rfl (Nat.le_of_ble_eq_true rfl) (fun v Mx M hp hr => ?_)
  obtain ⟨rfl, al, hc⟩ := hp.ok (to0 hk hi (by decide))
  show J X 13 _ _ _ _ [.int (vOf S (ix (nI i)) 2)] (17 + 3)
  rw [ve2 i8 x18 eb]
  refine istore_13_6 (pc := 20) g dL_isDuel_20 ?_
  refine j_aload_n (pc := 22) g 2 dL_isDuel_22 rfl rfl ?_
  refine j_iload (pc := 23) g dL_isDuel_23 rfl ?_
  refine j_iconst (pc := 25) g (5) dL_isDuel_25 (by decide) ?_
  refine j_iadd (pc := 26) g dL_isDuel_26 ?_
  refine j_rd (pc := 27) g hr 4 (by decide) (8 * i + 5) (nI hN) dL_isDuel_27 (nI_add _ 5) (by show 8 * i + 5 < 64; omega) (hdt.2.2.2.2.2.1.trans e22) ?_
  refine j_iconst (pc := 28) g (2) dL_isDuel_28 (by decide) ?_
  refine j_idiv (pc := 29) g dL_isDuel_29 (by decide) ?_
  refine j_topi (nI (hN / 2)) (pk_div (d := 2) (by omega) (by omega) (by omega)) ?_
  refine istore_13_7 (pc := 30) g dL_isDuel_30 ?_
  refine j_aload_n (pc := 32) g 2 dL_isDuel_32 rfl rfl ?_
  refine j_iload (pc := 33) g dL_isDuel_33 rfl ?_
  refine j_iconst (pc := 35) g (5) dL_isDuel_35 (by decide) ?_
  refine j_iadd (pc := 36) g dL_isDuel_36 ?_
  refine j_rd (pc := 37) g hr 4 (by decide) (8 * i + 5) (nI hN) dL_isDuel_37 (nI_add _ 5) (by show 8 * i + 5 < 64; omega) (hdt.2.2.2.2.2.1.trans e22) ?_
  refine j_iconst (pc := 38) g (2) dL_isDuel_38 (by decide) ?_
  refine j_aload_n (pc := 39) g 2 dL_isDuel_39 rfl rfl ?_
  refine j_iload (pc := 40) g dL_isDuel_40 rfl ?_
  refine j_iconst (pc := 42) g (4) dL_isDuel_42 (by decide) ?_
  refine j_iadd (pc := 43) g dL_isDuel_43 ?_
  refine j_rd (pc := 44) g hr 4 (by decide) (8 * i + 4) (nI rN) dL_isDuel_44 (nI_add _ 4) (by show 8 * i + 4 < 64; omega) (hdt.2.2.2.2.1.trans e18) ?_
  refine j_imul (pc := 45) g dL_isDuel_45 ?_
  have K1 : ∀ (bb : Int32) (hbb : bb = b01 (hN = 2 * rN)), J X 13 2 12 (M) [some (.ref x), some (.ref (ra 0)), some (.ref (ra 4)), some (.int (nI i)), some (.int (nI (8 * i))), some (.int (nI a)), some (.int (nI b)), some (.int (nI (hN / 2))), none, none, none, none, none] [.int bb] 54 := by
    intro bb hbb
    refine istore_13_8 (pc := 54) g dL_isDuel_54 ?_
    have K92 : ∀ (ww : Int32) (hww : ww = wnS S i), J X 13 2 12 (M) [some (.ref x), some (.ref (ra 0)), some (.ref (ra 4)), some (.int (nI i)), some (.int (nI (8 * i))), some (.int (nI a)), some (.int (nI b)), some (.int (nI (hN / 2))), some (.int bb), none, none, none, none] [.int ww] 92 := by
      intro ww hww
      subst hww
      refine istore_13_9 (pc := 92) g dL_isDuel_92 ?_
      refine j_aload_n (pc := 94) g 0 dL_isDuel_94 rfl rfl ?_
      refine j_iload_n (pc := 95) g 3 dL_isDuel_95 rfl rfl ?_
      refine j_iconst (pc := 96) g (0) dL_isDuel_96 (by decide) ?_
      refine j_cW (pc := 97) (n := 3) g t0 hr (w_of (jl X) (jD X) hst Mx x al S d ns nd hc hk (nI i) 0) dL_isDuel_97 gL_isDuel_L_of rfl rfl rfl rfl ⟨by decide, by decide, by decide +kernel⟩ ⟨Nat.le_of_ble_eq_true rfl, Nat.le_of_ble_eq_true rfl⟩ ⟨by show _ ≤ 18; omega, by show _ ≤ 108; omega⟩ rfl (Nat.le_of_ble_eq_true rfl) (fun v Mx M hp hr => ?_)
      obtain ⟨rfl, al, hc⟩ := hp.ok (to0 hk hi (by decide))
      show J X 13 _ _ _ _ [.int (vOf S (ix (nI i)) 0)] (97 + 3)
      rw [ve0 i8 e22]
      refine j_aload_n (pc := 100) g 2 dL_isDuel_100 rfl rfl ?_
      refine j_iload (pc := 101) g dL_isDuel_101 rfl ?_
      refine j_iconst (pc := 103) g (5) dL_isDuel_103 (by decide) ?_
      refine j_iadd (pc := 104) g dL_isDuel_104 ?_
      refine j_rd (pc := 105) g hr 4 (by decide) (8 * i + 5) (nI hN) dL_isDuel_105 (nI_add _ 5) (by show 8 * i + 5 < 64; omega) (hdt.2.2.2.2.2.1.trans e22) ?_
      refine j_icmp_ne (pc := 106) g 188 dL_isDuel_106 (by decide) (fun c106 => absurd c106 (not_not_intro rfl)) (fun c106 => ?_)
      refine j_iload (pc := 109) g dL_isDuel_109 rfl ?_
      refine j_if_lt (pc := 111) g 188 dL_isDuel_111 (by decide) (fun c111 => absurd c111 (nI_pos (by omega))) (fun c111 => ?_)
      refine j_iload (pc := 114) g dL_isDuel_114 rfl ?_
      refine j_if_lt (pc := 116) g 188 dL_isDuel_116 (by decide) (fun c116 => absurd c116 (nI_pos (by omega))) (fun c116 => ?_)
      refine j_iload (pc := 119) g dL_isDuel_119 rfl ?_
      refine j_iload (pc := 121) g dL_isDuel_121 rfl ?_
      refine j_iadd (pc := 123) g dL_isDuel_123 ?_
      refine j_topi (nI (a + b)) (nI_add a b) ?_
      refine j_iload (pc := 124) g dL_isDuel_124 rfl ?_
      refine j_icmp_gt (pc := 126) g 188 dL_isDuel_126 (by decide) (fun c126 => absurd c126 (nI_nlt (by omega) (by omega))) (fun c126 => ?_)
      refine j_aload_n (pc := 129) g 0 dL_isDuel_129 rfl rfl ?_
      refine j_iload_n (pc := 130) g 3 dL_isDuel_130 rfl rfl ?_
      refine j_iconst (pc := 131) g (3) dL_isDuel_131 (by decide) ?_
      refine j_cW (pc := 132) (n := 3) g t0 hr (w_of (jl X) (jD X) hst Mx x al S d ns nd hc hk (nI i) 3) dL_isDuel_132 gL_isDuel_L_of rfl rfl rfl rfl ⟨by decide, by decide, by decide +kernel⟩ ⟨Nat.le_of_ble_eq_true rfl, Nat.le_of_ble_eq_true rfl⟩ ⟨by show _ ≤ 18; omega, by show _ ≤ 108; omega⟩ rfl (Nat.le_of_ble_eq_true rfl) (fun v Mx M hp hr => ?_)
      obtain ⟨rfl, al, hc⟩ := hp.ok (to0 hk hi (by decide))
      show J X 13 _ _ _ _ [.int (vOf S (ix (nI i)) 3)] (132 + 3)
      rw [ve3 i8]
      refine j_iload (pc := 135) g dL_isDuel_135 rfl ?_
      refine j_icmp_ne (pc := 137) g 188 dL_isDuel_137 (by decide) (fun c137 => absurd c137 (not_not_intro rfl)) (fun c137 => ?_)
      refine j_aload_n (pc := 140) g 0 dL_isDuel_140 rfl rfl ?_
      refine j_iload_n (pc := 141) g 3 dL_isDuel_141 rfl rfl ?_
      refine j_iconst (pc := 142) g (4) dL_isDuel_142 (by decide) ?_
      refine j_cW (pc := 143) (n := 3) g t0 hr (w_of (jl X) (jD X) hst Mx x al S d ns nd hc hk (nI i) 4) dL_isDuel_143 gL_isDuel_L_of rfl rfl rfl rfl ⟨by decide, by decide, by decide +kernel⟩ ⟨Nat.le_of_ble_eq_true rfl, Nat.le_of_ble_eq_true rfl⟩ ⟨by show _ ≤ 18; omega, by show _ ≤ 108; omega⟩ rfl (Nat.le_of_ble_eq_true rfl) (fun v Mx M hp hr => ?_)
      obtain ⟨rfl, al, hc⟩ := hp.ok (to0 hk hi (by decide))
      show J X 13 _ _ _ _ [.int (vOf S (ix (nI i)) 4)] (143 + 3)
      rw [ve4 i8]
      refine j_aload_n (pc := 146) g 2 dL_isDuel_146 rfl rfl ?_
      refine j_iload (pc := 147) g dL_isDuel_147 rfl ?_
      refine j_bipush (pc := 149) g (6) dL_isDuel_149 (by decide) ?_
      refine j_iadd (pc := 151) g dL_isDuel_151 ?_
      refine j_rd (pc := 152) g hr 4 (by decide) (8 * i + 6) (S 21 i) dL_isDuel_152 (nI_add _ 6) (by show 8 * i + 6 < 64; omega) (hdt.2.2.2.2.2.2.1) ?_
      refine j_icmp_ne (pc := 153) g 188 dL_isDuel_153 (by decide) (fun c153 => absurd c153 (not_not_intro rfl)) (fun c153 => ?_)
      refine j_aload_n (pc := 156) g 0 dL_isDuel_156 rfl rfl ?_
      refine j_iload_n (pc := 157) g 3 dL_isDuel_157 rfl rfl ?_
      refine j_iconst (pc := 158) g (5) dL_isDuel_158 (by decide) ?_
      refine j_cW (pc := 159) (n := 3) g t0 hr (w_of (jl X) (jD X) hst Mx x al S d ns nd hc hk (nI i) 5) dL_isDuel_159 gL_isDuel_L_of rfl rfl rfl rfl ⟨by decide, by decide, by decide +kernel⟩ ⟨Nat.le_of_ble_eq_true rfl, Nat.le_of_ble_eq_true rfl⟩ ⟨by show _ ≤ 18; omega, by show _ ≤ 108; omega⟩ rfl (Nat.le_of_ble_eq_true rfl) (fun v Mx M hp hr => ?_)
      obtain ⟨rfl, al, hc⟩ := hp.ok (to0 hk hi (by decide))
      show J X 13 _ _ _ _ [.int (vOf S (ix (nI i)) 5)] (159 + 3)
      rw [ve5 i8]
      refine j_aload_n (pc := 162) g 2 dL_isDuel_162 rfl rfl ?_
      refine j_iload (pc := 163) g dL_isDuel_163 rfl ?_
      refine j_bipush (pc := 165) g (7) dL_isDuel_165 (by decide) ?_
      refine j_iadd (pc := 167) g dL_isDuel_167 ?_
      refine j_rd (pc := 168) g hr 4 (by decide) (8 * i + 7) (S 16 i) dL_isDuel_168 (nI_add _ 7) (by show 8 * i + 7 < 64; omega) (hdt.2.2.2.2.2.2.2.1) ?_
      refine j_icmp_ne (pc := 169) g 188 dL_isDuel_169 (by decide) (fun c169 => absurd c169 (not_not_intro rfl)) (fun c169 => ?_)
      refine j_aload_n (pc := 172) g 0 dL_isDuel_172 rfl rfl ?_
      refine j_iload_n (pc := 173) g 3 dL_isDuel_173 rfl rfl ?_
      refine j_bipush (pc := 174) g (6) dL_isDuel_174 (by decide) ?_
      refine j_cW (pc := 176) (n := 3) g t0 hr (w_of (jl X) (jD X) hst Mx x al S d ns nd hc hk (nI i) 6) dL_isDuel_176 gL_isDuel_L_of rfl rfl rfl rfl ⟨by decide, by decide, by decide +kernel⟩ ⟨Nat.le_of_ble_eq_true rfl, Nat.le_of_ble_eq_true rfl⟩ ⟨by show _ ≤ 18; omega, by show _ ≤ 108; omega⟩ rfl (Nat.le_of_ble_eq_true rfl) (fun v Mx M hp hr => ?_)
      obtain ⟨rfl, al, hc⟩ := hp.no2 (to6 hk hi)
      show J X 13 _ _ _ _ [.int (-1000002)] (176 + 3)
      refine j_ldci (pc := 179) g (-1000002) dL_isDuel_179 (by decide +kernel) ?_
      refine j_icmp_ne (pc := 181) g 188 dL_isDuel_181 (by decide) (fun c181 => absurd c181 (not_not_intro rfl)) (fun c181 => ?_)
      refine j_iconst (pc := 184) g (1) dL_isDuel_184 (by decide) ?_
      refine j_goto (pc := 185) g 189 dL_isDuel_185 (by decide) ?_
      refine istore_13_10 (pc := 189) g dL_isDuel_189 ?_
      refine j_iconst (pc := 191) g (0) dL_isDuel_191 (by decide) ?_
      refine istore_13_11 (pc := 192) g dL_isDuel_192 ?_
      have L194 : ∀ (n : Nat) (k : Nat) (M Mx : MH) (al : Nat → Nat → Nat) (hr : LR M Mx ra R) (hc : CRep Mx x al S d ns nd) (hkn : k + n = 11), J X 13 (18 - n) (6 * (18 - n)) (M) [some (.ref x), some (.ref (ra 0)), some (.ref (ra 4)), some (.int (nI i)), some (.int (nI (8 * i))), some (.int (nI a)), some (.int (nI b)), some (.int (nI (hN / 2))), some (.int bb), some (.int (wnS S i)), some (.int 1), some (.int (nI k)), none] [] 194 := by
        intro n
        induction n with
        | zero =>
          intro k M Mx al hr hc hkn
          refine j_iload (pc := 194) g dL_isDuel_194 rfl ?_
          refine j_bipush (pc := 196) g (11) dL_isDuel_196 (by decide) ?_
          refine j_icmp_ge (pc := 198) g 285 dL_isDuel_198 (by decide) (fun c198 => ?_) (fun c198 => absurd (nI_le (a := 11) (by omega) (by omega)) c198)
          refine j_iload (pc := 285) g dL_isDuel_285 rfl ?_
          exact j_iret (pc := 287) g r rfl rfl (⟨rfl, _, _, hr, hc, hk, ht⟩) dL_isDuel_287 (by omega) (by omega)
        | succ n ih =>
          intro k M Mx al hr hc hkn
          refine j_iload (pc := 194) g dL_isDuel_194 rfl ?_
          refine j_bipush (pc := 196) g (11) dL_isDuel_196 (by decide) ?_
          refine j_icmp_ge (pc := 198) g 285 dL_isDuel_198 (by decide) (fun c198 => absurd c198 (nI_ge (b := 11) (by omega) (by omega))) (fun c198 => ?_)
          refine j_iload (pc := 201) g dL_isDuel_201 rfl ?_
          refine j_if_eq (pc := 203) g 285 dL_isDuel_203 (by decide) (fun c203 => absurd c203 (by decide)) (fun c203 => ?_)
          refine j_aload_n (pc := 206) g 0 dL_isDuel_206 rfl rfl ?_
          refine j_iload_n (pc := 207) g 3 dL_isDuel_207 rfl rfl ?_
          refine j_iload (pc := 208) g dL_isDuel_208 rfl ?_
          refine j_iconst (pc := 210) g (2) dL_isDuel_210 (by decide) ?_
          refine j_idiv (pc := 211) g dL_isDuel_211 (by decide) ?_
          refine j_topi (nI (k / 2)) (pk_div (d := 2) (by omega) (by omega) (by omega)) ?_
          refine j_iload (pc := 212) g dL_isDuel_212 rfl ?_
          refine j_iconst (pc := 214) g (2) dL_isDuel_214 (by decide) ?_
          refine j_irem (pc := 215) g dL_isDuel_215 (by decide) ?_
          refine j_topi (nI (k % 2)) (pk_rem (d := 2) (by omega) (by omega) (by omega)) ?_
          refine j_iconst (pc := 216) g (1) dL_isDuel_216 (by decide) ?_
          have K225 : ∀ (ob : Int32) (hob : ob = b01 (k % 2 = 1)), J X 13 (18 - (n + 1)) (6 * (18 - (n + 1))) (M) [some (.ref x), some (.ref (ra 0)), some (.ref (ra 4)), some (.int (nI i)), some (.int (nI (8 * i))), some (.int (nI a)), some (.int (nI b)), some (.int (nI (hN / 2))), some (.int bb), some (.int (wnS S i)), some (.int 1), some (.int (nI k)), none] [.int ob, .int (nI (k / 2)), .int (nI i), .ref x] 225 := by
            intro ob hob
            by_cases hkh : k < hN
            · refine j_cW (pc := 225) (n := 4) g t0 hr (w_marked (jl X) (jD X) hst Mx x al S d ns nd hc hk (nI i) (nI (k / 2)) ob) dL_isDuel_225 gL_isDuel_L_marked rfl rfl rfl rfl ⟨by decide, by decide, by decide +kernel⟩ ⟨Nat.le_of_ble_eq_true rfl, Nat.le_of_ble_eq_true rfl⟩ ⟨by show _ ≤ 18; omega, by show _ ≤ 108; omega⟩ rfl (Nat.le_of_ble_eq_true rfl) (fun v Mx M hp hr => ?_)
              obtain ⟨rfl, al, hc⟩ := hp.ok (tMd_0 hk hi x22 hob h10 hkh)
              show J X 13 _ _ _ _ [.float (allS S (ix (nI i)) (wI (ix (nI i)) (ix (nI (k / 2))) ob))] (225 + 3)
              have b0 := md_b hk hi i8 x22 hob h10 hkh
              refine fstore_13_12 (pc := 228) g dL_isDuel_228 ?_
              refine j_iload (pc := 230) g dL_isDuel_230 rfl ?_
              refine j_aload_n (pc := 232) g 2 dL_isDuel_232 rfl rfl ?_
              refine j_iload (pc := 233) g dL_isDuel_233 rfl ?_
              refine j_iconst (pc := 235) g (5) dL_isDuel_235 (by decide) ?_
              refine j_iadd (pc := 236) g dL_isDuel_236 ?_
              refine j_rd (pc := 237) g hr 4 (by decide) (8 * i + 5) (nI hN) dL_isDuel_237 (nI_add _ 5) (by show 8 * i + 5 < 64; omega) (hdt.2.2.2.2.2.1.trans e22) ?_
              refine j_icmp_ge (pc := 238) g 264 dL_isDuel_238 (by decide) (fun c238 => absurd c238 (nI_ge hkh (by omega))) (fun c238 => ?_)
              refine j_fload (pc := 241) g dL_isDuel_241 rfl ?_
              refine j_fconst0 (pc := 243) g dL_isDuel_243 ?_
              refine j_fcmp (pc := 244) g dL_isDuel_244 ?_
              refine j_if_lt (pc := 245) g 260 dL_isDuel_245 (by decide) (fun c245 => absurd c245 (Int32.not_lt.mpr (c_ge0 b0))) (fun c245 => ?_)
              refine j_fload (pc := 248) g dL_isDuel_248 rfl ?_
              refine j_ldcf (pc := 250) g 1106252923 dL_isDuel_250 (by decide +kernel) ?_
              refine j_fcmp (pc := 252) g dL_isDuel_252 ?_
              refine j_if_gt (pc := 253) g 260 dL_isDuel_253 (by decide) (fun c253 => absurd c253 (Int32.not_lt.mpr (c_le b0 k31.1))) (fun c253 => ?_)
              refine j_iconst (pc := 256) g (1) dL_isDuel_256 (by decide) ?_
              refine j_goto (pc := 257) g 277 dL_isDuel_257 (by decide) ?_
              refine istore_13_10 (pc := 277) g dL_isDuel_277 ?_
              refine iinc_13_11_1 (pc := 279) g dL_isDuel_279 ?_
              refine j_goto (pc := 282) g 194 dL_isDuel_282 (by decide) ?_
              refine j_keep 12 ?_
              have q9 := ih (k + 1) M Mx al hr hc (by omega)
              rw [← nI_1 k] at q9
              exact j_room _ _ (by omega) (by omega) q9
            · refine j_cW (pc := 225) (n := 4) g t0 hr (w_marked (jl X) (jD X) hst Mx x al S d ns nd hc hk (nI i) (nI (k / 2)) ob) dL_isDuel_225 gL_isDuel_L_marked rfl rfl rfl rfl ⟨by decide, by decide, by decide +kernel⟩ ⟨Nat.le_of_ble_eq_true rfl, Nat.le_of_ble_eq_true rfl⟩ ⟨by show _ ≤ 18; omega, by show _ ≤ 108; omega⟩ rfl (Nat.le_of_ble_eq_true rfl) (fun v Mx M hp hr => ?_)
              obtain ⟨rfl, al, hc⟩ := hp.no1 (tMd_1 hk hi x22 hob h10 hkh (by omega))
              show J X 13 _ _ _ _ [.float 3379831824] (225 + 3)
              refine fstore_13_12 (pc := 228) g dL_isDuel_228 ?_
              refine j_iload (pc := 230) g dL_isDuel_230 rfl ?_
              refine j_aload_n (pc := 232) g 2 dL_isDuel_232 rfl rfl ?_
              refine j_iload (pc := 233) g dL_isDuel_233 rfl ?_
              refine j_iconst (pc := 235) g (5) dL_isDuel_235 (by decide) ?_
              refine j_iadd (pc := 236) g dL_isDuel_236 ?_
              refine j_rd (pc := 237) g hr 4 (by decide) (8 * i + 5) (nI hN) dL_isDuel_237 (nI_add _ 5) (by show 8 * i + 5 < 64; omega) (hdt.2.2.2.2.2.1.trans e22) ?_
              refine j_icmp_ge (pc := 238) g 264 dL_isDuel_238 (by decide) (fun c238 => ?_) (fun c238 => absurd (nI_le (by omega) (by omega)) c238)
              refine j_fload (pc := 264) g dL_isDuel_264 rfl ?_
              refine j_ldcf (pc := 266) g 3379831824 dL_isDuel_266 (by decide +kernel) ?_
              refine j_fcmp (pc := 268) g dL_isDuel_268 ?_
              refine j_if_ne (pc := 269) g 276 dL_isDuel_269 (by decide) (fun c269 => absurd c269 (not_not_intro fc_s1)) (fun c269 => ?_)
              refine j_iconst (pc := 272) g (1) dL_isDuel_272 (by decide) ?_
              refine j_goto (pc := 273) g 277 dL_isDuel_273 (by decide) ?_
              refine istore_13_10 (pc := 277) g dL_isDuel_277 ?_
              refine iinc_13_11_1 (pc := 279) g dL_isDuel_279 ?_
              refine j_goto (pc := 282) g 194 dL_isDuel_282 (by decide) ?_
              refine j_keep 12 ?_
              have q9 := ih (k + 1) M Mx al hr hc (by omega)
              rw [← nI_1 k] at q9
              exact j_room _ _ (by omega) (by omega) q9
          refine j_icmp_ne (pc := 217) g 224 dL_isDuel_217 (by decide) (fun c217 => ?_) (fun c217 => ?_)
          · refine j_iconst (pc := 224) g (0) dL_isDuel_224 (by decide) ?_
            exact K225 _ ((b01_f (fun z => c217 (by rw [z]; rfl))).symm)
          · refine j_iconst (pc := 220) g (1) dL_isDuel_220 (by decide) ?_
            refine j_goto (pc := 221) g 225 dL_isDuel_221 (by decide) ?_
            exact K225 _ ((b01_t ((nI_eq (b := 1) (by omega) (by omega)).mp c217)).symm)
      exact j_room _ _ (by omega) (by omega) (L194 11 0 M Mx al hr hc (by omega))
    refine j_iload (pc := 56) g dL_isDuel_56 rfl ?_
    refine j_if_eq (pc := 58) g 68 dL_isDuel_58 (by decide) (fun c58 => ?_) (fun c58 => ?_)
    · refine j_iconst (pc := 68) g (-1) dL_isDuel_68 (by decide) ?_
      refine j_goto (pc := 69) g 92 dL_isDuel_69 (by decide) ?_
      exact K92 _ (by first | (rw [hwn, if_neg (fun z => absurd (hbb.symm.trans c58) (by rw [b01_t z]; decide))]) | (have q := (nI_eq (a := a) (b := b) (by omega) (by omega)).mp c65; rw [hwn]; split <;> (first | rfl | (rw [if_neg (by omega), if_neg (by omega)]))))
    · refine j_iload (pc := 61) g dL_isDuel_61 rfl ?_
      refine j_iload (pc := 63) g dL_isDuel_63 rfl ?_
      refine j_icmp_ne (pc := 65) g 72 dL_isDuel_65 (by decide) (fun c65 => ?_) (fun c65 => ?_)
      · refine j_iload (pc := 72) g dL_isDuel_72 rfl ?_
        refine j_iload (pc := 74) g dL_isDuel_74 rfl ?_
        refine j_icmp_le (pc := 76) g 86 dL_isDuel_76 (by decide) (fun c76 => ?_) (fun c76 => ?_)
        · refine j_aload_n (pc := 86) g 2 dL_isDuel_86 rfl rfl ?_
          refine j_iload (pc := 87) g dL_isDuel_87 rfl ?_
          refine j_iconst (pc := 89) g (1) dL_isDuel_89 (by decide) ?_
          refine j_iadd (pc := 90) g dL_isDuel_90 ?_
          refine j_rd (pc := 91) g hr 4 (by decide) (8 * i + 1) (S 14 i) dL_isDuel_91 (nI_add _ 1) (by show 8 * i + 1 < 64; omega) (hdt.2.1) ?_
          exact K92 _ (by rw [hwn, if_pos (Classical.byContradiction (fun z => c58 (hbb.trans (b01_f z)))), if_neg (by have := (nI_leI (a := a) (b := b) (by omega) (by omega)).mp c76; omega), if_pos (by have := (nI_leI (a := a) (b := b) (by omega) (by omega)).mp c76; have q : a ≠ b := fun z => c65 (by rw [z]); omega)])
        · refine j_aload_n (pc := 79) g 2 dL_isDuel_79 rfl rfl ?_
          refine j_iload (pc := 80) g dL_isDuel_80 rfl ?_
          refine j_rd (pc := 82) g hr 4 (by decide) (8 * i) (S 13 i) dL_isDuel_82 (rfl) (by show 8 * i + 0 < 64; omega) (hdt.1) ?_
          refine j_goto (pc := 83) g 92 dL_isDuel_83 (by decide) ?_
          exact K92 _ (by rw [hwn, if_pos (Classical.byContradiction (fun z => c58 (hbb.trans (b01_f z)))), if_pos (Nat.lt_of_not_le (fun z => c76 (nI_le z (by omega))))])
      · refine j_iconst (pc := 68) g (-1) dL_isDuel_68 (by decide) ?_
        refine j_goto (pc := 69) g 92 dL_isDuel_69 (by decide) ?_
        exact K92 _ (by first | (rw [hwn, if_neg (fun z => absurd (hbb.symm.trans c58) (by rw [b01_t z]; decide))]) | (have q := (nI_eq (a := a) (b := b) (by omega) (by omega)).mp c65; rw [hwn]; split <;> (first | rfl | (rw [if_neg (by omega), if_neg (by omega)]))))
  refine j_topi (nI (2 * rN)) (pk_mul 2 rN) ?_
  refine j_icmp_ne (pc := 46) g 53 dL_isDuel_46 (by decide) (fun c46 => ?_) (fun c46 => ?_)
  · refine j_iconst (pc := 53) g (0) dL_isDuel_53 (by decide) ?_
    exact K1 _ ((b01_f (fun z => c46 (by rw [z]))).symm)
  · refine j_iconst (pc := 49) g (1) dL_isDuel_49 (by decide) ?_
    refine j_goto (pc := 50) g 54 dL_isDuel_50 (by decide) ?_
    exact K1 _ ((b01_t ((nI_eq (by omega) (by omega)).mp c46)).symm)

set_option maxHeartbeats 1000000 in
set_option maxRecDepth 100000 in
theorem h_areWon (l : Launch) (D : va_G) (hst : l.stackTraces = false) {n0 : Nat} {M Mx : MH} {x : Nat} {ra : Nat → Nat} {al : Nat → Nat → Nat} {R S : ST} {d ns nd : Nat} (hr : LR M Mx ra R) (hc : CRep Mx x al S d ns nd) (hk : mOK S d ns nd) (ht : tie n0 S R d ns nd) : xW l D yL_areWon wsL_areWon ({ frames := 8, cells := 16, slots := 96, locals := 191 }) 16 96 [.ref x, .ref (ra 0)] M (fun v M1 => v = some (.int 1) ∧ LV n0 M1 x ra R S d ns nd) := by
  refine xV_of (cc := cL_areWon) (maxL := 4) (ret := (some .boolean)) (own := RL) [some (.ref x), some (.ref (ra 0)), none, none] (by decide) rfl rfl (Nat.le_of_ble_eq_true rfl) rfl rfl rfl ?_
  intro X hXl hXD g r t0
  subst hXl
  subst hXD
  have n8 := ht.2.2.2.2.2.2.2.2.2
  refine j_iconst (pc := 0) g (0) dL_areWon_0 (by decide) ?_
  refine istore_n_4_2 (pc := 1) g dL_areWon_1 ?_
  refine j_iconst (pc := 2) g (0) dL_areWon_2 (by decide) ?_
  refine istore_n_4_3 (pc := 3) g dL_areWon_3 ?_
  have L4 : ∀ (n : Nat) (k : Nat) (M Mx : MH) (al : Nat → Nat → Nat) (hr : LR M Mx ra R) (hc : CRep Mx x al S d ns nd) (hkn : k + n = 8), J X 4 (8 - n) (6 * (8 - n)) (M) [some (.ref x), some (.ref (ra 0)), some (.int (sumW S nd k)), some (.int (nI k))] [] 4 := by
    intro n
    induction n with
    | zero =>
      intro k M Mx al hr hc hkn
      obtain rfl : k = 8 := by omega
      refine j_iload_n (pc := 4) g 3 dL_areWon_4 rfl rfl ?_
      refine j_bipush (pc := 5) g (8) dL_areWon_5 (by decide) ?_
      refine j_icmp_ge (pc := 7) g 24 dL_areWon_7 (by decide) (fun c7 => ?_) (fun c7 => absurd (nI_le (a := 8) (by omega) (by omega)) c7)
      refine j_iconst (pc := 24) g (0) dL_areWon_24 (by decide) ?_
      refine istore_n_4_3 (pc := 25) g dL_areWon_25 ?_
      have L26 : ∀ (n : Nat) (k : Nat) (M Mx : MH) (al : Nat → Nat → Nat) (hr : LR M Mx ra R) (hc : CRep Mx x al S d ns nd) (hkn : k + n = nd), J X 4 (16 - n) (6 * (16 - n)) (M) [some (.ref x), some (.ref (ra 0)), some (.int (subW S nd k)), some (.int (nI k))] [] 26 := by
        intro n
        induction n with
        | zero =>
          intro k M Mx al hr hc hkn
          obtain rfl : nd = k := by omega
          refine j_iload_n (pc := 26) g 3 dL_areWon_26 rfl rfl ?_
          refine j_aload_n (pc := 27) g 1 dL_areWon_27 rfl rfl ?_
          refine j_iconst (pc := 28) g (3) dL_areWon_28 (by decide) ?_
          refine j_rd (pc := 29) g hr 0 (by decide) (3) (nI nd) dL_areWon_29 (rfl) (by decide) (ht.1.2.2.2.1) ?_
          refine j_icmp_ge (pc := 30) g 56 dL_areWon_30 (by decide) (fun c30 => ?_) (fun c30 => absurd (nI_le (by omega) (by omega)) c30)
          refine j_iload_n (pc := 56) g 2 dL_areWon_56 rfl rfl ?_
          refine j_if_ne (pc := 57) g 64 dL_areWon_57 (by decide) (fun c57 => absurd c57 (not_not_intro (subW_0 hk ht.2.2.2.2.1))) (fun c57 => ?_)
          refine j_iconst (pc := 60) g (1) dL_areWon_60 (by decide) ?_
          refine j_goto (pc := 61) g 65 dL_areWon_61 (by decide) ?_
          exact j_iret (pc := 65) g r rfl rfl (⟨rfl, _, _, hr, hc, hk, ht⟩) dL_areWon_65 (by omega) (by omega)
        | succ n ih =>
          intro k M Mx al hr hc hkn
          refine j_iload_n (pc := 26) g 3 dL_areWon_26 rfl rfl ?_
          refine j_aload_n (pc := 27) g 1 dL_areWon_27 rfl rfl ?_
          refine j_iconst (pc := 28) g (3) dL_areWon_28 (by decide) ?_
          refine j_rd (pc := 29) g hr 0 (by decide) (3) (nI nd) dL_areWon_29 (rfl) (by decide) (ht.1.2.2.2.1) ?_
          refine j_icmp_ge (pc := 30) g 56 dL_areWon_30 (by decide) (fun c30 => absurd c30 (nI_ge (by omega) (by omega))) (fun c30 => ?_)
          refine j_iload_n (pc := 33) g 2 dL_areWon_33 rfl rfl ?_
          refine j_aload_n (pc := 34) g 0 dL_areWon_34 rfl rfl ?_
          refine j_iload_n (pc := 35) g 3 dL_areWon_35 rfl rfl ?_
          refine j_iconst (pc := 36) g (3) dL_areWon_36 (by decide) ?_
          refine j_cW (pc := 37) (n := 3) g t0 hr (w_of (jl X) (jD X) hst Mx x al S d ns nd hc hk (nI k) 3) dL_areWon_37 gL_areWon_L_of rfl rfl rfl rfl ⟨by decide, by decide, by decide +kernel⟩ ⟨Nat.le_of_ble_eq_true rfl, Nat.le_of_ble_eq_true rfl⟩ ⟨by show _ ≤ 16; omega, by show _ ≤ 96; omega⟩ rfl (Nat.le_of_ble_eq_true rfl) (fun v Mx M hp hr => ?_)
          obtain ⟨rfl, al, hc⟩ := hp.ok (to0 hk (by omega) (by decide))
          show J X 4 _ _ _ _ [.int (vOf S (ix (nI k)) 3), .int (subW S nd k)] (37 + 3)
          rw [ve3 (by omega)]
          refine j_if_ge (pc := 40) g 47 dL_areWon_40 (by decide) (fun c40 => ?_) (fun c40 => ?_)
          · refine j_iconst (pc := 47) g (1) dL_areWon_47 (by decide) ?_
            refine j_isub (pc := 48) g dL_areWon_48 ?_
            refine j_topi (subW S nd (k + 1)) (by rw [subW]; first | rw [if_neg (Int32.not_lt.mpr c40)] | rw [if_pos (Int32.not_le.mp c40)]) ?_
            refine istore_n_4_2 (pc := 49) g dL_areWon_49 ?_
            refine iinc_4_3_1 (pc := 50) g dL_areWon_50 ?_
            refine j_goto (pc := 53) g 26 dL_areWon_53 (by decide) ?_
            have q9 := ih (k + 1) M Mx al hr hc (by omega)
            rw [← nI_1 k] at q9
            exact j_room _ _ (by omega) (by omega) q9
          · refine j_iconst (pc := 43) g (0) dL_areWon_43 (by decide) ?_
            refine j_goto (pc := 44) g 48 dL_areWon_44 (by decide) ?_
            refine j_isub (pc := 48) g dL_areWon_48 ?_
            refine j_topi (subW S nd (k + 1)) (by rw [subW]; first | rw [if_neg (Int32.not_lt.mpr c40)] | rw [if_pos (Int32.not_le.mp c40)]) ?_
            refine istore_n_4_2 (pc := 49) g dL_areWon_49 ?_
            refine iinc_4_3_1 (pc := 50) g dL_areWon_50 ?_
            refine j_goto (pc := 53) g 26 dL_areWon_53 (by decide) ?_
            have q9 := ih (k + 1) M Mx al hr hc (by omega)
            rw [← nI_1 k] at q9
            exact j_room _ _ (by omega) (by omega) q9
      exact j_room _ _ (by omega) (by omega) (L26 nd 0 M Mx al hr hc (by omega))
    | succ n ih =>
      intro k M Mx al hr hc hkn
      refine j_iload_n (pc := 4) g 3 dL_areWon_4 rfl rfl ?_
      refine j_bipush (pc := 5) g (8) dL_areWon_5 (by decide) ?_
      refine j_icmp_ge (pc := 7) g 24 dL_areWon_7 (by decide) (fun c7 => absurd c7 (nI_ge (b := 8) (by omega) (by omega))) (fun c7 => ?_)
      refine j_iload_n (pc := 10) g 2 dL_areWon_10 rfl rfl ?_
      refine j_aload_n (pc := 11) g 0 dL_areWon_11 rfl rfl ?_
      refine j_iload_n (pc := 12) g 3 dL_areWon_12 rfl rfl ?_
      refine j_cW (pc := 13) (n := 2) g t0 hr (w_won (jl X) (jD X) hst Mx x al S d ns nd hc hk (nI k)) dL_areWon_13 gL_areWon_L_won rfl rfl rfl rfl ⟨by decide, by decide, by decide +kernel⟩ ⟨Nat.le_of_ble_eq_true rfl, Nat.le_of_ble_eq_true rfl⟩ ⟨by show _ ≤ 16; omega, by show _ ≤ 96; omega⟩ rfl (Nat.le_of_ble_eq_true rfl) (fun v Mx M hp hr => ?_)
      obtain ⟨rfl, al, hc⟩ := hp.ok (tw0 (by omega))
      show J X 4 _ _ _ _ [.int (cntW S (nI k) nd), .int (sumW S nd k)] (13 + 3)
      refine j_iadd (pc := 16) g dL_areWon_16 ?_
      refine j_topi (sumW S nd (k + 1)) rfl ?_
      refine istore_n_4_2 (pc := 17) g dL_areWon_17 ?_
      refine iinc_4_3_1 (pc := 18) g dL_areWon_18 ?_
      refine j_goto (pc := 21) g 4 dL_areWon_21 (by decide) ?_
      have q9 := ih (k + 1) M Mx al hr hc (by omega)
      rw [← nI_1 k] at q9
      exact j_room _ _ (by omega) (by omega) q9
  exact j_room _ _ (by omega) (by omega) (L4 8 0 M Mx al hr hc (by omega))
