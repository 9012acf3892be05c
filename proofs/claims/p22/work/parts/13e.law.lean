theorem istore_16_10 {X : JC} {cc : ByteArray} {own : String} {Ts : List Cond} {cells slots pc : Nat} {rm : Room} {M : MH} {st : List Value} {a0 a1 a2 a3 a4 a5 a6 a7 a8 a9 a10 a11 a12 a13 a14 a15 : Option Value} (g : jG X cc own Ts 16 rm) {x : Int32} (hd : decode cc pc = .ok (.istore 10, 2)) (k : J X 16 cells slots M [a0, a1, a2, a3, a4, a5, a6, a7, a8, a9, some (.int x), a11, a12, a13, a14, a15] st (pc + 2)) : J X 16 cells slots M [a0, a1, a2, a3, a4, a5, a6, a7, a8, a9, a10, a11, a12, a13, a14, a15] (.int x :: st) pc := j_istore g hd (Nat.le_of_ble_eq_true rfl) k
theorem istore_16_11 {X : JC} {cc : ByteArray} {own : String} {Ts : List Cond} {cells slots pc : Nat} {rm : Room} {M : MH} {st : List Value} {a0 a1 a2 a3 a4 a5 a6 a7 a8 a9 a10 a11 a12 a13 a14 a15 : Option Value} (g : jG X cc own Ts 16 rm) {x : Int32} (hd : decode cc pc = .ok (.istore 11, 2)) (k : J X 16 cells slots M [a0, a1, a2, a3, a4, a5, a6, a7, a8, a9, a10, some (.int x), a12, a13, a14, a15] st (pc + 2)) : J X 16 cells slots M [a0, a1, a2, a3, a4, a5, a6, a7, a8, a9, a10, a11, a12, a13, a14, a15] (.int x :: st) pc := j_istore g hd (Nat.le_of_ble_eq_true rfl) k
theorem istore_16_12 {X : JC} {cc : ByteArray} {own : String} {Ts : List Cond} {cells slots pc : Nat} {rm : Room} {M : MH} {st : List Value} {a0 a1 a2 a3 a4 a5 a6 a7 a8 a9 a10 a11 a12 a13 a14 a15 : Option Value} (g : jG X cc own Ts 16 rm) {x : Int32} (hd : decode cc pc = .ok (.istore 12, 2)) (k : J X 16 cells slots M [a0, a1, a2, a3, a4, a5, a6, a7, a8, a9, a10, a11, some (.int x), a13, a14, a15] st (pc + 2)) : J X 16 cells slots M [a0, a1, a2, a3, a4, a5, a6, a7, a8, a9, a10, a11, a12, a13, a14, a15] (.int x :: st) pc := j_istore g hd (Nat.le_of_ble_eq_true rfl) k
theorem istore_16_13 {X : JC} {cc : ByteArray} {own : String} {Ts : List Cond} {cells slots pc : Nat} {rm : Room} {M : MH} {st : List Value} {a0 a1 a2 a3 a4 a5 a6 a7 a8 a9 a10 a11 a12 a13 a14 a15 : Option Value} (g : jG X cc own Ts 16 rm) {x : Int32} (hd : decode cc pc = .ok (.istore 13, 2)) (k : J X 16 cells slots M [a0, a1, a2, a3, a4, a5, a6, a7, a8, a9, a10, a11, a12, some (.int x), a14, a15] st (pc + 2)) : J X 16 cells slots M [a0, a1, a2, a3, a4, a5, a6, a7, a8, a9, a10, a11, a12, a13, a14, a15] (.int x :: st) pc := j_istore g hd (Nat.le_of_ble_eq_true rfl) k
theorem istore_16_14 {X : JC} {cc : ByteArray} {own : String} {Ts : List Cond} {cells slots pc : Nat} {rm : Room} {M : MH} {st : List Value} {a0 a1 a2 a3 a4 a5 a6 a7 a8 a9 a10 a11 a12 a13 a14 a15 : Option Value} (g : jG X cc own Ts 16 rm) {x : Int32} (hd : decode cc pc = .ok (.istore 14, 2)) (k : J X 16 cells slots M [a0, a1, a2, a3, a4, a5, a6, a7, a8, a9, a10, a11, a12, a13, some (.int x), a15] st (pc + 2)) : J X 16 cells slots M [a0, a1, a2, a3, a4, a5, a6, a7, a8, a9, a10, a11, a12, a13, a14, a15] (.int x :: st) pc := j_istore g hd (Nat.le_of_ble_eq_true rfl) k
theorem istore_16_15 {X : JC} {cc : ByteArray} {own : String} {Ts : List Cond} {cells slots pc : Nat} {rm : Room} {M : MH} {st : List Value} {a0 a1 a2 a3 a4 a5 a6 a7 a8 a9 a10 a11 a12 a13 a14 a15 : Option Value} (g : jG X cc own Ts 16 rm) {x : Int32} (hd : decode cc pc = .ok (.istore 15, 2)) (k : J X 16 cells slots M [a0, a1, a2, a3, a4, a5, a6, a7, a8, a9, a10, a11, a12, a13, a14, some (.int x)] st (pc + 2)) : J X 16 cells slots M [a0, a1, a2, a3, a4, a5, a6, a7, a8, a9, a10, a11, a12, a13, a14, a15] (.int x :: st) pc := j_istore g hd (Nat.le_of_ble_eq_true rfl) k
theorem istore_16_6 {X : JC} {cc : ByteArray} {own : String} {Ts : List Cond} {cells slots pc : Nat} {rm : Room} {M : MH} {st : List Value} {a0 a1 a2 a3 a4 a5 a6 a7 a8 a9 a10 a11 a12 a13 a14 a15 : Option Value} (g : jG X cc own Ts 16 rm) {x : Int32} (hd : decode cc pc = .ok (.istore 6, 2)) (k : J X 16 cells slots M [a0, a1, a2, a3, a4, a5, some (.int x), a7, a8, a9, a10, a11, a12, a13, a14, a15] st (pc + 2)) : J X 16 cells slots M [a0, a1, a2, a3, a4, a5, a6, a7, a8, a9, a10, a11, a12, a13, a14, a15] (.int x :: st) pc := j_istore g hd (Nat.le_of_ble_eq_true rfl) k
theorem istore_16_7 {X : JC} {cc : ByteArray} {own : String} {Ts : List Cond} {cells slots pc : Nat} {rm : Room} {M : MH} {st : List Value} {a0 a1 a2 a3 a4 a5 a6 a7 a8 a9 a10 a11 a12 a13 a14 a15 : Option Value} (g : jG X cc own Ts 16 rm) {x : Int32} (hd : decode cc pc = .ok (.istore 7, 2)) (k : J X 16 cells slots M [a0, a1, a2, a3, a4, a5, a6, some (.int x), a8, a9, a10, a11, a12, a13, a14, a15] st (pc + 2)) : J X 16 cells slots M [a0, a1, a2, a3, a4, a5, a6, a7, a8, a9, a10, a11, a12, a13, a14, a15] (.int x :: st) pc := j_istore g hd (Nat.le_of_ble_eq_true rfl) k
theorem istore_16_8 {X : JC} {cc : ByteArray} {own : String} {Ts : List Cond} {cells slots pc : Nat} {rm : Room} {M : MH} {st : List Value} {a0 a1 a2 a3 a4 a5 a6 a7 a8 a9 a10 a11 a12 a13 a14 a15 : Option Value} (g : jG X cc own Ts 16 rm) {x : Int32} (hd : decode cc pc = .ok (.istore 8, 2)) (k : J X 16 cells slots M [a0, a1, a2, a3, a4, a5, a6, a7, some (.int x), a9, a10, a11, a12, a13, a14, a15] st (pc + 2)) : J X 16 cells slots M [a0, a1, a2, a3, a4, a5, a6, a7, a8, a9, a10, a11, a12, a13, a14, a15] (.int x :: st) pc := j_istore g hd (Nat.le_of_ble_eq_true rfl) k
theorem istore_16_9 {X : JC} {cc : ByteArray} {own : String} {Ts : List Cond} {cells slots pc : Nat} {rm : Room} {M : MH} {st : List Value} {a0 a1 a2 a3 a4 a5 a6 a7 a8 a9 a10 a11 a12 a13 a14 a15 : Option Value} (g : jG X cc own Ts 16 rm) {x : Int32} (hd : decode cc pc = .ok (.istore 9, 2)) (k : J X 16 cells slots M [a0, a1, a2, a3, a4, a5, a6, a7, a8, some (.int x), a10, a11, a12, a13, a14, a15] st (pc + 2)) : J X 16 cells slots M [a0, a1, a2, a3, a4, a5, a6, a7, a8, a9, a10, a11, a12, a13, a14, a15] (.int x :: st) pc := j_istore g hd (Nat.le_of_ble_eq_true rfl) k



set_option maxHeartbeats 1000000 in
set_option maxRecDepth 100000 in
theorem h_hands (l : Launch) (D : va_G) (hst : l.stackTraces = false) {n0 : Nat} {M Mx : MH} {x : Nat} {ra : Nat → Nat} {al : Nat → Nat → Nat} {R S : ST} {d ns nd : Nat} (hr : LR M Mx ra R) (hc : CRep Mx x al S d ns nd) (hk : mOK S d ns nd) (ht : tie n0 S R d ns nd) (hn0 : n0 ≤ 58) (hnd0 : 0 < nd) (a0 b0 : Int32) : xW l D yL_hands wsL_hands ({ frames := 8, cells := 11, slots := 46, locals := 148 }) 11 46 [.ref x, .ref (ra 0), .ref (ra 2), .ref (ra 4), .int a0, .int b0] M (fun v M1 => v = some (.int 1) ∧ ∃ R1 S1 d1 ns1 nd1, LV (n0 + 1) M1 x ra R1 S1 d1 ns1 nd1) := by
  refine xV_of (cc := cL_hands) (maxL := 16) (ret := (some .boolean)) (own := RL) [some (.ref x), some (.ref (ra 0)), some (.ref (ra 2)), some (.ref (ra 4)), some (.int a0), some (.int b0), none, none, none, none, none, none, none, none, none, none] (by decide) rfl rfl (Nat.le_of_ble_eq_true rfl) rfl rfl rfl ?_
  intro X hXl hXD g r t0
  subst hXl
  subst hXD
  have n8 := ht.2.2.2.2.2.2.2.2.2
  have d8 := hk.1.2.1
  refine j_iload (pc := 0) g dL_hands_0 rfl ?_
  refine j_aload_n (pc := 2) g 1 dL_hands_2 rfl rfl ?_
  refine j_iconst (pc := 3) g (3) dL_hands_3 (by decide) ?_
  refine j_rd (pc := 4) g hr 0 (by decide) (3) (nI nd) dL_hands_4 (rfl) (by decide) (ht.1.2.2.2.1) ?_
  refine j_callS (pc := 5) (n := 2) g (c_low (jl X) (jD X) _ _ nd (by omega) (by omega)) dL_hands_5 gL_hands_L_low rfl rfl rfl rfl ⟨by decide, by decide, by decide +kernel⟩ ⟨Nat.le_of_ble_eq_true rfl, Nat.le_of_ble_eq_true rfl⟩ ⟨by show _ ≤ 11; omega, by show _ ≤ 46; omega⟩ rfl (Nat.le_of_ble_eq_true rfl) (fun v M1 hp => ?_)
  obtain ⟨i, hi, rfl, rfl⟩ := hp
  show J X 16 _ _ _ _ [.int (nI i)] (5 + 3)
  have hdt := ht.2.2.2.2.1 i hi
  have i8 : i < 8 := by omega
  obtain ⟨hN, rN, e22, e18, x22, x18, hh, r5, r1⟩ := du_nums hk hi
  obtain ⟨pp, e17, hpp⟩ : ∃ pp, S 17 i = nI pp ∧ pp < 3 := ⟨_, (hk.2.2.1.2.2 i hi).1.i17.1, by have := (hk.2.2.1.2.2 i hi).1.i17.2; omega⟩
  obtain ⟨rt, hrt, ert⟩ := seal_ok (hN := hN) ht (by omega) hdt
  refine istore_16_6 (pc := 8) g dL_hands_8 ?_
  refine j_bipush (pc := 10) g (8) dL_hands_10 (by decide) ?_
  refine j_iload (pc := 12) g dL_hands_12 rfl ?_
  refine j_imul (pc := 14) g dL_hands_14 ?_
  refine j_topi (nI (8 * i)) (pk_mul 8 i) ?_
  refine istore_16_7 (pc := 15) g dL_hands_15 ?_
  refine j_aload_n (pc := 17) g 3 dL_hands_17 rfl rfl ?_
  refine j_iload (pc := 18) g dL_hands_18 rfl ?_
  refine j_iconst (pc := 20) g (3) dL_hands_20 (by decide) ?_
  refine j_iadd (pc := 21) g dL_hands_21 ?_
  refine j_rd (pc := 22) g hr 4 (by decide) (8 * i + 3) (nI pp) dL_hands_22 (nI_add _ 3) (by show 8 * i + 3 < 64; omega) (hdt.2.2.2.1.trans e17) ?_
  refine istore_16_8 (pc := 23) g dL_hands_23 ?_
  refine j_aload_n (pc := 25) g 3 dL_hands_25 rfl rfl ?_
  refine j_iload (pc := 26) g dL_hands_26 rfl ?_
  refine j_iconst (pc := 28) g (5) dL_hands_28 (by decide) ?_
  refine j_iadd (pc := 29) g dL_hands_29 ?_
  refine j_rd (pc := 30) g hr 4 (by decide) (8 * i + 5) (nI hN) dL_hands_30 (nI_add _ 5) (by show 8 * i + 5 < 64; omega) (hdt.2.2.2.2.2.1.trans e22) ?_
  refine j_iconst (pc := 31) g (2) dL_hands_31 (by decide) ?_
  refine j_irem (pc := 32) g dL_hands_32 (by decide) ?_
  have K49 : ∀ (ww : Int32) (hww : ww = whoH S i hN), J X 16 0 0 (M) [some (.ref x), some (.ref (ra 0)), some (.ref (ra 2)), some (.ref (ra 4)), some (.int a0), some (.int b0), some (.int (nI i)), some (.int (nI (8 * i))), some (.int (nI pp)), none, none, none, none, none, none, none] [.int ww] 49 := by
    intro ww hww
    subst hww
    refine istore_16_9 (pc := 49) g dL_hands_49 ?_
    refine j_bipush (pc := 51) g (101) dL_hands_51 (by decide) ?_
    refine j_iload (pc := 53) g dL_hands_53 rfl ?_
    refine j_imul (pc := 55) g dL_hands_55 ?_
    refine j_bipush (pc := 56) g (37) dL_hands_56 (by decide) ?_
    refine j_aload_n (pc := 58) g 1 dL_hands_58 rfl rfl ?_
    refine j_iconst (pc := 59) g (4) dL_hands_59 (by decide) ?_
    refine j_rd (pc := 60) g hr 0 (by decide) (4) (S 9 0) dL_hands_60 (rfl) (by decide) (ht.1.2.2.2.2) ?_
    refine j_iconst (pc := 61) g (1) dL_hands_61 (by decide) ?_
    refine j_iadd (pc := 62) g dL_hands_62 ?_
    refine j_imul (pc := 63) g dL_hands_63 ?_
    refine j_iadd (pc := 64) g dL_hands_64 ?_
    refine j_sipush (pc := 65) g (1000) dL_hands_65 (by decide) ?_
    refine j_irem (pc := 68) g dL_hands_68 (by decide) ?_
    refine j_topi (nI rt) ert ?_
    refine istore_16_10 (pc := 69) g dL_hands_69 ?_
    refine j_iload (pc := 71) g dL_hands_71 rfl ?_
    refine j_iconst (pc := 73) g (4) dL_hands_73 (by decide) ?_
    refine j_ishr (pc := 74) g dL_hands_74 ?_
    refine j_iconst (pc := 75) g (3) dL_hands_75 (by decide) ?_
    refine j_callS (pc := 76) (n := 2) g (c_low (jl X) (jD X) _ _ 3 (by omega) (by omega)) dL_hands_76 gL_hands_L_low rfl rfl rfl rfl ⟨by decide, by decide, by decide +kernel⟩ ⟨Nat.le_of_ble_eq_true rfl, Nat.le_of_ble_eq_true rfl⟩ ⟨by show _ ≤ 11; omega, by show _ ≤ 46; omega⟩ rfl (Nat.le_of_ble_eq_true rfl) (fun v M1 hp => ?_)
    obtain ⟨fz, hfz, rfl, rfl⟩ := hp
    show J X 16 _ _ _ _ [.int (nI fz)] (76 + 3)
    have K87 : ∀ (ff : Int32), J X 16 0 0 (M) [some (.ref x), some (.ref (ra 0)), some (.ref (ra 2)), some (.ref (ra 4)), some (.int a0), some (.int b0), some (.int (nI i)), some (.int (nI (8 * i))), some (.int (nI pp)), some (.int (whoH S i hN)), some (.int (nI rt)), none, none, none, none, none] [.int ff] 87 := by
      intro ff
      refine istore_16_11 (pc := 87) g dL_hands_87 ?_
      have K107 : ∀ (sl : Nat) (hsl : sl < 1000), J X 16 0 0 (M) [some (.ref x), some (.ref (ra 0)), some (.ref (ra 2)), some (.ref (ra 4)), some (.int a0), some (.int b0), some (.int (nI i)), some (.int (nI (8 * i))), some (.int (nI pp)), some (.int (whoH S i hN)), some (.int (nI rt)), some (.int ff), none, none, none, none] [.int (nI sl)] 107 := by
        intro sl hsl
        refine istore_16_12 (pc := 107) g dL_hands_107 ?_
        refine j_aload_n (pc := 109) g 0 dL_hands_109 rfl rfl ?_
        refine j_iload (pc := 110) g dL_hands_110 rfl ?_
        refine j_iload (pc := 112) g dL_hands_112 rfl ?_
        refine j_cW (pc := 114) (n := 3) g t0 hr (w_hand (jl X) (jD X) hst Mx x al S d ns nd hc hk (nI i) (nI sl)) dL_hands_114 gL_hands_L_hand rfl rfl rfl rfl ⟨by decide, by decide, by decide +kernel⟩ ⟨Nat.le_of_ble_eq_true rfl, Nat.le_of_ble_eq_true rfl⟩ ⟨by show _ ≤ 11; omega, by show _ ≤ 46; omega⟩ rfl (Nat.le_of_ble_eq_true rfl) (fun v Mx M hp hr => ?_)
        have hq := hand_cases hk ht (by omega) hi e22 x22 e18 hh r5 e17 hpp hsl ert hp
        rcases hq with ⟨e1, rfl, al, hc⟩ | ⟨e1, rfl, al, S2, hc, hk2, ht2, f22, f9, f25⟩
        · show J X 16 _ _ _ _ [.int (-1000003)] (114 + 3)
          have K151 : J X 16 8 28 (M) [some (.ref x), some (.ref (ra 0)), some (.ref (ra 2)), some (.ref (ra 4)), some (.int a0), some (.int b0), some (.int (nI i)), some (.int (nI (8 * i))), some (.int (nI pp)), some (.int (whoH S i hN)), some (.int (nI rt)), some (.int ff), some (.int (nI sl)), some (.int (-1000003)), none, none] [] 151 := by
            refine j_iload (pc := 151) g dL_hands_151 rfl ?_
            refine j_ldci (pc := 153) g (-1000003) dL_hands_153 (by decide +kernel) ?_
            refine j_icmp_ne (pc := 155) g 162 dL_hands_155 (by decide) (fun c155 => absurd c155 (not_not_intro rfl)) (fun c155 => ?_)
            refine j_iconst (pc := 158) g (1) dL_hands_158 (by decide) ?_
            refine j_goto (pc := 159) g 163 dL_hands_159 (by decide) ?_
            exact j_iret (pc := 163) g r rfl rfl (⟨rfl, _, _, _, _, _, _, _, hr, hc, hk, ht.up⟩) dL_hands_163 (by omega) (by omega)
          refine istore_16_13 (pc := 117) g dL_hands_117 ?_
          refine j_aload_n (pc := 119) g 3 dL_hands_119 rfl rfl ?_
          refine j_iload (pc := 120) g dL_hands_120 rfl ?_
          refine j_iconst (pc := 122) g (5) dL_hands_122 (by decide) ?_
          refine j_iadd (pc := 123) g dL_hands_123 ?_
          refine j_rd (pc := 124) g hr 4 (by decide) (8 * i + 5) (nI hN) dL_hands_124 (nI_add _ 5) (by show 8 * i + 5 < 64; omega) (hdt.2.2.2.2.2.1.trans e22) ?_
          refine j_iconst (pc := 125) g (2) dL_hands_125 (by decide) ?_
          refine j_aload_n (pc := 126) g 3 dL_hands_126 rfl rfl ?_
          refine j_iload (pc := 127) g dL_hands_127 rfl ?_
          refine j_iconst (pc := 129) g (4) dL_hands_129 (by decide) ?_
          refine j_iadd (pc := 130) g dL_hands_130 ?_
          refine j_rd (pc := 131) g hr 4 (by decide) (8 * i + 4) (nI rN) dL_hands_131 (nI_add _ 4) (by show 8 * i + 4 < 64; omega) (hdt.2.2.2.2.1.trans e18) ?_
          refine j_imul (pc := 132) g dL_hands_132 ?_
          refine j_topi (nI (2 * rN)) (pk_mul 2 rN) ?_
          refine j_icmp_eq (pc := 133) g 151 dL_hands_133 (by decide) (fun c133 => ?_) (fun c133 => ?_)
          · exact K151
          · refine j_aload_n (pc := 136) g 1 dL_hands_136 rfl rfl ?_
            refine j_iconst (pc := 137) g (2) dL_hands_137 (by decide) ?_
            refine j_rd (pc := 138) g hr 0 (by decide) (2) (nI d) dL_hands_138 (rfl) (by decide) (ht.1.2.2.1) ?_
            refine j_if_eq (pc := 139) g 151 dL_hands_139 (by decide) (fun c139 => ?_) (fun c139 => ?_)
            · exact K151
            · refine j_aload_n (pc := 142) g 2 dL_hands_142 rfl rfl ?_
              refine j_iconst (pc := 143) g (3) dL_hands_143 (by decide) ?_
              refine j_iload (pc := 144) g dL_hands_144 rfl ?_
              refine j_imul (pc := 146) g dL_hands_146 ?_
              refine j_rd (pc := 147) g hr 2 (by decide) (3 * pp) (S 6 pp) dL_hands_147 (lx_m 3 rfl) (by show 3 * pp < 9; omega) ((ht.2.2.1 pp hpp).1) ?_
              refine j_if_ne (pc := 148) g 164 dL_hands_148 (by decide) (fun c148 => absurd c148 (not_not_intro (e1.elim (fun e1 => absurd (by rw [e1]) c133) (fun e1 => e1.elim (fun e1 => absurd (show nI d = 0 by rw [e1]; rfl) c139) (fun e1 => e1))))) (fun c148 => ?_)
              exact K151
        · show J X 16 _ _ _ _ [.int (S 9 0 + 1)] (114 + 3)
          refine istore_16_13 (pc := 117) g dL_hands_117 ?_
          refine j_aload_n (pc := 119) g 3 dL_hands_119 rfl rfl ?_
          refine j_iload (pc := 120) g dL_hands_120 rfl ?_
          refine j_iconst (pc := 122) g (5) dL_hands_122 (by decide) ?_
          refine j_iadd (pc := 123) g dL_hands_123 ?_
          refine j_rd (pc := 124) g hr 4 (by decide) (8 * i + 5) (nI hN) dL_hands_124 (nI_add _ 5) (by show 8 * i + 5 < 64; omega) (hdt.2.2.2.2.2.1.trans e22) ?_
          refine j_iconst (pc := 125) g (2) dL_hands_125 (by decide) ?_
          refine j_aload_n (pc := 126) g 3 dL_hands_126 rfl rfl ?_
          refine j_iload (pc := 127) g dL_hands_127 rfl ?_
          refine j_iconst (pc := 129) g (4) dL_hands_129 (by decide) ?_
          refine j_iadd (pc := 130) g dL_hands_130 ?_
          refine j_rd (pc := 131) g hr 4 (by decide) (8 * i + 4) (nI rN) dL_hands_131 (nI_add _ 4) (by show 8 * i + 4 < 64; omega) (hdt.2.2.2.2.1.trans e18) ?_
          refine j_imul (pc := 132) g dL_hands_132 ?_
          refine j_topi (nI (2 * rN)) (pk_mul 2 rN) ?_
          refine j_icmp_eq (pc := 133) g 151 dL_hands_133 (by decide) (fun c133 => absurd c133 (fun z => absurd ((nI_eq (by omega) (by omega)).mp z) (by omega))) (fun c133 => ?_)
          refine j_aload_n (pc := 136) g 1 dL_hands_136 rfl rfl ?_
          refine j_iconst (pc := 137) g (2) dL_hands_137 (by decide) ?_
          refine j_rd (pc := 138) g hr 0 (by decide) (2) (nI d) dL_hands_138 (rfl) (by decide) (ht.1.2.2.1) ?_
          refine j_if_eq (pc := 139) g 151 dL_hands_139 (by decide) (fun c139 => absurd c139 (nI_ne0 (by omega) (by omega))) (fun c139 => ?_)
          refine j_aload_n (pc := 142) g 2 dL_hands_142 rfl rfl ?_
          refine j_iconst (pc := 143) g (3) dL_hands_143 (by decide) ?_
          refine j_iload (pc := 144) g dL_hands_144 rfl ?_
          refine j_imul (pc := 146) g dL_hands_146 ?_
          refine j_rd (pc := 147) g hr 2 (by decide) (3 * pp) (S 6 pp) dL_hands_147 (lx_m 3 rfl) (by show 3 * pp < 9; omega) ((ht.2.2.1 pp hpp).1) ?_
          refine j_if_ne (pc := 148) g 164 dL_hands_148 (by decide) (fun c148 => ?_) (fun c148 => absurd c148 e1.2.2)
          refine j_aload_n (pc := 164) g 2 dL_hands_164 rfl rfl ?_
          refine j_iconst (pc := 165) g (3) dL_hands_165 (by decide) ?_
          refine j_iload (pc := 166) g dL_hands_166 rfl ?_
          refine j_imul (pc := 168) g dL_hands_168 ?_
          refine j_dup2 (pc := 169) g dL_hands_169 rfl rfl ?_
          refine j_rd (pc := 170) g hr 2 (by decide) (3 * pp) (S 6 pp) dL_hands_170 (lx_m 3 rfl) (by show 3 * pp < 9; omega) ((ht.2.2.1 pp hpp).1) ?_
          refine j_iconst (pc := 171) g (1) dL_hands_171 (by decide) ?_
          refine j_isub (pc := 172) g dL_hands_172 ?_
          refine j_wr (pc := 173) g hr 2 (by decide) (3 * pp) dL_hands_173 (lx_m 3 rfl) (by show 3 * pp < 9; omega) (fun M hr => ?_)
          refine j_aload_n (pc := 174) g 1 dL_hands_174 rfl rfl ?_
          refine j_iconst (pc := 175) g (4) dL_hands_175 (by decide) ?_
          refine j_dup2 (pc := 176) g dL_hands_176 rfl rfl ?_
          refine j_rd (pc := 177) g hr 0 (by decide) (4) (S 9 0) dL_hands_177 (rfl) (by decide) (by rw [su_o (by decide)]; exact ht.1.2.2.2.2) ?_
          refine j_iconst (pc := 178) g (1) dL_hands_178 (by decide) ?_
          refine j_iadd (pc := 179) g dL_hands_179 ?_
          refine j_wr (pc := 180) g hr 0 (by decide) (4) dL_hands_180 (rfl) (by decide) (fun M hr => ?_)
          refine j_aload_n (pc := 181) g 3 dL_hands_181 rfl rfl ?_
          refine j_iload (pc := 182) g dL_hands_182 rfl ?_
          refine j_iconst (pc := 184) g (5) dL_hands_184 (by decide) ?_
          refine j_iadd (pc := 185) g dL_hands_185 ?_
          refine j_dup2 (pc := 186) g dL_hands_186 rfl rfl ?_
          refine j_rd (pc := 187) g hr 4 (by decide) (8 * i + 5) (nI hN) dL_hands_187 (nI_add _ 5) (by show 8 * i + 5 < 64; omega) (by rw [su_o (by decide), su_o (by decide)]; exact hdt.2.2.2.2.2.1.trans e22) ?_
          refine j_iconst (pc := 188) g (1) dL_hands_188 (by decide) ?_
          refine j_iadd (pc := 189) g dL_hands_189 ?_
          refine j_topi (nI (hN + 1)) (nI_add hN 1) ?_
          refine j_wr (pc := 190) g hr 4 (by decide) (8 * i + 5) dL_hands_190 (nI_add _ 5) (by show 8 * i + 5 < 64; omega) (fun M hr => ?_)
          refine j_aload_n (pc := 191) g 1 dL_hands_191 rfl rfl ?_
          refine j_iconst (pc := 192) g (2) dL_hands_192 (by decide) ?_
          refine j_iconst (pc := 193) g (0) dL_hands_193 (by decide) ?_
          refine j_wr (pc := 194) g hr 0 (by decide) (2) dL_hands_194 (rfl) (by decide) (fun M hr => ?_)
          have hx : ∃ R2, LR M Mx ra R2 ∧ tie (n0 + 1) S2 R2 0 ns nd := ⟨_, hr, ht2⟩
          clear ht2
          obtain ⟨R2, hr, ht2⟩ := hx
          have hdt2 := ht2.2.2.2.2.1 i hi
          refine j_iload (pc := 195) g dL_hands_195 rfl ?_
          refine j_bipush (pc := 197) g (6) dL_hands_197 (by decide) ?_
          refine j_ishr (pc := 199) g dL_hands_199 ?_
          refine j_iconst (pc := 200) g (2) dL_hands_200 (by decide) ?_
          refine j_callS (pc := 201) (n := 2) g (c_low (jl X) (jD X) _ _ 2 (by omega) (by omega)) dL_hands_201 gL_hands_L_low rfl rfl rfl rfl ⟨by decide, by decide, by decide +kernel⟩ ⟨Nat.le_of_ble_eq_true rfl, Nat.le_of_ble_eq_true rfl⟩ ⟨by show _ ≤ 11; omega, by show _ ≤ 46; omega⟩ rfl (Nat.le_of_ble_eq_true rfl) (fun v M1 hp => ?_)
          obtain ⟨lz, hlz, rfl, rfl⟩ := hp
          show J X 16 _ _ _ _ [.int (nI lz)] (201 + 3)
          have K212 : ∀ (lk : Int32), J X 16 8 28 (M) [some (.ref x), some (.ref (ra 0)), some (.ref (ra 2)), some (.ref (ra 4)), some (.int a0), some (.int b0), some (.int (nI i)), some (.int (nI (8 * i))), some (.int (nI pp)), some (.int (whoH S i hN)), some (.int (nI rt)), some (.int ff), some (.int (nI sl)), some (.int (S 9 0 + 1)), none, none] [.int lk] 212 := by
            intro lk
            refine istore_16_14 (pc := 212) g dL_hands_212 ?_
            refine j_aload_n (pc := 214) g 3 dL_hands_214 rfl rfl ?_
            refine j_iload (pc := 215) g dL_hands_215 rfl ?_
            refine j_iconst (pc := 217) g (5) dL_hands_217 (by decide) ?_
            refine j_iadd (pc := 218) g dL_hands_218 ?_
            refine j_rd (pc := 219) g hr 4 (by decide) (8 * i + 5) (nI (hN + 1)) dL_hands_219 (nI_add _ 5) (by show 8 * i + 5 < 64; omega) (hdt2.2.2.2.2.2.1.trans f22) ?_
            refine j_iconst (pc := 220) g (1) dL_hands_220 (by decide) ?_
            refine j_isub (pc := 221) g dL_hands_221 ?_
            refine j_topi (nI hN) (nI_pred hN) ?_
            refine istore_16_15 (pc := 222) g dL_hands_222 ?_
            refine j_iload (pc := 224) g dL_hands_224 rfl ?_
            refine j_aload_n (pc := 226) g 1 dL_hands_226 rfl rfl ?_
            refine j_iconst (pc := 227) g (4) dL_hands_227 (by decide) ?_
            refine j_rd (pc := 228) g hr 0 (by decide) (4) (S 9 0 + 1) dL_hands_228 (rfl) (by decide) (ht2.1.2.2.2.2.trans f9) ?_
            refine j_icmp_ne (pc := 229) g 315 dL_hands_229 (by decide) (fun c229 => absurd c229 (not_not_intro rfl)) (fun c229 => ?_)
            refine j_aload_n (pc := 232) g 0 dL_hands_232 rfl rfl ?_
            refine j_cG (pc := 233) (n := 0) g hr (hc.1.1) rfl (k_clear (jl X) (jD X) Mx x al S2 0 ns nd hc) dL_hands_233 gL_hands_X8_clear rfl rfl rfl rfl ⟨rfl, by decide, by decide, by decide +kernel⟩ ⟨Nat.le_of_ble_eq_true rfl, Nat.le_of_ble_eq_true rfl⟩ ⟨by show _ ≤ 11; omega, by show _ ≤ 46; omega⟩ rfl (Nat.le_of_ble_eq_true rfl) (fun v Mx M hp hr => ?_)
            obtain ⟨rfl, hc⟩ := hp
            show J X 16 _ _ _ _ [.int (nI 0)] (233 + 3)
            obtain ⟨S3, eS3⟩ : ∃ S3, S3 = nClear S2 := ⟨_, rfl⟩
            have hF : sf [1] S2 S3 := by rw [eS3]; exact sf.rf.su (by decide)
            have hk3 : mOK S3 0 ns nd := by rw [eS3]; exact ok_clear hk2
            have ht3 : tie (n0 + 1) S3 R2 0 ns nd := ht2.st hF (by decide)
            rw [← eS3] at hc
            have f25 : S3 25 (10 * i + hN) = b01 (nI sl ≠ nI rt) := by rw [hF 25 (by decide)]; exact f25
            have f22 : S3 22 i = nI (hN + 1) := by rw [hF 22 (by decide)]; exact f22
            have y22 : ix (S3 22 i) = hN + 1 := by rw [f22, ix_nI (by omega)]
            clear hF eS3
            refine j_if_ne (pc := 236) g 315 dL_hands_236 (by decide) (fun c236 => absurd c236 (not_not_intro rfl)) (fun c236 => ?_)
            refine j_aload_n (pc := 239) g 0 dL_hands_239 rfl rfl ?_
            refine j_iload (pc := 240) g dL_hands_240 rfl ?_
            refine j_iconst (pc := 242) g (0) dL_hands_242 (by decide) ?_
            refine j_cW (pc := 243) (n := 3) g t0 hr (w_paper (jl X) (jD X) hst Mx x al S3 0 ns nd hc hk3 (nI pp) 0) dL_hands_243 gL_hands_L_paper rfl rfl rfl rfl ⟨by decide, by decide, by decide +kernel⟩ ⟨Nat.le_of_ble_eq_true rfl, Nat.le_of_ble_eq_true rfl⟩ ⟨by show _ ≤ 11; omega, by show _ ≤ 46; omega⟩ rfl (Nat.le_of_ble_eq_true rfl) (fun v Mx M hp hr => ?_)
            obtain ⟨rfl, al, hc⟩ := hp.ok (tpap hpp (by decide))
            show J X 16 _ _ _ _ [.int (vPaper S3 (nI pp) 0)] (243 + 3)
            rw [vpap0 hpp]
            refine j_aload_n (pc := 246) g 2 dL_hands_246 rfl rfl ?_
            refine j_iconst (pc := 247) g (3) dL_hands_247 (by decide) ?_
            refine j_iload (pc := 248) g dL_hands_248 rfl ?_
            refine j_imul (pc := 250) g dL_hands_250 ?_
            refine j_rd (pc := 251) g hr 2 (by decide) (3 * pp) (S3 6 pp) dL_hands_251 (lx_m 3 rfl) (by show 3 * pp < 9; omega) ((ht3.2.2.1 pp hpp).1) ?_
            refine j_icmp_ne (pc := 252) g 315 dL_hands_252 (by decide) (fun c252 => absurd c252 (not_not_intro rfl)) (fun c252 => ?_)
            have K298 : ∀ (S4 : ST) (M Mx : MH) (al : Nat → Nat → Nat) (hr : LR M Mx ra R2) (hc : CRep Mx x al S4 0 ns nd) (hk4 : mOK S4 0 ns nd) (ht4 : tie (n0 + 1) S4 R2 0 ns nd), J X 16 10 40 (M) [some (.ref x), some (.ref (ra 0)), some (.ref (ra 2)), some (.ref (ra 4)), some (.int a0), some (.int b0), some (.int (nI i)), some (.int (nI (8 * i))), some (.int (nI pp)), some (.int (whoH S i hN)), some (.int (nI rt)), some (.int ff), some (.int (nI sl)), some (.int (S 9 0 + 1)), some (.int lk), some (.int (nI hN))] [] 298 := by
              intro S4 M Mx al hr hc hk4 ht4
              refine j_aload_n (pc := 298) g 0 dL_hands_298 rfl rfl ?_
              refine j_iload (pc := 299) g dL_hands_299 rfl ?_
              refine j_iconst (pc := 301) g (5) dL_hands_301 (by decide) ?_
              refine j_iconst (pc := 302) g (0) dL_hands_302 (by decide) ?_
              refine j_cW (pc := 303) (n := 4) g t0 hr (w_look (jl X) (jD X) hst Mx x al S4 0 ns nd hc hk4 (nI i) 5 0) dL_hands_303 gL_hands_L_look rfl rfl rfl rfl ⟨by decide, by decide, by decide +kernel⟩ ⟨Nat.le_of_ble_eq_true rfl, Nat.le_of_ble_eq_true rfl⟩ ⟨by show _ ≤ 11; omega, by show _ ≤ 46; omega⟩ rfl (Nat.le_of_ble_eq_true rfl) (fun v Mx M hp hr => ?_)
              obtain ⟨rfl, al, hc⟩ := hp.no1 tlk_1
              show J X 16 _ _ _ _ [.int (-1000001)] (303 + 3)
              refine j_ldci (pc := 306) g (-1000001) dL_hands_306 (by decide +kernel) ?_
              refine j_icmp_ne (pc := 308) g 315 dL_hands_308 (by decide) (fun c308 => absurd c308 (not_not_intro rfl)) (fun c308 => ?_)
              refine j_iconst (pc := 311) g (1) dL_hands_311 (by decide) ?_
              refine j_goto (pc := 312) g 316 dL_hands_312 (by decide) ?_
              exact j_iret (pc := 316) g r rfl rfl (⟨rfl, _, _, _, _, _, _, _, hr, hc, hk4, ht4⟩) dL_hands_316 (by omega) (by omega)
            refine j_iload (pc := 255) g dL_hands_255 rfl ?_
            refine j_if_eq (pc := 257) g 298 dL_hands_257 (by decide) (fun c257 => ?_) (fun c257 => ?_)
            · exact j_room _ _ (by omega) (by omega) (K298 S3 M Mx al hr hc hk3 ht3)
            · refine j_aload_n (pc := 260) g 0 dL_hands_260 rfl rfl ?_
              refine j_iload (pc := 261) g dL_hands_261 rfl ?_
              refine j_iload (pc := 263) g dL_hands_263 rfl ?_
              refine j_iconst (pc := 265) g (2) dL_hands_265 (by decide) ?_
              refine j_idiv (pc := 266) g dL_hands_266 (by decide) ?_
              refine j_topi (nI (hN / 2)) (pk_div (d := 2) (by omega) (by omega) (by omega)) ?_
              refine j_iload (pc := 267) g dL_hands_267 rfl ?_
              refine j_iconst (pc := 269) g (2) dL_hands_269 (by decide) ?_
              refine j_irem (pc := 270) g dL_hands_270 (by decide) ?_
              refine j_topi (nI (hN % 2)) (pk_rem (d := 2) (by omega) (by omega) (by omega)) ?_
              refine j_iconst (pc := 271) g (1) dL_hands_271 (by decide) ?_
              have K280 : ∀ (ob : Int32) (hob : ob = b01 (hN % 2 = 1)), J X 16 9 34 (M) [some (.ref x), some (.ref (ra 0)), some (.ref (ra 2)), some (.ref (ra 4)), some (.int a0), some (.int b0), some (.int (nI i)), some (.int (nI (8 * i))), some (.int (nI pp)), some (.int (whoH S i hN)), some (.int (nI rt)), some (.int ff), some (.int (nI sl)), some (.int (S 9 0 + 1)), some (.int lk), some (.int (nI hN))] [.int ob, .int (nI (hN / 2)), .int (nI i), .ref x] 280 := by
                intro ob hob
                refine j_cW (pc := 280) (n := 4) g t0 hr (w_look (jl X) (jD X) hst Mx x al S3 0 ns nd hc hk3 (nI i) (nI (hN / 2)) ob) dL_hands_280 gL_hands_L_look rfl rfl rfl rfl ⟨by decide, by decide, by decide +kernel⟩ ⟨Nat.le_of_ble_eq_true rfl, Nat.le_of_ble_eq_true rfl⟩ ⟨by show _ ≤ 11; omega, by show _ ≤ 46; omega⟩ rfl (Nat.le_of_ble_eq_true rfl) (fun v Mx M hp hr => ?_)
                obtain ⟨rfl, al, hc⟩ := hp.ok (tlk_0 hk3 hi y22 hob (by omega))
                have hk4 := ok_look hk3 (tlk_0 hk3 hi y22 hob (by omega))
                have ht4 := ht3.look (its := nI i) (k := nI (hN / 2)) (o := ob)
                show J X 16 _ _ _ _ [.int (if S3 25 (wI (ix (nI i)) (ix (nI (hN / 2))) ob) = 0 then 0 else 1)] (280 + 3)
                rw [wI_k hob i8 (by omega), f25]
                refine j_iload (pc := 283) g dL_hands_283 rfl ?_
                refine j_iload (pc := 285) g dL_hands_285 rfl ?_
                refine j_icmp_ne (pc := 287) g 294 dL_hands_287 (by decide) (fun c287 => ?_) (fun c287 => ?_)
                · refine j_iconst (pc := 294) g (1) dL_hands_294 (by decide) ?_
                  refine j_icmp_ne (pc := 295) g 315 dL_hands_295 (by decide) (fun c295 => absurd c295 (not_not_intro (by first | (rw [b01_f (not_not_intro c287)]; rfl) | (rw [b01_t c287]; rfl)))) (fun c295 => ?_)
                  exact j_room _ _ (by omega) (by omega) (K298 _ M Mx al hr hc hk4 ht4)
                · refine j_iconst (pc := 290) g (0) dL_hands_290 (by decide) ?_
                  refine j_goto (pc := 291) g 295 dL_hands_291 (by decide) ?_
                  refine j_icmp_ne (pc := 295) g 315 dL_hands_295 (by decide) (fun c295 => absurd c295 (not_not_intro (by first | (rw [b01_f (not_not_intro c287)]; rfl) | (rw [b01_t c287]; rfl)))) (fun c295 => ?_)
                  exact j_room _ _ (by omega) (by omega) (K298 _ M Mx al hr hc hk4 ht4)
              refine j_icmp_ne (pc := 272) g 279 dL_hands_272 (by decide) (fun c272 => ?_) (fun c272 => ?_)
              · refine j_iconst (pc := 279) g (0) dL_hands_279 (by decide) ?_
                exact K280 _ ((b01_f (fun z => c272 (by rw [z]; rfl))).symm)
              · refine j_iconst (pc := 275) g (1) dL_hands_275 (by decide) ?_
                refine j_goto (pc := 276) g 280 dL_hands_276 (by decide) ?_
                exact K280 _ ((b01_t ((nI_eq (b := 1) (by omega) (by omega)).mp c272)).symm)
          refine j_if_ne (pc := 204) g 211 dL_hands_204 (by decide) (fun c204 => ?_) (fun c204 => ?_)
          · refine j_iconst (pc := 211) g (0) dL_hands_211 (by decide) ?_
            exact K212 _
          · refine j_iconst (pc := 207) g (1) dL_hands_207 (by decide) ?_
            refine j_goto (pc := 208) g 212 dL_hands_208 (by decide) ?_
            exact K212 _
      refine j_iload (pc := 89) g dL_hands_89 rfl ?_
      refine j_if_eq (pc := 91) g 105 dL_hands_91 (by decide) (fun c91 => ?_) (fun c91 => ?_)
      · refine j_iload (pc := 105) g dL_hands_105 rfl ?_
        exact K107 rt hrt
      · refine j_iload (pc := 94) g dL_hands_94 rfl ?_
        refine j_sipush (pc := 96) g (1000) dL_hands_96 (by decide) ?_
        refine j_callS (pc := 99) (n := 2) g (c_low (jl X) (jD X) _ _ 1000 (by omega) (by omega)) dL_hands_99 gL_hands_L_low rfl rfl rfl rfl ⟨by decide, by decide, by decide +kernel⟩ ⟨Nat.le_of_ble_eq_true rfl, Nat.le_of_ble_eq_true rfl⟩ ⟨by show _ ≤ 11; omega, by show _ ≤ 46; omega⟩ rfl (Nat.le_of_ble_eq_true rfl) (fun v M1 hp => ?_)
        obtain ⟨sl, hsl, rfl, rfl⟩ := hp
        show J X 16 _ _ _ _ [.int (nI sl)] (99 + 3)
        refine j_goto (pc := 102) g 107 dL_hands_102 (by decide) ?_
        exact K107 _ hsl
    refine j_if_ne (pc := 79) g 86 dL_hands_79 (by decide) (fun c79 => ?_) (fun c79 => ?_)
    · refine j_iconst (pc := 86) g (0) dL_hands_86 (by decide) ?_
      exact K87 _
    · refine j_iconst (pc := 82) g (1) dL_hands_82 (by decide) ?_
      refine j_goto (pc := 83) g 87 dL_hands_83 (by decide) ?_
      exact K87 _
  refine j_topi (nI (hN % 2)) (pk_rem (d := 2) (by omega) (by omega) (by omega)) ?_
  refine j_if_ne (pc := 33) g 43 dL_hands_33 (by decide) (fun c33 => ?_) (fun c33 => ?_)
  · refine j_aload_n (pc := 43) g 3 dL_hands_43 rfl rfl ?_
    refine j_iload (pc := 44) g dL_hands_44 rfl ?_
    refine j_iconst (pc := 46) g (1) dL_hands_46 (by decide) ?_
    refine j_iadd (pc := 47) g dL_hands_47 ?_
    refine j_rd (pc := 48) g hr 4 (by decide) (8 * i + 1) (S 14 i) dL_hands_48 (nI_add _ 1) (by show 8 * i + 1 < 64; omega) (hdt.2.1) ?_
    exact K49 _ (by rw [whoH, if_neg (fun z => c33 (by rw [z]; rfl))])
  · refine j_aload_n (pc := 36) g 3 dL_hands_36 rfl rfl ?_
    refine j_iload (pc := 37) g dL_hands_37 rfl ?_
    refine j_rd (pc := 39) g hr 4 (by decide) (8 * i) (S 13 i) dL_hands_39 (rfl) (by show 8 * i + 0 < 64; omega) (hdt.1) ?_
    refine j_goto (pc := 40) g 49 dL_hands_40 (by decide) ?_
    exact K49 _ (by rw [whoH, if_pos ((nI_eq (b := 0) (by omega) (by omega)).mp c33)])
