theorem iinc_14_13_1 {X : JC} {cc : ByteArray} {own : String} {Ts : List Cond} {cells slots pc : Nat} {rm : Room} {M : MH} {st : List Value} {a0 a1 a2 a3 a4 a5 a6 a7 a8 a9 a10 a11 a12 : Option Value} (g : jG X cc own Ts 14 rm) {x : Int32} (hd : decode cc pc = .ok (.iinc 13 1, 3)) (k : J X 14 cells slots M [a0, a1, a2, a3, a4, a5, a6, a7, a8, a9, a10, a11, a12, some (.int (x + 1))] st (pc + 3)) : J X 14 cells slots M [a0, a1, a2, a3, a4, a5, a6, a7, a8, a9, a10, a11, a12, some (.int x)] st pc := j_iinc g (x + 1) hd rfl rfl k
theorem istore_14_10 {X : JC} {cc : ByteArray} {own : String} {Ts : List Cond} {cells slots pc : Nat} {rm : Room} {M : MH} {st : List Value} {a0 a1 a2 a3 a4 a5 a6 a7 a8 a9 a10 a11 a12 a13 : Option Value} (g : jG X cc own Ts 14 rm) {x : Int32} (hd : decode cc pc = .ok (.istore 10, 2)) (k : J X 14 cells slots M [a0, a1, a2, a3, a4, a5, a6, a7, a8, a9, some (.int x), a11, a12, a13] st (pc + 2)) : J X 14 cells slots M [a0, a1, a2, a3, a4, a5, a6, a7, a8, a9, a10, a11, a12, a13] (.int x :: st) pc := j_istore g hd (Nat.le_of_ble_eq_true rfl) k
theorem istore_14_11 {X : JC} {cc : ByteArray} {own : String} {Ts : List Cond} {cells slots pc : Nat} {rm : Room} {M : MH} {st : List Value} {a0 a1 a2 a3 a4 a5 a6 a7 a8 a9 a10 a11 a12 a13 : Option Value} (g : jG X cc own Ts 14 rm) {x : Int32} (hd : decode cc pc = .ok (.istore 11, 2)) (k : J X 14 cells slots M [a0, a1, a2, a3, a4, a5, a6, a7, a8, a9, a10, some (.int x), a12, a13] st (pc + 2)) : J X 14 cells slots M [a0, a1, a2, a3, a4, a5, a6, a7, a8, a9, a10, a11, a12, a13] (.int x :: st) pc := j_istore g hd (Nat.le_of_ble_eq_true rfl) k
theorem istore_14_12 {X : JC} {cc : ByteArray} {own : String} {Ts : List Cond} {cells slots pc : Nat} {rm : Room} {M : MH} {st : List Value} {a0 a1 a2 a3 a4 a5 a6 a7 a8 a9 a10 a11 a12 a13 : Option Value} (g : jG X cc own Ts 14 rm) {x : Int32} (hd : decode cc pc = .ok (.istore 12, 2)) (k : J X 14 cells slots M [a0, a1, a2, a3, a4, a5, a6, a7, a8, a9, a10, a11, some (.int x), a13] st (pc + 2)) : J X 14 cells slots M [a0, a1, a2, a3, a4, a5, a6, a7, a8, a9, a10, a11, a12, a13] (.int x :: st) pc := j_istore g hd (Nat.le_of_ble_eq_true rfl) k
theorem istore_14_13 {X : JC} {cc : ByteArray} {own : String} {Ts : List Cond} {cells slots pc : Nat} {rm : Room} {M : MH} {st : List Value} {a0 a1 a2 a3 a4 a5 a6 a7 a8 a9 a10 a11 a12 a13 : Option Value} (g : jG X cc own Ts 14 rm) {x : Int32} (hd : decode cc pc = .ok (.istore 13, 2)) (k : J X 14 cells slots M [a0, a1, a2, a3, a4, a5, a6, a7, a8, a9, a10, a11, a12, some (.int x)] st (pc + 2)) : J X 14 cells slots M [a0, a1, a2, a3, a4, a5, a6, a7, a8, a9, a10, a11, a12, a13] (.int x :: st) pc := j_istore g hd (Nat.le_of_ble_eq_true rfl) k
theorem istore_14_5 {X : JC} {cc : ByteArray} {own : String} {Ts : List Cond} {cells slots pc : Nat} {rm : Room} {M : MH} {st : List Value} {a0 a1 a2 a3 a4 a5 a6 a7 a8 a9 a10 a11 a12 a13 : Option Value} (g : jG X cc own Ts 14 rm) {x : Int32} (hd : decode cc pc = .ok (.istore 5, 2)) (k : J X 14 cells slots M [a0, a1, a2, a3, a4, some (.int x), a6, a7, a8, a9, a10, a11, a12, a13] st (pc + 2)) : J X 14 cells slots M [a0, a1, a2, a3, a4, a5, a6, a7, a8, a9, a10, a11, a12, a13] (.int x :: st) pc := j_istore g hd (Nat.le_of_ble_eq_true rfl) k
theorem istore_14_6 {X : JC} {cc : ByteArray} {own : String} {Ts : List Cond} {cells slots pc : Nat} {rm : Room} {M : MH} {st : List Value} {a0 a1 a2 a3 a4 a5 a6 a7 a8 a9 a10 a11 a12 a13 : Option Value} (g : jG X cc own Ts 14 rm) {x : Int32} (hd : decode cc pc = .ok (.istore 6, 2)) (k : J X 14 cells slots M [a0, a1, a2, a3, a4, a5, some (.int x), a7, a8, a9, a10, a11, a12, a13] st (pc + 2)) : J X 14 cells slots M [a0, a1, a2, a3, a4, a5, a6, a7, a8, a9, a10, a11, a12, a13] (.int x :: st) pc := j_istore g hd (Nat.le_of_ble_eq_true rfl) k
theorem istore_14_7 {X : JC} {cc : ByteArray} {own : String} {Ts : List Cond} {cells slots pc : Nat} {rm : Room} {M : MH} {st : List Value} {a0 a1 a2 a3 a4 a5 a6 a7 a8 a9 a10 a11 a12 a13 : Option Value} (g : jG X cc own Ts 14 rm) {x : Int32} (hd : decode cc pc = .ok (.istore 7, 2)) (k : J X 14 cells slots M [a0, a1, a2, a3, a4, a5, a6, some (.int x), a8, a9, a10, a11, a12, a13] st (pc + 2)) : J X 14 cells slots M [a0, a1, a2, a3, a4, a5, a6, a7, a8, a9, a10, a11, a12, a13] (.int x :: st) pc := j_istore g hd (Nat.le_of_ble_eq_true rfl) k
theorem istore_14_8 {X : JC} {cc : ByteArray} {own : String} {Ts : List Cond} {cells slots pc : Nat} {rm : Room} {M : MH} {st : List Value} {a0 a1 a2 a3 a4 a5 a6 a7 a8 a9 a10 a11 a12 a13 : Option Value} (g : jG X cc own Ts 14 rm) {x : Int32} (hd : decode cc pc = .ok (.istore 8, 2)) (k : J X 14 cells slots M [a0, a1, a2, a3, a4, a5, a6, a7, some (.int x), a9, a10, a11, a12, a13] st (pc + 2)) : J X 14 cells slots M [a0, a1, a2, a3, a4, a5, a6, a7, a8, a9, a10, a11, a12, a13] (.int x :: st) pc := j_istore g hd (Nat.le_of_ble_eq_true rfl) k
theorem istore_14_9 {X : JC} {cc : ByteArray} {own : String} {Ts : List Cond} {cells slots pc : Nat} {rm : Room} {M : MH} {st : List Value} {a0 a1 a2 a3 a4 a5 a6 a7 a8 a9 a10 a11 a12 a13 : Option Value} (g : jG X cc own Ts 14 rm) {x : Int32} (hd : decode cc pc = .ok (.istore 9, 2)) (k : J X 14 cells slots M [a0, a1, a2, a3, a4, a5, a6, a7, a8, some (.int x), a10, a11, a12, a13] st (pc + 2)) : J X 14 cells slots M [a0, a1, a2, a3, a4, a5, a6, a7, a8, a9, a10, a11, a12, a13] (.int x :: st) pc := j_istore g hd (Nat.le_of_ble_eq_true rfl) k



set_option maxHeartbeats 1000000 in
set_option maxRecDepth 100000 in
theorem h_duels (l : Launch) (D : va_G) (hst : l.stackTraces = false) {n0 : Nat} {M Mx : MH} {x : Nat} {ra : Nat → Nat} {al : Nat → Nat → Nat} {R S : ST} {d ns nd : Nat} (hr : LR M Mx ra R) (hc : CRep Mx x al S d ns nd) (hk : mOK S d ns nd) (ht : tie n0 S R d ns nd) (a0 b0 : Int32) : xW l D yL_duels wsL_duels ({ frames := 8, cells := 15, slots := 97, locals := 191 }) 15 97 [.ref x, .ref (ra 0), .ref (ra 4), .int a0, .int b0] M (fun v M1 => v = some (.int 1) ∧ ∃ R1 S1 d1 ns1 nd1, LV n0 M1 x ra R1 S1 d1 ns1 nd1) := by
  refine xV_of (cc := cL_duels) (maxL := 14) (ret := (some .boolean)) (own := RL) [some (.ref x), some (.ref (ra 0)), some (.ref (ra 4)), some (.int a0), some (.int b0), none, none, none, none, none, none, none, none, none] (by decide) rfl rfl (Nat.le_of_ble_eq_true rfl) rfl rfl rfl ?_
  intro X hXl hXD g r t0
  subst hXl
  subst hXD
  have n8 := ht.2.2.2.2.2.2.2.2.2
  have n6 := hk.2.1.2.2.1
  refine j_iload_n (pc := 0) g 3 dL_duels_0 rfl rfl ?_
  refine j_bipush (pc := 1) g (8) dL_duels_1 (by decide) ?_
  refine j_callS (pc := 3) (n := 2) g (c_low (jl X) (jD X) _ _ 8 (by omega) (by omega)) dL_duels_3 gL_duels_L_low rfl rfl rfl rfl ⟨by decide, by decide, by decide +kernel⟩ ⟨Nat.le_of_ble_eq_true rfl, Nat.le_of_ble_eq_true rfl⟩ ⟨by show _ ≤ 15; omega, by show _ ≤ 97; omega⟩ rfl (Nat.le_of_ble_eq_true rfl) (fun v M1 hp => ?_)
  obtain ⟨q5, h5, rfl, rfl⟩ := hp
  show J X 14 _ _ _ _ [.int (nI q5)] (3 + 3)
  refine istore_14_5 (pc := 6) g dL_duels_6 ?_
  refine j_iload_n (pc := 8) g 3 dL_duels_8 rfl rfl ?_
  refine j_iconst (pc := 9) g (3) dL_duels_9 (by decide) ?_
  refine j_ishr (pc := 10) g dL_duels_10 ?_
  refine j_bipush (pc := 11) g (8) dL_duels_11 (by decide) ?_
  refine j_callS (pc := 13) (n := 2) g (c_low (jl X) (jD X) _ _ 8 (by omega) (by omega)) dL_duels_13 gL_duels_L_low rfl rfl rfl rfl ⟨by decide, by decide, by decide +kernel⟩ ⟨Nat.le_of_ble_eq_true rfl, Nat.le_of_ble_eq_true rfl⟩ ⟨by show _ ≤ 15; omega, by show _ ≤ 97; omega⟩ rfl (Nat.le_of_ble_eq_true rfl) (fun v M1 hp => ?_)
  obtain ⟨q6, h6, rfl, rfl⟩ := hp
  show J X 14 _ _ _ _ [.int (nI q6)] (13 + 3)
  refine istore_14_6 (pc := 16) g dL_duels_16 ?_
  refine j_iload_n (pc := 18) g 3 dL_duels_18 rfl rfl ?_
  refine j_bipush (pc := 19) g (6) dL_duels_19 (by decide) ?_
  refine j_ishr (pc := 21) g dL_duels_21 ?_
  refine j_iconst (pc := 22) g (4) dL_duels_22 (by decide) ?_
  refine j_callS (pc := 23) (n := 2) g (c_low (jl X) (jD X) _ _ 4 (by omega) (by omega)) dL_duels_23 gL_duels_L_low rfl rfl rfl rfl ⟨by decide, by decide, by decide +kernel⟩ ⟨Nat.le_of_ble_eq_true rfl, Nat.le_of_ble_eq_true rfl⟩ ⟨by show _ ≤ 15; omega, by show _ ≤ 97; omega⟩ rfl (Nat.le_of_ble_eq_true rfl) (fun v M1 hp => ?_)
  obtain ⟨q7, h7, rfl, rfl⟩ := hp
  show J X 14 _ _ _ _ [.int (nI q7)] (23 + 3)
  refine istore_14_7 (pc := 26) g dL_duels_26 ?_
  refine j_iload_n (pc := 28) g 3 dL_duels_28 rfl rfl ?_
  refine j_bipush (pc := 29) g (8) dL_duels_29 (by decide) ?_
  refine j_ishr (pc := 31) g dL_duels_31 ?_
  refine j_iconst (pc := 32) g (3) dL_duels_32 (by decide) ?_
  refine j_callS (pc := 33) (n := 2) g (c_low (jl X) (jD X) _ _ 3 (by omega) (by omega)) dL_duels_33 gL_duels_L_low rfl rfl rfl rfl ⟨by decide, by decide, by decide +kernel⟩ ⟨Nat.le_of_ble_eq_true rfl, Nat.le_of_ble_eq_true rfl⟩ ⟨by show _ ≤ 15; omega, by show _ ≤ 97; omega⟩ rfl (Nat.le_of_ble_eq_true rfl) (fun v M1 hp => ?_)
  obtain ⟨q8, h8, rfl, rfl⟩ := hp
  show J X 14 _ _ _ _ [.int (nI q8)] (33 + 3)
  refine istore_14_8 (pc := 36) g dL_duels_36 ?_
  refine j_iconst (pc := 38) g (1) dL_duels_38 (by decide) ?_
  refine j_iload (pc := 39) g dL_duels_39 rfl ?_
  refine j_iconst (pc := 41) g (5) dL_duels_41 (by decide) ?_
  refine j_callS (pc := 42) (n := 2) g (c_low (jl X) (jD X) _ _ 5 (by omega) (by omega)) dL_duels_42 gL_duels_L_low rfl rfl rfl rfl ⟨by decide, by decide, by decide +kernel⟩ ⟨Nat.le_of_ble_eq_true rfl, Nat.le_of_ble_eq_true rfl⟩ ⟨by show _ ≤ 15; omega, by show _ ≤ 97; omega⟩ rfl (Nat.le_of_ble_eq_true rfl) (fun v M1 hp => ?_)
  obtain ⟨t, h9, rfl, rfl⟩ := hp
  show J X 14 _ _ _ _ [.int (nI t), .int 1] (42 + 3)
  refine j_iadd (pc := 45) g dL_duels_45 ?_
  refine j_topi (nI (1 + t)) (nI_add 1 t) ?_
  refine istore_14_9 (pc := 46) g dL_duels_46 ?_
  refine j_aload_n (pc := 48) g 1 dL_duels_48 rfl rfl ?_
  refine j_iconst (pc := 49) g (3) dL_duels_49 (by decide) ?_
  refine j_rd (pc := 50) g hr 0 (by decide) (3) (nI nd) dL_duels_50 (rfl) (by decide) (ht.1.2.2.2.1) ?_
  refine j_bipush (pc := 51) g (8) dL_duels_51 (by decide) ?_
  refine j_icmp_ne (pc := 53) g 58 dL_duels_53 (by decide) (fun c53 => ?_) (fun c53 => ?_)
  · have hnd : nd < 8 := by have q : nd ≠ 8 := fun z => c53 (by rw [z]; rfl); omega
    refine j_aload_n (pc := 58) g 0 dL_duels_58 rfl rfl ?_
    refine j_iload (pc := 59) g dL_duels_59 rfl ?_
    refine j_iload (pc := 61) g dL_duels_61 rfl ?_
    refine j_iload (pc := 63) g dL_duels_63 rfl ?_
    refine j_iload (pc := 65) g dL_duels_65 rfl ?_
    refine j_iload (pc := 67) g dL_duels_67 rfl ?_
    refine j_iload (pc := 69) g dL_duels_69 rfl ?_
    refine j_iconst (pc := 71) g (4) dL_duels_71 (by decide) ?_
    refine j_ishr (pc := 72) g dL_duels_72 ?_
    refine j_sipush (pc := 73) g (1000) dL_duels_73 (by decide) ?_
    refine j_callS (pc := 76) (n := 2) g (c_low (jl X) (jD X) _ _ 1000 (by omega) (by omega)) dL_duels_76 gL_duels_L_low rfl rfl rfl rfl ⟨by decide, by decide, by decide +kernel⟩ ⟨Nat.le_of_ble_eq_true rfl, Nat.le_of_ble_eq_true rfl⟩ ⟨by show _ ≤ 15; omega, by show _ ≤ 97; omega⟩ rfl (Nat.le_of_ble_eq_true rfl) (fun v M1 hp => ?_)
    obtain ⟨w, hw, rfl, rfl⟩ := hp
    show J X 14 _ _ _ _ [.int (nI w), .int (nI (1 + t)), .int (nI q8), .int (nI q7), .int (nI q6), .int (nI q5), .ref x] (76 + 3)
    refine j_cW (pc := 79) (n := 7) g t0 hr (w_duel (jl X) (jD X) hst Mx x al S d ns nd hc hk (nI q5) (nI q6) (nI q7) (nI q8) (nI (1 + t)) (nI w)) dL_duels_79 gL_duels_L_duel rfl rfl rfl rfl ⟨by decide, by decide, by decide +kernel⟩ ⟨Nat.le_of_ble_eq_true rfl, Nat.le_of_ble_eq_true rfl⟩ ⟨by show _ ≤ 15; omega, by show _ ≤ 97; omega⟩ rfl (Nat.le_of_ble_eq_true rfl) (fun v Mx M hp hr => ?_)
    have hq := duel_cases hk ht h5 h6 h7 h8 h9 hw hnd hp
    rcases hq with ⟨e1, rfl, al, hc⟩ | ⟨e1, e2, rfl, al, hc⟩ | ⟨e1, e2, rfl, al, S2, hc, hk2, ht2, e18, e22⟩
    · show J X 14 _ _ _ _ [.int (-1000002)] (79 + 3)
      refine istore_14_10 (pc := 82) g dL_duels_82 ?_
      refine j_iload (pc := 84) g dL_duels_84 rfl ?_
      refine j_iload (pc := 86) g dL_duels_86 rfl ?_
      refine j_icmp_eq (pc := 88) g 97 dL_duels_88 (by decide) (fun c88 => ?_) (fun c88 => absurd (by rw [e1]) c88)
      refine j_iload (pc := 97) g dL_duels_97 rfl ?_
      refine j_iload (pc := 99) g dL_duels_99 rfl ?_
      refine j_iload (pc := 101) g dL_duels_101 rfl ?_
      refine j_icmp_ne (pc := 103) g 111 dL_duels_103 (by decide) (fun c103 => absurd c103 (not_not_intro (by rw [e1]))) (fun c103 => ?_)
      refine j_ldci (pc := 106) g (-1000002) dL_duels_106 (by decide +kernel) ?_
      refine j_goto (pc := 108) g 113 dL_duels_108 (by decide) ?_
      refine j_icmp_ne (pc := 113) g 120 dL_duels_113 (by decide) (fun c113 => absurd c113 (not_not_intro rfl)) (fun c113 => ?_)
      refine j_iconst (pc := 116) g (1) dL_duels_116 (by decide) ?_
      refine j_goto (pc := 117) g 121 dL_duels_117 (by decide) ?_
      exact j_iret (pc := 121) g r rfl rfl (⟨rfl, _, _, _, _, _, _, _, hr, hc, hk, ht⟩) dL_duels_121 (by omega) (by omega)
    · show J X 14 _ _ _ _ [.int (-1000003)] (79 + 3)
      refine istore_14_10 (pc := 82) g dL_duels_82 ?_
      refine j_iload (pc := 84) g dL_duels_84 rfl ?_
      refine j_iload (pc := 86) g dL_duels_86 rfl ?_
      refine j_icmp_eq (pc := 88) g 97 dL_duels_88 (by decide) (fun c88 => absurd c88 (fun z => e1 ((nI_eq (by omega) (by omega)).mp z))) (fun c88 => ?_)
      refine j_aload_n (pc := 91) g 1 dL_duels_91 rfl rfl ?_
      refine j_iconst (pc := 92) g (1) dL_duels_92 (by decide) ?_
      refine j_rd (pc := 93) g hr 0 (by decide) (1) (nI ns) dL_duels_93 (rfl) (by decide) (ht.1.2.1) ?_
      refine j_if_ne (pc := 94) g 122 dL_duels_94 (by decide) (fun c94 => absurd c94 (not_not_intro (by rw [e2]; rfl))) (fun c94 => ?_)
      refine j_iload (pc := 97) g dL_duels_97 rfl ?_
      refine j_iload (pc := 99) g dL_duels_99 rfl ?_
      refine j_iload (pc := 101) g dL_duels_101 rfl ?_
      refine j_icmp_ne (pc := 103) g 111 dL_duels_103 (by decide) (fun c103 => ?_) (fun c103 => absurd c103 (fun z => e1 ((nI_eq (by omega) (by omega)).mp z)))
      refine j_ldci (pc := 111) g (-1000003) dL_duels_111 (by decide +kernel) ?_
      refine j_icmp_ne (pc := 113) g 120 dL_duels_113 (by decide) (fun c113 => absurd c113 (not_not_intro rfl)) (fun c113 => ?_)
      refine j_iconst (pc := 116) g (1) dL_duels_116 (by decide) ?_
      refine j_goto (pc := 117) g 121 dL_duels_117 (by decide) ?_
      exact j_iret (pc := 121) g r rfl rfl (⟨rfl, _, _, _, _, _, _, _, hr, hc, hk, ht⟩) dL_duels_121 (by omega) (by omega)
    · show J X 14 _ _ _ _ [.int (nI nd)] (79 + 3)
      refine istore_14_10 (pc := 82) g dL_duels_82 ?_
      refine j_iload (pc := 84) g dL_duels_84 rfl ?_
      refine j_iload (pc := 86) g dL_duels_86 rfl ?_
      refine j_icmp_eq (pc := 88) g 97 dL_duels_88 (by decide) (fun c88 => absurd c88 (fun z => e1 ((nI_eq (by omega) (by omega)).mp z))) (fun c88 => ?_)
      refine j_aload_n (pc := 91) g 1 dL_duels_91 rfl rfl ?_
      refine j_iconst (pc := 92) g (1) dL_duels_92 (by decide) ?_
      refine j_rd (pc := 93) g hr 0 (by decide) (1) (nI ns) dL_duels_93 (rfl) (by decide) (ht.1.2.1) ?_
      refine j_if_ne (pc := 94) g 122 dL_duels_94 (by decide) (fun c94 => ?_) (fun c94 => absurd c94 (nI_ne0 (by omega) (by omega)))
      refine j_bipush (pc := 122) g (8) dL_duels_122 (by decide) ?_
      refine j_aload_n (pc := 124) g 1 dL_duels_124 rfl rfl ?_
      refine j_iconst (pc := 125) g (3) dL_duels_125 (by decide) ?_
      refine j_rd (pc := 126) g hr 0 (by decide) (3) (nI nd) dL_duels_126 (rfl) (by decide) (ht.1.2.2.2.1) ?_
      refine j_imul (pc := 127) g dL_duels_127 ?_
      refine j_topi (nI (8 * nd)) (pk_mul 8 nd) ?_
      refine istore_14_11 (pc := 128) g dL_duels_128 ?_
      refine j_aload_n (pc := 130) g 2 dL_duels_130 rfl rfl ?_
      refine j_iload (pc := 131) g dL_duels_131 rfl ?_
      refine j_iload (pc := 133) g dL_duels_133 rfl ?_
      refine j_wr (pc := 135) g hr 4 (by decide) (8 * nd) dL_duels_135 (rfl) (by show 8 * nd + 0 < 64; omega) (fun M hr => ?_)
      refine j_aload_n (pc := 136) g 2 dL_duels_136 rfl rfl ?_
      refine j_iload (pc := 137) g dL_duels_137 rfl ?_
      refine j_iconst (pc := 139) g (1) dL_duels_139 (by decide) ?_
      refine j_iadd (pc := 140) g dL_duels_140 ?_
      refine j_iload (pc := 141) g dL_duels_141 rfl ?_
      refine j_wr (pc := 143) g hr 4 (by decide) (8 * nd + 1) dL_duels_143 (nI_add _ 1) (by show 8 * nd + 1 < 64; omega) (fun M hr => ?_)
      refine j_aload_n (pc := 144) g 2 dL_duels_144 rfl rfl ?_
      refine j_iload (pc := 145) g dL_duels_145 rfl ?_
      refine j_iconst (pc := 147) g (2) dL_duels_147 (by decide) ?_
      refine j_iadd (pc := 148) g dL_duels_148 ?_
      refine j_iload (pc := 149) g dL_duels_149 rfl ?_
      refine j_wr (pc := 151) g hr 4 (by decide) (8 * nd + 2) dL_duels_151 (nI_add _ 2) (by show 8 * nd + 2 < 64; omega) (fun M hr => ?_)
      refine j_aload_n (pc := 152) g 2 dL_duels_152 rfl rfl ?_
      refine j_iload (pc := 153) g dL_duels_153 rfl ?_
      refine j_iconst (pc := 155) g (3) dL_duels_155 (by decide) ?_
      refine j_iadd (pc := 156) g dL_duels_156 ?_
      refine j_iload (pc := 157) g dL_duels_157 rfl ?_
      refine j_wr (pc := 159) g hr 4 (by decide) (8 * nd + 3) dL_duels_159 (nI_add _ 3) (by show 8 * nd + 3 < 64; omega) (fun M hr => ?_)
      refine j_aload_n (pc := 160) g 2 dL_duels_160 rfl rfl ?_
      refine j_iload (pc := 161) g dL_duels_161 rfl ?_
      refine j_iconst (pc := 163) g (4) dL_duels_163 (by decide) ?_
      refine j_iadd (pc := 164) g dL_duels_164 ?_
      refine j_iload (pc := 165) g dL_duels_165 rfl ?_
      refine j_wr (pc := 167) g hr 4 (by decide) (8 * nd + 4) dL_duels_167 (nI_add _ 4) (by show 8 * nd + 4 < 64; omega) (fun M hr => ?_)
      refine j_aload_n (pc := 168) g 2 dL_duels_168 rfl rfl ?_
      refine j_iload (pc := 169) g dL_duels_169 rfl ?_
      refine j_iconst (pc := 171) g (5) dL_duels_171 (by decide) ?_
      refine j_iadd (pc := 172) g dL_duels_172 ?_
      refine j_iconst (pc := 173) g (0) dL_duels_173 (by decide) ?_
      refine j_wr (pc := 174) g hr 4 (by decide) (8 * nd + 5) dL_duels_174 (nI_add _ 5) (by show 8 * nd + 5 < 64; omega) (fun M hr => ?_)
      refine j_aload_n (pc := 175) g 2 dL_duels_175 rfl rfl ?_
      refine j_iload (pc := 176) g dL_duels_176 rfl ?_
      refine j_bipush (pc := 178) g (6) dL_duels_178 (by decide) ?_
      refine j_iadd (pc := 180) g dL_duels_180 ?_
      refine j_aload_n (pc := 181) g 1 dL_duels_181 rfl rfl ?_
      refine j_iconst (pc := 182) g (0) dL_duels_182 (by decide) ?_
      refine j_rd (pc := 183) g hr 0 (by decide) (0) (S 0 0) dL_duels_183 (rfl) (by decide) (by rw [su_o (by decide), su_o (by decide), su_o (by decide), su_o (by decide), su_o (by decide), su_o (by decide)]; exact ht.1.1) ?_
      refine j_wr (pc := 184) g hr 4 (by decide) (8 * nd + 6) dL_duels_184 (nI_add _ 6) (by show 8 * nd + 6 < 64; omega) (fun M hr => ?_)
      refine j_aload_n (pc := 185) g 2 dL_duels_185 rfl rfl ?_
      refine j_iload (pc := 186) g dL_duels_186 rfl ?_
      refine j_bipush (pc := 188) g (7) dL_duels_188 (by decide) ?_
      refine j_iadd (pc := 190) g dL_duels_190 ?_
      refine j_iconst (pc := 191) g (-1) dL_duels_191 (by decide) ?_
      refine j_wr (pc := 192) g hr 4 (by decide) (8 * nd + 7) dL_duels_192 (nI_add _ 7) (by show 8 * nd + 7 < 64; omega) (fun M hr => ?_)
      refine j_aload_n (pc := 193) g 1 dL_duels_193 rfl rfl ?_
      refine j_iconst (pc := 194) g (3) dL_duels_194 (by decide) ?_
      refine j_dup2 (pc := 195) g dL_duels_195 rfl rfl ?_
      refine j_rd (pc := 196) g hr 0 (by decide) (3) (nI nd) dL_duels_196 (rfl) (by decide) (by rw [su_o (by decide), su_o (by decide), su_o (by decide), su_o (by decide), su_o (by decide), su_o (by decide), su_o (by decide), su_o (by decide)]; exact ht.1.2.2.2.1) ?_
      refine j_iconst (pc := 197) g (1) dL_duels_197 (by decide) ?_
      refine j_iadd (pc := 198) g dL_duels_198 ?_
      refine j_topi (nI (nd + 1)) (nI_add nd 1) ?_
      refine j_wr (pc := 199) g hr 0 (by decide) (3) dL_duels_199 (rfl) (by decide) (fun M hr => ?_)
      have hx : ∃ R2, LR M Mx ra R2 ∧ tie n0 S2 R2 d ns (nd + 1) := ⟨_, hr, ht2⟩
      clear ht2
      obtain ⟨R2, hr, ht2⟩ := hx
      refine j_iload (pc := 200) g dL_duels_200 rfl ?_
      refine j_aload_n (pc := 202) g 1 dL_duels_202 rfl rfl ?_
      refine j_iconst (pc := 203) g (3) dL_duels_203 (by decide) ?_
      refine j_rd (pc := 204) g hr 0 (by decide) (3) (nI (nd + 1)) dL_duels_204 (rfl) (by decide) (ht2.1.2.2.2.1) ?_
      refine j_iconst (pc := 205) g (1) dL_duels_205 (by decide) ?_
      refine j_isub (pc := 206) g dL_duels_206 ?_
      refine j_icmp_ne (pc := 207) g 227 dL_duels_207 (by decide) (fun c207 => absurd c207 (not_not_intro (nI_pred nd).symm)) (fun c207 => ?_)
      refine j_aload_n (pc := 210) g 0 dL_duels_210 rfl rfl ?_
      refine j_iload (pc := 211) g dL_duels_211 rfl ?_
      refine j_iload (pc := 213) g dL_duels_213 rfl ?_
      refine j_cW (pc := 215) (n := 3) g t0 hr (w_prompt (jl X) (jD X) hst Mx x al S2 d ns (nd + 1) hc hk2 (nI nd) (nI (1 + t))) dL_duels_215 gL_duels_L_prompt rfl rfl rfl rfl ⟨by decide, by decide, by decide +kernel⟩ ⟨Nat.le_of_ble_eq_true rfl, Nat.le_of_ble_eq_true rfl⟩ ⟨by show _ ≤ 15; omega, by show _ ≤ 97; omega⟩ rfl (Nat.le_of_ble_eq_true rfl) (fun v Mx M hp hr => ?_)
      obtain ⟨rfl, al, hc⟩ := hp.no1 (tpr_1 hk2 hnd e18)
      show J X 14 _ _ _ _ [.int (-1000001)] (215 + 3)
      refine j_ldci (pc := 218) g (-1000001) dL_duels_218 (by decide +kernel) ?_
      refine j_icmp_ne (pc := 220) g 227 dL_duels_220 (by decide) (fun c220 => absurd c220 (not_not_intro rfl)) (fun c220 => ?_)
      refine j_iconst (pc := 223) g (1) dL_duels_223 (by decide) ?_
      refine j_goto (pc := 224) g 228 dL_duels_224 (by decide) ?_
      refine istore_14_12 (pc := 228) g dL_duels_228 ?_
      refine j_iconst (pc := 230) g (0) dL_duels_230 (by decide) ?_
      refine istore_14_13 (pc := 231) g dL_duels_231 ?_
      have L233 : ∀ (n : Nat) (k : Nat) (M Mx : MH) (al : Nat → Nat → Nat) (hr : LR M Mx ra R2) (hc : CRep Mx x al S2 d ns (nd + 1)) (hkn : k + n = 1 + t), J X 14 (14 - 2 * n) (91 - 12 * n) (M) [some (.ref x), some (.ref (ra 0)), some (.ref (ra 4)), some (.int a0), some (.int b0), some (.int (nI q5)), some (.int (nI q6)), some (.int (nI q7)), some (.int (nI q8)), some (.int (nI (1 + t))), some (.int (nI nd)), some (.int (nI (8 * nd))), some (.int 1), some (.int (nI k))] [] 233 := by
        intro n
        induction n with
        | zero =>
          intro k M Mx al hr hc hkn
          refine j_iload (pc := 233) g dL_duels_233 rfl ?_
          refine j_iload (pc := 235) g dL_duels_235 rfl ?_
          refine j_icmp_ge (pc := 237) g 283 dL_duels_237 (by decide) (fun c237 => ?_) (fun c237 => absurd (nI_le (by omega) (by omega)) c237)
          refine j_iload (pc := 283) g dL_duels_283 rfl ?_
          refine j_if_eq (pc := 285) g 303 dL_duels_285 (by decide) (fun c285 => absurd c285 (by decide)) (fun c285 => ?_)
          refine j_aload_n (pc := 288) g 0 dL_duels_288 rfl rfl ?_
          refine j_iload (pc := 289) g dL_duels_289 rfl ?_
          refine j_iconst (pc := 291) g (3) dL_duels_291 (by decide) ?_
          refine j_cW (pc := 292) (n := 3) g t0 hr (w_of (jl X) (jD X) hst Mx x al S2 d ns (nd + 1) hc hk2 (nI nd) 3) dL_duels_292 gL_duels_L_of rfl rfl rfl rfl ⟨by decide, by decide, by decide +kernel⟩ ⟨Nat.le_of_ble_eq_true rfl, Nat.le_of_ble_eq_true rfl⟩ ⟨by show _ ≤ 15; omega, by show _ ≤ 97; omega⟩ rfl (Nat.le_of_ble_eq_true rfl) (fun v Mx M hp hr => ?_)
          obtain ⟨rfl, al, hc⟩ := hp.ok (to0 hk2 (Nat.lt_succ_self nd) (by decide))
          show J X 14 _ _ _ _ [.int (vOf S2 (ix (nI nd)) 3)] (292 + 3)
          rw [ve3 hnd, wn_new hk2 (Nat.lt_succ_self nd) e18 e22 h9]
          refine j_iconst (pc := 295) g (-1) dL_duels_295 (by decide) ?_
          refine j_icmp_ne (pc := 296) g 303 dL_duels_296 (by decide) (fun c296 => absurd c296 (not_not_intro rfl)) (fun c296 => ?_)
          refine j_iconst (pc := 299) g (1) dL_duels_299 (by decide) ?_
          refine j_goto (pc := 300) g 304 dL_duels_300 (by decide) ?_
          exact j_iret (pc := 304) g r rfl rfl (⟨rfl, _, _, _, _, _, _, _, hr, hc, hk2, ht2⟩) dL_duels_304 (by omega) (by omega)
        | succ n ih =>
          intro k M Mx al hr hc hkn
          refine j_iload (pc := 233) g dL_duels_233 rfl ?_
          refine j_iload (pc := 235) g dL_duels_235 rfl ?_
          refine j_icmp_ge (pc := 237) g 283 dL_duels_237 (by decide) (fun c237 => absurd c237 (nI_ge (by omega) (by omega))) (fun c237 => ?_)
          refine j_iload (pc := 240) g dL_duels_240 rfl ?_
          refine j_if_eq (pc := 242) g 283 dL_duels_242 (by decide) (fun c242 => absurd c242 (by decide)) (fun c242 => ?_)
          refine j_aload_n (pc := 245) g 0 dL_duels_245 rfl rfl ?_
          refine j_iload (pc := 246) g dL_duels_246 rfl ?_
          refine j_iload (pc := 248) g dL_duels_248 rfl ?_
          refine j_cW (pc := 250) (n := 3) g t0 hr (w_prompt (jl X) (jD X) hst Mx x al S2 d ns (nd + 1) hc hk2 (nI nd) (nI k)) dL_duels_250 gL_duels_L_prompt rfl rfl rfl rfl ⟨by decide, by decide, by decide +kernel⟩ ⟨Nat.le_of_ble_eq_true rfl, Nat.le_of_ble_eq_true rfl⟩ ⟨by show _ ≤ 15; omega, by show _ ≤ 97; omega⟩ rfl (Nat.le_of_ble_eq_true rfl) (fun v Mx M hp hr => ?_)
          obtain ⟨rfl, al, hc⟩ := hp.ok (tpr_0 hk2 (Nat.lt_succ_self nd) e18 (by omega) (by omega))
          show J X 14 _ _ _ _ [.int (nI (promptI S2 (ix (nI nd)) (ix (nI k))))] (250 + 3)
          have hpl := pr_lt hk2 (Nat.lt_succ_self nd) (ix (nI k))
          refine j_if_lt (pc := 253) g 274 dL_duels_253 (by decide) (fun c253 => absurd c253 (nI_pos (by omega))) (fun c253 => ?_)
          refine j_aload_n (pc := 256) g 0 dL_duels_256 rfl rfl ?_
          refine j_iload (pc := 257) g dL_duels_257 rfl ?_
          refine j_iload (pc := 259) g dL_duels_259 rfl ?_
          refine j_cW (pc := 261) (n := 3) g t0 hr (w_prompt (jl X) (jD X) hst Mx x al S2 d ns (nd + 1) hc hk2 (nI nd) (nI k)) dL_duels_261 gL_duels_L_prompt rfl rfl rfl rfl ⟨by decide, by decide, by decide +kernel⟩ ⟨Nat.le_of_ble_eq_true rfl, Nat.le_of_ble_eq_true rfl⟩ ⟨by show _ ≤ 15; omega, by show _ ≤ 97; omega⟩ rfl (Nat.le_of_ble_eq_true rfl) (fun v Mx M hp hr => ?_)
          obtain ⟨rfl, al, hc⟩ := hp.ok (tpr_0 hk2 (Nat.lt_succ_self nd) e18 (by omega) (by omega))
          show J X 14 _ _ _ _ [.int (nI (promptI S2 (ix (nI nd)) (ix (nI k))))] (261 + 3)
          have hpl := pr_lt hk2 (Nat.lt_succ_self nd) (ix (nI k))
          refine j_aload_n (pc := 264) g 1 dL_duels_264 rfl rfl ?_
          refine j_iconst (pc := 265) g (1) dL_duels_265 (by decide) ?_
          refine j_rd (pc := 266) g hr 0 (by decide) (1) (nI ns) dL_duels_266 (rfl) (by decide) (ht2.1.2.1) ?_
          refine j_icmp_ge (pc := 267) g 274 dL_duels_267 (by decide) (fun c267 => absurd c267 (nI_ge hpl (by omega))) (fun c267 => ?_)
          refine j_iconst (pc := 270) g (1) dL_duels_270 (by decide) ?_
          refine j_goto (pc := 271) g 275 dL_duels_271 (by decide) ?_
          refine istore_14_12 (pc := 275) g dL_duels_275 ?_
          refine iinc_14_13_1 (pc := 277) g dL_duels_277 ?_
          refine j_goto (pc := 280) g 233 dL_duels_280 (by decide) ?_
          have q9 := ih (k + 1) M Mx al hr hc (by omega)
          rw [← nI_1 k] at q9
          exact j_room _ _ (by omega) (by omega) q9
      exact j_room _ _ (by omega) (by omega) (L233 (1 + t) 0 M Mx al hr hc (by omega))
  · refine j_iconst (pc := 56) g (1) dL_duels_56 (by decide) ?_
    exact j_iret (pc := 57) g r rfl rfl (⟨rfl, _, _, _, _, _, _, _, hr, hc, hk, ht⟩) dL_duels_57 (by omega) (by omega)
