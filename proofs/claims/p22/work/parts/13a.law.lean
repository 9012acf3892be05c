theorem iinc_13_6_1 {X : JC} {cc : ByteArray} {own : String} {Ts : List Cond} {cells slots pc : Nat} {rm : Room} {M : MH} {st : List Value} {a0 a1 a2 a3 a4 a5 a7 a8 a9 a10 a11 a12 : Option Value} (g : jG X cc own Ts 13 rm) {x : Int32} (hd : decode cc pc = .ok (.iinc 6 1, 3)) (k : J X 13 cells slots M [a0, a1, a2, a3, a4, a5, some (.int (x + 1)), a7, a8, a9, a10, a11, a12] st (pc + 3)) : J X 13 cells slots M [a0, a1, a2, a3, a4, a5, some (.int x), a7, a8, a9, a10, a11, a12] st pc := j_iinc g (x + 1) hd rfl rfl k
theorem istore_13_10 {X : JC} {cc : ByteArray} {own : String} {Ts : List Cond} {cells slots pc : Nat} {rm : Room} {M : MH} {st : List Value} {a0 a1 a2 a3 a4 a5 a6 a7 a8 a9 a10 a11 a12 : Option Value} (g : jG X cc own Ts 13 rm) {x : Int32} (hd : decode cc pc = .ok (.istore 10, 2)) (k : J X 13 cells slots M [a0, a1, a2, a3, a4, a5, a6, a7, a8, a9, some (.int x), a11, a12] st (pc + 2)) : J X 13 cells slots M [a0, a1, a2, a3, a4, a5, a6, a7, a8, a9, a10, a11, a12] (.int x :: st) pc := j_istore g hd (Nat.le_of_ble_eq_true rfl) k
theorem istore_13_11 {X : JC} {cc : ByteArray} {own : String} {Ts : List Cond} {cells slots pc : Nat} {rm : Room} {M : MH} {st : List Value} {a0 a1 a2 a3 a4 a5 a6 a7 a8 a9 a10 a11 a12 : Option Value} (g : jG X cc own Ts 13 rm) {x : Int32} (hd : decode cc pc = .ok (.istore 11, 2)) (k : J X 13 cells slots M [a0, a1, a2, a3, a4, a5, a6, a7, a8, a9, a10, some (.int x), a12] st (pc + 2)) : J X 13 cells slots M [a0, a1, a2, a3, a4, a5, a6, a7, a8, a9, a10, a11, a12] (.int x :: st) pc := j_istore g hd (Nat.le_of_ble_eq_true rfl) k
theorem istore_13_12 {X : JC} {cc : ByteArray} {own : String} {Ts : List Cond} {cells slots pc : Nat} {rm : Room} {M : MH} {st : List Value} {a0 a1 a2 a3 a4 a5 a6 a7 a8 a9 a10 a11 a12 : Option Value} (g : jG X cc own Ts 13 rm) {x : Int32} (hd : decode cc pc = .ok (.istore 12, 2)) (k : J X 13 cells slots M [a0, a1, a2, a3, a4, a5, a6, a7, a8, a9, a10, a11, some (.int x)] st (pc + 2)) : J X 13 cells slots M [a0, a1, a2, a3, a4, a5, a6, a7, a8, a9, a10, a11, a12] (.int x :: st) pc := j_istore g hd (Nat.le_of_ble_eq_true rfl) k
theorem istore_13_4 {X : JC} {cc : ByteArray} {own : String} {Ts : List Cond} {cells slots pc : Nat} {rm : Room} {M : MH} {st : List Value} {a0 a1 a2 a3 a4 a5 a6 a7 a8 a9 a10 a11 a12 : Option Value} (g : jG X cc own Ts 13 rm) {x : Int32} (hd : decode cc pc = .ok (.istore 4, 2)) (k : J X 13 cells slots M [a0, a1, a2, a3, some (.int x), a5, a6, a7, a8, a9, a10, a11, a12] st (pc + 2)) : J X 13 cells slots M [a0, a1, a2, a3, a4, a5, a6, a7, a8, a9, a10, a11, a12] (.int x :: st) pc := j_istore g hd (Nat.le_of_ble_eq_true rfl) k
theorem istore_13_5 {X : JC} {cc : ByteArray} {own : String} {Ts : List Cond} {cells slots pc : Nat} {rm : Room} {M : MH} {st : List Value} {a0 a1 a2 a3 a4 a5 a6 a7 a8 a9 a10 a11 a12 : Option Value} (g : jG X cc own Ts 13 rm) {x : Int32} (hd : decode cc pc = .ok (.istore 5, 2)) (k : J X 13 cells slots M [a0, a1, a2, a3, a4, some (.int x), a6, a7, a8, a9, a10, a11, a12] st (pc + 2)) : J X 13 cells slots M [a0, a1, a2, a3, a4, a5, a6, a7, a8, a9, a10, a11, a12] (.int x :: st) pc := j_istore g hd (Nat.le_of_ble_eq_true rfl) k
theorem istore_13_6 {X : JC} {cc : ByteArray} {own : String} {Ts : List Cond} {cells slots pc : Nat} {rm : Room} {M : MH} {st : List Value} {a0 a1 a2 a3 a4 a5 a6 a7 a8 a9 a10 a11 a12 : Option Value} (g : jG X cc own Ts 13 rm) {x : Int32} (hd : decode cc pc = .ok (.istore 6, 2)) (k : J X 13 cells slots M [a0, a1, a2, a3, a4, a5, some (.int x), a7, a8, a9, a10, a11, a12] st (pc + 2)) : J X 13 cells slots M [a0, a1, a2, a3, a4, a5, a6, a7, a8, a9, a10, a11, a12] (.int x :: st) pc := j_istore g hd (Nat.le_of_ble_eq_true rfl) k
theorem istore_13_7 {X : JC} {cc : ByteArray} {own : String} {Ts : List Cond} {cells slots pc : Nat} {rm : Room} {M : MH} {st : List Value} {a0 a1 a2 a3 a4 a5 a6 a7 a8 a9 a10 a11 a12 : Option Value} (g : jG X cc own Ts 13 rm) {x : Int32} (hd : decode cc pc = .ok (.istore 7, 2)) (k : J X 13 cells slots M [a0, a1, a2, a3, a4, a5, a6, some (.int x), a8, a9, a10, a11, a12] st (pc + 2)) : J X 13 cells slots M [a0, a1, a2, a3, a4, a5, a6, a7, a8, a9, a10, a11, a12] (.int x :: st) pc := j_istore g hd (Nat.le_of_ble_eq_true rfl) k
theorem istore_13_8 {X : JC} {cc : ByteArray} {own : String} {Ts : List Cond} {cells slots pc : Nat} {rm : Room} {M : MH} {st : List Value} {a0 a1 a2 a3 a4 a5 a6 a7 a8 a9 a10 a11 a12 : Option Value} (g : jG X cc own Ts 13 rm) {x : Int32} (hd : decode cc pc = .ok (.istore 8, 2)) (k : J X 13 cells slots M [a0, a1, a2, a3, a4, a5, a6, a7, some (.int x), a9, a10, a11, a12] st (pc + 2)) : J X 13 cells slots M [a0, a1, a2, a3, a4, a5, a6, a7, a8, a9, a10, a11, a12] (.int x :: st) pc := j_istore g hd (Nat.le_of_ble_eq_true rfl) k
theorem istore_13_9 {X : JC} {cc : ByteArray} {own : String} {Ts : List Cond} {cells slots pc : Nat} {rm : Room} {M : MH} {st : List Value} {a0 a1 a2 a3 a4 a5 a6 a7 a8 a9 a10 a11 a12 : Option Value} (g : jG X cc own Ts 13 rm) {x : Int32} (hd : decode cc pc = .ok (.istore 9, 2)) (k : J X 13 cells slots M [a0, a1, a2, a3, a4, a5, a6, a7, a8, some (.int x), a10, a11, a12] st (pc + 2)) : J X 13 cells slots M [a0, a1, a2, a3, a4, a5, a6, a7, a8, a9, a10, a11, a12] (.int x :: st) pc := j_istore g hd (Nat.le_of_ble_eq_true rfl) k



set_option maxHeartbeats 400000 in
set_option maxRecDepth 100000 in
theorem c_low (l : Launch) (D : va_G) (M : MH) (v : Int32) (m : Nat) (h0 : 0 < m) (hm : m < 2 ^ 31) : xC l D yL_low wsL_low ({ frames := 0, cells := 0, slots := 0, locals := 0 }) 0 0 [.int v, .int (nI m)] (M) (fun v M1 => ∃ k, k < m ∧ v = some (.int (nI k)) ∧ M = M1) := by
  refine xC_of (cc := cL_low) (maxL := 2) (ret := (some .int)) (own := RL) [some (.int v), some (.int (nI m))] (by decide) rfl rfl (Nat.le_of_ble_eq_true rfl) rfl rfl rfl ?_
  intro X hXl hXD g r
  subst hXl
  subst hXD
  refine j_iload_n (pc := 0) g 0 dL_low_0 rfl rfl ?_
  refine j_ldci (pc := 1) g (2147483647) dL_low_1 (by decide +kernel) ?_
  refine j_iand (pc := 3) g dL_low_3 ?_
  refine j_iload_n (pc := 4) g 1 dL_low_4 rfl rfl ?_
  refine j_irem (pc := 5) g dL_low_5 (nI_ne0 h0 hm) ?_
  exact j_iret (pc := 6) g r rfl rfl (by obtain ⟨k, h1, h2⟩ := low_ok v h0 hm; exact ⟨k, h1, h2, rfl⟩) dL_low_6 (Nat.le_of_ble_eq_true rfl) (Nat.le_of_ble_eq_true rfl)

theorem c_at (l : Launch) (D : va_G) {b L : Nat} {xs : Nat → Int32} (hL : L ≤ 260) (k : Nat) (hk : k < 200) : xS l D yL_at wsL_at ({ frames := 0, cells := 0, slots := 0, locals := 0 }) 0 0 [.ref b, .int (nI k)] b L xs (fun v M1 => (∃ r, v = some (.int r)) ∧ M1 = fun _ => none) := by
  refine xS_of (cc := cL_at) (maxL := 2) (ret := (some .int)) (own := RL) [some (.ref b), some (.int (nI k))] (by decide) rfl rfl (Nat.le_of_ble_eq_true rfl) rfl rfl rfl ?_
  intro X hXl hXD g r sc
  subst hXl
  subst hXD
  refine j_iload_n (pc := 0) g 1 dL_at_0 rfl rfl ?_
  refine j_aload_n (pc := 1) g 0 dL_at_1 rfl rfl ?_
  refine j_slen (pc := 2) g sc dL_at_2 ?_
  refine j_icmp_ge (pc := 3) g 12 dL_at_3 (by decide) (fun c3 => ?_) (fun c3 => ?_)
  · refine j_ldci (pc := 12) g (1809311171) dL_at_12 (by decide +kernel) ?_
    refine j_iload_n (pc := 14) g 1 dL_at_14 rfl rfl ?_
    refine j_iconst (pc := 15) g (1) dL_at_15 (by decide) ?_
    refine j_iadd (pc := 16) g dL_at_16 ?_
    refine j_imul (pc := 17) g dL_at_17 ?_
    refine j_ldci (pc := 18) g (903985655) dL_at_18 (by decide +kernel) ?_
    refine j_iadd (pc := 20) g dL_at_20 ?_
    exact j_iret (pc := 21) g r rfl rfl (⟨⟨_, rfl⟩, rfl⟩) dL_at_21 (Nat.le_of_ble_eq_true rfl) (Nat.le_of_ble_eq_true rfl)
  · refine j_aload_n (pc := 6) g 0 dL_at_6 rfl rfl ?_
    refine j_iload_n (pc := 7) g 1 dL_at_7 rfl rfl ?_
    refine j_sld (pc := 8) g sc dL_at_8 k rfl (Nat.lt_of_not_le (fun z => c3 ((nI_leI (by omega) (by omega)).mpr z))) (by omega) ?_
    refine j_goto (pc := 9) g 21 dL_at_9 (by decide) ?_
    exact j_iret (pc := 21) g r rfl rfl (⟨⟨_, rfl⟩, rfl⟩) dL_at_21 (Nat.le_of_ble_eq_true rfl) (Nat.le_of_ble_eq_true rfl)

set_option maxHeartbeats 1000000 in
set_option maxRecDepth 100000 in
theorem h_empties (l : Launch) (D : va_G) (hst : l.stackTraces = false) {M Mx : MH} {ra : Nat → Nat} {R : ST} (hr : LR M Mx ra R) : xW l D yL_empties wsL_empties ({ frames := 0, cells := 0, slots := 0, locals := 0 }) 0 0 [.ref (ra 0)] M (fun v M1 => v = some (.int 1) ∧ LR M1 Mx ra (su R 0 2 0)) := by
  refine xV_of (cc := cL_empties) (maxL := 1) (ret := (some .boolean)) (own := RL) [some (.ref (ra 0))] (by decide) rfl rfl (Nat.le_of_ble_eq_true rfl) rfl rfl rfl ?_
  intro X hXl hXD g r t0
  subst hXl
  subst hXD
  refine j_aload_n (pc := 0) g 0 dL_empties_0 rfl rfl ?_
  refine j_iconst (pc := 1) g (2) dL_empties_1 (by decide) ?_
  refine j_iconst (pc := 2) g (0) dL_empties_2 (by decide) ?_
  refine j_wr (pc := 3) g hr 0 (by decide) (2) dL_empties_3 (rfl) (by decide) (fun M hr => ?_)
  refine j_iconst (pc := 4) g (1) dL_empties_4 (by decide) ?_
  exact j_iret (pc := 5) g r rfl rfl (⟨rfl, hr⟩) dL_empties_5 (Nat.le_of_ble_eq_true rfl) (Nat.le_of_ble_eq_true rfl)

set_option maxHeartbeats 1000000 in
set_option maxRecDepth 100000 in
theorem h_drafts (l : Launch) (D : va_G) (hst : l.stackTraces = false) {n0 : Nat} {M Mx : MH} {x : Nat} {ra : Nat → Nat} {al : Nat → Nat → Nat} {R0 S : ST} {d ns nd : Nat} (hr : LR M Mx ra R0) (hc : CRep Mx x al S d ns nd) (hk : mOK S d ns nd) (ht : tie n0 S R0 d ns nd) (a b : Int32) : xW l D yL_drafts wsL_drafts ({ frames := 8, cells := 3, slots := 18, locals := 145 }) 3 18 [.ref x, .ref (ra 0), .int a, .int b] M (fun v M1 => v = some (.int 1) ∧ ∃ R1 S1 d1, LV n0 M1 x ra R1 S1 d1 ns nd ∧ R1 2 = R0 2) := by
  refine xV_of (cc := cL_drafts) (maxL := 13) (ret := (some .boolean)) (own := RL) [some (.ref x), some (.ref (ra 0)), some (.int a), some (.int b), none, none, none, none, none, none, none, none, none] (by decide) rfl rfl (Nat.le_of_ble_eq_true rfl) rfl rfl rfl ?_
  intro X hXl hXD g r t0
  subst hXl
  subst hXD
  refine j_iconst (pc := 0) g (1) dL_drafts_0 (by decide) ?_
  refine j_iload_n (pc := 1) g 2 dL_drafts_1 rfl rfl ?_
  refine j_iconst (pc := 2) g (3) dL_drafts_2 (by decide) ?_
  refine j_callS (pc := 3) (n := 2) g (c_low (jl X) (jD X) _ _ 3 (by omega) (by omega)) dL_drafts_3 gL_drafts_L_low rfl rfl rfl rfl ⟨by decide, by decide, by decide +kernel⟩ ⟨Nat.le_of_ble_eq_true rfl, Nat.le_of_ble_eq_true rfl⟩ ⟨by show _ ≤ 3; omega, by show _ ≤ 18; omega⟩ rfl (Nat.le_of_ble_eq_true rfl) (fun v M1 hp => ?_)
  obtain ⟨t, h9, rfl, rfl⟩ := hp
  show J X 13 _ _ _ _ [.int (nI t), .int 1] (3 + 3)
  refine j_iadd (pc := 6) g dL_drafts_6 ?_
  refine j_topi (nI (1 + t)) (nI_add 1 t) ?_
  refine istore_13_4 (pc := 7) g dL_drafts_7 ?_
  refine j_iconst (pc := 9) g (1) dL_drafts_9 (by decide) ?_
  refine istore_13_5 (pc := 10) g dL_drafts_10 ?_
  refine j_iconst (pc := 12) g (0) dL_drafts_12 (by decide) ?_
  refine istore_13_6 (pc := 13) g dL_drafts_13 ?_
  have L15 : ∀ (n : Nat) (k : Nat) (M Mx : MH) (al : Nat → Nat → Nat) (S R : ST) (d : Nat) (hr : LR M Mx ra R) (hc : CRep Mx x al S d ns nd) (hk : mOK S d ns nd) (ht : tie n0 S R d ns nd) (hR2 : R 2 = R0 2) (hkn : k + n = 1 + t), J X 13 (3 - n) (6 * (3 - n)) (M) [some (.ref x), some (.ref (ra 0)), some (.int a), some (.int b), some (.int (nI (1 + t))), some (.int 1), some (.int (nI k)), none, none, none, none, none, none] [] 15 := by
    intro n
    induction n with
    | zero =>
      intro k M Mx al S R d hr hc hk ht hR2 hkn
      have d8 := hk.1.2.1
      refine j_iload (pc := 15) g dL_drafts_15 rfl ?_
      refine j_iload (pc := 17) g dL_drafts_17 rfl ?_
      refine j_icmp_ge (pc := 19) g 184 dL_drafts_19 (by decide) (fun c19 => ?_) (fun c19 => absurd (nI_le (by omega) (by omega)) c19)
      refine j_iload (pc := 184) g dL_drafts_184 rfl ?_
      exact j_iret (pc := 186) g r rfl rfl (⟨rfl, _, _, _, ⟨_, _, hr, hc, hk, ht⟩, hR2⟩) dL_drafts_186 (by omega) (by omega)
    | succ n ih =>
      intro k M Mx al S R d hr hc hk ht hR2 hkn
      have d8 := hk.1.2.1
      refine j_iload (pc := 15) g dL_drafts_15 rfl ?_
      refine j_iload (pc := 17) g dL_drafts_17 rfl ?_
      refine j_icmp_ge (pc := 19) g 184 dL_drafts_19 (by decide) (fun c19 => absurd c19 (nI_ge (by omega) (by omega))) (fun c19 => ?_)
      refine j_iload (pc := 22) g dL_drafts_22 rfl ?_
      refine j_if_eq (pc := 24) g 184 dL_drafts_24 (by decide) (fun c24 => absurd c24 (by decide)) (fun c24 => ?_)
      refine j_iload_n (pc := 27) g 3 dL_drafts_27 rfl rfl ?_
      refine j_iconst (pc := 28) g (3) dL_drafts_28 (by decide) ?_
      refine j_iload (pc := 29) g dL_drafts_29 rfl ?_
      refine j_imul (pc := 31) g dL_drafts_31 ?_
      refine j_ishr (pc := 32) g dL_drafts_32 ?_
      refine j_bipush (pc := 33) g (100) dL_drafts_33 (by decide) ?_
      refine j_callS (pc := 35) (n := 2) g (c_low (jl X) (jD X) _ _ 100 (by omega) (by omega)) dL_drafts_35 gL_drafts_L_low rfl rfl rfl rfl ⟨by decide, by decide, by decide +kernel⟩ ⟨Nat.le_of_ble_eq_true rfl, Nat.le_of_ble_eq_true rfl⟩ ⟨by show _ ≤ 3; omega, by show _ ≤ 18; omega⟩ rfl (Nat.le_of_ble_eq_true rfl) (fun v M1 hp => ?_)
      obtain ⟨p7, hp7, rfl, rfl⟩ := hp
      show J X 13 _ _ _ _ [.int (nI p7)] (35 + 3)
      refine istore_13_7 (pc := 38) g dL_drafts_38 ?_
      refine j_iload_n (pc := 40) g 3 dL_drafts_40 rfl rfl ?_
      refine j_iconst (pc := 41) g (3) dL_drafts_41 (by decide) ?_
      refine j_iload (pc := 42) g dL_drafts_42 rfl ?_
      refine j_imul (pc := 44) g dL_drafts_44 ?_
      refine j_bipush (pc := 45) g (7) dL_drafts_45 (by decide) ?_
      refine j_iadd (pc := 47) g dL_drafts_47 ?_
      refine j_ishr (pc := 48) g dL_drafts_48 ?_
      refine j_bipush (pc := 49) g (100) dL_drafts_49 (by decide) ?_
      refine j_callS (pc := 51) (n := 2) g (c_low (jl X) (jD X) _ _ 100 (by omega) (by omega)) dL_drafts_51 gL_drafts_L_low rfl rfl rfl rfl ⟨by decide, by decide, by decide +kernel⟩ ⟨Nat.le_of_ble_eq_true rfl, Nat.le_of_ble_eq_true rfl⟩ ⟨by show _ ≤ 3; omega, by show _ ≤ 18; omega⟩ rfl (Nat.le_of_ble_eq_true rfl) (fun v M1 hp => ?_)
      obtain ⟨p8, hp8, rfl, rfl⟩ := hp
      show J X 13 _ _ _ _ [.int (nI p8)] (51 + 3)
      refine istore_13_8 (pc := 54) g dL_drafts_54 ?_
      refine j_iload_n (pc := 56) g 2 dL_drafts_56 rfl rfl ?_
      refine j_iconst (pc := 57) g (3) dL_drafts_57 (by decide) ?_
      refine j_iload (pc := 58) g dL_drafts_58 rfl ?_
      refine j_imul (pc := 60) g dL_drafts_60 ?_
      refine j_iconst (pc := 61) g (2) dL_drafts_61 (by decide) ?_
      refine j_iadd (pc := 62) g dL_drafts_62 ?_
      refine j_ishr (pc := 63) g dL_drafts_63 ?_
      refine j_bipush (pc := 64) g (100) dL_drafts_64 (by decide) ?_
      refine j_callS (pc := 66) (n := 2) g (c_low (jl X) (jD X) _ _ 100 (by omega) (by omega)) dL_drafts_66 gL_drafts_L_low rfl rfl rfl rfl ⟨by decide, by decide, by decide +kernel⟩ ⟨Nat.le_of_ble_eq_true rfl, Nat.le_of_ble_eq_true rfl⟩ ⟨by show _ ≤ 3; omega, by show _ ≤ 18; omega⟩ rfl (Nat.le_of_ble_eq_true rfl) (fun v M1 hp => ?_)
      obtain ⟨p9, hp9, rfl, rfl⟩ := hp
      show J X 13 _ _ _ _ [.int (nI p9)] (66 + 3)
      refine istore_13_9 (pc := 69) g dL_drafts_69 ?_
      refine j_iload_n (pc := 71) g 2 dL_drafts_71 rfl rfl ?_
      refine j_iconst (pc := 72) g (3) dL_drafts_72 (by decide) ?_
      refine j_iload (pc := 73) g dL_drafts_73 rfl ?_
      refine j_imul (pc := 75) g dL_drafts_75 ?_
      refine j_bipush (pc := 76) g (9) dL_drafts_76 (by decide) ?_
      refine j_iadd (pc := 78) g dL_drafts_78 ?_
      refine j_ishr (pc := 79) g dL_drafts_79 ?_
      refine j_bipush (pc := 80) g (100) dL_drafts_80 (by decide) ?_
      refine j_callS (pc := 82) (n := 2) g (c_low (jl X) (jD X) _ _ 100 (by omega) (by omega)) dL_drafts_82 gL_drafts_L_low rfl rfl rfl rfl ⟨by decide, by decide, by decide +kernel⟩ ⟨Nat.le_of_ble_eq_true rfl, Nat.le_of_ble_eq_true rfl⟩ ⟨by show _ ≤ 3; omega, by show _ ≤ 18; omega⟩ rfl (Nat.le_of_ble_eq_true rfl) (fun v M1 hp => ?_)
      obtain ⟨p10, hp10, rfl, rfl⟩ := hp
      show J X 13 _ _ _ _ [.int (nI p10)] (82 + 3)
      refine istore_13_10 (pc := 85) g dL_drafts_85 ?_
      refine j_aload_n (pc := 87) g 0 dL_drafts_87 rfl rfl ?_
      refine j_iload (pc := 88) g dL_drafts_88 rfl ?_
      refine j_iload (pc := 90) g dL_drafts_90 rfl ?_
      refine j_iload (pc := 92) g dL_drafts_92 rfl ?_
      refine j_iload (pc := 94) g dL_drafts_94 rfl ?_
      refine j_cW (pc := 96) (n := 5) g t0 hr (w_stroke (jl X) (jD X) hst Mx x al S d ns nd hc hk (nI p7) (nI p8) (nI p9) (nI p10)) dL_drafts_96 gL_drafts_L_stroke rfl rfl rfl rfl ⟨by decide, by decide, by decide +kernel⟩ ⟨Nat.le_of_ble_eq_true rfl, Nat.le_of_ble_eq_true rfl⟩ ⟨by show _ ≤ 3; omega, by show _ ≤ 18; omega⟩ rfl (Nat.le_of_ble_eq_true rfl) (fun v Mx M hp hr => ?_)
      have hq := stroke_cases hk hp7 hp8 hp9 hp10 hp
      rcases hq with ⟨e1, e2, rfl, al, hc⟩ | ⟨e1, e2, rfl, al, hc⟩ | ⟨e1, e2, rfl, al, S2, hc, hk2, hF⟩
      · show J X 13 _ _ _ _ [.int (-1000002)] (96 + 3)
        refine istore_13_11 (pc := 99) g dL_drafts_99 ?_
        refine j_iload (pc := 101) g dL_drafts_101 rfl ?_
        refine j_iload (pc := 103) g dL_drafts_103 rfl ?_
        refine j_icmp_ne (pc := 105) g 119 dL_drafts_105 (by decide) (fun c105 => absurd c105 (not_not_intro (by rw [e1]))) (fun c105 => ?_)
        refine j_iload (pc := 108) g dL_drafts_108 rfl ?_
        refine j_iload (pc := 110) g dL_drafts_110 rfl ?_
        refine j_icmp_ne (pc := 112) g 119 dL_drafts_112 (by decide) (fun c112 => absurd c112 (not_not_intro (by rw [e2]))) (fun c112 => ?_)
        refine j_iconst (pc := 115) g (1) dL_drafts_115 (by decide) ?_
        refine j_goto (pc := 116) g 120 dL_drafts_116 (by decide) ?_
        refine istore_13_12 (pc := 120) g dL_drafts_120 ?_
        refine j_iload (pc := 122) g dL_drafts_122 rfl ?_
        refine j_iload (pc := 124) g dL_drafts_124 rfl ?_
        refine j_if_eq (pc := 126) g 134 dL_drafts_126 (by decide) (fun c126 => absurd c126 (by decide)) (fun c126 => ?_)
        refine j_ldci (pc := 129) g (-1000002) dL_drafts_129 (by decide +kernel) ?_
        refine j_goto (pc := 131) g 152 dL_drafts_131 (by decide) ?_
        refine j_icmp_ne (pc := 152) g 159 dL_drafts_152 (by decide) (fun c152 => absurd c152 (not_not_intro rfl)) (fun c152 => ?_)
        refine j_iconst (pc := 155) g (1) dL_drafts_155 (by decide) ?_
        refine j_goto (pc := 156) g 160 dL_drafts_156 (by decide) ?_
        refine istore_13_5 (pc := 160) g dL_drafts_160 ?_
        refine j_aload_n (pc := 162) g 1 dL_drafts_162 rfl rfl ?_
        refine j_iconst (pc := 163) g (2) dL_drafts_163 (by decide) ?_
        refine j_dup2 (pc := 164) g dL_drafts_164 rfl rfl ?_
        refine j_rd (pc := 165) g hr 0 (by decide) (2) (nI d) dL_drafts_165 (rfl) (by decide) (ht.1.2.2.1) ?_
        refine j_iload (pc := 166) g dL_drafts_166 rfl ?_
        refine j_if_le (pc := 168) g 175 dL_drafts_168 (by decide) (fun c168 => ?_) (fun c168 => absurd (by decide) c168)
        refine j_iconst (pc := 175) g (0) dL_drafts_175 (by decide) ?_
        refine j_iadd (pc := 176) g dL_drafts_176 ?_
        refine j_topi (nI d) (Int32.add_zero _) ?_
        refine j_wr (pc := 177) g hr 0 (by decide) 2 dL_drafts_177 rfl (by decide) (fun M hr => ?_)
        refine iinc_13_6_1 (pc := 178) g dL_drafts_178 ?_
        refine j_goto (pc := 181) g 15 dL_drafts_181 (by decide) ?_
        refine j_keep 7 ?_
        have q9 := ih (k + 1) M Mx al S (su R 0 2 (nI d)) d hr hc hk (ht.g2 sf.rf rfl) ((su_o (by decide)).trans hR2) (by omega)
        rw [← nI_1 k] at q9
        exact j_room _ _ (by omega) (by omega) q9
      · show J X 13 _ _ _ _ [.int (-1000003)] (96 + 3)
        refine istore_13_11 (pc := 99) g dL_drafts_99 ?_
        refine j_iload (pc := 101) g dL_drafts_101 rfl ?_
        refine j_iload (pc := 103) g dL_drafts_103 rfl ?_
        refine j_icmp_ne (pc := 105) g 119 dL_drafts_105 (by decide) (fun c105 => ?_) (fun c105 => ?_)
        · refine j_iconst (pc := 119) g (0) dL_drafts_119 (by decide) ?_
          refine istore_13_12 (pc := 120) g dL_drafts_120 ?_
          refine j_iload (pc := 122) g dL_drafts_122 rfl ?_
          refine j_iload (pc := 124) g dL_drafts_124 rfl ?_
          refine j_if_eq (pc := 126) g 134 dL_drafts_126 (by decide) (fun c126 => ?_) (fun c126 => absurd rfl c126)
          refine j_aload_n (pc := 134) g 1 dL_drafts_134 rfl rfl ?_
          refine j_iconst (pc := 135) g (2) dL_drafts_135 (by decide) ?_
          refine j_rd (pc := 136) g hr 0 (by decide) (2) (nI d) dL_drafts_136 (rfl) (by decide) (ht.1.2.2.1) ?_
          refine j_bipush (pc := 137) g (8) dL_drafts_137 (by decide) ?_
          refine j_icmp_ne (pc := 139) g 147 dL_drafts_139 (by decide) (fun c139 => absurd c139 (not_not_intro (by rw [e2]; rfl))) (fun c139 => ?_)
          refine j_ldci (pc := 142) g (-1000003) dL_drafts_142 (by decide +kernel) ?_
          refine j_goto (pc := 144) g 152 dL_drafts_144 (by decide) ?_
          refine j_icmp_ne (pc := 152) g 159 dL_drafts_152 (by decide) (fun c152 => absurd c152 (not_not_intro rfl)) (fun c152 => ?_)
          refine j_iconst (pc := 155) g (1) dL_drafts_155 (by decide) ?_
          refine j_goto (pc := 156) g 160 dL_drafts_156 (by decide) ?_
          refine istore_13_5 (pc := 160) g dL_drafts_160 ?_
          refine j_aload_n (pc := 162) g 1 dL_drafts_162 rfl rfl ?_
          refine j_iconst (pc := 163) g (2) dL_drafts_163 (by decide) ?_
          refine j_dup2 (pc := 164) g dL_drafts_164 rfl rfl ?_
          refine j_rd (pc := 165) g hr 0 (by decide) (2) (nI d) dL_drafts_165 (rfl) (by decide) (ht.1.2.2.1) ?_
          refine j_iload (pc := 166) g dL_drafts_166 rfl ?_
          refine j_if_le (pc := 168) g 175 dL_drafts_168 (by decide) (fun c168 => ?_) (fun c168 => absurd (by decide) c168)
          refine j_iconst (pc := 175) g (0) dL_drafts_175 (by decide) ?_
          refine j_iadd (pc := 176) g dL_drafts_176 ?_
          refine j_topi (nI d) (Int32.add_zero _) ?_
          refine j_wr (pc := 177) g hr 0 (by decide) 2 dL_drafts_177 rfl (by decide) (fun M hr => ?_)
          refine iinc_13_6_1 (pc := 178) g dL_drafts_178 ?_
          refine j_goto (pc := 181) g 15 dL_drafts_181 (by decide) ?_
          refine j_keep 7 ?_
          have q9 := ih (k + 1) M Mx al S (su R 0 2 (nI d)) d hr hc hk (ht.g2 sf.rf rfl) ((su_o (by decide)).trans hR2) (by omega)
          rw [← nI_1 k] at q9
          exact j_room _ _ (by omega) (by omega) q9
        · refine j_iload (pc := 108) g dL_drafts_108 rfl ?_
          refine j_iload (pc := 110) g dL_drafts_110 rfl ?_
          refine j_icmp_ne (pc := 112) g 119 dL_drafts_112 (by decide) (fun c112 => ?_) (fun c112 => absurd c112 (fun z => e1 ⟨(nI_eq (by omega) (by omega)).mp c105, (nI_eq (by omega) (by omega)).mp z⟩))
          refine j_iconst (pc := 119) g (0) dL_drafts_119 (by decide) ?_
          refine istore_13_12 (pc := 120) g dL_drafts_120 ?_
          refine j_iload (pc := 122) g dL_drafts_122 rfl ?_
          refine j_iload (pc := 124) g dL_drafts_124 rfl ?_
          refine j_if_eq (pc := 126) g 134 dL_drafts_126 (by decide) (fun c126 => ?_) (fun c126 => absurd rfl c126)
          refine j_aload_n (pc := 134) g 1 dL_drafts_134 rfl rfl ?_
          refine j_iconst (pc := 135) g (2) dL_drafts_135 (by decide) ?_
          refine j_rd (pc := 136) g hr 0 (by decide) (2) (nI d) dL_drafts_136 (rfl) (by decide) (ht.1.2.2.1) ?_
          refine j_bipush (pc := 137) g (8) dL_drafts_137 (by decide) ?_
          refine j_icmp_ne (pc := 139) g 147 dL_drafts_139 (by decide) (fun c139 => absurd c139 (not_not_intro (by rw [e2]; rfl))) (fun c139 => ?_)
          refine j_ldci (pc := 142) g (-1000003) dL_drafts_142 (by decide +kernel) ?_
          refine j_goto (pc := 144) g 152 dL_drafts_144 (by decide) ?_
          refine j_icmp_ne (pc := 152) g 159 dL_drafts_152 (by decide) (fun c152 => absurd c152 (not_not_intro rfl)) (fun c152 => ?_)
          refine j_iconst (pc := 155) g (1) dL_drafts_155 (by decide) ?_
          refine j_goto (pc := 156) g 160 dL_drafts_156 (by decide) ?_
          refine istore_13_5 (pc := 160) g dL_drafts_160 ?_
          refine j_aload_n (pc := 162) g 1 dL_drafts_162 rfl rfl ?_
          refine j_iconst (pc := 163) g (2) dL_drafts_163 (by decide) ?_
          refine j_dup2 (pc := 164) g dL_drafts_164 rfl rfl ?_
          refine j_rd (pc := 165) g hr 0 (by decide) (2) (nI d) dL_drafts_165 (rfl) (by decide) (ht.1.2.2.1) ?_
          refine j_iload (pc := 166) g dL_drafts_166 rfl ?_
          refine j_if_le (pc := 168) g 175 dL_drafts_168 (by decide) (fun c168 => ?_) (fun c168 => absurd (by decide) c168)
          refine j_iconst (pc := 175) g (0) dL_drafts_175 (by decide) ?_
          refine j_iadd (pc := 176) g dL_drafts_176 ?_
          refine j_topi (nI d) (Int32.add_zero _) ?_
          refine j_wr (pc := 177) g hr 0 (by decide) 2 dL_drafts_177 rfl (by decide) (fun M hr => ?_)
          refine iinc_13_6_1 (pc := 178) g dL_drafts_178 ?_
          refine j_goto (pc := 181) g 15 dL_drafts_181 (by decide) ?_
          refine j_keep 7 ?_
          have q9 := ih (k + 1) M Mx al S (su R 0 2 (nI d)) d hr hc hk (ht.g2 sf.rf rfl) ((su_o (by decide)).trans hR2) (by omega)
          rw [← nI_1 k] at q9
          exact j_room _ _ (by omega) (by omega) q9
      · show J X 13 _ _ _ _ [.int (nI (d + 1))] (96 + 3)
        refine istore_13_11 (pc := 99) g dL_drafts_99 ?_
        refine j_iload (pc := 101) g dL_drafts_101 rfl ?_
        refine j_iload (pc := 103) g dL_drafts_103 rfl ?_
        refine j_icmp_ne (pc := 105) g 119 dL_drafts_105 (by decide) (fun c105 => ?_) (fun c105 => ?_)
        · refine j_iconst (pc := 119) g (0) dL_drafts_119 (by decide) ?_
          refine istore_13_12 (pc := 120) g dL_drafts_120 ?_
          refine j_iload (pc := 122) g dL_drafts_122 rfl ?_
          refine j_iload (pc := 124) g dL_drafts_124 rfl ?_
          refine j_if_eq (pc := 126) g 134 dL_drafts_126 (by decide) (fun c126 => ?_) (fun c126 => absurd rfl c126)
          refine j_aload_n (pc := 134) g 1 dL_drafts_134 rfl rfl ?_
          refine j_iconst (pc := 135) g (2) dL_drafts_135 (by decide) ?_
          refine j_rd (pc := 136) g hr 0 (by decide) (2) (nI d) dL_drafts_136 (rfl) (by decide) (ht.1.2.2.1) ?_
          refine j_bipush (pc := 137) g (8) dL_drafts_137 (by decide) ?_
          refine j_icmp_ne (pc := 139) g 147 dL_drafts_139 (by decide) (fun c139 => ?_) (fun c139 => absurd c139 (fun z => absurd ((nI_eq (b := 8) (by omega) (by decide)).mp z) (by omega)))
          refine j_aload_n (pc := 147) g 1 dL_drafts_147 rfl rfl ?_
          refine j_iconst (pc := 148) g (2) dL_drafts_148 (by decide) ?_
          refine j_rd (pc := 149) g hr 0 (by decide) (2) (nI d) dL_drafts_149 (rfl) (by decide) (ht.1.2.2.1) ?_
          refine j_iconst (pc := 150) g (1) dL_drafts_150 (by decide) ?_
          refine j_iadd (pc := 151) g dL_drafts_151 ?_
          refine j_icmp_ne (pc := 152) g 159 dL_drafts_152 (by decide) (fun c152 => absurd c152 (not_not_intro (nI_add d 1).symm)) (fun c152 => ?_)
          refine j_iconst (pc := 155) g (1) dL_drafts_155 (by decide) ?_
          refine j_goto (pc := 156) g 160 dL_drafts_156 (by decide) ?_
          refine istore_13_5 (pc := 160) g dL_drafts_160 ?_
          refine j_aload_n (pc := 162) g 1 dL_drafts_162 rfl rfl ?_
          refine j_iconst (pc := 163) g (2) dL_drafts_163 (by decide) ?_
          refine j_dup2 (pc := 164) g dL_drafts_164 rfl rfl ?_
          refine j_rd (pc := 165) g hr 0 (by decide) (2) (nI d) dL_drafts_165 (rfl) (by decide) (ht.1.2.2.1) ?_
          refine j_iload (pc := 166) g dL_drafts_166 rfl ?_
          refine j_if_le (pc := 168) g 175 dL_drafts_168 (by decide) (fun c168 => absurd c168 (nI_nle (by omega) (by omega))) (fun c168 => ?_)
          refine j_iconst (pc := 171) g (1) dL_drafts_171 (by decide) ?_
          refine j_goto (pc := 172) g 176 dL_drafts_172 (by decide) ?_
          refine j_iadd (pc := 176) g dL_drafts_176 ?_
          refine j_topi (nI (d + 1)) (nI_add d 1) ?_
          refine j_wr (pc := 177) g hr 0 (by decide) 2 dL_drafts_177 rfl (by decide) (fun M hr => ?_)
          refine iinc_13_6_1 (pc := 178) g dL_drafts_178 ?_
          refine j_goto (pc := 181) g 15 dL_drafts_181 (by decide) ?_
          refine j_keep 7 ?_
          have q9 := ih (k + 1) M Mx al S2 (su R 0 2 (nI (d + 1))) (d + 1) hr hc hk2 (ht.g2 hF rfl) ((su_o (by decide)).trans hR2) (by omega)
          rw [← nI_1 k] at q9
          exact j_room _ _ (by omega) (by omega) q9
        · refine j_iload (pc := 108) g dL_drafts_108 rfl ?_
          refine j_iload (pc := 110) g dL_drafts_110 rfl ?_
          refine j_icmp_ne (pc := 112) g 119 dL_drafts_112 (by decide) (fun c112 => ?_) (fun c112 => absurd c112 (fun z => e1 ⟨(nI_eq (by omega) (by omega)).mp c105, (nI_eq (by omega) (by omega)).mp z⟩))
          refine j_iconst (pc := 119) g (0) dL_drafts_119 (by decide) ?_
          refine istore_13_12 (pc := 120) g dL_drafts_120 ?_
          refine j_iload (pc := 122) g dL_drafts_122 rfl ?_
          refine j_iload (pc := 124) g dL_drafts_124 rfl ?_
          refine j_if_eq (pc := 126) g 134 dL_drafts_126 (by decide) (fun c126 => ?_) (fun c126 => absurd rfl c126)
          refine j_aload_n (pc := 134) g 1 dL_drafts_134 rfl rfl ?_
          refine j_iconst (pc := 135) g (2) dL_drafts_135 (by decide) ?_
          refine j_rd (pc := 136) g hr 0 (by decide) (2) (nI d) dL_drafts_136 (rfl) (by decide) (ht.1.2.2.1) ?_
          refine j_bipush (pc := 137) g (8) dL_drafts_137 (by decide) ?_
          refine j_icmp_ne (pc := 139) g 147 dL_drafts_139 (by decide) (fun c139 => ?_) (fun c139 => absurd c139 (fun z => absurd ((nI_eq (b := 8) (by omega) (by decide)).mp z) (by omega)))
          refine j_aload_n (pc := 147) g 1 dL_drafts_147 rfl rfl ?_
          refine j_iconst (pc := 148) g (2) dL_drafts_148 (by decide) ?_
          refine j_rd (pc := 149) g hr 0 (by decide) (2) (nI d) dL_drafts_149 (rfl) (by decide) (ht.1.2.2.1) ?_
          refine j_iconst (pc := 150) g (1) dL_drafts_150 (by decide) ?_
          refine j_iadd (pc := 151) g dL_drafts_151 ?_
          refine j_icmp_ne (pc := 152) g 159 dL_drafts_152 (by decide) (fun c152 => absurd c152 (not_not_intro (nI_add d 1).symm)) (fun c152 => ?_)
          refine j_iconst (pc := 155) g (1) dL_drafts_155 (by decide) ?_
          refine j_goto (pc := 156) g 160 dL_drafts_156 (by decide) ?_
          refine istore_13_5 (pc := 160) g dL_drafts_160 ?_
          refine j_aload_n (pc := 162) g 1 dL_drafts_162 rfl rfl ?_
          refine j_iconst (pc := 163) g (2) dL_drafts_163 (by decide) ?_
          refine j_dup2 (pc := 164) g dL_drafts_164 rfl rfl ?_
          refine j_rd (pc := 165) g hr 0 (by decide) (2) (nI d) dL_drafts_165 (rfl) (by decide) (ht.1.2.2.1) ?_
          refine j_iload (pc := 166) g dL_drafts_166 rfl ?_
          refine j_if_le (pc := 168) g 175 dL_drafts_168 (by decide) (fun c168 => absurd c168 (nI_nle (by omega) (by omega))) (fun c168 => ?_)
          refine j_iconst (pc := 171) g (1) dL_drafts_171 (by decide) ?_
          refine j_goto (pc := 172) g 176 dL_drafts_172 (by decide) ?_
          refine j_iadd (pc := 176) g dL_drafts_176 ?_
          refine j_topi (nI (d + 1)) (nI_add d 1) ?_
          refine j_wr (pc := 177) g hr 0 (by decide) 2 dL_drafts_177 rfl (by decide) (fun M hr => ?_)
          refine iinc_13_6_1 (pc := 178) g dL_drafts_178 ?_
          refine j_goto (pc := 181) g 15 dL_drafts_181 (by decide) ?_
          refine j_keep 7 ?_
          have q9 := ih (k + 1) M Mx al S2 (su R 0 2 (nI (d + 1))) (d + 1) hr hc hk2 (ht.g2 hF rfl) ((su_o (by decide)).trans hR2) (by omega)
          rw [← nI_1 k] at q9
          exact j_room _ _ (by omega) (by omega) q9
  exact j_room _ _ (Nat.zero_le _) (Nat.zero_le _) (L15 (1 + t) 0 M Mx al S R0 d hr hc hk ht rfl (by omega))

set_option maxHeartbeats 1000000 in
set_option maxRecDepth 100000 in
theorem h_signs (l : Launch) (D : va_G) (hst : l.stackTraces = false) {n0 : Nat} {M Mx : MH} {x : Nat} {ra : Nat → Nat} {al : Nat → Nat → Nat} {R S : ST} {d ns nd : Nat} (hr : LR M Mx ra R) (hc : CRep Mx x al S d ns nd) (hk : mOK S d ns nd) (ht : tie n0 S R d ns nd) : xW l D yL_signs wsL_signs ({ frames := 8, cells := 2, slots := 10, locals := 138 }) 2 10 [.ref x, .ref (ra 0), .ref (ra 1)] M (fun v M1 => v = some (.int 1) ∧ ∃ R1 S1 d1 ns1, LV n0 M1 x ra R1 S1 d1 ns1 nd ∧ R1 2 = R 2) := by
  refine xV_of (cc := cL_signs) (maxL := 4) (ret := (some .boolean)) (own := RL) [some (.ref x), some (.ref (ra 0)), some (.ref (ra 1)), none] (by decide) rfl rfl (Nat.le_of_ble_eq_true rfl) rfl rfl rfl ?_
  intro X hXl hXD g r t0
  subst hXl
  subst hXD
  have d8 := hk.1.2.1
  have n6 := hk.2.1.2.2.1
  refine j_aload_n (pc := 0) g 0 dL_signs_0 rfl rfl ?_
  refine j_cW (pc := 1) (n := 1) g t0 hr (w_sign (jl X) (jD X) hst Mx x al S d ns nd hc hk ) dL_signs_1 gL_signs_L_sign rfl rfl rfl rfl ⟨by decide, by decide, by decide +kernel⟩ ⟨Nat.le_of_ble_eq_true rfl, Nat.le_of_ble_eq_true rfl⟩ ⟨by show _ ≤ 2; omega, by show _ ≤ 10; omega⟩ rfl (Nat.le_of_ble_eq_true rfl) (fun v Mx M hp hr => ?_)
  have hq := sign_cases hk hp
  rcases hq with ⟨e1, rfl, al, hc⟩ | ⟨e1, rfl, al, hc, hk2⟩
  · show J X 4 _ _ _ _ [.int (-1000003)] (1 + 3)
    have K27 : J X 4 (0 + 2) (0 + 10) (M) [some (.ref x), some (.ref (ra 0)), some (.ref (ra 1)), some (.int (-1000003))] [] 27 := by
      refine j_iload_n (pc := 27) g 3 dL_signs_27 rfl rfl ?_
      refine j_ldci (pc := 28) g (-1000003) dL_signs_28 (by decide +kernel) ?_
      refine j_icmp_ne (pc := 30) g 54 dL_signs_30 (by decide) (fun c30 => absurd c30 (not_not_intro rfl)) (fun c30 => ?_)
      refine j_aload_n (pc := 33) g 0 dL_signs_33 rfl rfl ?_
      refine j_cG (pc := 34) (n := 0) g hr (hc.1.1) rfl (k_clear (jl X) (jD X) Mx x al S d ns nd hc) dL_signs_34 gL_signs_X8_clear rfl rfl rfl rfl ⟨rfl, by decide, by decide, by decide +kernel⟩ ⟨Nat.le_of_ble_eq_true rfl, Nat.le_of_ble_eq_true rfl⟩ ⟨by show _ ≤ 2; omega, by show _ ≤ 10; omega⟩ rfl (Nat.le_of_ble_eq_true rfl) (fun v Mx M hp hr => ?_)
      obtain ⟨rfl, hc⟩ := hp
      show J X 4 _ _ _ _ [.int (nI d)] (34 + 3)
      refine j_aload_n (pc := 37) g 1 dL_signs_37 rfl rfl ?_
      refine j_iconst (pc := 38) g (2) dL_signs_38 (by decide) ?_
      refine j_rd (pc := 39) g hr 0 (by decide) (2) (nI d) dL_signs_39 (rfl) (by decide) (ht.1.2.2.1) ?_
      refine j_icmp_ne (pc := 40) g 54 dL_signs_40 (by decide) (fun c40 => absurd c40 (not_not_intro rfl)) (fun c40 => ?_)
      refine j_aload_n (pc := 43) g 1 dL_signs_43 rfl rfl ?_
      refine j_callSV (pc := 44) (n := 1) g t0 (h_empties (jl X) (jD X) hst hr) dL_signs_44 gL_signs_L_empties rfl rfl rfl rfl ⟨by decide, by decide, by decide +kernel⟩ ⟨Nat.le_of_ble_eq_true rfl, Nat.le_of_ble_eq_true rfl⟩ ⟨by show _ ≤ 2; omega, by show _ ≤ 10; omega⟩ rfl (Nat.le_of_ble_eq_true rfl) (fun v M hp => ?_)
      obtain ⟨rfl, hr⟩ := hp
      show J X 4 _ _ _ _ [.int 1] (44 + 3)
      refine j_if_eq (pc := 47) g 54 dL_signs_47 (by decide) (fun c47 => absurd c47 (by decide)) (fun c47 => ?_)
      refine j_iconst (pc := 50) g (1) dL_signs_50 (by decide) ?_
      refine j_goto (pc := 51) g 55 dL_signs_51 (by decide) ?_
      exact j_iret (pc := 55) g r rfl rfl (⟨rfl, _, _, _, _, ⟨_, _, hr, hc, ok_clear hk, ht.g2 sf_clear rfl⟩, su_o (by decide)⟩) dL_signs_55 (Nat.le_of_ble_eq_true rfl) (Nat.le_of_ble_eq_true rfl)
    refine istore_n_4_3 (pc := 4) g dL_signs_4 ?_
    refine j_aload_n (pc := 5) g 1 dL_signs_5 rfl rfl ?_
    refine j_iconst (pc := 6) g (2) dL_signs_6 (by decide) ?_
    refine j_rd (pc := 7) g hr 0 (by decide) (2) (nI d) dL_signs_7 (rfl) (by decide) (ht.1.2.2.1) ?_
    refine j_if_eq (pc := 8) g 27 dL_signs_8 (by decide) (fun c8 => ?_) (fun c8 => ?_)
    · exact K27
    · refine j_aload_n (pc := 11) g 1 dL_signs_11 rfl rfl ?_
      refine j_iconst (pc := 12) g (2) dL_signs_12 (by decide) ?_
      refine j_rd (pc := 13) g hr 0 (by decide) (2) (nI d) dL_signs_13 (rfl) (by decide) (ht.1.2.2.1) ?_
      refine j_bipush (pc := 14) g (6) dL_signs_14 (by decide) ?_
      refine j_icmp_gt (pc := 16) g 27 dL_signs_16 (by decide) (fun c16 => ?_) (fun c16 => ?_)
      · exact K27
      · refine j_aload_n (pc := 19) g 1 dL_signs_19 rfl rfl ?_
        refine j_iconst (pc := 20) g (1) dL_signs_20 (by decide) ?_
        refine j_rd (pc := 21) g hr 0 (by decide) (1) (nI ns) dL_signs_21 (rfl) (by decide) (ht.1.2.1) ?_
        refine j_bipush (pc := 22) g (6) dL_signs_22 (by decide) ?_
        refine j_icmp_ne (pc := 24) g 56 dL_signs_24 (by decide) (fun c24 => absurd c24 (not_not_intro (e1.elim (fun e1 => absurd (show nI d = 0 by rw [e1]; rfl) c8) (fun e1 => e1.elim (fun e1 => absurd (nI_lt (a := 6) e1 (by omega)) c16) (fun e1 => by rw [e1]; rfl))))) (fun c24 => ?_)
        exact K27
  · show J X 4 _ _ _ _ [.int (nI ns)] (1 + 3)
    refine istore_n_4_3 (pc := 4) g dL_signs_4 ?_
    refine j_aload_n (pc := 5) g 1 dL_signs_5 rfl rfl ?_
    refine j_iconst (pc := 6) g (2) dL_signs_6 (by decide) ?_
    refine j_rd (pc := 7) g hr 0 (by decide) (2) (nI d) dL_signs_7 (rfl) (by decide) (ht.1.2.2.1) ?_
    refine j_if_eq (pc := 8) g 27 dL_signs_8 (by decide) (fun c8 => absurd c8 (nI_ne0 (by omega) (by omega))) (fun c8 => ?_)
    refine j_aload_n (pc := 11) g 1 dL_signs_11 rfl rfl ?_
    refine j_iconst (pc := 12) g (2) dL_signs_12 (by decide) ?_
    refine j_rd (pc := 13) g hr 0 (by decide) (2) (nI d) dL_signs_13 (rfl) (by decide) (ht.1.2.2.1) ?_
    refine j_bipush (pc := 14) g (6) dL_signs_14 (by decide) ?_
    refine j_icmp_gt (pc := 16) g 27 dL_signs_16 (by decide) (fun c16 => absurd c16 (nI_nlt (a := 6) (by omega) (by decide))) (fun c16 => ?_)
    refine j_aload_n (pc := 19) g 1 dL_signs_19 rfl rfl ?_
    refine j_iconst (pc := 20) g (1) dL_signs_20 (by decide) ?_
    refine j_rd (pc := 21) g hr 0 (by decide) (1) (nI ns) dL_signs_21 (rfl) (by decide) (ht.1.2.1) ?_
    refine j_bipush (pc := 22) g (6) dL_signs_22 (by decide) ?_
    refine j_icmp_ne (pc := 24) g 56 dL_signs_24 (by decide) (fun c24 => ?_) (fun c24 => absurd c24 (fun z => absurd ((nI_eq (b := 6) (by omega) (by decide)).mp z) (by omega)))
    refine j_aload_n (pc := 56) g 2 dL_signs_56 rfl rfl ?_
    refine j_aload_n (pc := 57) g 1 dL_signs_57 rfl rfl ?_
    refine j_iconst (pc := 58) g (1) dL_signs_58 (by decide) ?_
    refine j_rd (pc := 59) g hr 0 (by decide) (1) (nI ns) dL_signs_59 (rfl) (by decide) (ht.1.2.1) ?_
    refine j_aload_n (pc := 60) g 1 dL_signs_60 rfl rfl ?_
    refine j_iconst (pc := 61) g (2) dL_signs_61 (by decide) ?_
    refine j_rd (pc := 62) g hr 0 (by decide) (2) (nI d) dL_signs_62 (rfl) (by decide) (ht.1.2.2.1) ?_
    refine j_wr (pc := 63) g hr 1 (by decide) (ns) dL_signs_63 (rfl) (by show ns < 6; omega) (fun M hr => ?_)
    refine j_aload_n (pc := 64) g 1 dL_signs_64 rfl rfl ?_
    refine j_iconst (pc := 65) g (1) dL_signs_65 (by decide) ?_
    refine j_dup2 (pc := 66) g dL_signs_66 rfl rfl ?_
    refine j_rd (pc := 67) g hr 0 (by decide) (1) (nI ns) dL_signs_67 (rfl) (by decide) ((congrFun (su_o (by decide)) 1).trans ht.1.2.1) ?_
    refine j_iconst (pc := 68) g (1) dL_signs_68 (by decide) ?_
    refine j_iadd (pc := 69) g dL_signs_69 ?_
    refine j_topi (nI (ns + 1)) (nI_add ns 1) ?_
    refine j_wr (pc := 70) g hr 0 (by decide) (1) dL_signs_70 (rfl) (by decide) (fun M hr => ?_)
    refine j_iload_n (pc := 71) g 3 dL_signs_71 rfl rfl ?_
    refine j_aload_n (pc := 72) g 1 dL_signs_72 rfl rfl ?_
    refine j_iconst (pc := 73) g (1) dL_signs_73 (by decide) ?_
    refine j_rd (pc := 74) g hr 0 (by decide) (1) (nI (ns + 1)) dL_signs_74 (rfl) (by decide) (su_s) ?_
    refine j_iconst (pc := 75) g (1) dL_signs_75 (by decide) ?_
    refine j_isub (pc := 76) g dL_signs_76 ?_
    refine j_icmp_ne (pc := 77) g 98 dL_signs_77 (by decide) (fun c77 => absurd c77 (not_not_intro (nI_pred ns).symm)) (fun c77 => ?_)
    refine j_aload_n (pc := 80) g 1 dL_signs_80 rfl rfl ?_
    refine j_callSV (pc := 81) (n := 1) g t0 (h_empties (jl X) (jD X) hst hr) dL_signs_81 gL_signs_L_empties rfl rfl rfl rfl ⟨by decide, by decide, by decide +kernel⟩ ⟨Nat.le_of_ble_eq_true rfl, Nat.le_of_ble_eq_true rfl⟩ ⟨by show _ ≤ 2; omega, by show _ ≤ 10; omega⟩ rfl (Nat.le_of_ble_eq_true rfl) (fun v M hp => ?_)
    obtain ⟨rfl, hr⟩ := hp
    show J X 4 _ _ _ _ [.int 1] (81 + 3)
    refine j_if_eq (pc := 84) g 98 dL_signs_84 (by decide) (fun c84 => absurd c84 (by decide)) (fun c84 => ?_)
    refine j_aload_n (pc := 87) g 0 dL_signs_87 rfl rfl ?_
    refine j_cG (pc := 88) (n := 0) g hr (hc.1.1) rfl (k_clear (jl X) (jD X) Mx x al _ 0 (ns + 1) nd hc) dL_signs_88 gL_signs_X8_clear rfl rfl rfl rfl ⟨rfl, by decide, by decide, by decide +kernel⟩ ⟨Nat.le_of_ble_eq_true rfl, Nat.le_of_ble_eq_true rfl⟩ ⟨by show _ ≤ 2; omega, by show _ ≤ 10; omega⟩ rfl (Nat.le_of_ble_eq_true rfl) (fun v Mx M hp hr => ?_)
    obtain ⟨rfl, hc⟩ := hp
    show J X 4 _ _ _ _ [.int (nI 0)] (88 + 3)
    refine j_if_ne (pc := 91) g 98 dL_signs_91 (by decide) (fun c91 => absurd c91 (not_not_intro rfl)) (fun c91 => ?_)
    refine j_iconst (pc := 94) g (1) dL_signs_94 (by decide) ?_
    refine j_goto (pc := 95) g 99 dL_signs_95 (by decide) ?_
    exact j_iret (pc := 99) g r rfl rfl (⟨rfl, _, _, _, _, ⟨_, _, hr, hc, ok_clear hk2, ht.sign.st (F := [1]) (sf.rf.su (by decide)) (by decide)⟩, (su_o (by decide)).trans ((su_o (by decide)).trans (su_o (by decide)))⟩) dL_signs_99 (Nat.le_of_ble_eq_true rfl) (Nat.le_of_ble_eq_true rfl)
