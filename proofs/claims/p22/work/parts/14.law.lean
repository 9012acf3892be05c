theorem astore_9_4 {X : JC} {cc : ByteArray} {own : String} {Ts : List Cond} {cells slots pc : Nat} {rm : Room} {M : MH} {st : List Value} {a0 a1 a2 a3 a4 a5 a6 a7 a8 : Option Value} (g : jG X cc own Ts 9 rm) {x : Nat} (hd : decode cc pc = .ok (.astore 4, 2)) (k : J X 9 cells slots M [a0, a1, a2, a3, some (.ref x), a5, a6, a7, a8] st (pc + 2)) : J X 9 cells slots M [a0, a1, a2, a3, a4, a5, a6, a7, a8] (.ref x :: st) pc := j_astore g hd (Nat.le_of_ble_eq_true rfl) k
theorem astore_9_5 {X : JC} {cc : ByteArray} {own : String} {Ts : List Cond} {cells slots pc : Nat} {rm : Room} {M : MH} {st : List Value} {a0 a1 a2 a3 a4 a5 a6 a7 a8 : Option Value} (g : jG X cc own Ts 9 rm) {x : Nat} (hd : decode cc pc = .ok (.astore 5, 2)) (k : J X 9 cells slots M [a0, a1, a2, a3, a4, some (.ref x), a6, a7, a8] st (pc + 2)) : J X 9 cells slots M [a0, a1, a2, a3, a4, a5, a6, a7, a8] (.ref x :: st) pc := j_astore g hd (Nat.le_of_ble_eq_true rfl) k
theorem astore_9_6 {X : JC} {cc : ByteArray} {own : String} {Ts : List Cond} {cells slots pc : Nat} {rm : Room} {M : MH} {st : List Value} {a0 a1 a2 a3 a4 a5 a6 a7 a8 : Option Value} (g : jG X cc own Ts 9 rm) {x : Nat} (hd : decode cc pc = .ok (.astore 6, 2)) (k : J X 9 cells slots M [a0, a1, a2, a3, a4, a5, some (.ref x), a7, a8] st (pc + 2)) : J X 9 cells slots M [a0, a1, a2, a3, a4, a5, a6, a7, a8] (.ref x :: st) pc := j_astore g hd (Nat.le_of_ble_eq_true rfl) k
theorem astore_n_9_1 {X : JC} {cc : ByteArray} {own : String} {Ts : List Cond} {cells slots pc : Nat} {rm : Room} {M : MH} {st : List Value} {a0 a1 a2 a3 a4 a5 a6 a7 a8 : Option Value} (g : jG X cc own Ts 9 rm) {x : Nat} (hd : decode cc pc = .ok (.astore_n 1, 1)) (k : J X 9 cells slots M [a0, some (.ref x), a2, a3, a4, a5, a6, a7, a8] st (pc + 1)) : J X 9 cells slots M [a0, a1, a2, a3, a4, a5, a6, a7, a8] (.ref x :: st) pc := j_astore_n g 1 hd rfl (Nat.le_of_ble_eq_true rfl) k
theorem astore_n_9_2 {X : JC} {cc : ByteArray} {own : String} {Ts : List Cond} {cells slots pc : Nat} {rm : Room} {M : MH} {st : List Value} {a0 a1 a2 a3 a4 a5 a6 a7 a8 : Option Value} (g : jG X cc own Ts 9 rm) {x : Nat} (hd : decode cc pc = .ok (.astore_n 2, 1)) (k : J X 9 cells slots M [a0, a1, some (.ref x), a3, a4, a5, a6, a7, a8] st (pc + 1)) : J X 9 cells slots M [a0, a1, a2, a3, a4, a5, a6, a7, a8] (.ref x :: st) pc := j_astore_n g 2 hd rfl (Nat.le_of_ble_eq_true rfl) k
theorem astore_n_9_3 {X : JC} {cc : ByteArray} {own : String} {Ts : List Cond} {cells slots pc : Nat} {rm : Room} {M : MH} {st : List Value} {a0 a1 a2 a3 a4 a5 a6 a7 a8 : Option Value} (g : jG X cc own Ts 9 rm) {x : Nat} (hd : decode cc pc = .ok (.astore_n 3, 1)) (k : J X 9 cells slots M [a0, a1, a2, some (.ref x), a4, a5, a6, a7, a8] st (pc + 1)) : J X 9 cells slots M [a0, a1, a2, a3, a4, a5, a6, a7, a8] (.ref x :: st) pc := j_astore_n g 3 hd rfl (Nat.le_of_ble_eq_true rfl) k
theorem iinc_9_8_1 {X : JC} {cc : ByteArray} {own : String} {Ts : List Cond} {cells slots pc : Nat} {rm : Room} {M : MH} {st : List Value} {a0 a1 a2 a3 a4 a5 a6 a7 : Option Value} (g : jG X cc own Ts 9 rm) {x : Int32} (hd : decode cc pc = .ok (.iinc 8 1, 3)) (k : J X 9 cells slots M [a0, a1, a2, a3, a4, a5, a6, a7, some (.int (x + 1))] st (pc + 3)) : J X 9 cells slots M [a0, a1, a2, a3, a4, a5, a6, a7, some (.int x)] st pc := j_iinc g (x + 1) hd rfl rfl k



set_option maxHeartbeats 1000000 in
set_option maxRecDepth 100000 in
theorem law_all {X : JC} (hst : (jl X).stackTraces = false) (g : jG X cL_law RL wsL_law 9 room_1) (t0 : jE0 X) {b L : Nat} {xs : Nat → Int32} (sc : jS X b L xs) (hL : L ≤ 260) (hend : ∀ (cells slots : Nat) (M : MH) (vs : List (Option Value)), cells ≤ 968953 → slots ≤ 6194910 → J X 9 cells slots M vs [.int 1] 203) : J X 9 0 0 (fun _ => none) [some (.ref b), none, none, none, none, none, none, none, none] [] 0 := by
  have inX8 := inlX8
  refine j_new (pc := 0) (ci := 8) g dvX8 dL_law_0 inX8 tyX8 tyX8_ok (by decide +kernel) (by decide +kernel) (by decide +kernel) rfl dfX8 (Nat.le_of_ble_eq_true rfl) (Nat.le_of_ble_eq_true rfl) (fun x hx => ?_)
  have Fx : xu (fun _ => none) x (oB 8 dvX8) x = some (oB 8 dvX8) := xu_s _ _ _
  refine j_dup (pc := 3) g dL_law_3 rfl ?_
  refine j_callIT (pc := 4) (n := 0) (rest := [.ref x]) g t0 (by decide +kernel) (by decide +kernel) (by decide +kernel) rfl (k_init (jl X) (jD X) hst _ x Fx) dL_law_4 gL_law_X8_init rfl rfl rfl rfl ⟨by decide, by decide, by decide +kernel⟩ ⟨Nat.le_of_ble_eq_true rfl, Nat.le_of_ble_eq_true rfl⟩ ⟨Nat.le_of_ble_eq_true rfl, Nat.le_of_ble_eq_true rfl⟩ rfl (Nat.le_of_ble_eq_true rfl) (fun v M1 hp => ?_)
  obtain ⟨rfl, al, hc⟩ := hp
  show J X 9 _ _ _ _ [.ref x] (4 + 3)
  refine astore_n_9_1 (pc := 7) g dL_law_7 ?_
  refine j_iconst (pc := 8) g (5) dL_law_8 (by decide) ?_
  refine j_newaI (pc := 9) g 5 dL_law_9 (by decide +kernel) (by decide) (by decide) (by decide) (Nat.le_of_ble_eq_true rfl) (Nat.le_of_ble_eq_true rfl) (fun q0 hq0 => ?_)
  refine astore_n_9_2 (pc := 11) g dL_law_11 ?_
  refine j_bipush (pc := 12) g (6) dL_law_12 (by decide) ?_
  refine j_newaI (pc := 14) g 6 dL_law_14 (by decide +kernel) (by decide) (by decide) (by decide) (Nat.le_of_ble_eq_true rfl) (Nat.le_of_ble_eq_true rfl) (fun q1 hq1 => ?_)
  refine astore_n_9_3 (pc := 16) g dL_law_16 ?_
  refine j_bipush (pc := 17) g (9) dL_law_17 (by decide) ?_
  refine j_newaI (pc := 19) g 9 dL_law_19 (by decide +kernel) (by decide) (by decide) (by decide) (Nat.le_of_ble_eq_true rfl) (Nat.le_of_ble_eq_true rfl) (fun q2 hq2 => ?_)
  refine astore_9_4 (pc := 21) g dL_law_21 ?_
  refine j_bipush (pc := 23) g (16) dL_law_23 (by decide) ?_
  refine j_newaI (pc := 25) g 16 dL_law_25 (by decide +kernel) (by decide) (by decide) (by decide) (Nat.le_of_ble_eq_true rfl) (Nat.le_of_ble_eq_true rfl) (fun q3 hq3 => ?_)
  refine astore_9_5 (pc := 27) g dL_law_27 ?_
  refine j_bipush (pc := 29) g (64) dL_law_29 (by decide) ?_
  refine j_newaI (pc := 31) g 64 dL_law_31 (by decide +kernel) (by decide) (by decide) (by decide) (Nat.le_of_ble_eq_true rfl) (Nat.le_of_ble_eq_true rfl) (fun q4 hq4 => ?_)
  refine astore_9_6 (pc := 33) g dL_law_33 ?_
  obtain ⟨ra, M, eM, e0, e1, e2, e3, e4, hr⟩ := ra_start hq0 hq1 hq2 hq3 hq4
  refine j_map M eM ?_
  clear eM hq0 hq1 hq2 hq3 hq4
  subst e0 e1 e2 e3 e4
  have hc := CRep_LZ hc
  have hk := ok_start
  have ht := tie_start
  refine j_aload_n (pc := 35) g 1 dL_law_35 rfl rfl ?_
  refine j_aload_n (pc := 36) g 2 dL_law_36 rfl rfl ?_
  refine j_ldci (pc := 37) g (19088743) dL_law_37 (by decide +kernel) ?_
  refine j_ldci (pc := 39) g (124076833) dL_law_39 (by decide +kernel) ?_
  refine j_callSV (pc := 41) (n := 4) g t0 (h_drafts (jl X) (jD X) hst hr hc hk ht _ _) dL_law_41 gL_law_L_drafts rfl rfl rfl rfl ⟨by decide, by decide, by decide +kernel⟩ ⟨Nat.le_of_ble_eq_true rfl, Nat.le_of_ble_eq_true rfl⟩ ⟨by show _ ≤ 968953; omega, by show _ ≤ 6194910; omega⟩ rfl (Nat.le_of_ble_eq_true rfl) (fun v M hp => ?_)
  obtain ⟨rfl, R1, S1, d1, ⟨Mx, al, hr, hc, hk, ht⟩, e2⟩ := hp
  show J X 9 _ _ _ _ [.int 1] (41 + 3)
  refine j_if_eq (pc := 44) g 84 dL_law_44 (by decide) (fun c44 => absurd c44 (by decide)) (fun c44 => ?_)
  refine j_aload_n (pc := 47) g 1 dL_law_47 rfl rfl ?_
  refine j_aload_n (pc := 48) g 2 dL_law_48 rfl rfl ?_
  refine j_aload_n (pc := 49) g 3 dL_law_49 rfl rfl ?_
  refine j_callSV (pc := 50) (n := 3) g t0 (h_signs (jl X) (jD X) hst hr hc hk ht) dL_law_50 gL_law_L_signs rfl rfl rfl rfl ⟨by decide, by decide, by decide +kernel⟩ ⟨Nat.le_of_ble_eq_true rfl, Nat.le_of_ble_eq_true rfl⟩ ⟨by show _ ≤ 968953; omega, by show _ ≤ 6194910; omega⟩ rfl (Nat.le_of_ble_eq_true rfl) (fun v M hp => ?_)
  obtain ⟨rfl, R2, S2, d2, ns2, ⟨Mx, al, hr, hc, hk, ht⟩, e3⟩ := hp
  have eR := e3.trans e2
  have s60 := s6_0 ht eR 0 (by decide)
  have s61 := s6_0 ht eR 1 (by decide)
  show J X 9 _ _ _ _ [.int 1] (50 + 3)
  refine j_if_eq (pc := 53) g 84 dL_law_53 (by decide) (fun c53 => absurd c53 (by decide)) (fun c53 => ?_)
  refine j_aload_n (pc := 56) g 1 dL_law_56 rfl rfl ?_
  refine j_iconst (pc := 57) g (0) dL_law_57 (by decide) ?_
  refine j_bipush (pc := 58) g (9) dL_law_58 (by decide) ?_
  refine j_cW (pc := 60) (n := 3) g t0 hr (w_buy (jl X) (jD X) hst Mx x al S2 d2 ns2 0 hc hk 0 9) dL_law_60 gL_law_L_buy rfl rfl rfl rfl ⟨by decide, by decide, by decide +kernel⟩ ⟨Nat.le_of_ble_eq_true rfl, Nat.le_of_ble_eq_true rfl⟩ ⟨by show _ ≤ 968953; omega, by show _ ≤ 6194910; omega⟩ rfl (Nat.le_of_ble_eq_true rfl) (fun v Mx M hp hr => ?_)
  obtain ⟨rfl, al, hc⟩ := hp.ok (by_0 s60).1
  show J X 9 _ _ _ _ [.int (S2 6 (ix 0) + 9)] (60 + 3)
  rw [(by_0 s60).2]
  refine j_bipush (pc := 63) g (9) dL_law_63 (by decide) ?_
  refine j_icmp_ne (pc := 65) g 84 dL_law_65 (by decide) (fun c65 => absurd c65 (not_not_intro rfl)) (fun c65 => ?_)
  refine j_aload_n (pc := 68) g 1 dL_law_68 rfl rfl ?_
  refine j_iconst (pc := 69) g (1) dL_law_69 (by decide) ?_
  refine j_bipush (pc := 70) g (9) dL_law_70 (by decide) ?_
  refine j_cW (pc := 72) (n := 3) g t0 hr (w_buy (jl X) (jD X) hst Mx x al (nBuy S2 0 9) d2 ns2 0 hc (ok_buy hk) 1 9) dL_law_72 gL_law_L_buy rfl rfl rfl rfl ⟨by decide, by decide, by decide +kernel⟩ ⟨Nat.le_of_ble_eq_true rfl, Nat.le_of_ble_eq_true rfl⟩ ⟨by show _ ≤ 968953; omega, by show _ ≤ 6194910; omega⟩ rfl (Nat.le_of_ble_eq_true rfl) (fun v Mx M hp hr => ?_)
  obtain ⟨rfl, al, hc⟩ := hp.ok (by_1 (nb_1 s61)).1
  show J X 9 _ _ _ _ [.int (nBuy S2 0 9 6 (ix 1) + 9)] (72 + 3)
  rw [(by_1 (nb_1 s61)).2]
  refine j_bipush (pc := 75) g (9) dL_law_75 (by decide) ?_
  refine j_icmp_ne (pc := 77) g 84 dL_law_77 (by decide) (fun c77 => absurd c77 (not_not_intro rfl)) (fun c77 => ?_)
  refine j_iconst (pc := 80) g (1) dL_law_80 (by decide) ?_
  refine j_goto (pc := 81) g 85 dL_law_81 (by decide) ?_
  refine istore_9_7 (pc := 85) g dL_law_85 ?_
  refine j_aload (pc := 87) g dL_law_87 rfl ?_
  refine j_iconst (pc := 89) g (0) dL_law_89 (by decide) ?_
  refine j_bipush (pc := 90) g (9) dL_law_90 (by decide) ?_
  refine j_wr (pc := 92) g hr 2 (by decide) (0) dL_law_92 (rfl) (by decide) (fun M hr => ?_)
  refine j_aload (pc := 93) g dL_law_93 rfl ?_
  refine j_iconst (pc := 95) g (3) dL_law_95 (by decide) ?_
  refine j_bipush (pc := 96) g (9) dL_law_96 (by decide) ?_
  refine j_wr (pc := 98) g hr 2 (by decide) (3) dL_law_98 (rfl) (by decide) (fun M hr => ?_)
  have hk := ok_buy (its := 1) (many := 9) (ok_buy (its := 0) (many := 9) hk)
  have ht := tie_buys ht eR
  refine j_iconst (pc := 99) g (0) dL_law_99 (by decide) ?_
  refine istore_9_8 (pc := 100) g dL_law_100 ?_
  have L102 : ∀ (n : Nat) (k : Nat) (M Mx : MH) (al : Nat → Nat → Nat) (R S : ST) (d ns nd : Nat) (hr : LR M Mx ra R) (hc : CRep Mx x al S d ns nd) (hk : mOK S d ns nd) (ht : tie k S R d ns nd) (hkn : k + n = 56), J X 9 (5000 - 73 * n) (20000 - 317 * n) (M) [some (.ref b), some (.ref x), some (.ref (ra 0)), some (.ref (ra 1)), some (.ref (ra 2)), some (.ref (ra 3)), some (.ref (ra 4)), some (.int 1), some (.int (nI k))] [] 102 := by
    intro n
    induction n with
    | zero =>
      intro k M Mx al R S d ns nd hr hc hk ht hkn
      have n8 := ht.2.2.2.2.2.2.2.2.2
      refine j_iload (pc := 102) g dL_law_102 rfl ?_
      refine j_bipush (pc := 104) g (56) dL_law_104 (by decide) ?_
      refine j_icmp_ge (pc := 106) g 152 dL_law_106 (by decide) (fun c106 => ?_) (fun c106 => absurd (nI_le (a := 56) (by omega) (by omega)) c106)
      refine j_iconst (pc := 152) g (0) dL_law_152 (by decide) ?_
      refine istore_9_8 (pc := 153) g dL_law_153 ?_
      have L155 : ∀ (n : Nat) (k : Nat) (M Mx : MH) (al : Nat → Nat → Nat) (hr : LR M Mx ra R) (hc : CRep Mx x al S d ns nd) (hkn : k + n = nd), J X 9 (5200 - 18 * n) (21000 - 108 * n) (M) [some (.ref b), some (.ref x), some (.ref (ra 0)), some (.ref (ra 1)), some (.ref (ra 2)), some (.ref (ra 3)), some (.ref (ra 4)), some (.int 1), some (.int (nI k))] [] 155 := by
        intro n
        induction n with
        | zero =>
          intro k M Mx al hr hc hkn
          refine j_iload (pc := 155) g dL_law_155 rfl ?_
          refine j_aload_n (pc := 157) g 2 dL_law_157 rfl rfl ?_
          refine j_iconst (pc := 158) g (3) dL_law_158 (by decide) ?_
          refine j_rd (pc := 159) g hr 0 (by decide) (3) (nI nd) dL_law_159 (rfl) (by decide) (ht.1.2.2.2.1) ?_
          refine j_icmp_ge (pc := 160) g 185 dL_law_160 (by decide) (fun c160 => ?_) (fun c160 => absurd (nI_le (by omega) (by omega)) c160)
          refine j_iload (pc := 185) g dL_law_185 rfl ?_
          refine j_if_eq (pc := 187) g 202 dL_law_187 (by decide) (fun c187 => absurd c187 (by decide)) (fun c187 => ?_)
          refine j_aload_n (pc := 190) g 1 dL_law_190 rfl rfl ?_
          refine j_aload_n (pc := 191) g 2 dL_law_191 rfl rfl ?_
          refine j_callSV (pc := 192) (n := 2) g t0 (h_areWon (jl X) (jD X) hst hr hc hk ht) dL_law_192 gL_law_L_areWon rfl rfl rfl rfl ⟨by decide, by decide, by decide +kernel⟩ ⟨Nat.le_of_ble_eq_true rfl, Nat.le_of_ble_eq_true rfl⟩ ⟨by show _ ≤ 968953; omega, by show _ ≤ 6194910; omega⟩ rfl (Nat.le_of_ble_eq_true rfl) (fun v M hp => ?_)
          obtain ⟨rfl, Mx, al, hr, hc, hk, ht⟩ := hp
          show J X 9 _ _ _ _ [.int 1] (192 + 3)
          refine j_if_eq (pc := 195) g 202 dL_law_195 (by decide) (fun c195 => absurd c195 (by decide)) (fun c195 => ?_)
          refine j_iconst (pc := 198) g (1) dL_law_198 (by decide) ?_
          refine j_goto (pc := 199) g 203 dL_law_199 (by decide) ?_
          exact hend _ _ _ _ (by omega) (by omega)
        | succ n ih =>
          intro k M Mx al hr hc hkn
          refine j_iload (pc := 155) g dL_law_155 rfl ?_
          refine j_aload_n (pc := 157) g 2 dL_law_157 rfl rfl ?_
          refine j_iconst (pc := 158) g (3) dL_law_158 (by decide) ?_
          refine j_rd (pc := 159) g hr 0 (by decide) (3) (nI nd) dL_law_159 (rfl) (by decide) (ht.1.2.2.2.1) ?_
          refine j_icmp_ge (pc := 160) g 185 dL_law_160 (by decide) (fun c160 => absurd c160 (nI_ge (by omega) (by omega))) (fun c160 => ?_)
          refine j_iload (pc := 163) g dL_law_163 rfl ?_
          refine j_if_eq (pc := 165) g 185 dL_law_165 (by decide) (fun c165 => absurd c165 (by decide)) (fun c165 => ?_)
          refine j_aload_n (pc := 168) g 1 dL_law_168 rfl rfl ?_
          refine j_aload_n (pc := 169) g 2 dL_law_169 rfl rfl ?_
          refine j_aload (pc := 170) g dL_law_170 rfl ?_
          refine j_iload (pc := 172) g dL_law_172 rfl ?_
          refine j_callSV (pc := 174) (n := 4) g t0 (h_isDuel (jl X) (jD X) hst hr hc hk ht k (by omega)) dL_law_174 gL_law_L_isDuel rfl rfl rfl rfl ⟨by decide, by decide, by decide +kernel⟩ ⟨Nat.le_of_ble_eq_true rfl, Nat.le_of_ble_eq_true rfl⟩ ⟨by show _ ≤ 968953; omega, by show _ ≤ 6194910; omega⟩ rfl (Nat.le_of_ble_eq_true rfl) (fun v M hp => ?_)
          obtain ⟨rfl, Mx, al, hr, hc, hk, ht⟩ := hp
          show J X 9 _ _ _ _ [.int 1] (174 + 3)
          refine istore_9_7 (pc := 177) g dL_law_177 ?_
          refine iinc_9_8_1 (pc := 179) g dL_law_179 ?_
          refine j_goto (pc := 182) g 155 dL_law_182 (by decide) ?_
          have q9 := ih (k + 1) M Mx al hr hc (by omega)
          rw [← nI_1 k] at q9
          exact j_room _ _ (by omega) (by omega) q9
      exact j_room _ _ (by omega) (by omega) (L155 nd 0 M Mx al hr hc (by omega))
    | succ n ih =>
      intro k M Mx al R S d ns nd hr hc hk ht hkn
      refine j_iload (pc := 102) g dL_law_102 rfl ?_
      refine j_bipush (pc := 104) g (56) dL_law_104 (by decide) ?_
      refine j_icmp_ge (pc := 106) g 152 dL_law_106 (by decide) (fun c106 => absurd c106 (nI_ge (b := 56) (by omega) (by omega))) (fun c106 => ?_)
      refine j_iload (pc := 109) g dL_law_109 rfl ?_
      refine j_if_eq (pc := 111) g 152 dL_law_111 (by decide) (fun c111 => absurd c111 (by decide)) (fun c111 => ?_)
      refine j_aload_n (pc := 114) g 1 dL_law_114 rfl rfl ?_
      refine j_aload_n (pc := 115) g 2 dL_law_115 rfl rfl ?_
      refine j_aload_n (pc := 116) g 3 dL_law_116 rfl rfl ?_
      refine j_aload (pc := 117) g dL_law_117 rfl ?_
      refine j_aload (pc := 119) g dL_law_119 rfl ?_
      refine j_aload (pc := 121) g dL_law_121 rfl ?_
      refine j_aload_n (pc := 123) g 0 dL_law_123 rfl rfl ?_
      refine j_iconst (pc := 124) g (2) dL_law_124 (by decide) ?_
      refine j_iload (pc := 125) g dL_law_125 rfl ?_
      refine j_imul (pc := 127) g dL_law_127 ?_
      refine j_topi (nI (2 * k)) (pk_mul 2 k) ?_
      refine j_callX (pc := 128) (n := 2) g sc (c_at (jl X) (jD X) hL (2 * k) (by omega)) dL_law_128 gL_law_L_at rfl rfl rfl rfl ⟨by decide, by decide, by decide +kernel⟩ ⟨Nat.le_of_ble_eq_true rfl, Nat.le_of_ble_eq_true rfl⟩ ⟨by show _ ≤ 968953; omega, by show _ ≤ 6194910; omega⟩ rfl (Nat.le_of_ble_eq_true rfl) (fun v hp => ?_)
      obtain ⟨r1, rfl⟩ := hp
      show J X 9 _ _ _ _ [.int r1, .ref (ra 4), .ref (ra 3), .ref (ra 2), .ref (ra 1), .ref (ra 0), .ref x] (128 + 3)
      refine j_aload_n (pc := 131) g 0 dL_law_131 rfl rfl ?_
      refine j_iconst (pc := 132) g (2) dL_law_132 (by decide) ?_
      refine j_iload (pc := 133) g dL_law_133 rfl ?_
      refine j_imul (pc := 135) g dL_law_135 ?_
      refine j_topi (nI (2 * k)) (pk_mul 2 k) ?_
      refine j_iconst (pc := 136) g (1) dL_law_136 (by decide) ?_
      refine j_iadd (pc := 137) g dL_law_137 ?_
      refine j_topi (nI (2 * k + 1)) (nI_add _ 1) ?_
      refine j_callX (pc := 138) (n := 2) g sc (c_at (jl X) (jD X) hL (2 * k + 1) (by omega)) dL_law_138 gL_law_L_at rfl rfl rfl rfl ⟨by decide, by decide, by decide +kernel⟩ ⟨Nat.le_of_ble_eq_true rfl, Nat.le_of_ble_eq_true rfl⟩ ⟨by show _ ≤ 968953; omega, by show _ ≤ 6194910; omega⟩ rfl (Nat.le_of_ble_eq_true rfl) (fun v hp => ?_)
      obtain ⟨r2, rfl⟩ := hp
      show J X 9 _ _ _ _ [.int r2, .int r1, .ref (ra 4), .ref (ra 3), .ref (ra 2), .ref (ra 1), .ref (ra 0), .ref x] (138 + 3)
      refine j_callSV (pc := 141) (n := 8) g t0 (h_acts (jl X) (jD X) hst hr hc hk ht (by omega) _ _) dL_law_141 gL_law_L_acts rfl rfl rfl rfl ⟨by decide, by decide, by decide +kernel⟩ ⟨Nat.le_of_ble_eq_true rfl, Nat.le_of_ble_eq_true rfl⟩ ⟨by show _ ≤ 968953; omega, by show _ ≤ 6194910; omega⟩ rfl (Nat.le_of_ble_eq_true rfl) (fun v M hp => ?_)
      obtain ⟨rfl, R, S, d, ns, nd, Mx, al, hr, hc, hk, ht⟩ := hp
      show J X 9 _ _ _ _ [.int 1] (141 + 3)
      refine istore_9_7 (pc := 144) g dL_law_144 ?_
      refine iinc_9_8_1 (pc := 146) g dL_law_146 ?_
      refine j_goto (pc := 149) g 102 dL_law_149 (by decide) ?_
      have q9 := ih (k + 1) M Mx al R S d ns nd hr hc hk ht (by omega)
      rw [← nI_1 k] at q9
      exact j_room _ _ (by omega) (by omega) q9
  exact j_room _ _ (by omega) (by omega) (L102 56 0 M Mx al _ _ _ _ _ hr hc hk ht (by omega))
