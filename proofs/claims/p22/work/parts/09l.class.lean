theorem astore_n_7_3 {X : JC} {cc : ByteArray} {own : String} {Ts : List Cond} {cells slots pc : Nat} {rm : Room} {M : MH} {st : List Value} {a0 a1 a2 a3 a4 a5 a6 : Option Value} (g : jG X cc own Ts 7 rm) {x : Nat} (hd : decode cc pc = .ok (.astore_n 3, 1)) (k : J X 7 cells slots M [a0, a1, a2, some (.ref x), a4, a5, a6] st (pc + 1)) : J X 7 cells slots M [a0, a1, a2, a3, a4, a5, a6] (.ref x :: st) pc := j_astore_n g 3 hd rfl (Nat.le_of_ble_eq_true rfl) k
theorem astore_nN_7_3 {X : JC} {cc : ByteArray} {own : String} {Ts : List Cond} {cells slots pc : Nat} {rm : Room} {M : MH} {st : List Value} {a0 a1 a2 a3 a4 a5 a6 : Option Value} (g : jG X cc own Ts 7 rm) (hd : decode cc pc = .ok (.astore_n 3, 1)) (k : J X 7 cells slots M [a0, a1, a2, some (.null), a4, a5, a6] st (pc + 1)) : J X 7 cells slots M [a0, a1, a2, a3, a4, a5, a6] (.null :: st) pc := j_astore_nN g 3 hd rfl (Nat.le_of_ble_eq_true rfl) k
theorem inwX0_X8_winnerOf : ∀ w ∈ wsX00, w ∈ wsX8_winnerOf := fun w h => List.mem_cons_of_mem _ (List.mem_append_left _ (List.mem_append_left _ (List.mem_append_left _ (List.mem_append_left _ (List.mem_append_left _ (List.mem_append_right _ h))))))
theorem inwX7_X8_roundGoesTo : ∀ w ∈ wsX70, w ∈ wsX8_roundGoesTo := fun w h => List.mem_cons_of_mem _ (List.mem_append_left _ (List.mem_append_left _ (List.mem_append_left _ (List.mem_append_left _ (List.mem_append_left _ (List.mem_append_right _ h))))))


set_option maxHeartbeats 400000 in
set_option maxRecDepth 100000 in
theorem c_roundGoesTo (l : Launch) (D : va_G) (M : MH) (x : Nat) (al : Nat → Nat → Nat) (S : ST) (d ns nd : Nat) (hc : CRep M x al S d ns nd) (i r_ : Nat) (hi : i < nd) (hq : mHd S ns i) (hkk : mMK S ns) (hr : r_ < 5) : xC l D yX8_roundGoesTo wsX8_roundGoesTo ({ frames := 4, cells := 0, slots := 0, locals := 95 }) 0 0 [.ref x, .ref (al 7 i), .int (nI r_)] (M) (xq (some (.int (rtC S i r_))) M) := by
  refine xC_of (cc := cX8_roundGoesTo) (maxL := 7) (ret := (some .int)) (own := RX8) [some (.ref x), some (.ref (al 7 i)), some (.int (nI r_)), none, none, none, none] (by decide) rfl rfl (Nat.le_of_ble_eq_true rfl) rfl rfl rfl ?_
  intro X hXl hXD g r
  subst hXl
  subst hXD
  have inX7 : ∀ w ∈ wsX70, w ∈ wsX8_roundGoesTo := inwX7_X8_roundGoesTo
  have hc0 := hc
  obtain ⟨⟨hx, hT0, hT1, hT2, hT3, hT4⟩, hP, hY, hJ, hG, hD, hW⟩ := hc
  obtain ⟨hd, hdp, hdw⟩ := hD.1 i hi
  have o0 : ofI 0 = 0 := rfl
  have o1 : ofI 1 = 1 := rfl
  have h3 : 2 * r_ + 1 < ix (S 22 i) ∨ (ix (S 22 i) ≤ 2 * r_ + 1 ∧ 2 * r_ < ix (S 22 i)) ∨ ix (S 22 i) ≤ 2 * r_ := by omega
  refine j_aload_n (pc := 0) g 1 dX8_roundGoesTo_0 rfl rfl ?_
  refine j_iload_n (pc := 1) g 2 dX8_roundGoesTo_1 rfl rfl ?_
  refine j_iconst (pc := 2) g (0) dX8_roundGoesTo_2 (by decide) ?_
  refine j_cVr (pc := 3) (n := 2) g (c_writingAt (jl X) (jD X) M (al 7 i) _ _ _ _ _ _ (al 8 i) (al 9 i) _ _ hd _ hdw (nI r_) 0) dX8_roundGoesTo_3 (hd) rfl gX8_roundGoesTo_X0_writingAt rfl rfl rfl rfl ⟨rfl, by decide, by decide, by decide +kernel⟩ ⟨Nat.le_of_ble_eq_true rfl, Nat.le_of_ble_eq_true rfl⟩ ⟨Nat.le_of_ble_eq_true rfl, Nat.le_of_ble_eq_true rfl⟩ rfl (Nat.le_of_ble_eq_true rfl) ?_
  rcases h3 with hz | ⟨hz, hz2⟩ | hz
  · rw [wAt_in hr (by omega), o0, Nat.add_zero]
    have hw1 := (hW.1 i (2 * r_) hi (by omega)).1
    have hw2 := (hW.1 i (2 * r_ + 1) hi (by omega)).1
    have hlo := rt_lo hq.1 hr hz
    have hsw := gt_sw (allS_fl hq hkk (h := 2 * r_) (by omega)) (allS_fl hq hkk (h := 2 * r_ + 1) (by omega)) (by decide)
    refine astore_n_7_3 (pc := 6) g dX8_roundGoesTo_6 ?_
    refine j_aload_n (pc := 7) g 1 dX8_roundGoesTo_7 rfl rfl ?_
    refine j_iload_n (pc := 8) g 2 dX8_roundGoesTo_8 rfl rfl ?_
    refine j_iconst (pc := 9) g (1) dX8_roundGoesTo_9 (by decide) ?_
    refine j_cVr (pc := 10) (n := 2) g (c_writingAt (jl X) (jD X) M (al 7 i) _ _ _ _ _ _ (al 8 i) (al 9 i) _ _ hd _ hdw (nI r_) 1) dX8_roundGoesTo_10 (hd) rfl gX8_roundGoesTo_X0_writingAt rfl rfl rfl rfl ⟨rfl, by decide, by decide, by decide +kernel⟩ ⟨Nat.le_of_ble_eq_true rfl, Nat.le_of_ble_eq_true rfl⟩ ⟨Nat.le_of_ble_eq_true rfl, Nat.le_of_ble_eq_true rfl⟩ rfl (Nat.le_of_ble_eq_true rfl) ?_
    rw [wAt_in hr (by omega), o1]
    · refine astore_7_4 (pc := 13) g dX8_roundGoesTo_13 ?_
      have K41 : ∀ (hab : ¬ (S 26 (10 * i + 2 * r_) ≠ 0 ∧ S 26 (10 * i + (2 * r_ + 1)) ≠ 0)), J X 7 0 0 (M) [some (.ref x), some (.ref (al 7 i)), some (.int (nI r_)), some (.ref (al 10 (10 * i + 2 * r_))), some (.ref (al 10 (10 * i + (2 * r_ + 1)))), none, none] [] 41 := by
        intro hab
        refine j_aload_n (pc := 41) g 3 dX8_roundGoesTo_41 rfl rfl ?_
        refine j_get (pc := 42) g dX8_roundGoesTo_42 (hw1) rfl inX7 3 (by decide) (by decide +kernel) rfl rfl ?_
        refine j_if_eq (pc := 45) g 50 dX8_roundGoesTo_45 (by decide) (fun c45 => ?_) (fun c45 => ?_)
        · refine j_aload (pc := 50) g dX8_roundGoesTo_50 rfl ?_
          refine j_get (pc := 52) g dX8_roundGoesTo_52 (hw2) rfl inX7 3 (by decide) (by decide +kernel) rfl rfl ?_
          refine j_if_eq (pc := 55) g 60 dX8_roundGoesTo_55 (by decide) (fun c55 => ?_) (fun c55 => ?_)
          · refine j_aload_n (pc := 60) g 0 dX8_roundGoesTo_60 rfl rfl ?_
            refine j_aload_n (pc := 61) g 1 dX8_roundGoesTo_61 rfl rfl ?_
            refine j_aload_n (pc := 62) g 3 dX8_roundGoesTo_62 rfl rfl ?_
            refine j_cVf (pc := 63) (n := 2) g (c_judgedMark (jl X) (jD X) M x al S d ns nd hc0 i (2 * r_) hi hq hkk (by omega)) dX8_roundGoesTo_63 (hx) rfl gX8_roundGoesTo_X8_judgedMark rfl rfl rfl rfl ⟨rfl, by decide, by decide, by decide +kernel⟩ ⟨Nat.le_of_ble_eq_true rfl, Nat.le_of_ble_eq_true rfl⟩ ⟨Nat.le_of_ble_eq_true rfl, Nat.le_of_ble_eq_true rfl⟩ rfl (Nat.le_of_ble_eq_true rfl) ?_
            refine fstore_7_5 (pc := 66) g dX8_roundGoesTo_66 ?_
            refine j_aload_n (pc := 68) g 0 dX8_roundGoesTo_68 rfl rfl ?_
            refine j_aload_n (pc := 69) g 1 dX8_roundGoesTo_69 rfl rfl ?_
            refine j_aload (pc := 70) g dX8_roundGoesTo_70 rfl ?_
            refine j_cVf (pc := 72) (n := 2) g (c_judgedMark (jl X) (jD X) M x al S d ns nd hc0 i (2 * r_ + 1) hi hq hkk (by omega)) dX8_roundGoesTo_72 (hx) rfl gX8_roundGoesTo_X8_judgedMark rfl rfl rfl rfl ⟨rfl, by decide, by decide, by decide +kernel⟩ ⟨Nat.le_of_ble_eq_true rfl, Nat.le_of_ble_eq_true rfl⟩ ⟨Nat.le_of_ble_eq_true rfl, Nat.le_of_ble_eq_true rfl⟩ rfl (Nat.le_of_ble_eq_true rfl) ?_
            refine fstore_7_6 (pc := 75) g dX8_roundGoesTo_75 ?_
            refine j_fload (pc := 77) g dX8_roundGoesTo_77 rfl ?_
            refine j_fload (pc := 79) g dX8_roundGoesTo_79 rfl ?_
            refine j_fcmp (pc := 81) g dX8_roundGoesTo_81 ?_
            refine j_if_ne (pc := 82) g 87 dX8_roundGoesTo_82 (by decide) (fun c82 => ?_) (fun c82 => ?_)
            · refine j_fload (pc := 87) g dX8_roundGoesTo_87 rfl ?_
              refine j_fload (pc := 89) g dX8_roundGoesTo_89 rfl ?_
              refine j_fcmp (pc := 91) g dX8_roundGoesTo_91 ?_
              refine j_if_le (pc := 92) g 99 dX8_roundGoesTo_92 (by decide) (fun c92 => ?_) (fun c92 => ?_)
              · refine j_iconst (pc := 99) g (-1) dX8_roundGoesTo_99 (by decide) ?_
                exact j_iret (pc := 100) g r rfl rfl (by first | exact xq_i (by rw [rt_m hlo c45 c55, if_pos c92, if_neg (hsw.2 c82 c92)]) rfl | exact xq_i (by rw [rt_m hlo c45 c55, if_neg c92]) rfl) dX8_roundGoesTo_100 (Nat.le_of_ble_eq_true rfl) (Nat.le_of_ble_eq_true rfl)
              · refine j_iconst (pc := 95) g (1) dX8_roundGoesTo_95 (by decide) ?_
                refine j_goto (pc := 96) g 100 dX8_roundGoesTo_96 (by decide) ?_
                exact j_iret (pc := 100) g r rfl rfl (by first | exact xq_i (by rw [rt_m hlo c45 c55, if_pos c92, if_neg (hsw.2 c82 c92)]) rfl | exact xq_i (by rw [rt_m hlo c45 c55, if_neg c92]) rfl) dX8_roundGoesTo_100 (Nat.le_of_ble_eq_true rfl) (Nat.le_of_ble_eq_true rfl)
            · refine j_iconst (pc := 85) g (0) dX8_roundGoesTo_85 (by decide) ?_
              exact j_iret (pc := 86) g r rfl rfl (by have c8 := hsw.1.mp (by first | exact c82 | exact Decidable.not_not.mp c82); exact xq_i (by rw [rt_m hlo c45 c55, if_pos c8.1, if_pos c8.2]) rfl) dX8_roundGoesTo_86 (Nat.le_of_ble_eq_true rfl) (Nat.le_of_ble_eq_true rfl)
          · refine j_iconst (pc := 58) g (1) dX8_roundGoesTo_58 (by decide) ?_
            exact j_iret (pc := 59) g r rfl rfl (xq_i (rt_10 hlo c45 c55).symm rfl) dX8_roundGoesTo_59 (Nat.le_of_ble_eq_true rfl) (Nat.le_of_ble_eq_true rfl)
        · refine j_iconst (pc := 48) g (-1) dX8_roundGoesTo_48 (by decide) ?_
          exact j_iret (pc := 49) g r rfl rfl (xq_i (rt_01 hlo c45 (Decidable.not_not.mp (fun z => hab ⟨c45, z⟩))).symm rfl) dX8_roundGoesTo_49 (Nat.le_of_ble_eq_true rfl) (Nat.le_of_ble_eq_true rfl)
      refine j_aload_n (pc := 15) g 3 dX8_roundGoesTo_15 rfl rfl ?_
      refine j_ifnull (pc := 16) g dX8_roundGoesTo_16 ?_
      refine j_aload (pc := 19) g dX8_roundGoesTo_19 rfl ?_
      refine j_ifnull (pc := 21) g dX8_roundGoesTo_21 ?_
      refine j_aload_n (pc := 24) g 3 dX8_roundGoesTo_24 rfl rfl ?_
      refine j_get (pc := 25) g dX8_roundGoesTo_25 (hw1) rfl inX7 3 (by decide) (by decide +kernel) rfl rfl ?_
      refine j_if_eq (pc := 28) g 41 dX8_roundGoesTo_28 (by decide) (fun c28 => ?_) (fun c28 => ?_)
      · exact K41 (fun z => by first | exact z.1 c28 | exact z.2 c36)
      · refine j_aload (pc := 31) g dX8_roundGoesTo_31 rfl ?_
        refine j_get (pc := 33) g dX8_roundGoesTo_33 (hw2) rfl inX7 3 (by decide) (by decide +kernel) rfl rfl ?_
        refine j_if_eq (pc := 36) g 41 dX8_roundGoesTo_36 (by decide) (fun c36 => ?_) (fun c36 => ?_)
        · exact K41 (fun z => by first | exact z.1 c28 | exact z.2 c36)
        · refine j_iconst (pc := 39) g (0) dX8_roundGoesTo_39 (by decide) ?_
          exact j_iret (pc := 40) g r rfl rfl (xq_i (rt_00 hlo c28 c36).symm rfl) dX8_roundGoesTo_40 (Nat.le_of_ble_eq_true rfl) (Nat.le_of_ble_eq_true rfl)
  · rw [wAt_in hr (by omega), o0, Nat.add_zero]
    refine astore_n_7_3 (pc := 6) g dX8_roundGoesTo_6 ?_
    refine j_aload_n (pc := 7) g 1 dX8_roundGoesTo_7 rfl rfl ?_
    refine j_iload_n (pc := 8) g 2 dX8_roundGoesTo_8 rfl rfl ?_
    refine j_iconst (pc := 9) g (1) dX8_roundGoesTo_9 (by decide) ?_
    refine j_cVr (pc := 10) (n := 2) g (c_writingAt (jl X) (jD X) M (al 7 i) _ _ _ _ _ _ (al 8 i) (al 9 i) _ _ hd _ hdw (nI r_) 1) dX8_roundGoesTo_10 (hd) rfl gX8_roundGoesTo_X0_writingAt rfl rfl rfl rfl ⟨rfl, by decide, by decide, by decide +kernel⟩ ⟨Nat.le_of_ble_eq_true rfl, Nat.le_of_ble_eq_true rfl⟩ ⟨Nat.le_of_ble_eq_true rfl, Nat.le_of_ble_eq_true rfl⟩ rfl (Nat.le_of_ble_eq_true rfl) ?_
    rw [wAt_out hr (by omega)]
    · refine astoreN_7_4 (pc := 13) g dX8_roundGoesTo_13 ?_
      refine j_aload_n (pc := 15) g 3 dX8_roundGoesTo_15 rfl rfl ?_
      refine j_ifnull (pc := 16) g dX8_roundGoesTo_16 ?_
      refine j_aloadN (pc := 19) g dX8_roundGoesTo_19 rfl ?_
      refine j_ifnullN (pc := 21) g 39 dX8_roundGoesTo_21 (by decide) ?_
      refine j_iconst (pc := 39) g (0) dX8_roundGoesTo_39 (by decide) ?_
      exact j_iret (pc := 40) g r rfl rfl (xq_i (rt_hi hq.1 hr hz).symm rfl) dX8_roundGoesTo_40 (Nat.le_of_ble_eq_true rfl) (Nat.le_of_ble_eq_true rfl)
  · rw [wAt_out hr (by omega)]
    refine astore_nN_7_3 (pc := 6) g dX8_roundGoesTo_6 ?_
    refine j_aload_n (pc := 7) g 1 dX8_roundGoesTo_7 rfl rfl ?_
    refine j_iload_n (pc := 8) g 2 dX8_roundGoesTo_8 rfl rfl ?_
    refine j_iconst (pc := 9) g (1) dX8_roundGoesTo_9 (by decide) ?_
    refine j_cVr (pc := 10) (n := 2) g (c_writingAt (jl X) (jD X) M (al 7 i) _ _ _ _ _ _ (al 8 i) (al 9 i) _ _ hd _ hdw (nI r_) 1) dX8_roundGoesTo_10 (hd) rfl gX8_roundGoesTo_X0_writingAt rfl rfl rfl rfl ⟨rfl, by decide, by decide, by decide +kernel⟩ ⟨Nat.le_of_ble_eq_true rfl, Nat.le_of_ble_eq_true rfl⟩ ⟨Nat.le_of_ble_eq_true rfl, Nat.le_of_ble_eq_true rfl⟩ rfl (Nat.le_of_ble_eq_true rfl) ?_
    rw [wAt_out hr (by omega)]
    · refine astoreN_7_4 (pc := 13) g dX8_roundGoesTo_13 ?_
      refine j_aload_nN (pc := 15) g 3 dX8_roundGoesTo_15 rfl rfl ?_
      refine j_ifnullN (pc := 16) g 39 dX8_roundGoesTo_16 (by decide) ?_
      refine j_iconst (pc := 39) g (0) dX8_roundGoesTo_39 (by decide) ?_
      exact j_iret (pc := 40) g r rfl rfl (xq_i (rt_hi hq.1 hr (by omega)).symm rfl) dX8_roundGoesTo_40 (Nat.le_of_ble_eq_true rfl) (Nat.le_of_ble_eq_true rfl)

set_option maxHeartbeats 400000 in
set_option maxRecDepth 100000 in
theorem c_countRounds (l : Launch) (D : va_G) (M : MH) (x : Nat) (al : Nat → Nat → Nat) (S : ST) (d ns nd : Nat) (hc : CRep M x al S d ns nd) (i : Nat) (hi : i < nd) (hq : mHd S ns i) (hkk : mMK S ns) (side : Int32) : xC l D yX8_countRounds wsX8_countRounds ({ frames := 5, cells := 0, slots := 0, locals := 121 }) 0 0 [.ref x, .ref (al 7 i), .int side] (M) (xq (some (.int (rcC S i side 5))) M) := by
  refine xC_of (cc := cX8_countRounds) (maxL := 5) (ret := (some .int)) (own := RX8) [some (.ref x), some (.ref (al 7 i)), some (.int side), none, none] (by decide) rfl rfl (Nat.le_of_ble_eq_true rfl) rfl rfl rfl ?_
  intro X hXl hXD g r
  subst hXl
  subst hXD
  have hx := hc.1.1
  refine j_iconst (pc := 0) g (0) dX8_countRounds_0 (by decide) ?_
  refine istore_n_5_3 (pc := 1) g dX8_countRounds_1 ?_
  refine j_iconst (pc := 2) g (0) dX8_countRounds_2 (by decide) ?_
  refine istore_5_4 (pc := 3) g dX8_countRounds_3 ?_
  have L5 : ∀ (n : Nat) (k : Nat) (hk : k + n = 5), J X 5 0 0 (M) [some (.ref x), some (.ref (al 7 i)), some (.int side), some (.int (rcC S i side k)), some (.int (nI k))] [] 5 := by
    intro n
    induction n with
    | zero =>
      intro k hk
      have hk5 : k = 5 := by omega
      subst hk5
      refine j_iload (pc := 5) g dX8_countRounds_5 rfl ?_
      refine j_iconst (pc := 7) g (5) dX8_countRounds_7 (by decide) ?_
      refine j_icmp_ge (pc := 8) g 31 dX8_countRounds_8 (by decide) (fun c8 => ?_) (fun c8 => absurd (by decide) c8)
      refine j_iload_n (pc := 31) g 3 dX8_countRounds_31 rfl rfl ?_
      exact j_iret (pc := 32) g r rfl rfl (⟨rfl, rfl⟩) dX8_countRounds_32 (Nat.le_of_ble_eq_true rfl) (Nat.le_of_ble_eq_true rfl)
    | succ n ih =>
      intro k hk
      refine j_iload (pc := 5) g dX8_countRounds_5 rfl ?_
      refine j_iconst (pc := 7) g (5) dX8_countRounds_7 (by decide) ?_
      refine j_icmp_ge (pc := 8) g 31 dX8_countRounds_8 (by decide) (fun c8 => absurd c8 (nI_ge (b := 5) (by omega) (by omega))) (fun c8 => ?_)
      refine j_aload_n (pc := 11) g 0 dX8_countRounds_11 rfl rfl ?_
      refine j_aload_n (pc := 12) g 1 dX8_countRounds_12 rfl rfl ?_
      refine j_iload (pc := 13) g dX8_countRounds_13 rfl ?_
      refine j_cVi (pc := 15) (n := 2) g (c_roundGoesTo (jl X) (jD X) M x al S d ns nd hc i k hi hq hkk (by omega)) dX8_countRounds_15 (hx) rfl gX8_countRounds_X8_roundGoesTo rfl rfl rfl rfl ⟨rfl, by decide, by decide, by decide +kernel⟩ ⟨Nat.le_of_ble_eq_true rfl, Nat.le_of_ble_eq_true rfl⟩ ⟨Nat.le_of_ble_eq_true rfl, Nat.le_of_ble_eq_true rfl⟩ rfl (Nat.le_of_ble_eq_true rfl) ?_
      refine j_iload_n (pc := 18) g 2 dX8_countRounds_18 rfl rfl ?_
      refine j_icmp_ne (pc := 19) g 25 dX8_countRounds_19 (by decide) (fun c19 => ?_) (fun c19 => ?_)
      · refine iinc_5_4_1 (pc := 25) g dX8_countRounds_25 ?_
        refine j_goto (pc := 28) g 5 dX8_countRounds_28 (by decide) ?_
        exact (by have q9 := ih (k + 1) (by omega); rw [← nI_1 k, rcC] at q9; first | (rw [if_pos c19] at q9; exact q9) | (rw [if_pos (Decidable.not_not.mp c19)] at q9; exact q9) | (rw [if_neg c19, Int32.add_zero] at q9; exact q9))
      · refine iinc_5_3_1 (pc := 22) g dX8_countRounds_22 ?_
        refine iinc_5_4_1 (pc := 25) g dX8_countRounds_25 ?_
        refine j_goto (pc := 28) g 5 dX8_countRounds_28 (by decide) ?_
        exact (by have q9 := ih (k + 1) (by omega); rw [← nI_1 k, rcC] at q9; first | (rw [if_pos c19] at q9; exact q9) | (rw [if_pos (Decidable.not_not.mp c19)] at q9; exact q9) | (rw [if_neg c19, Int32.add_zero] at q9; exact q9))
  exact L5 5 0 rfl

set_option maxHeartbeats 400000 in
set_option maxRecDepth 100000 in
theorem c_winnerOf (l : Launch) (D : va_G) (M : MH) (x : Nat) (al : Nat → Nat → Nat) (S : ST) (d ns nd : Nat) (hc : CRep M x al S d ns nd) (i : Nat) (hi : i < nd) (hq : mHd S ns i) (hkk : mMK S ns) : xC l D yX8_winnerOf wsX8_winnerOf ({ frames := 5, cells := 0, slots := 0, locals := 121 }) 0 0 [.ref x, .ref (al 7 i)] (M) (xq (some (.int (wnS S i))) M) := by
  refine xC_of (cc := cX8_winnerOf) (maxL := 4) (ret := (some .int)) (own := RX8) [some (.ref x), some (.ref (al 7 i)), none, none] (by decide) rfl rfl (Nat.le_of_ble_eq_true rfl) rfl rfl rfl ?_
  intro X hXl hXD g r
  subst hXl
  subst hXD
  have inX0 : ∀ w ∈ wsX00, w ∈ wsX8_winnerOf := inwX0_X8_winnerOf
  have hc0 := hc
  obtain ⟨⟨hx, hT0, hT1, hT2, hT3, hT4⟩, hP, hY, hJ, hG, hD, hW⟩ := hc
  obtain ⟨hd, hdp, hdw⟩ := hD.1 i hi
  have hwn := wnS_c hq.1
  refine j_aload_n (pc := 0) g 1 dX8_winnerOf_0 rfl rfl ?_
  refine j_cVi (pc := 1) (n := 0) g (c_dOver (jl X) (jD X) M (al 7 i) _ _ _ _ _ _ _ _ _ _ hd) dX8_winnerOf_1 (hd) rfl gX8_winnerOf_X0_isOver rfl rfl rfl rfl ⟨rfl, by decide, by decide, by decide +kernel⟩ ⟨Nat.le_of_ble_eq_true rfl, Nat.le_of_ble_eq_true rfl⟩ ⟨Nat.le_of_ble_eq_true rfl, Nat.le_of_ble_eq_true rfl⟩ rfl (Nat.le_of_ble_eq_true rfl) ?_
  refine j_if_ne (pc := 4) g 9 dX8_winnerOf_4 (by decide) (fun c4 => ?_) (fun c4 => ?_)
  · refine j_iconst (pc := 9) g (0) dX8_winnerOf_9 (by decide) ?_
    refine istore_n_4_2 (pc := 10) g dX8_winnerOf_10 ?_
    refine j_iconst (pc := 11) g (0) dX8_winnerOf_11 (by decide) ?_
    refine istore_n_4_3 (pc := 12) g dX8_winnerOf_12 ?_
    have L13 : ∀ (n : Nat) (k : Nat) (hk : k + n = 5), J X 4 0 0 (M) [some (.ref x), some (.ref (al 7 i)), some (.int (ldC S i k)), some (.int (nI k))] [] 13 := by
      intro n
      induction n with
      | zero =>
        intro k hk
        have hk5 : k = 5 := by omega
        subst hk5
        refine j_iload_n (pc := 13) g 3 dX8_winnerOf_13 rfl rfl ?_
        refine j_iconst (pc := 14) g (5) dX8_winnerOf_14 (by decide) ?_
        refine j_icmp_ge (pc := 15) g 33 dX8_winnerOf_15 (by decide) (fun c15 => ?_) (fun c15 => absurd (by decide) c15)
        refine j_iload_n (pc := 33) g 2 dX8_winnerOf_33 rfl rfl ?_
        refine j_if_ne (pc := 34) g 39 dX8_winnerOf_34 (by decide) (fun c34 => ?_) (fun c34 => ?_)
        · refine j_iload_n (pc := 39) g 2 dX8_winnerOf_39 rfl rfl ?_
          refine j_if_le (pc := 40) g 50 dX8_winnerOf_40 (by decide) (fun c40 => ?_) (fun c40 => ?_)
          · refine j_aload_n (pc := 50) g 1 dX8_winnerOf_50 rfl rfl ?_
            refine j_get (pc := 51) g dX8_winnerOf_51 (hd) rfl inX0 1 (by decide) (by decide +kernel) rfl rfl ?_
            exact j_iret (pc := 54) g r rfl rfl (by first | exact xq_i (by rw [hwn, if_neg (by grind [b01]), if_neg c34, if_pos c40]) rfl | exact xq_i (by rw [hwn, if_neg (by grind [b01]), if_neg c34, if_neg c40]) rfl) dX8_winnerOf_54 (Nat.le_of_ble_eq_true rfl) (Nat.le_of_ble_eq_true rfl)
          · refine j_aload_n (pc := 43) g 1 dX8_winnerOf_43 rfl rfl ?_
            refine j_get (pc := 44) g dX8_winnerOf_44 (hd) rfl inX0 0 (by decide) (by decide +kernel) rfl rfl ?_
            refine j_goto (pc := 47) g 54 dX8_winnerOf_47 (by decide) ?_
            exact j_iret (pc := 54) g r rfl rfl (by first | exact xq_i (by rw [hwn, if_neg (by grind [b01]), if_neg c34, if_pos c40]) rfl | exact xq_i (by rw [hwn, if_neg (by grind [b01]), if_neg c34, if_neg c40]) rfl) dX8_winnerOf_54 (Nat.le_of_ble_eq_true rfl) (Nat.le_of_ble_eq_true rfl)
        · refine j_iconst (pc := 37) g (-1) dX8_winnerOf_37 (by decide) ?_
          exact j_iret (pc := 38) g r rfl rfl (xq_i (by rw [hwn, if_neg (by grind [b01]), if_pos (by first | exact c34 | exact Decidable.not_not.mp c34)]) rfl) dX8_winnerOf_38 (Nat.le_of_ble_eq_true rfl) (Nat.le_of_ble_eq_true rfl)
      | succ n ih =>
        intro k hk
        refine j_iload_n (pc := 13) g 3 dX8_winnerOf_13 rfl rfl ?_
        refine j_iconst (pc := 14) g (5) dX8_winnerOf_14 (by decide) ?_
        refine j_icmp_ge (pc := 15) g 33 dX8_winnerOf_15 (by decide) (fun c15 => absurd c15 (nI_ge (b := 5) (by omega) (by omega))) (fun c15 => ?_)
        refine j_iload_n (pc := 18) g 2 dX8_winnerOf_18 rfl rfl ?_
        refine j_aload_n (pc := 19) g 0 dX8_winnerOf_19 rfl rfl ?_
        refine j_aload_n (pc := 20) g 1 dX8_winnerOf_20 rfl rfl ?_
        refine j_iload_n (pc := 21) g 3 dX8_winnerOf_21 rfl rfl ?_
        refine j_cVi (pc := 22) (n := 2) g (c_roundGoesTo (jl X) (jD X) M x al S d ns nd hc0 i k hi hq hkk (by omega)) dX8_winnerOf_22 (hx) rfl gX8_winnerOf_X8_roundGoesTo rfl rfl rfl rfl ⟨rfl, by decide, by decide, by decide +kernel⟩ ⟨Nat.le_of_ble_eq_true rfl, Nat.le_of_ble_eq_true rfl⟩ ⟨Nat.le_of_ble_eq_true rfl, Nat.le_of_ble_eq_true rfl⟩ rfl (Nat.le_of_ble_eq_true rfl) ?_
        refine j_iadd (pc := 25) g dX8_winnerOf_25 ?_
        refine istore_n_4_2 (pc := 26) g dX8_winnerOf_26 ?_
        refine iinc_4_3_1 (pc := 27) g dX8_winnerOf_27 ?_
        refine j_goto (pc := 30) g 13 dX8_winnerOf_30 (by decide) ?_
        exact (by have q9 := ih (k + 1) (by omega); rw [← nI_1 k, ldC] at q9; exact q9)
    exact L13 5 0 rfl
  · refine j_iconst (pc := 7) g (-1) dX8_winnerOf_7 (by decide) ?_
    exact j_iret (pc := 8) g r rfl rfl (xq_i (by rw [hwn, if_pos (by grind [b01])]) rfl) dX8_winnerOf_8 (Nat.le_of_ble_eq_true rfl) (Nat.le_of_ble_eq_true rfl)
