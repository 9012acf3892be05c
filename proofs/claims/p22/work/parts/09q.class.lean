theorem astore_6_4 {X : JC} {cc : ByteArray} {own : String} {Ts : List Cond} {cells slots pc : Nat} {rm : Room} {M : MH} {st : List Value} {a0 a1 a2 a3 a4 a5 : Option Value} (g : jG X cc own Ts 6 rm) {x : Nat} (hd : decode cc pc = .ok (.astore 4, 2)) (k : J X 6 cells slots M [a0, a1, a2, a3, some (.ref x), a5] st (pc + 2)) : J X 6 cells slots M [a0, a1, a2, a3, a4, a5] (.ref x :: st) pc := j_astore g hd (Nat.le_of_ble_eq_true rfl) k
theorem astore_6_5 {X : JC} {cc : ByteArray} {own : String} {Ts : List Cond} {cells slots pc : Nat} {rm : Room} {M : MH} {st : List Value} {a0 a1 a2 a3 a4 a5 : Option Value} (g : jG X cc own Ts 6 rm) {x : Nat} (hd : decode cc pc = .ok (.astore 5, 2)) (k : J X 6 cells slots M [a0, a1, a2, a3, a4, some (.ref x)] st (pc + 2)) : J X 6 cells slots M [a0, a1, a2, a3, a4, a5] (.ref x :: st) pc := j_astore g hd (Nat.le_of_ble_eq_true rfl) k
theorem astoreN_6_4 {X : JC} {cc : ByteArray} {own : String} {Ts : List Cond} {cells slots pc : Nat} {rm : Room} {M : MH} {st : List Value} {a0 a1 a2 a3 a4 a5 : Option Value} (g : jG X cc own Ts 6 rm) (hd : decode cc pc = .ok (.astore 4, 2)) (k : J X 6 cells slots M [a0, a1, a2, a3, some (.null), a5] st (pc + 2)) : J X 6 cells slots M [a0, a1, a2, a3, a4, a5] (.null :: st) pc := j_astoreN g hd (Nat.le_of_ble_eq_true rfl) k
theorem astoreN_6_5 {X : JC} {cc : ByteArray} {own : String} {Ts : List Cond} {cells slots pc : Nat} {rm : Room} {M : MH} {st : List Value} {a0 a1 a2 a3 a4 a5 : Option Value} (g : jG X cc own Ts 6 rm) (hd : decode cc pc = .ok (.astore 5, 2)) (k : J X 6 cells slots M [a0, a1, a2, a3, a4, some (.null)] st (pc + 2)) : J X 6 cells slots M [a0, a1, a2, a3, a4, a5] (.null :: st) pc := j_astoreN g hd (Nat.le_of_ble_eq_true rfl) k
theorem inwX0_X8_of : ∀ w ∈ wsX00, w ∈ wsX8_of := fun w h => List.mem_cons_of_mem _ (List.mem_append_left _ (List.mem_append_left _ (List.mem_append_left _ (List.mem_append_left _ (List.mem_append_left _ (List.mem_append_left _ (List.mem_append_left _ (List.mem_append_right _ h))))))))
theorem atX8_marked_100 : ∀ w ∈ (vx_atS RX8 100 eIO eNs).filter goodWord, w ∈ wsX8_marked := fun w h => List.mem_cons_of_mem _ (List.mem_append_right _ h)
theorem atX8_of_55 : ∀ w ∈ (vx_atS RX8 55 eIA eNs).filter goodWord, w ∈ wsX8_of := fun w h => List.mem_cons_of_mem _ (List.mem_append_right _ h)
theorem atX8_of_100 : ∀ w ∈ (vx_atS RX8 100 eIO eNs).filter goodWord, w ∈ wsX8_of := fun w h => List.mem_cons_of_mem _ (List.mem_append_left _ (List.mem_append_right _ h))

set_option maxHeartbeats 400000 in
set_option maxRecDepth 100000 in
theorem k_of (l : Launch) (D : va_G) (hst : l.stackTraces = false) (M : MH) (x : Nat) (al : Nat → Nat → Nat) (S : ST) (d ns nd : Nat) (hc : CRep M x al S d ns nd) (hnd : S 12 0 = nI nd) (hnd12 : nd ≤ 12) (hq : ∀ i, i < nd → mHd S ns i) (hkk : mMK S ns) (its w : Int32) : xT l D yX8_of wsX8_of ({ frames := 6, cells := 1, slots := 6, locals := 145 }) 1 6 [.ref x, .int its, .int w] (M) (fun v M' => tOf S its w = 0 ∧ v = some (.int (vOf S (ix its) w)) ∧ M' = M) (fun E M' => xE (tOf S its w) eIO eIA "" E ∧ M' = M) := by
  refine xT_of (cc := cX8_of) (maxL := 4) (ret := (some .int)) (own := RX8) hst [some (.ref x), some (.int its), some (.int w), none] (by decide) rfl rfl (Nat.le_of_ble_eq_true rfl) rfl rfl rfl ?_
  intro X hXl hXD g r t
  subst hXl
  subst hXD
  have inX0 : ∀ w ∈ wsX00, w ∈ wsX8_of := inwX0_X8_of
  have hc0 := hc
  obtain ⟨⟨hx, hT0, hT1, hT2, hT3, hT4⟩, hP, hY, hJ, hG, hD, hW⟩ := hc
  refine j_aload_n (pc := 0) g 0 dX8_of_0 rfl rfl ?_
  refine j_iload_n (pc := 1) g 1 dX8_of_1 rfl rfl ?_
  refine j_cVr (pc := 2) (n := 1) g (c_duelAt (jl X) (jD X) M x _ _ _ _ _ _ _ _ _ _ hx (rowF (al 7) nd) hT4 _) dX8_of_2 (hx) rfl gX8_of_X8_duelAt rfl rfl rfl rfl ⟨rfl, by decide, by decide, by decide +kernel⟩ ⟨Nat.le_of_ble_eq_true rfl, Nat.le_of_ble_eq_true rfl⟩ ⟨Nat.le_of_ble_eq_true rfl, Nat.le_of_ble_eq_true rfl⟩ rfl (Nat.le_of_ble_eq_true rfl) ?_
  rcases at_or (g := al 7) (i := its) hnd12 (by decide) with ⟨hdu, hix, hlt, e1⟩ | ⟨hdu, e1⟩
  · rw [e1]
    have hdS : isDu S its := by unfold isDu; rw [hnd]; exact hdu
    obtain ⟨hd, ⟨fp, hfp, hfv⟩, hdw⟩ := hD.1 _ hlt
    have hqi := hq _ hlt
    refine astore_n_4_3 (pc := 5) g dX8_of_5 ?_
    refine j_aload_n (pc := 6) g 3 dX8_of_6 rfl rfl ?_
    refine j_ifnonnull (pc := 7) g 20 dX8_of_7 (by decide) ?_
    refine j_iload_n (pc := 20) g 2 dX8_of_20 rfl rfl ?_
    rcases i5_or w with rfl | rfl | rfl | rfl | rfl | rfl | ⟨hw, hwo⟩
    · refine j_tableIn (pc := 21) g (39) 60 dX8_of_21 (by decide) (by decide) (by decide) (by decide) ?_
      refine j_aload_n (pc := 60) g 3 dX8_of_60 rfl rfl ?_
      refine j_get (pc := 61) g dX8_of_61 (hd) rfl inX0 8 (by decide) (by decide +kernel) rfl rfl ?_
      exact j_iret (pc := 64) g r rfl rfl (⟨by unfold tOf; rw [if_neg (not_not_intro (hdS)), if_neg (not_not_intro (by decide))], congrArg (fun z => some (Value.int z)) vOf_0.symm, rfl⟩) dX8_of_64 (Nat.le_of_ble_eq_true rfl) (Nat.le_of_ble_eq_true rfl)
    · refine j_tableIn (pc := 21) g (44) 65 dX8_of_21 (by decide) (by decide) (by decide) (by decide) ?_
      refine j_aload_n (pc := 65) g 0 dX8_of_65 rfl rfl ?_
      refine j_aload_n (pc := 66) g 3 dX8_of_66 rfl rfl ?_
      refine j_iconst (pc := 67) g (1) dX8_of_67 (by decide) ?_
      refine j_cVi (pc := 68) (n := 2) g (c_countRounds (jl X) (jD X) M x al S d ns nd hc0 (ix its) hlt hqi hkk 1) dX8_of_68 (hx) rfl gX8_of_X8_countRounds rfl rfl rfl rfl ⟨rfl, by decide, by decide, by decide +kernel⟩ ⟨Nat.le_of_ble_eq_true rfl, Nat.le_of_ble_eq_true rfl⟩ ⟨Nat.le_of_ble_eq_true rfl, Nat.le_of_ble_eq_true rfl⟩ rfl (Nat.le_of_ble_eq_true rfl) ?_
      exact j_iret (pc := 71) g r rfl rfl (⟨by unfold tOf; rw [if_neg (not_not_intro (hdS)), if_neg (not_not_intro (by decide))], congrArg (fun z => some (Value.int z)) (vOf_1 hqi.1).symm, rfl⟩) dX8_of_71 (Nat.le_of_ble_eq_true rfl) (Nat.le_of_ble_eq_true rfl)
    · refine j_tableIn (pc := 21) g (51) 72 dX8_of_21 (by decide) (by decide) (by decide) (by decide) ?_
      refine j_aload_n (pc := 72) g 0 dX8_of_72 rfl rfl ?_
      refine j_aload_n (pc := 73) g 3 dX8_of_73 rfl rfl ?_
      refine j_iconst (pc := 74) g (-1) dX8_of_74 (by decide) ?_
      refine j_cVi (pc := 75) (n := 2) g (c_countRounds (jl X) (jD X) M x al S d ns nd hc0 (ix its) hlt hqi hkk (-1)) dX8_of_75 (hx) rfl gX8_of_X8_countRounds rfl rfl rfl rfl ⟨rfl, by decide, by decide, by decide +kernel⟩ ⟨Nat.le_of_ble_eq_true rfl, Nat.le_of_ble_eq_true rfl⟩ ⟨Nat.le_of_ble_eq_true rfl, Nat.le_of_ble_eq_true rfl⟩ rfl (Nat.le_of_ble_eq_true rfl) ?_
      exact j_iret (pc := 78) g r rfl rfl (⟨by unfold tOf; rw [if_neg (not_not_intro (hdS)), if_neg (not_not_intro (by decide))], congrArg (fun z => some (Value.int z)) (vOf_2 hqi.1).symm, rfl⟩) dX8_of_78 (Nat.le_of_ble_eq_true rfl) (Nat.le_of_ble_eq_true rfl)
    · refine j_tableIn (pc := 21) g (58) 79 dX8_of_21 (by decide) (by decide) (by decide) (by decide) ?_
      refine j_aload_n (pc := 79) g 0 dX8_of_79 rfl rfl ?_
      refine j_aload_n (pc := 80) g 3 dX8_of_80 rfl rfl ?_
      refine j_cVi (pc := 81) (n := 1) g (c_winnerOf (jl X) (jD X) M x al S d ns nd hc0 (ix its) hlt hqi hkk) dX8_of_81 (hx) rfl gX8_of_X8_winnerOf rfl rfl rfl rfl ⟨rfl, by decide, by decide, by decide +kernel⟩ ⟨Nat.le_of_ble_eq_true rfl, Nat.le_of_ble_eq_true rfl⟩ ⟨Nat.le_of_ble_eq_true rfl, Nat.le_of_ble_eq_true rfl⟩ rfl (Nat.le_of_ble_eq_true rfl) ?_
      exact j_iret (pc := 84) g r rfl rfl (⟨by unfold tOf; rw [if_neg (not_not_intro (hdS)), if_neg (not_not_intro (by decide))], congrArg (fun z => some (Value.int z)) vOf_3.symm, rfl⟩) dX8_of_84 (Nat.le_of_ble_eq_true rfl) (Nat.le_of_ble_eq_true rfl)
    · refine j_tableIn (pc := 21) g (64) 85 dX8_of_21 (by decide) (by decide) (by decide) (by decide) ?_
      refine j_aload_n (pc := 85) g 3 dX8_of_85 rfl rfl ?_
      refine j_get (pc := 86) g dX8_of_86 (hd) rfl inX0 4 (by decide) (by decide +kernel) rfl rfl ?_
      exact j_iret (pc := 89) g r rfl rfl (⟨by unfold tOf; rw [if_neg (not_not_intro (hdS)), if_neg (not_not_intro (by decide))], congrArg (fun z => some (Value.int z)) vOf_4.symm, rfl⟩) dX8_of_89 (Nat.le_of_ble_eq_true rfl) (Nat.le_of_ble_eq_true rfl)
    · refine j_tableIn (pc := 21) g (69) 90 dX8_of_21 (by decide) (by decide) (by decide) (by decide) ?_
      refine j_aload_n (pc := 90) g 3 dX8_of_90 rfl rfl ?_
      refine j_get (pc := 91) g dX8_of_91 (hd) rfl inX0 9 (by decide) (by decide +kernel) rfl rfl ?_
      exact j_iret (pc := 94) g r rfl rfl (⟨by unfold tOf; rw [if_neg (not_not_intro (hdS)), if_neg (not_not_intro (by decide))], congrArg (fun z => some (Value.int z)) vOf_5.symm, rfl⟩) dX8_of_94 (Nat.le_of_ble_eq_true rfl) (Nat.le_of_ble_eq_true rfl)
    · refine j_tableOut (pc := 21) g 95 dX8_of_21 (hwo) (by decide) ?_
      exact j_throwSW (pc := 95) g t "java/lang/IllegalArgumentException" "what is out of range" dX8_of_95 dX8_of_98 dX8_of_99 dX8_of_102 dX8_of_105 rfl (by decide +kernel) (by decide) (by decide +kernel) (by decide +kernel) atX8_of_55 atB_55 atG_55 (Nat.le_of_ble_eq_true rfl) (Nat.le_of_ble_eq_true rfl) (Nat.le_of_ble_eq_true rfl) (Nat.le_of_ble_eq_true rfl) (Nat.le_of_ble_eq_true rfl) (Nat.le_of_ble_eq_true rfl) (⟨Or.inr (Or.inl ⟨by unfold tOf; rw [if_neg (not_not_intro hdS), if_pos hw], rfl⟩), rfl⟩)
  · rw [e1]
    have hdN : ¬ isDu S its := by unfold isDu; rw [hnd]; exact hdu
    refine astore_nN_4_3 (pc := 5) g dX8_of_5 ?_
    refine j_aload_nN (pc := 6) g 3 dX8_of_6 rfl rfl ?_
    refine j_ifnonnullN (pc := 7) g dX8_of_7 ?_
    exact j_throwS (pc := 10) g t "java/lang/IndexOutOfBoundsException" "no such duel" dX8_of_10 dX8_of_13 dX8_of_14 dX8_of_16 dX8_of_19 rfl (by decide +kernel) (by decide) (by decide +kernel) (by decide +kernel) atX8_of_100 atB_100 atG_100 (Nat.le_of_ble_eq_true rfl) (Nat.le_of_ble_eq_true rfl) (Nat.le_of_ble_eq_true rfl) (Nat.le_of_ble_eq_true rfl) (Nat.le_of_ble_eq_true rfl) (Nat.le_of_ble_eq_true rfl) (⟨Or.inl ⟨by unfold tOf; rw [if_pos hdN], rfl⟩, rfl⟩)

set_option maxHeartbeats 400000 in
set_option maxRecDepth 100000 in
theorem k_marked (l : Launch) (D : va_G) (hst : l.stackTraces = false) (M : MH) (x : Nat) (al : Nat → Nat → Nat) (S : ST) (d ns nd : Nat) (hc : CRep M x al S d ns nd) (hnd : S 12 0 = nI nd) (hnd12 : nd ≤ 12) (hq : ∀ i, i < nd → mHd S ns i) (hkk : mMK S ns) (its k o : Int32) : xT l D yX8_marked wsX8_marked ({ frames := 6, cells := 1, slots := 6, locals := 96 }) 1 6 [.ref x, .int its, .int k, .int o] (M) (fun v M' => tMarked S its k o = 0 ∧ v = some (.float (allS S (ix its) (wI (ix its) (ix k) o))) ∧ M' = M) (fun E M' => xE (tMarked S its k o) eIO "" "" E ∧ M' = M) := by
  refine xT_of (cc := cX8_marked) (maxL := 6) (ret := (some .float)) (own := RX8) hst [some (.ref x), some (.int its), some (.int k), some (.int o), none, none] (by decide) rfl rfl (Nat.le_of_ble_eq_true rfl) rfl rfl rfl ?_
  intro X hXl hXD g r t
  subst hXl
  subst hXD
  have hc0 := hc
  obtain ⟨⟨hx, hT0, hT1, hT2, hT3, hT4⟩, hP, hY, hJ, hG, hD, hW⟩ := hc
  refine j_aload_n (pc := 0) g 0 dX8_marked_0 rfl rfl ?_
  refine j_iload_n (pc := 1) g 1 dX8_marked_1 rfl rfl ?_
  refine j_cVr (pc := 2) (n := 1) g (c_duelAt (jl X) (jD X) M x _ _ _ _ _ _ _ _ _ _ hx (rowF (al 7) nd) hT4 _) dX8_marked_2 (hx) rfl gX8_marked_X8_duelAt rfl rfl rfl rfl ⟨rfl, by decide, by decide, by decide +kernel⟩ ⟨Nat.le_of_ble_eq_true rfl, Nat.le_of_ble_eq_true rfl⟩ ⟨Nat.le_of_ble_eq_true rfl, Nat.le_of_ble_eq_true rfl⟩ rfl (Nat.le_of_ble_eq_true rfl) ?_
  rcases at_or (g := al 7) (i := its) hnd12 (by decide) with ⟨hdu, hix, hlt, e1⟩ | ⟨hdu, e1⟩
  · rw [e1]
    have hdS : isDu S its := by unfold isDu; rw [hnd]; exact hdu
    obtain ⟨hd, ⟨fp, hfp, hfv⟩, hdw⟩ := hD.1 _ hlt
    have hqi := hq _ hlt
    refine astore_6_4 (pc := 5) g dX8_marked_5 ?_
    refine j_aload (pc := 7) g dX8_marked_7 rfl ?_
    refine j_ifnonnull (pc := 9) g 16 dX8_marked_9 (by decide) ?_
    refine j_aload (pc := 16) g dX8_marked_16 rfl ?_
    refine j_iload_n (pc := 18) g 2 dX8_marked_18 rfl rfl ?_
    refine j_iload_n (pc := 19) g 3 dX8_marked_19 rfl rfl ?_
    refine j_cVr (pc := 20) (n := 2) g (c_writingAt (jl X) (jD X) M _ _ _ _ _ _ _ _ _ _ _ hd _ hdw k o) dX8_marked_20 (hd) rfl gX8_marked_X0_writingAt rfl rfl rfl rfl ⟨rfl, by decide, by decide, by decide +kernel⟩ ⟨Nat.le_of_ble_eq_true rfl, Nat.le_of_ble_eq_true rfl⟩ ⟨Nat.le_of_ble_eq_true rfl, Nat.le_of_ble_eq_true rfl⟩ rfl (Nat.le_of_ble_eq_true rfl) ?_
    rcases wa_or (g := fun j => al 10 (10 * ix its + j)) (k := k) (o := o) hqi.1 with ⟨hk, hk2, hkx, hk5, hkl, e2⟩ | ⟨hkn, e2⟩
    · rw [e2]
      refine astore_6_5 (pc := 23) g dX8_marked_23 ?_
      refine j_aload (pc := 25) g dX8_marked_25 rfl ?_
      refine j_ifnonnull (pc := 27) g 40 dX8_marked_27 (by decide) ?_
      refine j_aload_n (pc := 40) g 0 dX8_marked_40 rfl rfl ?_
      refine j_aload (pc := 41) g dX8_marked_41 rfl ?_
      refine j_aload (pc := 43) g dX8_marked_43 rfl ?_
      refine j_cVf (pc := 45) (n := 2) g (c_judgedMark (jl X) (jD X) M x al S d ns nd hc0 (ix its) (2 * ix k + ofI o) hlt hqi hkk hkl) dX8_marked_45 (hx) rfl gX8_marked_X8_judgedMark rfl rfl rfl rfl ⟨rfl, by decide, by decide, by decide +kernel⟩ ⟨Nat.le_of_ble_eq_true rfl, Nat.le_of_ble_eq_true rfl⟩ ⟨Nat.le_of_ble_eq_true rfl, Nat.le_of_ble_eq_true rfl⟩ rfl (Nat.le_of_ble_eq_true rfl) ?_
      exact j_fret (pc := 48) g r rfl  (⟨by unfold tMarked; rw [if_neg (not_not_intro (⟨hdS, hk, hk2⟩))], by unfold wI; rw [Nat.add_assoc], rfl⟩) dX8_marked_48 (Nat.le_of_ble_eq_true rfl) (Nat.le_of_ble_eq_true rfl)
    · rw [e2]
      refine astoreN_6_5 (pc := 23) g dX8_marked_23 ?_
      refine j_aloadN (pc := 25) g dX8_marked_25 rfl ?_
      refine j_ifnonnullN (pc := 27) g dX8_marked_27 ?_
      exact j_throwS (pc := 30) g t "java/lang/IndexOutOfBoundsException" "no such duel, or not handed in" dX8_marked_30 dX8_marked_33 dX8_marked_34 dX8_marked_36 dX8_marked_39 rfl (by decide +kernel) (by decide) (by decide +kernel) (by decide +kernel) atX8_marked_100 atB_100 atG_100 (Nat.le_of_ble_eq_true rfl) (Nat.le_of_ble_eq_true rfl) (Nat.le_of_ble_eq_true rfl) (Nat.le_of_ble_eq_true rfl) (Nat.le_of_ble_eq_true rfl) (Nat.le_of_ble_eq_true rfl) (⟨Or.inl ⟨by unfold tMarked; rw [if_pos (fun z => hkn z.2)], rfl⟩, rfl⟩)
  · rw [e1]
    have hdN : ¬ isDu S its := by unfold isDu; rw [hnd]; exact hdu
    refine astoreN_6_4 (pc := 5) g dX8_marked_5 ?_
    refine j_aloadN (pc := 7) g dX8_marked_7 rfl ?_
    refine j_ifnonnullN (pc := 9) g dX8_marked_9 ?_
    refine j_aconst_null (pc := 12) g dX8_marked_12 ?_
    refine j_goto (pc := 13) g 23 dX8_marked_13 (by decide) ?_
    refine astoreN_6_5 (pc := 23) g dX8_marked_23 ?_
    refine j_aloadN (pc := 25) g dX8_marked_25 rfl ?_
    refine j_ifnonnullN (pc := 27) g dX8_marked_27 ?_
    exact j_throwS (pc := 30) g t "java/lang/IndexOutOfBoundsException" "no such duel, or not handed in" dX8_marked_30 dX8_marked_33 dX8_marked_34 dX8_marked_36 dX8_marked_39 rfl (by decide +kernel) (by decide) (by decide +kernel) (by decide +kernel) atX8_marked_100 atB_100 atG_100 (Nat.le_of_ble_eq_true rfl) (Nat.le_of_ble_eq_true rfl) (Nat.le_of_ble_eq_true rfl) (Nat.le_of_ble_eq_true rfl) (Nat.le_of_ble_eq_true rfl) (Nat.le_of_ble_eq_true rfl) (⟨Or.inl ⟨by unfold tMarked; rw [if_pos (fun z => hdN z.1)], rfl⟩, rfl⟩)
