theorem astore_n_4_3 {X : JC} {cc : ByteArray} {own : String} {Ts : List Cond} {cells slots pc : Nat} {rm : Room} {M : MH} {st : List Value} {a0 a1 a2 a3 : Option Value} (g : jG X cc own Ts 4 rm) {x : Nat} (hd : decode cc pc = .ok (.astore_n 3, 1)) (k : J X 4 cells slots M [a0, a1, a2, some (.ref x)] st (pc + 1)) : J X 4 cells slots M [a0, a1, a2, a3] (.ref x :: st) pc := j_astore_n g 3 hd rfl (Nat.le_of_ble_eq_true rfl) k
theorem astore_nN_4_3 {X : JC} {cc : ByteArray} {own : String} {Ts : List Cond} {cells slots pc : Nat} {rm : Room} {M : MH} {st : List Value} {a0 a1 a2 a3 : Option Value} (g : jG X cc own Ts 4 rm) (hd : decode cc pc = .ok (.astore_n 3, 1)) (k : J X 4 cells slots M [a0, a1, a2, some (.null)] st (pc + 1)) : J X 4 cells slots M [a0, a1, a2, a3] (.null :: st) pc := j_astore_nN g 3 hd rfl (Nat.le_of_ble_eq_true rfl) k
theorem iinc_4_2_1 {X : JC} {cc : ByteArray} {own : String} {Ts : List Cond} {cells slots pc : Nat} {rm : Room} {M : MH} {st : List Value} {a0 a1 a3 : Option Value} (g : jG X cc own Ts 4 rm) {x : Int32} (hd : decode cc pc = .ok (.iinc 2 1, 3)) (k : J X 4 cells slots M [a0, a1, some (.int (x + 1)), a3] st (pc + 3)) : J X 4 cells slots M [a0, a1, some (.int x), a3] st pc := j_iinc g (x + 1) hd rfl rfl k
theorem inwX2_X8_paper : ∀ w ∈ wsX20, w ∈ wsX8_paper := fun w h => List.mem_cons_of_mem _ (List.mem_append_left _ (List.mem_append_left _ (List.mem_append_left _ (List.mem_append_right _ h))))
theorem inwX8_X8_won : ∀ w ∈ wsX80, w ∈ wsX8_won := fun w h => List.mem_cons_of_mem _ (List.mem_append_left _ (List.mem_append_left _ (List.mem_append_left _ (List.mem_append_left _ (List.mem_append_left _ (List.mem_append_left _ (List.mem_append_right _ h)))))))
theorem atX8_paper_55 : ∀ w ∈ (vx_atS RX8 55 eIA eNs).filter goodWord, w ∈ wsX8_paper := fun w h => List.mem_cons_of_mem _ (List.mem_append_right _ h)
theorem atX8_paper_100 : ∀ w ∈ (vx_atS RX8 100 eIO eNs).filter goodWord, w ∈ wsX8_paper := fun w h => List.mem_cons_of_mem _ (List.mem_append_left _ (List.mem_append_right _ h))
theorem atX8_won_100 : ∀ w ∈ (vx_atS RX8 100 eIO eNs).filter goodWord, w ∈ wsX8_won := fun w h => List.mem_cons_of_mem _ (List.mem_append_right _ h)

set_option maxHeartbeats 400000 in
set_option maxRecDepth 100000 in
theorem k_paper (l : Launch) (D : va_G) (hst : l.stackTraces = false) (M : MH) (x : Nat) (al : Nat → Nat → Nat) (S : ST) (d ns nd : Nat) (hc : CRep M x al S d ns nd) (its w : Int32) : xT l D yX8_paper wsX8_paper ({ frames := 6, cells := 1, slots := 6, locals := 96 }) 1 6 [.ref x, .int its, .int w] (M) (fun v M' => tPaper its w = 0 ∧ v = some (.int (vPaper S its w)) ∧ M' = M) (fun E M' => xE (tPaper its w) eIO eIA "" E ∧ M' = M) := by
  refine xT_of (cc := cX8_paper) (maxL := 4) (ret := (some .int)) (own := RX8) hst [some (.ref x), some (.int its), some (.int w), none] (by decide) rfl rfl (Nat.le_of_ble_eq_true rfl) rfl rfl rfl ?_
  intro X hXl hXD g r t
  subst hXl
  subst hXD
  have inX2 : ∀ w ∈ wsX20, w ∈ wsX8_paper := inwX2_X8_paper
  have hc0 := hc
  obtain ⟨⟨hx, hT0, hT1, hT2, hT3, hT4⟩, hP, hY, hJ, hG, hD, hW⟩ := hc
  refine j_aload_n (pc := 0) g 0 dX8_paper_0 rfl rfl ?_
  refine j_iload_n (pc := 1) g 1 dX8_paper_1 rfl rfl ?_
  refine j_cVr (pc := 2) (n := 1) g (c_paperAt (jl X) (jD X) M x _ _ _ _ _ _ _ _ _ _ hx (rowF (al 1) 3) hT1 _) dX8_paper_2 (hx) rfl gX8_paper_X8_paperAt rfl rfl rfl rfl ⟨rfl, by decide, by decide, by decide +kernel⟩ ⟨Nat.le_of_ble_eq_true rfl, Nat.le_of_ble_eq_true rfl⟩ ⟨Nat.le_of_ble_eq_true rfl, Nat.le_of_ble_eq_true rfl⟩ rfl (Nat.le_of_ble_eq_true rfl) ?_
  rcases at_or (g := al 1) (n := 3) (m := 3) (i := its) (by decide) (by decide) with ⟨hdu, hix, hlt, e1⟩ | ⟨hdu, e1⟩
  · rw [e1]
    have hin : iN its 0 2 := hdu
    have hpc := hP.1 _ hlt
    refine astore_n_4_3 (pc := 5) g dX8_paper_5 ?_
    refine j_aload_n (pc := 6) g 3 dX8_paper_6 rfl rfl ?_
    refine j_ifnonnull (pc := 7) g 20 dX8_paper_7 (by decide) ?_
    refine j_iload_n (pc := 20) g 2 dX8_paper_20 rfl rfl ?_
    rcases lk2 w with rfl | rfl | ⟨hw0, hw1, hwo⟩
    · refine j_lookup (pc := 21) g (27) 48 dX8_paper_21 (by decide) (by decide) (by decide) ?_
      refine j_aload_n (pc := 48) g 3 dX8_paper_48 rfl rfl ?_
      refine j_get (pc := 49) g dX8_paper_49 (hpc) rfl inX2 0 (by decide) (by decide +kernel) rfl rfl ?_
      exact j_iret (pc := 52) g r rfl rfl (⟨by unfold tPaper; rw [if_neg (not_not_intro hin), if_neg (not_not_intro (by decide))], rfl, rfl⟩) dX8_paper_52 (Nat.le_of_ble_eq_true rfl) (Nat.le_of_ble_eq_true rfl)
    · refine j_lookup (pc := 21) g (32) 53 dX8_paper_21 (by decide) (by decide) (by decide) ?_
      refine j_aload_n (pc := 53) g 3 dX8_paper_53 rfl rfl ?_
      refine j_get (pc := 54) g dX8_paper_54 (hpc) rfl inX2 1 (by decide) (by decide +kernel) rfl rfl ?_
      exact j_iret (pc := 57) g r rfl rfl (⟨by unfold tPaper; rw [if_neg (not_not_intro hin), if_neg (not_not_intro (by decide))], rfl, rfl⟩) dX8_paper_57 (Nat.le_of_ble_eq_true rfl) (Nat.le_of_ble_eq_true rfl)
    · refine j_lookup (pc := 21) g (37) 58 dX8_paper_21 (by decide) (hwo) (by decide) ?_
      exact j_throwSW (pc := 58) g t "java/lang/IllegalArgumentException" "what is out of range" dX8_paper_58 dX8_paper_61 dX8_paper_62 dX8_paper_65 dX8_paper_68 rfl (by decide +kernel) (by decide) (by decide +kernel) (by decide +kernel) atX8_paper_55 atB_55 atG_55 (Nat.le_of_ble_eq_true rfl) (Nat.le_of_ble_eq_true rfl) (Nat.le_of_ble_eq_true rfl) (Nat.le_of_ble_eq_true rfl) (Nat.le_of_ble_eq_true rfl) (Nat.le_of_ble_eq_true rfl) (⟨Or.inr (Or.inl ⟨by unfold tPaper; rw [if_neg (not_not_intro hin), if_pos (lk2n hw0 hw1)], rfl⟩), rfl⟩)
  · rw [e1]
    have hnin : ¬ iN its 0 2 := hdu
    refine astore_nN_4_3 (pc := 5) g dX8_paper_5 ?_
    refine j_aload_nN (pc := 6) g 3 dX8_paper_6 rfl rfl ?_
    refine j_ifnonnullN (pc := 7) g dX8_paper_7 ?_
    exact j_throwS (pc := 10) g t "java/lang/IndexOutOfBoundsException" "no such paper" dX8_paper_10 dX8_paper_13 dX8_paper_14 dX8_paper_16 dX8_paper_19 rfl (by decide +kernel) (by decide) (by decide +kernel) (by decide +kernel) atX8_paper_100 atB_100 atG_100 (Nat.le_of_ble_eq_true rfl) (Nat.le_of_ble_eq_true rfl) (Nat.le_of_ble_eq_true rfl) (Nat.le_of_ble_eq_true rfl) (Nat.le_of_ble_eq_true rfl) (Nat.le_of_ble_eq_true rfl) (⟨Or.inl ⟨by unfold tPaper; rw [if_pos hnin], rfl⟩, rfl⟩)

set_option maxHeartbeats 400000 in
set_option maxRecDepth 100000 in
theorem k_won (l : Launch) (D : va_G) (hst : l.stackTraces = false) (M : MH) (x : Nat) (al : Nat → Nat → Nat) (S : ST) (d ns nd : Nat) (hc : CRep M x al S d ns nd) (hnd : S 12 0 = nI nd) (hnd12 : nd ≤ 12) (hq : ∀ i, i < nd → mHd S ns i) (hkk : mMK S ns) (w : Int32) : xT l D yX8_won wsX8_won ({ frames := 6, cells := 1, slots := 6, locals := 144 }) 1 6 [.ref x, .int w] (M) (fun v M' => tWon w = 0 ∧ v = some (.int (cntW S w nd)) ∧ M' = M) (fun E M' => xE (tWon w) eIO "" "" E ∧ M' = M) := by
  refine xT_of (cc := cX8_won) (maxL := 4) (ret := (some .int)) (own := RX8) hst [some (.ref x), some (.int w), none, none] (by decide) rfl rfl (Nat.le_of_ble_eq_true rfl) rfl rfl rfl ?_
  intro X hXl hXD g r t
  subst hXl
  subst hXD
  have inX8 : ∀ w ∈ wsX80, w ∈ wsX8_won := inwX8_X8_won
  have hc0 := hc
  obtain ⟨⟨hx, hT0, hT1, hT2, hT3, hT4⟩, hP, hY, hJ, hG, hD, hW⟩ := hc
  refine j_iload_n (pc := 0) g 1 dX8_won_0 rfl rfl ?_
  refine j_cSi (pc := 1) (n := 1) g (c_isWriter (jl X) (jD X) _ _) dX8_won_1 gX8_won_X8_isWriter rfl rfl rfl rfl ⟨by decide, by decide, by decide +kernel⟩ ⟨Nat.le_of_ble_eq_true rfl, Nat.le_of_ble_eq_true rfl⟩ ⟨Nat.le_of_ble_eq_true rfl, Nat.le_of_ble_eq_true rfl⟩ rfl (Nat.le_of_ble_eq_true rfl) ?_
  refine j_if_ne (pc := 4) g 17 dX8_won_4 (by decide) (fun c4 => ?_) (fun c4 => ?_)
  · refine j_iconst (pc := 17) g (0) dX8_won_17 (by decide) ?_
    refine istore_n_4_2 (pc := 18) g dX8_won_18 ?_
    refine j_iconst (pc := 19) g (0) dX8_won_19 (by decide) ?_
    refine istore_n_4_3 (pc := 20) g dX8_won_20 ?_
    have L21 : ∀ (n : Nat) (k : Nat) (hk : k + n = 12), J X 4 0 0 (M) [some (.ref x), some (.int w), some (.int (cntW S w (min k nd))), some (.int (nI k))] [] 21 := by
      intro n
      induction n with
      | zero =>
        intro k hk
        have hk12 : k = 12 := by omega
        subst hk12
        have hkm : min 12 nd = nd := by omega
        refine j_iload_n (pc := 21) g 3 dX8_won_21 rfl rfl ?_
        refine j_aload_n (pc := 22) g 0 dX8_won_22 rfl rfl ?_
        refine j_get (pc := 23) g dX8_won_23 (hx) rfl inX8 4 (by decide) (by decide +kernel) rfl rfl ?_
        refine j_alen (pc := 26) g (nI 12) dX8_won_26 (hT4) rfl ?_
        refine j_icmp_ge (pc := 27) g 62 dX8_won_27 (by decide) (fun c27 => ?_) (fun c27 => absurd (by decide) c27)
        refine j_iload_n (pc := 62) g 2 dX8_won_62 rfl rfl ?_
        exact j_iret (pc := 63) g r rfl rfl (⟨by unfold tWon; rw [if_neg (by grind [b01])], by rw [hkm], rfl⟩) dX8_won_63 (Nat.le_of_ble_eq_true rfl) (Nat.le_of_ble_eq_true rfl)
      | succ n ih =>
        intro k hk
        refine j_iload_n (pc := 21) g 3 dX8_won_21 rfl rfl ?_
        refine j_aload_n (pc := 22) g 0 dX8_won_22 rfl rfl ?_
        refine j_get (pc := 23) g dX8_won_23 (hx) rfl inX8 4 (by decide) (by decide +kernel) rfl rfl ?_
        refine j_alen (pc := 26) g (nI 12) dX8_won_26 (hT4) rfl ?_
        refine j_icmp_ge (pc := 27) g 62 dX8_won_27 (by decide) (fun c27 => absurd c27 (nI_ge (by omega) (by omega))) (fun c27 => ?_)
        refine j_aload_n (pc := 30) g 0 dX8_won_30 rfl rfl ?_
        refine j_get (pc := 31) g dX8_won_31 (hx) rfl inX8 4 (by decide) (by decide +kernel) rfl rfl ?_
        refine j_iload_n (pc := 34) g 3 dX8_won_34 rfl rfl ?_
        refine j_aald (pc := 35) g dX8_won_35 (hT4) rfl (vp_in_nI (by omega) (by omega)) ?_
        rw [nI_clamp (by omega : k < 2 ^ 31)]
        rcases Decidable.em (k < nd) with hkn | hkn
        · rw [rowF_in hkn]
          have hk1 : min (k + 1) nd = k + 1 := by omega
          have hk0 : min k nd = k := by omega
          rw [hk0]
          refine j_ifnull (pc := 36) g dX8_won_36 ?_
          refine j_aload_n (pc := 39) g 0 dX8_won_39 rfl rfl ?_
          refine j_aload_n (pc := 40) g 0 dX8_won_40 rfl rfl ?_
          refine j_get (pc := 41) g dX8_won_41 (hx) rfl inX8 4 (by decide) (by decide +kernel) rfl rfl ?_
          refine j_iload_n (pc := 44) g 3 dX8_won_44 rfl rfl ?_
          refine j_aald (pc := 45) g dX8_won_45 (hT4) rfl (vp_in_nI (by omega) (by omega)) ?_
          rw [nI_clamp (by omega : k < 2 ^ 31), rowF_in hkn]
          refine j_cVi (pc := 46) (n := 1) g (c_winnerOf (jl X) (jD X) M x al S d ns nd hc0 k hkn (hq k hkn) hkk) dX8_won_46 (hx) rfl gX8_won_X8_winnerOf rfl rfl rfl rfl ⟨rfl, by decide, by decide, by decide +kernel⟩ ⟨Nat.le_of_ble_eq_true rfl, Nat.le_of_ble_eq_true rfl⟩ ⟨Nat.le_of_ble_eq_true rfl, Nat.le_of_ble_eq_true rfl⟩ rfl (Nat.le_of_ble_eq_true rfl) ?_
          refine j_iload_n (pc := 49) g 1 dX8_won_49 rfl rfl ?_
          refine j_icmp_ne (pc := 50) g 56 dX8_won_50 (by decide) (fun c50 => ?_) (fun c50 => ?_)
          · refine iinc_4_3_1 (pc := 56) g dX8_won_56 ?_
            refine j_goto (pc := 59) g 21 dX8_won_59 (by decide) ?_
            exact (by have q9 := ih (k + 1) (by omega); rw [hk1, ← nI_1 k] at q9; first | (rw [cntW, if_pos c50] at q9; exact q9) | (rw [cntW, if_pos (Decidable.not_not.mp c50)] at q9; exact q9) | (rw [cntW, if_neg c50, Int32.add_zero] at q9; exact q9) | exact q9)
          · refine iinc_4_2_1 (pc := 53) g dX8_won_53 ?_
            refine iinc_4_3_1 (pc := 56) g dX8_won_56 ?_
            refine j_goto (pc := 59) g 21 dX8_won_59 (by decide) ?_
            exact (by have q9 := ih (k + 1) (by omega); rw [hk1, ← nI_1 k] at q9; first | (rw [cntW, if_pos c50] at q9; exact q9) | (rw [cntW, if_pos (Decidable.not_not.mp c50)] at q9; exact q9) | (rw [cntW, if_neg c50, Int32.add_zero] at q9; exact q9) | exact q9)
        · rw [rowF_out hkn]
          have hk1 : min (k + 1) nd = min k nd := by omega
          refine j_ifnullN (pc := 36) g 56 dX8_won_36 (by decide) ?_
          refine iinc_4_3_1 (pc := 56) g dX8_won_56 ?_
          refine j_goto (pc := 59) g 21 dX8_won_59 (by decide) ?_
          exact (by have q9 := ih (k + 1) (by omega); rw [hk1, ← nI_1 k] at q9; first | (rw [cntW, if_pos c50] at q9; exact q9) | (rw [cntW, if_pos (Decidable.not_not.mp c50)] at q9; exact q9) | (rw [cntW, if_neg c50, Int32.add_zero] at q9; exact q9) | exact q9)
    exact L21 12 0 rfl
  · exact j_throwS (pc := 7) g t "java/lang/IndexOutOfBoundsException" "no such writer" dX8_won_7 dX8_won_10 dX8_won_11 dX8_won_13 dX8_won_16 rfl (by decide +kernel) (by decide) (by decide +kernel) (by decide +kernel) atX8_won_100 atB_100 atG_100 (Nat.le_of_ble_eq_true rfl) (Nat.le_of_ble_eq_true rfl) (Nat.le_of_ble_eq_true rfl) (Nat.le_of_ble_eq_true rfl) (Nat.le_of_ble_eq_true rfl) (Nat.le_of_ble_eq_true rfl) (⟨Or.inl ⟨by unfold tWon; rw [if_pos (by grind [b01])], rfl⟩, rfl⟩)
