theorem fstore_n_5_3 {X : JC} {cc : ByteArray} {own : String} {Ts : List Cond} {cells slots pc : Nat} {rm : Room} {M : MH} {st : List Value} {a0 a1 a2 a3 a4 : Option Value} (g : jG X cc own Ts 5 rm) {x : UInt32} (hd : decode cc pc = .ok (.fstore_n 3, 1)) (k : J X 5 cells slots M [a0, a1, a2, some (.float x), a4] st (pc + 1)) : J X 5 cells slots M [a0, a1, a2, a3, a4] (.float x :: st) pc := j_fstore_n g 3 hd rfl (Nat.le_of_ble_eq_true rfl) k
theorem iinc_7_5_1 {X : JC} {cc : ByteArray} {own : String} {Ts : List Cond} {cells slots pc : Nat} {rm : Room} {M : MH} {st : List Value} {a0 a1 a2 a3 a4 a6 : Option Value} (g : jG X cc own Ts 7 rm) {x : Int32} (hd : decode cc pc = .ok (.iinc 5 1, 3)) (k : J X 7 cells slots M [a0, a1, a2, a3, a4, some (.int (x + 1)), a6] st (pc + 3)) : J X 7 cells slots M [a0, a1, a2, a3, a4, some (.int x), a6] st pc := j_iinc g (x + 1) hd rfl rfl k
theorem inwX0_X8_judgedMark : ∀ w ∈ wsX00, w ∈ wsX8_judgedMark := fun w h => List.mem_cons_of_mem _ (List.mem_append_left _ (List.mem_append_left _ (List.mem_append_left _ (List.mem_append_left _ (List.mem_append_left _ (List.mem_append_right _ h))))))
theorem inwX8_X8_judgedMark : ∀ w ∈ wsX80, w ∈ wsX8_judgedMark := fun w h => List.mem_cons_of_mem _ (List.mem_append_left _ (List.mem_append_left _ (List.mem_append_left _ (List.mem_append_left _ (List.mem_append_right _ h)))))
theorem inwX8_X8_markByJudge : ∀ w ∈ wsX80, w ∈ wsX8_markByJudge := fun w h => List.mem_cons_of_mem _ (List.mem_append_left _ (List.mem_append_left _ (List.mem_append_left _ (List.mem_append_left _ (List.mem_append_right _ h)))))


set_option maxHeartbeats 400000 in
set_option maxRecDepth 100000 in
theorem c_markByJudge (l : Launch) (D : va_G) (M : MH) (x : Nat) (al : Nat → Nat → Nat) (S : ST) (d ns nd : Nat) (hc : CRep M x al S d ns nd) (i h j : Nat) (hi : i < nd) (hq : mHd S ns i) (hkk : mMK S ns) (hh : h < ix (S 22 i)) (hj : j < 4) : xC l D yX8_markByJudge wsX8_markByJudge ({ frames := 2, cells := 0, slots := 0, locals := 45 }) 0 0 [.ref x, .ref (al 3 j), .int (S 21 i), .ref (al 10 (10 * i + h))] (M) (xq (some (.float (byJS S i (10 * i + h) j 4))) M) := by
  refine xC_of (cc := cX8_markByJudge) (maxL := 7) (ret := (some .float)) (own := RX8) [some (.ref x), some (.ref (al 3 j)), some (.int (S 21 i)), some (.ref (al 10 (10 * i + h))), none, none, none] (by decide) rfl rfl (Nat.le_of_ble_eq_true rfl) rfl rfl rfl ?_
  intro X hXl hXD g r
  subst hXl
  subst hXD
  have inX8 : ∀ w ∈ wsX80, w ∈ wsX8_markByJudge := inwX8_X8_markByJudge
  have hc0 := hc
  obtain ⟨⟨hx, hT0, hT1, hT2, hT3, hT4⟩, hP, hY, hJ, hG, hD, hW⟩ := hc
  obtain ⟨hj1, fj, hj2, hj3⟩ := hJ.1 j hj
  have hw := hW.1 i h hi hh
  have hr := hq.2.2 h hh
  have hpl := promptI_lt (r := (10 * i + h) % 10 / 2) hq
  have hns := hkk.2.1
  have hsg := hkk.2.2 _ hpl
  refine j_fconst0 (pc := 0) g dX8_markByJudge_0 ?_
  refine fstore_7_4 (pc := 1) g dX8_markByJudge_1 ?_
  refine j_aload_n (pc := 3) g 1 dX8_markByJudge_3 rfl rfl ?_
  refine j_ifnonnull (pc := 4) g 10 dX8_markByJudge_4 (by decide) ?_
  refine j_iconst (pc := 10) g (0) dX8_markByJudge_10 (by decide) ?_
  refine istore_7_5 (pc := 11) g dX8_markByJudge_11 ?_
  have L13 : ∀ (n : Nat) (k : Nat) (hk : k + n = 4) (a6 : Option Value), J X 7 0 0 (M) [some (.ref x), some (.ref (al 3 j)), some (.int (S 21 i)), some (.ref (al 10 (10 * i + h))), some (.float (byJS S i (10 * i + h) j k)), some (.int (nI k)), a6] [] 13 := by
    intro n
    induction n with
    | zero =>
      intro k hk a6
      have hk4 : k = 4 := by omega
      subst hk4
      refine j_iload (pc := 13) g dX8_markByJudge_13 rfl ?_
      refine j_aload_n (pc := 15) g 0 dX8_markByJudge_15 rfl rfl ?_
      refine j_get (pc := 16) g dX8_markByJudge_16 (hx) rfl inX8 2 (by decide) (by decide +kernel) rfl rfl ?_
      refine j_alen (pc := 19) g (nI 4) dX8_markByJudge_19 (hT2) rfl ?_
      refine j_icmp_ge (pc := 20) g 79 dX8_markByJudge_20 (by decide) (fun c20 => ?_) (fun c20 => absurd (by decide) c20)
      refine j_fload (pc := 79) g dX8_markByJudge_79 rfl ?_
      exact j_fret (pc := 81) g r rfl  (xq_f rfl rfl) dX8_markByJudge_81 (Nat.le_of_ble_eq_true rfl) (Nat.le_of_ble_eq_true rfl)
    | succ n ih =>
      intro k hk a6
      refine j_iload (pc := 13) g dX8_markByJudge_13 rfl ?_
      refine j_aload_n (pc := 15) g 0 dX8_markByJudge_15 rfl rfl ?_
      refine j_get (pc := 16) g dX8_markByJudge_16 (hx) rfl inX8 2 (by decide) (by decide +kernel) rfl rfl ?_
      refine j_alen (pc := 19) g (nI 4) dX8_markByJudge_19 (hT2) rfl ?_
      refine j_icmp_ge (pc := 20) g 79 dX8_markByJudge_20 (by decide) (fun c20 => absurd c20 (nI_ge (by omega) (by omega))) (fun c20 => ?_)
      refine j_aload_n (pc := 23) g 0 dX8_markByJudge_23 rfl rfl ?_
      refine j_get (pc := 24) g dX8_markByJudge_24 (hx) rfl inX8 2 (by decide) (by decide +kernel) rfl rfl ?_
      refine j_iload (pc := 27) g dX8_markByJudge_27 rfl ?_
      refine j_aald (pc := 29) g dX8_markByJudge_29 (hT2) rfl (vp_in_nI (by omega) (by omega)) ?_
      rw [nI_clamp (by omega : k < 2 ^ 31), rowF_in (by omega)]
      refine j_ifnull (pc := 30) g dX8_markByJudge_30 ?_
      refine j_aload_n (pc := 33) g 1 dX8_markByJudge_33 rfl rfl ?_
      refine j_iload (pc := 34) g dX8_markByJudge_34 rfl ?_
      refine j_iload_n (pc := 36) g 2 dX8_markByJudge_36 rfl rfl ?_
      refine j_cVi (pc := 37) (n := 2) g (c_knowsOn (jl X) (jD X) M (al 3 j) (al 4 j) k fj hj1 hj2 (by omega) _) dX8_markByJudge_37 (hj1) rfl gX8_markByJudge_X1_knowsOn rfl rfl rfl rfl ⟨rfl, by decide, by decide, by decide +kernel⟩ ⟨Nat.le_of_ble_eq_true rfl, Nat.le_of_ble_eq_true rfl⟩ ⟨Nat.le_of_ble_eq_true rfl, Nat.le_of_ble_eq_true rfl⟩ rfl (Nat.le_of_ble_eq_true rfl) ?_
      refine j_topi (b01 (knS S i j k)) (by rw [hj3 k (by omega)]) ?_
      refine j_if_eq (pc := 40) g 73 dX8_markByJudge_40 (by decide) (fun c40 => ?_) (fun c40 => ?_)
      · refine iinc_7_5_1 (pc := 73) g dX8_markByJudge_73 ?_
        refine j_goto (pc := 76) g 13 dX8_markByJudge_76 (by decide) ?_
        exact (by have q9 := fun a => ih (k + 1) (by omega) a; rw [← nI_1 k] at q9; first | (rw [byJ_n c40] at q9; exact q9 _) | (rw [byJ_a c40 c61] at q9; exact q9 _) | (rw [byJ_b c40 c61] at q9; exact q9 _))
      · refine j_aload_n (pc := 43) g 3 dX8_markByJudge_43 rfl rfl ?_
        refine j_aload_n (pc := 44) g 0 dX8_markByJudge_44 rfl rfl ?_
        refine j_get (pc := 45) g dX8_markByJudge_45 (hx) rfl inX8 2 (by decide) (by decide +kernel) rfl rfl ?_
        refine j_iload (pc := 48) g dX8_markByJudge_48 rfl ?_
        refine j_aald (pc := 50) g dX8_markByJudge_50 (hT2) rfl (vp_in_nI (by omega) (by omega)) ?_
        rw [nI_clamp (by omega : k < 2 ^ 31), rowF_in (by omega)]
        refine j_cVf (pc := 51) (n := 1) g (c_wMark (jl X) (jD X) M (al 10 (10 * i + h)) (al 11 (10 * i + h)) (al 2 k) S 27 (32 * (10 * i + h)) _ _ _ k _ _ _ hw (hY.1 k (by omega)) hkk.1 hr.2.1 (by omega) hr.i23.2 hsg.i4.2.2 hsg.i4.2.1 (fun q h9 => ⟨hr.2.2 q (by omega), hsg.2 q (by unfold pgS at h9; omega)⟩)) dX8_markByJudge_51 (hw.1) rfl gX8_markByJudge_X7_markBy rfl rfl rfl rfl ⟨rfl, by decide, by decide, by decide +kernel⟩ ⟨Nat.le_of_ble_eq_true rfl, Nat.le_of_ble_eq_true rfl⟩ ⟨Nat.le_of_ble_eq_true rfl, Nat.le_of_ble_eq_true rfl⟩ rfl (Nat.le_of_ble_eq_true rfl) ?_
        refine j_topf (wMark S i (10 * i + h) k) rfl ?_
        refine fstore_7_6 (pc := 54) g dX8_markByJudge_54 ?_
        refine j_fload (pc := 56) g dX8_markByJudge_56 rfl ?_
        refine j_fload (pc := 58) g dX8_markByJudge_58 rfl ?_
        refine j_fcmp (pc := 60) g dX8_markByJudge_60 ?_
        refine j_if_le (pc := 61) g 69 dX8_markByJudge_61 (by decide) (fun c61 => ?_) (fun c61 => ?_)
        · refine j_fload (pc := 69) g dX8_markByJudge_69 rfl ?_
          refine fstore_7_4 (pc := 71) g dX8_markByJudge_71 ?_
          refine iinc_7_5_1 (pc := 73) g dX8_markByJudge_73 ?_
          refine j_goto (pc := 76) g 13 dX8_markByJudge_76 (by decide) ?_
          exact (by have q9 := fun a => ih (k + 1) (by omega) a; rw [← nI_1 k] at q9; first | (rw [byJ_n c40] at q9; exact q9 _) | (rw [byJ_a c40 c61] at q9; exact q9 _) | (rw [byJ_b c40 c61] at q9; exact q9 _))
        · refine j_fload (pc := 64) g dX8_markByJudge_64 rfl ?_
          refine j_goto (pc := 66) g 71 dX8_markByJudge_66 (by decide) ?_
          refine fstore_7_4 (pc := 71) g dX8_markByJudge_71 ?_
          refine iinc_7_5_1 (pc := 73) g dX8_markByJudge_73 ?_
          refine j_goto (pc := 76) g 13 dX8_markByJudge_76 (by decide) ?_
          exact (by have q9 := fun a => ih (k + 1) (by omega) a; rw [← nI_1 k] at q9; first | (rw [byJ_n c40] at q9; exact q9 _) | (rw [byJ_a c40 c61] at q9; exact q9 _) | (rw [byJ_b c40 c61] at q9; exact q9 _))
  exact L13 4 0 (by omega) none

set_option maxHeartbeats 400000 in
set_option maxRecDepth 100000 in
theorem c_judgedMark (l : Launch) (D : va_G) (M : MH) (x : Nat) (al : Nat → Nat → Nat) (S : ST) (d ns nd : Nat) (hc : CRep M x al S d ns nd) (i h : Nat) (hi : i < nd) (hq : mHd S ns i) (hkk : mMK S ns) (hh : h < ix (S 22 i)) : xC l D yX8_judgedMark wsX8_judgedMark ({ frames := 3, cells := 0, slots := 0, locals := 71 }) 0 0 [.ref x, .ref (al 7 i), .ref (al 10 (10 * i + h))] (M) (xq (some (.float (allS S i (10 * i + h)))) M) := by
  refine xC_of (cc := cX8_judgedMark) (maxL := 5) (ret := (some .float)) (own := RX8) [some (.ref x), some (.ref (al 7 i)), some (.ref (al 10 (10 * i + h))), none, none] (by decide) rfl rfl (Nat.le_of_ble_eq_true rfl) rfl rfl rfl ?_
  intro X hXl hXD g r
  subst hXl
  subst hXD
  have inX8 : ∀ w ∈ wsX80, w ∈ wsX8_judgedMark := inwX8_X8_judgedMark
  have inX0 : ∀ w ∈ wsX00, w ∈ wsX8_judgedMark := inwX0_X8_judgedMark
  have hc0 := hc
  obtain ⟨⟨hx, hT0, hT1, hT2, hT3, hT4⟩, hP, hY, hJ, hG, hD, hW⟩ := hc
  obtain ⟨hd, hdp, hdw⟩ := hD.1 i hi
  refine j_aload_n (pc := 0) g 0 dX8_judgedMark_0 rfl rfl ?_
  refine j_aload_n (pc := 1) g 0 dX8_judgedMark_1 rfl rfl ?_
  refine j_aload_n (pc := 2) g 1 dX8_judgedMark_2 rfl rfl ?_
  refine j_get (pc := 3) g dX8_judgedMark_3 (hd) rfl inX0 2 (by decide) (by decide +kernel) rfl rfl ?_
  refine j_cVr (pc := 6) (n := 1) g (c_judgeAt (jl X) (jD X) M x _ _ _ _ _ _ _ _ _ _ hx (rowF (al 3) 4) hT3 _) dX8_judgedMark_6 (hx) rfl gX8_judgedMark_X8_judgeAt rfl rfl rfl rfl ⟨rfl, by decide, by decide, by decide +kernel⟩ ⟨Nat.le_of_ble_eq_true rfl, Nat.le_of_ble_eq_true rfl⟩ ⟨Nat.le_of_ble_eq_true rfl, Nat.le_of_ble_eq_true rfl⟩ rfl (Nat.le_of_ble_eq_true rfl) ?_
  rw [atR_row (m := 3) hq.1.1 (by decide) (by decide)]
  refine j_aload_n (pc := 9) g 1 dX8_judgedMark_9 rfl rfl ?_
  refine j_get (pc := 10) g dX8_judgedMark_10 (hd) rfl inX0 4 (by decide) (by decide +kernel) rfl rfl ?_
  refine j_aload_n (pc := 13) g 2 dX8_judgedMark_13 rfl rfl ?_
  refine j_cVf (pc := 14) (n := 3) g (c_markByJudge (jl X) (jD X) M x al S d ns nd hc0 i h (ix (S 15 i)) hi hq hkk hh (Nat.lt_succ_of_le hq.1.i15.2)) dX8_judgedMark_14 (hx) rfl gX8_judgedMark_X8_markByJudge rfl rfl rfl rfl ⟨rfl, by decide, by decide, by decide +kernel⟩ ⟨Nat.le_of_ble_eq_true rfl, Nat.le_of_ble_eq_true rfl⟩ ⟨Nat.le_of_ble_eq_true rfl, Nat.le_of_ble_eq_true rfl⟩ rfl (Nat.le_of_ble_eq_true rfl) ?_
  refine fstore_n_5_3 (pc := 17) g dX8_judgedMark_17 ?_
  refine j_aload_n (pc := 18) g 1 dX8_judgedMark_18 rfl rfl ?_
  refine j_get (pc := 19) g dX8_judgedMark_19 (hd) rfl inX0 9 (by decide) (by decide +kernel) rfl rfl ?_
  refine j_iconst (pc := 22) g (-1) dX8_judgedMark_22 (by decide) ?_
  refine j_icmp_ne (pc := 23) g 28 dX8_judgedMark_23 (by decide) (fun c23 => ?_) (fun c23 => ?_)
  · have h16 : rg (S 16 i) 0 3 := hq.1.2.1.resolve_left c23
    refine j_aload_n (pc := 28) g 0 dX8_judgedMark_28 rfl rfl ?_
    refine j_aload_n (pc := 29) g 0 dX8_judgedMark_29 rfl rfl ?_
    refine j_aload_n (pc := 30) g 1 dX8_judgedMark_30 rfl rfl ?_
    refine j_get (pc := 31) g dX8_judgedMark_31 (hd) rfl inX0 9 (by decide) (by decide +kernel) rfl rfl ?_
    refine j_cVr (pc := 34) (n := 1) g (c_judgeAt (jl X) (jD X) M x _ _ _ _ _ _ _ _ _ _ hx (rowF (al 3) 4) hT3 _) dX8_judgedMark_34 (hx) rfl gX8_judgedMark_X8_judgeAt rfl rfl rfl rfl ⟨rfl, by decide, by decide, by decide +kernel⟩ ⟨Nat.le_of_ble_eq_true rfl, Nat.le_of_ble_eq_true rfl⟩ ⟨Nat.le_of_ble_eq_true rfl, Nat.le_of_ble_eq_true rfl⟩ rfl (Nat.le_of_ble_eq_true rfl) ?_
    rw [atR_row (m := 3) h16 (by decide) (by decide)]
    refine j_aload_n (pc := 37) g 1 dX8_judgedMark_37 rfl rfl ?_
    refine j_get (pc := 38) g dX8_judgedMark_38 (hd) rfl inX0 4 (by decide) (by decide +kernel) rfl rfl ?_
    refine j_aload_n (pc := 41) g 2 dX8_judgedMark_41 rfl rfl ?_
    refine j_cVf (pc := 42) (n := 3) g (c_markByJudge (jl X) (jD X) M x al S d ns nd hc0 i h (ix (S 16 i)) hi hq hkk hh (Nat.lt_succ_of_le (rg_ix (n := 3) h16).2)) dX8_judgedMark_42 (hx) rfl gX8_judgedMark_X8_markByJudge rfl rfl rfl rfl ⟨rfl, by decide, by decide, by decide +kernel⟩ ⟨Nat.le_of_ble_eq_true rfl, Nat.le_of_ble_eq_true rfl⟩ ⟨Nat.le_of_ble_eq_true rfl, Nat.le_of_ble_eq_true rfl⟩ rfl (Nat.le_of_ble_eq_true rfl) ?_
    refine fstore_5_4 (pc := 45) g dX8_judgedMark_45 ?_
    refine j_fload_n (pc := 47) g 3 dX8_judgedMark_47 rfl rfl ?_
    refine j_fload (pc := 48) g dX8_judgedMark_48 rfl ?_
    refine j_fadd (pc := 50) g dX8_judgedMark_50 (fl_n (fl_add 190 (byJS_fl hq hkk hh 4 (by decide)) (byJS_fl hq hkk hh 4 (by decide)) (by decide)) (by decide)) ?_
    refine j_fconst2 (pc := 51) g dX8_judgedMark_51 ?_
    refine j_fdiv (pc := 52) g dX8_judgedMark_52 (fl_n (fl_div 190 (fl_add 190 (byJS_fl hq hkk hh 4 (by decide)) (byJS_fl hq hkk hh 4 (by decide)) (by decide)) fl_2 fg_2 (by decide)) (by decide)) ?_
    exact j_fret (pc := 53) g r rfl  (by unfold allS; first | exact xq_f (if_pos c23).symm rfl | exact xq_f (if_pos (Decidable.not_not.mp c23)).symm rfl | exact xq_f (if_neg c23).symm rfl) dX8_judgedMark_53 (Nat.le_of_ble_eq_true rfl) (Nat.le_of_ble_eq_true rfl)
  · refine j_fload_n (pc := 26) g 3 dX8_judgedMark_26 rfl rfl ?_
    exact j_fret (pc := 27) g r rfl  (by unfold allS; first | exact xq_f (if_pos c23).symm rfl | exact xq_f (if_pos (Decidable.not_not.mp c23)).symm rfl | exact xq_f (if_neg c23).symm rfl) dX8_judgedMark_27 (Nat.le_of_ble_eq_true rfl) (Nat.le_of_ble_eq_true rfl)
