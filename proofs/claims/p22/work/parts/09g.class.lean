theorem fstore_n_4_2 {X : JC} {cc : ByteArray} {own : String} {Ts : List Cond} {cells slots pc : Nat} {rm : Room} {M : MH} {st : List Value} {a0 a1 a2 a3 : Option Value} (g : jG X cc own Ts 4 rm) {x : UInt32} (hd : decode cc pc = .ok (.fstore_n 2, 1)) (k : J X 4 cells slots M [a0, a1, some (.float x), a3] st (pc + 1)) : J X 4 cells slots M [a0, a1, a2, a3] (.float x :: st) pc := j_fstore_n g 2 hd rfl (Nat.le_of_ble_eq_true rfl) k
theorem inwX5_X7_init : ∀ w ∈ wsX50, w ∈ wsX7_init := fun w h => List.mem_cons_of_mem _ (List.mem_append_left _ (List.mem_append_left _ (List.mem_append_right _ h)))
theorem inwX7_X7_init : ∀ w ∈ wsX70, w ∈ wsX7_init := fun w h => List.mem_cons_of_mem _ (List.mem_append_left _ (List.mem_append_left _ (List.mem_append_left _ (List.mem_append_right _ h))))
theorem inwX7_X7_markBy : ∀ w ∈ wsX70, w ∈ wsX7_markBy := fun w h => List.mem_cons_of_mem _ (List.mem_append_left _ (List.mem_append_left _ (List.mem_append_right _ h)))


set_option maxHeartbeats 400000 in
set_option maxRecDepth 100000 in
theorem c_wInit (l : Launch) (D : va_G) (M : MH) (x w aw m am : Nat) (S : ST) (kw pw dw gg dm : Nat) (hdw : dw ≤ 8) (hdm : dm ≤ 8) (how : ∀ i, i < dw → okC S kw (pw + 4 * i)) (hom : ∀ i, i < dm → okC S 5 (24 * gg + 4 * i)) (wet : Int32) (hwet : rg wet 0 100) (fo : Int32) (hfo : fo = 0 ∨ fo = 1) (hx : M x = some (oB 7 dvX7)) (hw : stR M w aw S kw pw dw) (hm : stR M m am S 5 (24 * gg) dm) : xC l D yX7_init wsX7_init ({ frames := 3, cells := 7, slots := 24, locals := 74 }) 7 24 [.ref x, .ref w, .ref m, .int wet, .int fo] (M) (fun v M' => v = none ∧ ∃ a, wrP M M' x a 6 S kw pw dw gg dm wet fo) := by
  refine xC_ofI (cc := cX7_init) (maxL := 6) (ret := none) (own := RX7) [some (.ref x), some (.ref w), some (.ref m), some (.int wet), some (.int fo), none] (by decide) rfl rfl rfl (Nat.le_of_ble_eq_true rfl) rfl rfl rfl ?_
  intro X hXl hXD g r hinit
  subst hXl
  subst hXD
  have inX7 : ∀ w ∈ wsX70, w ∈ wsX7_init := inwX7_X7_init
  have inX5 : ∀ w ∈ wsX50, w ∈ wsX7_init := inwX5_X7_init
  obtain ⟨hm1, hmf⟩ := hm
  refine j_aload_n (pc := 0) g 0 dX7_init_0 rfl rfl ?_
  refine j_objInit (pc := 1) g dX7_init_1 (by decide +kernel) (by decide +kernel) (by decide +kernel) (Nat.le_of_ble_eq_true rfl) (Nat.le_of_ble_eq_true rfl) ?_
  refine j_aload_n (pc := 4) g 0 dX7_init_4 rfl rfl ?_
  refine j_bipush (pc := 5) g (6) dX7_init_5 (by decide) ?_
  refine j_newq (pc := 7) (C := RX3) (tc := 3) g 6 dX7_init_7 (by decide +kernel) (by decide) rfl (by decide) (by decide) (by decide) (Nat.le_of_ble_eq_true rfl) (Nat.le_of_ble_eq_true rfl) (fun a ha => ?_)
  have hx2 := xu_k (e' := aR 3 6 (fun _ => none)) ha hx
  refine j_putF (pc := 10) g dX7_init_10 (hx2) rfl inX7 tyX7 tyX7_ok nmX7 0 (by decide) (by decide +kernel) rfl hinit rfl rfl rfl (rfl) (rfl) (Nat.le_of_ble_eq_true rfl) ?_
  refine j_aload_n (pc := 13) g 0 dX7_init_13 rfl rfl ?_
  refine j_aload_n (pc := 14) g 2 dX7_init_14 rfl rfl ?_
  refine j_get (pc := 15) g dX7_init_15 ((by rw [xu_n (kd_ne (xu_k ha hm1) hx2 (by simp [kd]))]; exact xu_k ha hm1)) rfl inX5 1 (by decide) (by decide +kernel) rfl rfl ?_
  refine j_putF (pc := 18) g dX7_init_18 (xu_s _ _ _) rfl inX7 tyX7 tyX7_ok nmX7 1 (by decide) (by decide +kernel) rfl hinit rfl rfl rfl (rfl) (rfl) (Nat.le_of_ble_eq_true rfl) ?_
  refine j_aload_n (pc := 21) g 0 dX7_init_21 rfl rfl ?_
  refine j_iload (pc := 22) g dX7_init_22 rfl ?_
  refine j_putF (pc := 24) g dX7_init_24 (xu_s _ _ _) rfl inX7 tyX7 tyX7_ok nmX7 2 (by decide) (by decide +kernel) rfl hinit rfl rfl rfl (bit_nar hfo) ((by rcases hfo with rfl | rfl <;> rfl)) (Nat.le_of_ble_eq_true rfl) ?_
  refine j_iconst (pc := 27) g (0) dX7_init_27 (by decide) ?_
  refine istore_6_5 (pc := 28) g dX7_init_28 ?_
  have L30 : ∀ (n : Nat) (k : Nat) (M2 : MH) (cc ss : Nat) (hk : k + n = 6) (hcc : cc = 1 + k) (hss : ss = 6 + 3 * k) (h : wrP M M2 x a k S kw pw dw gg dm wet fo), J X 6 cc ss (M2) [some (.ref x), some (.ref w), some (.ref m), some (.int wet), some (.int fo), some (.int (nI k))] [] 30 := by
    intro n
    induction n with
    | zero =>
      intro k M2 cc ss hk hcc hss ⟨h1, h2, h3, f, h4, h5⟩
      have hk6 : k = 6 := by omega
      subst hk6
      refine j_iload (pc := 30) g dX7_init_30 rfl ?_
      refine j_aload_n (pc := 32) g 0 dX7_init_32 rfl rfl ?_
      refine j_get (pc := 33) g dX7_init_33 (h3) rfl inX7 0 (by decide) (by decide +kernel) rfl rfl ?_
      refine j_alen (pc := 36) g (nI 6) dX7_init_36 (h4) rfl ?_
      refine j_icmp_ge (pc := 37) g 61 dX7_init_37 (by decide) (fun c37 => ?_) (fun c37 => absurd (by decide) c37)
      exact j_vret (pc := 61) g r rfl  (⟨rfl, a, h1, h2, h3, f, h4, h5⟩) dX7_init_61 (by omega) (by omega)
    | succ n ih =>
      intro k M2 cc ss hk hcc hss ⟨h1, h2, h3, f, h4, h5⟩
      have hp9 := ex1.pr (k := 7) h1 hx rfl
      have hw9 := hw.k (S' := S) (k' := kw) (p' := pw) hp9 (by decide) (by decide) (by decide) (fun _ _ => rfl)
      have hm9 := stR.k (S' := S) (k' := 5) (p' := 24 * gg) ⟨hm1, hmf⟩ hp9 (by decide) (by decide) (by decide) (fun _ _ => rfl)
      refine j_iload (pc := 30) g dX7_init_30 rfl ?_
      refine j_aload_n (pc := 32) g 0 dX7_init_32 rfl rfl ?_
      refine j_get (pc := 33) g dX7_init_33 (h3) rfl inX7 0 (by decide) (by decide +kernel) rfl rfl ?_
      refine j_alen (pc := 36) g (nI 6) dX7_init_36 (h4) rfl ?_
      refine j_icmp_ge (pc := 37) g 61 dX7_init_37 (by decide) (fun c37 => absurd c37 (nI_ge (by omega) (by omega))) (fun c37 => ?_)
      refine j_aload_n (pc := 40) g 0 dX7_init_40 rfl rfl ?_
      refine j_get (pc := 41) g dX7_init_41 (h3) rfl inX7 0 (by decide) (by decide +kernel) rfl rfl ?_
      refine j_iload (pc := 44) g dX7_init_44 rfl ?_
      refine j_aload_n (pc := 46) g 1 dX7_init_46 rfl rfl ?_
      refine j_aload_n (pc := 47) g 2 dX7_init_47 rfl rfl ?_
      refine j_iload (pc := 48) g dX7_init_48 rfl ?_
      refine j_iload_n (pc := 50) g 3 dX7_init_50 rfl rfl ?_
      refine j_callS (pc := 51) (n := 4) g (c_between (jl X) (jD X) _ w aw m am S kw pw dw gg dm hdw hdm how hom wet hwet hw9 hm9 (nI k)) dX7_init_51 gX7_init_X3_between rfl rfl rfl rfl ⟨by decide, by decide, by decide +kernel⟩ ⟨Nat.le_of_ble_eq_true rfl, Nat.le_of_ble_eq_true rfl⟩ ⟨by show _ ≤ 7; omega, by show _ ≤ 24; omega⟩ rfl (Nat.le_of_ble_eq_true rfl) (fun v M1 hp => ?_)
      rcases hp with ⟨i, q, e1, hi1, hi2, hq, rfl, rfl⟩ | ⟨hn, rfl, rfl⟩
      · have hik : k = i := (nI_eq (by omega) (by omega)).mp e1
        subst hik
        refine j_aast (pc := 54) g dX7_init_54 (xu_k hq h4) (xu_s _ _ _) rfl rfl (vp_in_nI (by omega) (by omega)) ?_
        rw [nI_clamp (by omega : k < 2 ^ 31)]
        have hx9 := wrP.add h1 h2 h3 h4 h5 hi1 hi2 hq
        refine iinc_6_5_1 (pc := 55) g dX7_init_55 ?_
        refine j_goto (pc := 58) g 30 dX7_init_58 (by decide) ?_
        exact (by have q9 := ih (k + 1) _ (cc + 1) (ss + 3) (by omega) (by omega) (by omega) hx9; rw [← nI_1 k] at q9; exact q9)
      · refine j_aastN (pc := 54) g dX7_init_54 (h4) rfl (vp_in_nI (by omega) (by omega)) ?_
        rw [nI_clamp (by omega : k < 2 ^ 31)]
        have hx9 := wrP.add0 h1 h2 h3 h4 h5 (fun z => hn ⟨Int32.not_lt.mp (nI_pos (by omega)), nI_lt z.1 (by omega), nI_lt z.2 (by omega)⟩)
        refine iinc_6_5_1 (pc := 55) g dX7_init_55 ?_
        refine j_goto (pc := 58) g 30 dX7_init_58 (by decide) ?_
        exact (by have q9 := ih (k + 1) _ (cc + 1) (ss + 3) (by omega) (by omega) (by omega) hx9; rw [← nI_1 k] at q9; exact q9)
  exact L30 6 0 _ _ _ rfl rfl rfl (by rw [xu_xu, xu_xu]; exact ⟨fun q e hq he => by rw [xu_n hq]; exact xu_k ha he, ha, xu_s _ _ _, _, by rw [xu_n (kd_ne (xu_s _ _ _) hx2 (by simp [kd]))]; exact xu_s _ _ _, fun i hi => absurd hi (by omega)⟩)

set_option maxHeartbeats 400000 in
set_option maxRecDepth 100000 in
theorem c_wMark (l : Launch) (D : va_G) (M : MH) (x a yy : Nat) (S : ST) (kw pw dw gg dm y : Nat) (wet fo fd : Int32) (hx : wrC M x a S kw pw dw gg dm wet fo fd) (hy : M yy = some (oB 6 [.int (S 10 (3 * y)), .int (S 10 (3 * y + 1)), .int (S 10 (3 * y + 2))])) (hwt : mWt S) (hwet : rg wet 0 100) (hy4 : y < 4) (hdw : dw ≤ 8) (hm1 : 1 ≤ dm) (hm6 : dm ≤ 6) (ho : ∀ i, i < min dw dm → okC S kw (pw + 4 * i) ∧ okC S 5 (24 * gg + 4 * i)) : xC l D yX7_markBy wsX7_markBy ({ frames := 1, cells := 0, slots := 0, locals := 22 }) 0 0 [.ref x, .ref yy] (M) (xq (some (.float (markS S kw pw dw gg y dm wet))) M) := by
  refine xC_of (cc := cX7_markBy) (maxL := 4) (ret := (some .float)) (own := RX7) [some (.ref x), some (.ref yy), none, none] (by decide) rfl rfl (Nat.le_of_ble_eq_true rfl) rfl rfl rfl ?_
  intro X hXl hXD g r
  subst hXl
  subst hXD
  have inX7 : ∀ w ∈ wsX70, w ∈ wsX7_markBy := inwX7_X7_markBy
  obtain ⟨h1, f, h2, h3⟩ := hx
  refine j_aload_n (pc := 0) g 0 dX7_markBy_0 rfl rfl ?_
  refine j_get (pc := 1) g dX7_markBy_1 (h1) rfl inX7 1 (by decide) (by decide +kernel) rfl rfl ?_
  refine j_if_gt (pc := 4) g 9 dX7_markBy_4 (by decide) (fun c4 => ?_) (fun c4 => absurd (by rw [lit_0]; exact nI_lt (by omega) (by omega)) c4)
  refine j_fconst0 (pc := 9) g dX7_markBy_9 ?_
  refine fstore_n_4_2 (pc := 10) g dX7_markBy_10 ?_
  refine j_iconst (pc := 11) g (0) dX7_markBy_11 (by decide) ?_
  refine istore_n_4_3 (pc := 12) g dX7_markBy_12 ?_
  have L13 : ∀ (n : Nat) (k : Nat) (hk : k + n = 6), J X 4 0 0 (M) [some (.ref x), some (.ref yy), some (.float (sumS S kw pw dw gg y dm wet (min k (min dw dm)))), some (.int (nI k))] [] 13 := by
    intro n
    induction n with
    | zero =>
      intro k hk
      have hk6 : k = 6 := by omega
      subst hk6
      have hk7 : min 6 (min dw dm) = min dw dm := by omega
      rw [hk7]
      refine j_iload_n (pc := 13) g 3 dX7_markBy_13 rfl rfl ?_
      refine j_aload_n (pc := 14) g 0 dX7_markBy_14 rfl rfl ?_
      refine j_get (pc := 15) g dX7_markBy_15 (h1) rfl inX7 0 (by decide) (by decide +kernel) rfl rfl ?_
      refine j_alen (pc := 18) g (nI 6) dX7_markBy_18 (h2) rfl ?_
      refine j_icmp_ge (pc := 19) g 50 dX7_markBy_19 (by decide) (fun c19 => ?_) (fun c19 => absurd (by decide) c19)
      refine j_fload_n (pc := 50) g 2 dX7_markBy_50 rfl rfl ?_
      refine j_aload_n (pc := 51) g 0 dX7_markBy_51 rfl rfl ?_
      refine j_get (pc := 52) g dX7_markBy_52 (h1) rfl inX7 1 (by decide) (by decide +kernel) rfl rfl ?_
      refine j_i2f (pc := 55) g dX7_markBy_55 ?_
      refine j_fdiv (pc := 56) g dX7_markBy_56 (fl_n (markS_fl hwt hy4 hwet hm1 hm6 ho) (by decide)) ?_
      exact j_fret (pc := 57) g r rfl  (xq_f rfl rfl) dX7_markBy_57 (Nat.le_of_ble_eq_true rfl) (Nat.le_of_ble_eq_true rfl)
    | succ n ih =>
      intro k hk
      refine j_iload_n (pc := 13) g 3 dX7_markBy_13 rfl rfl ?_
      refine j_aload_n (pc := 14) g 0 dX7_markBy_14 rfl rfl ?_
      refine j_get (pc := 15) g dX7_markBy_15 (h1) rfl inX7 0 (by decide) (by decide +kernel) rfl rfl ?_
      refine j_alen (pc := 18) g (nI 6) dX7_markBy_18 (h2) rfl ?_
      refine j_icmp_ge (pc := 19) g 50 dX7_markBy_19 (by decide) (fun c19 => absurd c19 (nI_ge (by omega) (by omega))) (fun c19 => ?_)
      refine j_aload_n (pc := 22) g 0 dX7_markBy_22 rfl rfl ?_
      refine j_get (pc := 23) g dX7_markBy_23 (h1) rfl inX7 0 (by decide) (by decide +kernel) rfl rfl ?_
      refine j_iload_n (pc := 26) g 3 dX7_markBy_26 rfl rfl ?_
      refine j_aald (pc := 27) g dX7_markBy_27 (h2) rfl (vp_in_nI (by omega) (by omega)) ?_
      rw [nI_clamp (by omega : k < 2 ^ 31)]
      rcases Decidable.em (k < dw ∧ k < dm) with hin | hnin
      · have hk0 : min k (min dw dm) = k := by omega
        have hk1 : min (k + 1) (min dw dm) = k + 1 := by omega
        obtain ⟨q, hq, hqc⟩ := (h3 k (by omega)).1 hin
        have hoo := ho k (by omega)
        rw [hq, hk0]
        refine j_ifnull (pc := 28) g dX7_markBy_28 ?_
        refine j_fload_n (pc := 31) g 2 dX7_markBy_31 rfl rfl ?_
        refine j_aload_n (pc := 32) g 0 dX7_markBy_32 rfl rfl ?_
        refine j_get (pc := 33) g dX7_markBy_33 (h1) rfl inX7 0 (by decide) (by decide +kernel) rfl rfl ?_
        refine j_iload_n (pc := 36) g 3 dX7_markBy_36 rfl rfl ?_
        refine j_aald (pc := 37) g dX7_markBy_37 (h2) rfl (vp_in_nI (by omega) (by omega)) ?_
        rw [nI_clamp (by omega : k < 2 ^ 31), hq]
        refine j_aload_n (pc := 38) g 1 dX7_markBy_38 rfl rfl ?_
        refine j_cVf (pc := 39) (n := 1) g (c_paMark (jl X) (jD X) M q yy _ _ _ _ _ _ hqc hy (hwt _ (by omega)) (hwt _ (by omega)) (hwt _ (by omega)) (nearS_fl hoo.1 hoo.2 hwet) (slopeS_fl hoo.1 hoo.2) (ord_fl _ _)) dX7_markBy_39 (hqc) rfl gX7_markBy_X3_markBy rfl rfl rfl rfl ⟨rfl, by decide, by decide, by decide +kernel⟩ ⟨Nat.le_of_ble_eq_true rfl, Nat.le_of_ble_eq_true rfl⟩ ⟨Nat.le_of_ble_eq_true rfl, Nat.le_of_ble_eq_true rfl⟩ rfl (Nat.le_of_ble_eq_true rfl) ?_
        refine j_fadd (pc := 42) g dX7_markBy_42 (fl_n (sumS_fl (mn := dm) (s := dw) hwt hy4 hwet (k + 1) (by omega) (fun q hq => ho q (by omega))) (by omega)) ?_
        refine j_topf (sumS S kw pw dw gg y dm wet (k + 1)) rfl ?_
        refine fstore_n_4_2 (pc := 43) g dX7_markBy_43 ?_
        refine iinc_4_3_1 (pc := 44) g dX7_markBy_44 ?_
        refine j_goto (pc := 47) g 13 dX7_markBy_47 (by decide) ?_
        exact (by have q9 := ih (k + 1) (by omega); rw [hk1, ← nI_1 k] at q9; exact q9)
      · have hk1 : min (k + 1) (min dw dm) = min k (min dw dm) := by omega
        rw [(h3 k (by omega)).2 hnin]
        refine j_ifnullN (pc := 28) g 44 dX7_markBy_28 (by decide) ?_
        refine iinc_4_3_1 (pc := 44) g dX7_markBy_44 ?_
        refine j_goto (pc := 47) g 13 dX7_markBy_47 (by decide) ?_
        exact (by have q9 := ih (k + 1) (by omega); rw [hk1, ← nI_1 k] at q9; exact q9)
  exact L13 6 0 rfl
