
theorem inwX4_X8_stroke : ∀ w ∈ wsX40, w ∈ wsX8_stroke := fun w h => List.mem_cons_of_mem _ (List.mem_append_left _ (List.mem_append_left _ (List.mem_append_right _ h)))
theorem inwX5_X8_sign : ∀ w ∈ wsX50, w ∈ wsX8_sign := fun w h => List.mem_cons_of_mem _ (List.mem_append_left _ (List.mem_append_right _ h))
theorem inwX5_X8_stroke : ∀ w ∈ wsX50, w ∈ wsX8_stroke := fun w h => List.mem_cons_of_mem _ (List.mem_append_left _ (List.mem_append_left _ (List.mem_append_left _ (List.mem_append_right _ h))))
theorem inwX8_X8_sign : ∀ w ∈ wsX80, w ∈ wsX8_sign := fun w h => List.mem_cons_of_mem _ (List.mem_append_left _ (List.mem_append_left _ (List.mem_append_right _ h)))
theorem inwX8_X8_stroke : ∀ w ∈ wsX80, w ∈ wsX8_stroke := fun w h => List.mem_cons_of_mem _ (List.mem_append_left _ (List.mem_append_left _ (List.mem_append_left _ (List.mem_append_left _ (List.mem_append_right _ h)))))
theorem atX8_sign_68 : ∀ w ∈ (vx_atS RX8 68 eIS eNs).filter goodWord, w ∈ wsX8_sign := fun w h => List.mem_cons_of_mem _ (List.mem_append_right _ h)
theorem atX8_stroke_55 : ∀ w ∈ (vx_atS RX8 55 eIA eNs).filter goodWord, w ∈ wsX8_stroke := fun w h => List.mem_cons_of_mem _ (List.mem_append_left _ (List.mem_append_right _ h))
theorem atX8_stroke_68 : ∀ w ∈ (vx_atS RX8 68 eIS eNs).filter goodWord, w ∈ wsX8_stroke := fun w h => List.mem_cons_of_mem _ (List.mem_append_right _ h)

set_option maxHeartbeats 400000 in
set_option maxRecDepth 100000 in
theorem k_stroke (l : Launch) (D : va_G) (hst : l.stackTraces = false) (M : MH) (x : Nat) (al : Nat → Nat → Nat) (S : ST) (d ns nd : Nat) (hc : CRep M x al S d ns nd) (hd : S 1 0 = nI d) (hd8 : d ≤ 8) (a b c e : Int32) : xT l D yX8_stroke wsX8_stroke ({ frames := 6, cells := 1, slots := 6, locals := 96 }) 1 6 [.ref x, .int a, .int b, .int c, .int e] (M) (fun v M' => tStroke S a b c e = 0 ∧ v = some (.int (nI (d + 1))) ∧ CRep M' x al (nStroke S d a b c e) (d + 1) ns nd) (fun E M' => xE (tStroke S a b c e) eIA eIS "" E ∧ M' = M) := by
  refine xT_of (cc := cX8_stroke) (maxL := 5) (ret := (some .int)) (own := RX8) hst [some (.ref x), some (.int a), some (.int b), some (.int c), some (.int e)] (by decide) rfl rfl (Nat.le_of_ble_eq_true rfl) rfl rfl rfl ?_
  intro X hXl hXD g r t
  subst hXl
  subst hXD
  have inX8 : ∀ w ∈ wsX80, w ∈ wsX8_stroke := inwX8_X8_stroke
  have inX5 : ∀ w ∈ wsX50, w ∈ wsX8_stroke := inwX5_X8_stroke
  have inX4 : ∀ w ∈ wsX40, w ∈ wsX8_stroke := inwX4_X8_stroke
  have hc0 := hc
  obtain ⟨⟨hx, hT0, hT1, hT2, hT3, hT4⟩, hP, hY, hJ, hG, hD, hW⟩ := hc
  obtain ⟨hdr, f, hrw, hfr⟩ := hG.2.1
  refine j_iload_n (pc := 0) g 1 dX8_stroke_0 rfl rfl ?_
  refine j_iload_n (pc := 1) g 2 dX8_stroke_1 rfl rfl ?_
  refine j_cSi (pc := 2) (n := 2) g (c_isPlace (jl X) (jD X) _ _ _) dX8_stroke_2 gX8_stroke_X8_isPlace rfl rfl rfl rfl ⟨by decide, by decide, by decide +kernel⟩ ⟨Nat.le_of_ble_eq_true rfl, Nat.le_of_ble_eq_true rfl⟩ ⟨Nat.le_of_ble_eq_true rfl, Nat.le_of_ble_eq_true rfl⟩ rfl (Nat.le_of_ble_eq_true rfl) ?_
  refine j_if_eq (pc := 5) g 17 dX8_stroke_5 (by decide) (fun c5 => ?_) (fun c5 => ?_)
  · exact j_throwS (pc := 17) g t "java/lang/IllegalArgumentException" "a place is out of range" dX8_stroke_17 dX8_stroke_20 dX8_stroke_21 dX8_stroke_23 dX8_stroke_26 rfl (by decide +kernel) (by decide) (by decide +kernel) (by decide +kernel) atX8_stroke_55 atB_55 atG_55 (Nat.le_of_ble_eq_true rfl) (Nat.le_of_ble_eq_true rfl) (Nat.le_of_ble_eq_true rfl) (Nat.le_of_ble_eq_true rfl) (Nat.le_of_ble_eq_true rfl) (Nat.le_of_ble_eq_true rfl) (⟨Or.inl ⟨by unfold tStroke; rw [if_pos (fun ⟨z1, z2, z3, z4, z5⟩ => by grind [b01])], rfl⟩, rfl⟩)
  · refine j_iload_n (pc := 8) g 3 dX8_stroke_8 rfl rfl ?_
    refine j_iload (pc := 9) g dX8_stroke_9 rfl ?_
    refine j_cSi (pc := 11) (n := 2) g (c_isPlace (jl X) (jD X) _ _ _) dX8_stroke_11 gX8_stroke_X8_isPlace rfl rfl rfl rfl ⟨by decide, by decide, by decide +kernel⟩ ⟨Nat.le_of_ble_eq_true rfl, Nat.le_of_ble_eq_true rfl⟩ ⟨Nat.le_of_ble_eq_true rfl, Nat.le_of_ble_eq_true rfl⟩ rfl (Nat.le_of_ble_eq_true rfl) ?_
    refine j_if_ne (pc := 14) g 27 dX8_stroke_14 (by decide) (fun c14 => ?_) (fun c14 => ?_)
    · have K48 : ∀ (hok : okStroke a b c e), J X 5 0 0 (M) [some (.ref x), some (.int a), some (.int b), some (.int c), some (.int e)] [] 48 := by
        intro hok
        refine j_aload_n (pc := 48) g 0 dX8_stroke_48 rfl rfl ?_
        refine j_get (pc := 49) g dX8_stroke_49 (hx) rfl inX8 5 (by decide) (by decide +kernel) rfl rfl ?_
        refine j_get (pc := 52) g dX8_stroke_52 (hdr) rfl inX5 1 (by decide) (by decide +kernel) rfl rfl ?_
        refine j_bipush (pc := 55) g (8) dX8_stroke_55 (by decide) ?_
        refine j_icmp_lt (pc := 57) g 70 dX8_stroke_57 (by decide) (fun c57 => ?_) (fun c57 => ?_)
        · refine j_aload_n (pc := 70) g 0 dX8_stroke_70 rfl rfl ?_
          refine j_get (pc := 71) g dX8_stroke_71 (hx) rfl inX8 5 (by decide) (by decide +kernel) rfl rfl ?_
          refine j_new (pc := 74) (ci := 4) g dvX4 dX8_stroke_74 inX4 tyX4 tyX4_ok (by decide +kernel) (by decide +kernel) (by decide +kernel) rfl dfX4 (Nat.le_of_ble_eq_true rfl) (Nat.le_of_ble_eq_true rfl) (fun q hq => ?_)
          have hd7 : d < 8 := (nI_ltI (b := 8) (by omega) (by omega)).mp c57
          have hx2 := xu_k (e' := oB 4 [.int a, .int b, .int c, .int e]) hq hx
          have hdr2 := xu_k (e' := oB 4 [.int a, .int b, .int c, .int e]) hq hdr
          have hrw2 := xu_k (e' := oB 4 [.int a, .int b, .int c, .int e]) hq hrw
          refine j_dup (pc := 77) g dX8_stroke_77 rfl ?_
          refine j_iload_n (pc := 78) g 1 dX8_stroke_78 rfl rfl ?_
          refine j_iload_n (pc := 79) g 2 dX8_stroke_79 rfl rfl ?_
          refine j_iload_n (pc := 80) g 3 dX8_stroke_80 rfl rfl ?_
          refine j_iload (pc := 81) g dX8_stroke_81 rfl ?_
          refine j_callI (pc := 83) (ret := none) (n := 4) g (by decide +kernel) (by decide +kernel) (by decide +kernel) rfl (c_stInit (jl X) (jD X) _ q _ _ _ _ (xu_s _ _ _)) dX8_stroke_83 gX8_stroke_X4_init rfl rfl rfl rfl ⟨by decide, by decide, by decide +kernel⟩ ⟨Nat.le_of_ble_eq_true rfl, Nat.le_of_ble_eq_true rfl⟩ ⟨Nat.le_of_ble_eq_true rfl, Nat.le_of_ble_eq_true rfl⟩ rfl (Nat.le_of_ble_eq_true rfl) (fun v M1 hp => ?_)
          obtain ⟨rfl, rfl⟩ := hp
          rw [xu_xu]
          refine j_cVv (pc := 86) (n := 1) g (c_sAdd (jl X) (jD X) _ (al 5 ns) (al 6 ns) d q f _ hdr2 hrw2 (xu_s _ _ _) hd7) dX8_stroke_86 (hdr2) rfl gX8_stroke_X5_add rfl rfl rfl rfl ⟨rfl, by decide, by decide, by decide +kernel⟩ ⟨Nat.le_of_ble_eq_true rfl, Nat.le_of_ble_eq_true rfl⟩ ⟨Nat.le_of_ble_eq_true rfl, Nat.le_of_ble_eq_true rfl⟩ rfl (Nat.le_of_ble_eq_true rfl) ?_
          have hcn := R_stroke (a := a) (b := b) (c := c) (e := e) hc0 hq hrw hfr
          refine j_aload_n (pc := 89) g 0 dX8_stroke_89 rfl rfl ?_
          refine j_get (pc := 90) g dX8_stroke_90 (hcn.1.1) rfl inX8 5 (by decide) (by decide +kernel) rfl rfl ?_
          refine j_get (pc := 93) g dX8_stroke_93 (hcn.2.2.2.2.1.2.1.1) rfl inX5 1 (by decide) (by decide +kernel) rfl rfl ?_
          exact j_iret (pc := 96) g r rfl rfl (⟨by unfold tStroke; rw [if_neg (not_not_intro hok), if_neg (not_not_intro (by rw [hd]; exact c57))], rfl, hcn⟩) dX8_stroke_96 (Nat.le_of_ble_eq_true rfl) (Nat.le_of_ble_eq_true rfl)
        · exact j_throwS (pc := 60) g t "java/lang/IllegalStateException" "the draft is full" dX8_stroke_60 dX8_stroke_63 dX8_stroke_64 dX8_stroke_66 dX8_stroke_69 rfl (by decide +kernel) (by decide) (by decide +kernel) (by decide +kernel) atX8_stroke_68 atB_68 atG_68 (Nat.le_of_ble_eq_true rfl) (Nat.le_of_ble_eq_true rfl) (Nat.le_of_ble_eq_true rfl) (Nat.le_of_ble_eq_true rfl) (Nat.le_of_ble_eq_true rfl) (Nat.le_of_ble_eq_true rfl) (⟨Or.inr (Or.inl ⟨by unfold tStroke; rw [if_neg (not_not_intro hok), if_pos (by rw [hd]; exact c57)], rfl⟩), rfl⟩)
      refine j_iload_n (pc := 27) g 1 dX8_stroke_27 rfl rfl ?_
      refine j_iload_n (pc := 28) g 3 dX8_stroke_28 rfl rfl ?_
      refine j_icmp_ne (pc := 29) g 48 dX8_stroke_29 (by decide) (fun c29 => ?_) (fun c29 => ?_)
      · exact K48 (by refine ⟨?_, ?_, ?_, ?_, ?_⟩ <;> grind [b01])
      · refine j_iload_n (pc := 32) g 2 dX8_stroke_32 rfl rfl ?_
        refine j_iload (pc := 33) g dX8_stroke_33 rfl ?_
        refine j_icmp_ne (pc := 35) g 48 dX8_stroke_35 (by decide) (fun c35 => ?_) (fun c35 => ?_)
        · exact K48 (by refine ⟨?_, ?_, ?_, ?_, ?_⟩ <;> grind [b01])
        · exact j_throwS (pc := 38) g t "java/lang/IllegalArgumentException" "both places are the same" dX8_stroke_38 dX8_stroke_41 dX8_stroke_42 dX8_stroke_44 dX8_stroke_47 rfl (by decide +kernel) (by decide) (by decide +kernel) (by decide +kernel) atX8_stroke_55 atB_55 atG_55 (Nat.le_of_ble_eq_true rfl) (Nat.le_of_ble_eq_true rfl) (Nat.le_of_ble_eq_true rfl) (Nat.le_of_ble_eq_true rfl) (Nat.le_of_ble_eq_true rfl) (Nat.le_of_ble_eq_true rfl) (⟨Or.inl ⟨by unfold tStroke; rw [if_pos (fun ⟨z1, z2, z3, z4, z5⟩ => by grind [b01])], rfl⟩, rfl⟩)
    · exact j_throwS (pc := 17) g t "java/lang/IllegalArgumentException" "a place is out of range" dX8_stroke_17 dX8_stroke_20 dX8_stroke_21 dX8_stroke_23 dX8_stroke_26 rfl (by decide +kernel) (by decide) (by decide +kernel) (by decide +kernel) atX8_stroke_55 atB_55 atG_55 (Nat.le_of_ble_eq_true rfl) (Nat.le_of_ble_eq_true rfl) (Nat.le_of_ble_eq_true rfl) (Nat.le_of_ble_eq_true rfl) (Nat.le_of_ble_eq_true rfl) (Nat.le_of_ble_eq_true rfl) (⟨Or.inl ⟨by unfold tStroke; rw [if_pos (fun ⟨z1, z2, z3, z4, z5⟩ => by grind [b01])], rfl⟩, rfl⟩)

theorem gX8_sign_X5_init : GoodIn wsX8_sign wsX5_init := goodIn_of _ (by decide +kernel)

set_option maxHeartbeats 400000 in
set_option maxRecDepth 100000 in
theorem k_sign (l : Launch) (D : va_G) (hst : l.stackTraces = false) (M : MH) (x : Nat) (al : Nat → Nat → Nat) (S : ST) (d ns nd : Nat) (hc : CRep M x al S d ns nd) (hq0 : ∀ i, i < nd → mHd S ns i) (hkk : mMK S ns) (hd : S 1 0 = nI d) (hd8 : d ≤ 8) (hns : S 3 0 = nI ns) : xT l D yX8_sign wsX8_sign ({ frames := 6, cells := 2, slots := 10, locals := 96 }) 2 10 [.ref x] (M) (fun v M' => tSign S = 0 ∧ v = some (.int (nI ns)) ∧ ∃ al', CRep M' x al' (nSign S d ns) 0 (ns + 1) nd) (fun E M' => xE (tSign S) eIS "" "" E ∧ M' = M) := by
  refine xT_of (cc := cX8_sign) (maxL := 2) (ret := (some .int)) (own := RX8) hst [some (.ref x), none] (by decide) rfl rfl (Nat.le_of_ble_eq_true rfl) rfl rfl rfl ?_
  intro X hXl hXD g r t
  subst hXl
  subst hXD
  have inX8 : ∀ w ∈ wsX80, w ∈ wsX8_sign := inwX8_X8_sign
  have inX5 : ∀ w ∈ wsX50, w ∈ wsX8_sign := inwX5_X8_sign
  have hc0 := hc
  obtain ⟨⟨hx, hT0, hT1, hT2, hT3, hT4⟩, hP, hY, hJ, hG, hD, hW⟩ := hc
  obtain ⟨hdr, f, hrw, hfr⟩ := hG.2.1
  have hns6 := hkk.2.1
  refine j_aload_n (pc := 0) g 0 dX8_sign_0 rfl rfl ?_
  refine j_get (pc := 1) g dX8_sign_1 (hx) rfl inX8 5 (by decide) (by decide +kernel) rfl rfl ?_
  refine j_get (pc := 4) g dX8_sign_4 (hdr) rfl inX5 1 (by decide) (by decide +kernel) rfl rfl ?_
  refine j_if_eq (pc := 7) g 22 dX8_sign_7 (by decide) (fun c7 => ?_) (fun c7 => ?_)
  · exact j_throwS (pc := 22) g t "java/lang/IllegalStateException" "the draft has not 1 to 6 strokes" dX8_sign_22 dX8_sign_25 dX8_sign_26 dX8_sign_28 dX8_sign_31 rfl (by decide +kernel) (by decide) (by decide +kernel) (by decide +kernel) atX8_sign_68 atB_68 atG_68 (Nat.le_of_ble_eq_true rfl) (Nat.le_of_ble_eq_true rfl) (Nat.le_of_ble_eq_true rfl) (Nat.le_of_ble_eq_true rfl) (Nat.le_of_ble_eq_true rfl) (Nat.le_of_ble_eq_true rfl) (⟨Or.inl ⟨by unfold tSign; rw [if_pos (fun z => by have z1 := z.1; rw [hd] at z1; first | exact c19 z1.2 | (rw [c7] at z1; exact absurd z1.1 (by decide)))], rfl⟩, rfl⟩)
  · refine j_aload_n (pc := 10) g 0 dX8_sign_10 rfl rfl ?_
    refine j_get (pc := 11) g dX8_sign_11 (hx) rfl inX8 5 (by decide) (by decide +kernel) rfl rfl ?_
    refine j_get (pc := 14) g dX8_sign_14 (hdr) rfl inX5 1 (by decide) (by decide +kernel) rfl rfl ?_
    refine j_bipush (pc := 17) g (6) dX8_sign_17 (by decide) ?_
    refine j_icmp_le (pc := 19) g 32 dX8_sign_19 (by decide) (fun c19 => ?_) (fun c19 => ?_)
    · have hin : iN (S 1 0) 1 6 := by
        rw [hd]
        refine ⟨?_, c19⟩
        have h0 : 0 < d := Nat.pos_of_ne_zero (fun z => c7 (by rw [z]; rfl))
        exact nI_le (a := 1) h0 (by omega)
      refine j_aload_n (pc := 32) g 0 dX8_sign_32 rfl rfl ?_
      refine j_get (pc := 33) g dX8_sign_33 (hx) rfl inX8 6 (by decide) (by decide +kernel) rfl rfl ?_
      refine j_iconst (pc := 36) g (0) dX8_sign_36 (by decide) ?_
      refine j_aload_n (pc := 37) g 0 dX8_sign_37 rfl rfl ?_
      refine j_get (pc := 38) g dX8_sign_38 (hx) rfl inX8 0 (by decide) (by decide +kernel) rfl rfl ?_
      refine j_alen (pc := 41) g (nI 6) dX8_sign_41 (hT0) rfl ?_
      refine j_iconst (pc := 42) g (1) dX8_sign_42 (by decide) ?_
      refine j_isub (pc := 43) g dX8_sign_43 ?_
      refine j_cSi (pc := 44) (n := 3) g (c_isWithin (jl X) (jD X) _ _ _ _) dX8_sign_44 gX8_sign_X8_isWithin rfl rfl rfl rfl ⟨by decide, by decide, by decide +kernel⟩ ⟨Nat.le_of_ble_eq_true rfl, Nat.le_of_ble_eq_true rfl⟩ ⟨Nat.le_of_ble_eq_true rfl, Nat.le_of_ble_eq_true rfl⟩ rfl (Nat.le_of_ble_eq_true rfl) ?_
      refine j_topi (b01 (nI ns < nI 6)) (b01_lt (by omega) (by omega) (by omega)) ?_
      refine j_if_ne (pc := 47) g 60 dX8_sign_47 (by decide) (fun c47 => ?_) (fun c47 => ?_)
      · have c41 : nI ns < nI 6 := by grind [b01]
        have hns5 : ns < 6 := (nI_ltI (b := 6) (by omega) (by omega)).mp c41
        refine j_aload_n (pc := 60) g 0 dX8_sign_60 rfl rfl ?_
        refine j_get (pc := 61) g dX8_sign_61 (hx) rfl inX8 6 (by decide) (by decide +kernel) rfl rfl ?_
        refine istore_n_2_1 (pc := 64) g dX8_sign_64 ?_
        refine j_aload_n (pc := 65) g 0 dX8_sign_65 rfl rfl ?_
        refine j_get (pc := 66) g dX8_sign_66 (hx) rfl inX8 0 (by decide) (by decide +kernel) rfl rfl ?_
        refine j_iload_n (pc := 69) g 1 dX8_sign_69 rfl rfl ?_
        refine j_aload_n (pc := 70) g 0 dX8_sign_70 rfl rfl ?_
        refine j_get (pc := 71) g dX8_sign_71 (hx) rfl inX8 5 (by decide) (by decide +kernel) rfl rfl ?_
        refine j_aast (pc := 74) g dX8_sign_74 (hT0) (hdr) rfl rfl (vp_in_nI (by omega) (by omega)) ?_
        rw [nI_clamp (by omega : ns < 2 ^ 31)]
        have hx1 := xu_o (e' := aR 5 6 (va_up (rowF (al 5) ns) ns (some (al 5 ns)))) hx hT0 (by simp)
        refine j_aload_n (pc := 75) g 0 dX8_sign_75 rfl rfl ?_
        refine j_dup (pc := 76) g dX8_sign_76 rfl ?_
        refine j_get (pc := 77) g dX8_sign_77 (hx1) rfl inX8 6 (by decide) (by decide +kernel) rfl rfl ?_
        refine j_iconst (pc := 80) g (1) dX8_sign_80 (by decide) ?_
        refine j_iadd (pc := 81) g dX8_sign_81 ?_
        refine j_topi (nI (ns + 1)) (nI_1 ns) ?_
        refine j_put (pc := 82) g dX8_sign_82 (hx1) rfl inX8 tyX8 tyX8_ok nmX8 6 (by decide) (by decide +kernel) rfl rfl rfl (rfl) (rfl) (Nat.le_of_ble_eq_true rfl) ?_
        refine j_aload_n (pc := 85) g 0 dX8_sign_85 rfl rfl ?_
        refine j_new (pc := 86) (ci := 5) g dvX5 dX8_sign_86 inX5 tyX5 tyX5_ok (by decide +kernel) (by decide +kernel) (by decide +kernel) rfl dfX5 (Nat.le_of_ble_eq_true rfl) (Nat.le_of_ble_eq_true rfl) (fun q hq => ?_)
        have hxq : x ≠ q := fun z => by rw [← z, xu_s] at hq; exact absurd hq (by simp)
        have hq1 := xu_none hq
        have hq2 := xu_none hq1.1
        refine j_dup (pc := 89) g dX8_sign_89 rfl ?_
        refine j_callIN (pc := 90) (n := 0) g t "InkRing" (by decide +kernel) (by decide +kernel) (by decide +kernel) rfl (c_sInit (jl X) (jD X) _ q (xu_s _ _ _)) dX8_sign_90 gX8_sign_X5_init rfl rfl rfl rfl ⟨by decide, by decide, by decide +kernel⟩ ⟨Nat.le_of_ble_eq_true rfl, Nat.le_of_ble_eq_true rfl⟩ ⟨Nat.le_of_ble_eq_true rfl, Nat.le_of_ble_eq_true rfl⟩ rfl (Nat.le_of_ble_eq_true rfl) (fun v M1 hp => ?_)
        obtain ⟨rfl, a, ha, rfl⟩ := hp
        have ha1 := xu_none ha
        have ha2 := xu_none ha1.1
        have ha3 := xu_none ha2.1
        refine j_put (pc := 93) g dX8_sign_93 (by rw [xu_n hxq, xu_n ha2.2.symm, xu_n hxq]; exact xu_s _ _ _) rfl inX8 tyX8 tyX8_ok nmX8 5 (by decide) (by decide +kernel) rfl rfl rfl (rfl) (rfl) (Nat.le_of_ble_eq_true rfl) ?_
        have hs0x := kd_ne hT0 hx (by show (606 : Nat) ≠ 8; decide)
        have hs0q : al 0 0 ≠ q := fun z => by rw [← z, hT0] at hq2; exact absurd hq2.1 (by simp)
        have hs0a : al 0 0 ≠ a := fun z => by rw [← z, hT0] at ha3; exact absurd ha3.1 (by simp)
        refine j_iload_n (pc := 96) g 1 dX8_sign_96 rfl rfl ?_
        exact j_iret (pc := 97) g r rfl rfl (⟨by unfold tSign; rw [if_neg (not_not_intro ⟨hin, by rw [hns]; exact c41⟩)], rfl, _, R_sign (q := q) (a := a) hc0 hq0 hkk hd8 (by rw [xu_n hs0x, xu_n hs0q, xu_n hs0a, xu_n hs0q, xu_n hs0x, xu_s, rowF_up (g' := al56 al (ns + 1) q a 5) (by unfold al56; rw [if_pos rfl, if_neg (by omega)]) (fun i hi => by unfold al56; rw [if_pos rfl, if_neg (by omega)])]) (xu_s _ _ _) hq2.1 ha3.1 (by rw [xu_n hxq.symm]; exact xu_s _ _ _) (by rw [xu_n ha2.2, xu_n ha1.2]; exact xu_s _ _ _) (fun p e9 hp h1 h2 => by rw [xu_n h2, xu_n (fun z => by rw [z, hq2.1] at hp; exact absurd hp (by simp)), xu_n (fun z => by rw [z, ha3.1] at hp; exact absurd hp (by simp)), xu_n (fun z => by rw [z, hq2.1] at hp; exact absurd hp (by simp)), xu_n h2, xu_n h1]; exact hp)⟩) dX8_sign_97 (Nat.le_of_ble_eq_true rfl) (Nat.le_of_ble_eq_true rfl)
      · exact j_throwS (pc := 50) g t "java/lang/IllegalStateException" "there are all signs" dX8_sign_50 dX8_sign_53 dX8_sign_54 dX8_sign_56 dX8_sign_59 rfl (by decide +kernel) (by decide) (by decide +kernel) (by decide +kernel) atX8_sign_68 atB_68 atG_68 (Nat.le_of_ble_eq_true rfl) (Nat.le_of_ble_eq_true rfl) (Nat.le_of_ble_eq_true rfl) (Nat.le_of_ble_eq_true rfl) (Nat.le_of_ble_eq_true rfl) (Nat.le_of_ble_eq_true rfl) (⟨Or.inl ⟨by unfold tSign; rw [if_pos (fun z => by have z2 : nI ns < nI 6 := (by rw [← hns]; exact z.2); grind [b01])], rfl⟩, rfl⟩)
    · exact j_throwS (pc := 22) g t "java/lang/IllegalStateException" "the draft has not 1 to 6 strokes" dX8_sign_22 dX8_sign_25 dX8_sign_26 dX8_sign_28 dX8_sign_31 rfl (by decide +kernel) (by decide) (by decide +kernel) (by decide +kernel) atX8_sign_68 atB_68 atG_68 (Nat.le_of_ble_eq_true rfl) (Nat.le_of_ble_eq_true rfl) (Nat.le_of_ble_eq_true rfl) (Nat.le_of_ble_eq_true rfl) (Nat.le_of_ble_eq_true rfl) (Nat.le_of_ble_eq_true rfl) (⟨Or.inl ⟨by unfold tSign; rw [if_pos (fun z => by have z1 := z.1; rw [hd] at z1; first | exact c19 z1.2 | (rw [c7] at z1; exact absurd z1.1 (by decide)))], rfl⟩, rfl⟩)
