
theorem inwX3_X3_init : ∀ w ∈ wsX30, w ∈ wsX3_init := fun w h => List.mem_cons_of_mem _ (List.mem_append_right _ h)
theorem inwX4_X4_init : ∀ w ∈ wsX40, w ∈ wsX4_init := fun w h => List.mem_cons_of_mem _ (List.mem_append_right _ h)
theorem inwX5_X5_add : ∀ w ∈ wsX50, w ∈ wsX5_add := fun w h => List.mem_cons_of_mem _ (List.mem_append_right _ h)
theorem inwX5_X5_at : ∀ w ∈ wsX50, w ∈ wsX5_at := fun w h => List.mem_cons_of_mem _ (List.mem_append_right _ h)
theorem inwX5_X5_empty : ∀ w ∈ wsX50, w ∈ wsX5_empty := fun w h => List.mem_cons_of_mem _ (List.mem_append_right _ h)
theorem inwX5_X5_init : ∀ w ∈ wsX50, w ∈ wsX5_init := fun w h => List.mem_cons_of_mem _ (List.mem_append_right _ h)


set_option maxHeartbeats 400000 in
set_option maxRecDepth 100000 in
theorem c_sAt (l : Launch) (D : va_G) (M : MH) (x a d : Nat) (f : Nat → Option Nat) (hx : M x = some (oB 5 [.ref a, .int (nI d)])) (ha : M a = some (aR 4 8 f)) (hd : d ≤ 8) (k : Int32) : xC l D yX5_at wsX5_at ({ frames := 0, cells := 0, slots := 0, locals := 0 }) 0 0 [.ref x, .int k] (M) (xq (some (va_rf (atR d f k))) M) := by
  refine xC_of (cc := cX5_at) (maxL := 2) (ret := (some (.object "InkRing$Stroke"))) (own := RX5) [some (.ref x), some (.int k)] (by decide) rfl rfl (Nat.le_of_ble_eq_true rfl) rfl rfl rfl ?_
  intro X hXl hXD g r
  subst hXl
  subst hXD
  have inX5 : ∀ w ∈ wsX50, w ∈ wsX5_at := inwX5_X5_at
  refine j_iload_n (pc := 0) g 1 dX5_at_0 rfl rfl ?_
  refine j_if_lt (pc := 1) g 30 dX5_at_1 (by decide) (fun c1 => ?_) (fun c1 => ?_)
  · refine j_aconst_null (pc := 30) g dX5_at_30 ?_
    exact j_aretV (pc := 31) g r rfl (by first | exact Or.inl rfl | exact va_rf_ok _) (by first | exact xq_r (by rw [atR_in c1 c9]; rfl) rfl | exact xq_r (by rw [atR_lo c1]; rfl) rfl | exact xq_r (by rw [atR_hi c9]; rfl) rfl) dX5_at_31 (Nat.le_of_ble_eq_true rfl) (Nat.le_of_ble_eq_true rfl)
  · refine j_iload_n (pc := 4) g 1 dX5_at_4 rfl rfl ?_
    refine j_aload_n (pc := 5) g 0 dX5_at_5 rfl rfl ?_
    refine j_get (pc := 6) g dX5_at_6 (by assumption) rfl inX5 1 (by decide) (by decide +kernel) rfl rfl ?_
    refine j_icmp_ge (pc := 9) g 30 dX5_at_9 (by decide) (fun c9 => ?_) (fun c9 => ?_)
    · refine j_aconst_null (pc := 30) g dX5_at_30 ?_
      exact j_aretV (pc := 31) g r rfl (by first | exact Or.inl rfl | exact va_rf_ok _) (by first | exact xq_r (by rw [atR_in c1 c9]; rfl) rfl | exact xq_r (by rw [atR_lo c1]; rfl) rfl | exact xq_r (by rw [atR_hi c9]; rfl) rfl) dX5_at_31 (Nat.le_of_ble_eq_true rfl) (Nat.le_of_ble_eq_true rfl)
    · refine j_iload_n (pc := 12) g 1 dX5_at_12 rfl rfl ?_
      refine j_aload_n (pc := 13) g 0 dX5_at_13 rfl rfl ?_
      refine j_get (pc := 14) g dX5_at_14 (by assumption) rfl inX5 0 (by decide) (by decide +kernel) rfl rfl ?_
      refine j_alen (pc := 17) g (nI 8) dX5_at_17 (ha) rfl ?_
      refine j_icmp_ge (pc := 18) g 30 dX5_at_18 (by decide) (fun c18 => absurd c18 (fun z => c9 (Int32.le_trans (nI_le hd (by omega)) z))) (fun c18 => ?_)
      refine j_aload_n (pc := 21) g 0 dX5_at_21 rfl rfl ?_
      refine j_get (pc := 22) g dX5_at_22 (by assumption) rfl inX5 0 (by decide) (by decide +kernel) rfl rfl ?_
      refine j_iload_n (pc := 25) g 1 dX5_at_25 rfl rfl ?_
      refine j_aald (pc := 26) g dX5_at_26 (ha) rfl (vp_in_of2 (n := d) (m := 8) (by omega) hd c1 c9) ?_
      refine j_goto (pc := 27) g 31 dX5_at_27 (by decide) ?_
      exact j_aretV (pc := 31) g r rfl (by first | exact Or.inl rfl | exact va_rf_ok _) (by first | exact xq_r (by rw [atR_in c1 c9]; rfl) rfl | exact xq_r (by rw [atR_lo c1]; rfl) rfl | exact xq_r (by rw [atR_hi c9]; rfl) rfl) dX5_at_31 (Nat.le_of_ble_eq_true rfl) (Nat.le_of_ble_eq_true rfl)

set_option maxHeartbeats 400000 in
set_option maxRecDepth 100000 in
theorem c_sAdd (l : Launch) (D : va_G) (M : MH) (x a d q : Nat) (f : Nat → Option Nat) (fs : List Value) (hx : M x = some (oB 5 [.ref a, .int (nI d)])) (ha : M a = some (aR 4 8 f)) (hq : M q = some (oB 4 fs)) (hd : d < 8) : xC l D yX5_add wsX5_add ({ frames := 0, cells := 0, slots := 0, locals := 0 }) 0 0 [.ref x, .ref q] (M) (xq none (xu (xu M a (aR 4 8 (va_up f d (some q)))) x (oB 5 [.ref a, .int (nI (d + 1))]))) := by
  refine xC_of (cc := cX5_add) (maxL := 2) (ret := none) (own := RX5) [some (.ref x), some (.ref q)] (by decide) rfl rfl (Nat.le_of_ble_eq_true rfl) rfl rfl rfl ?_
  intro X hXl hXD g r
  subst hXl
  subst hXD
  have inX5 : ∀ w ∈ wsX50, w ∈ wsX5_add := inwX5_X5_add
  refine j_aload_n (pc := 0) g 0 dX5_add_0 rfl rfl ?_
  refine j_get (pc := 1) g dX5_add_1 (by assumption) rfl inX5 1 (by decide) (by decide +kernel) rfl rfl ?_
  refine j_if_lt (pc := 4) g 39 dX5_add_4 (by decide) (fun c4 => absurd c4 (nI_pos (by omega))) (fun c4 => ?_)
  refine j_aload_n (pc := 7) g 0 dX5_add_7 rfl rfl ?_
  refine j_get (pc := 8) g dX5_add_8 (by assumption) rfl inX5 1 (by decide) (by decide +kernel) rfl rfl ?_
  refine j_aload_n (pc := 11) g 0 dX5_add_11 rfl rfl ?_
  refine j_get (pc := 12) g dX5_add_12 (by assumption) rfl inX5 0 (by decide) (by decide +kernel) rfl rfl ?_
  refine j_alen (pc := 15) g (nI 8) dX5_add_15 (ha) rfl ?_
  refine j_icmp_ge (pc := 16) g 39 dX5_add_16 (by decide) (fun c16 => absurd c16 (nI_ge (by omega) (by omega))) (fun c16 => ?_)
  refine j_aload_n (pc := 19) g 0 dX5_add_19 rfl rfl ?_
  refine j_get (pc := 20) g dX5_add_20 (by assumption) rfl inX5 0 (by decide) (by decide +kernel) rfl rfl ?_
  refine j_aload_n (pc := 23) g 0 dX5_add_23 rfl rfl ?_
  refine j_get (pc := 24) g dX5_add_24 (by assumption) rfl inX5 1 (by decide) (by decide +kernel) rfl rfl ?_
  refine j_aload_n (pc := 27) g 1 dX5_add_27 rfl rfl ?_
  refine j_aast (pc := 28) g dX5_add_28 (ha) (hq) rfl rfl (vp_in_nI (by omega) (by omega)) ?_
  rw [nI_clamp (by omega : d < 2 ^ 31)]
  have hx2 := xu_o (e' := aR 4 8 (va_up f d (some q))) hx ha (by simp)
  refine j_aload_n (pc := 29) g 0 dX5_add_29 rfl rfl ?_
  refine j_dup (pc := 30) g dX5_add_30 rfl ?_
  refine j_get (pc := 31) g dX5_add_31 (hx2) rfl inX5 1 (by decide) (by decide +kernel) rfl rfl ?_
  refine j_iconst (pc := 34) g (1) dX5_add_34 (by decide) ?_
  refine j_iadd (pc := 35) g dX5_add_35 ?_
  refine j_topi (nI (d + 1)) (nI_1 d) ?_
  refine j_put (pc := 36) g dX5_add_36 (hx2) rfl inX5 tyX5 tyX5_ok nmX5 1 (by decide) (by decide +kernel) rfl rfl rfl (rfl) (rfl) (Nat.le_of_ble_eq_true rfl) ?_
  exact j_vret (pc := 39) g r rfl  (xq_v rfl) dX5_add_39 (Nat.le_of_ble_eq_true rfl) (Nat.le_of_ble_eq_true rfl)

set_option maxHeartbeats 400000 in
set_option maxRecDepth 100000 in
theorem c_sEmpty (l : Launch) (D : va_G) (M : MH) (x a d : Nat) (hx : M x = some (oB 5 [.ref a, .int (nI d)])) : xC l D yX5_empty wsX5_empty ({ frames := 0, cells := 0, slots := 0, locals := 0 }) 0 0 [.ref x] (M) (xq none (xu M x (oB 5 [.ref a, .int 0]))) := by
  refine xC_of (cc := cX5_empty) (maxL := 1) (ret := none) (own := RX5) [some (.ref x)] (by decide) rfl rfl (Nat.le_of_ble_eq_true rfl) rfl rfl rfl ?_
  intro X hXl hXD g r
  subst hXl
  subst hXD
  have inX5 : ∀ w ∈ wsX50, w ∈ wsX5_empty := inwX5_X5_empty
  refine j_aload_n (pc := 0) g 0 dX5_empty_0 rfl rfl ?_
  refine j_iconst (pc := 1) g (0) dX5_empty_1 (by decide) ?_
  refine j_put (pc := 2) g dX5_empty_2 (by assumption) rfl inX5 tyX5 tyX5_ok nmX5 1 (by decide) (by decide +kernel) rfl rfl rfl (rfl) (rfl) (Nat.le_of_ble_eq_true rfl) ?_
  exact j_vret (pc := 5) g r rfl  (xq_v rfl) dX5_empty_5 (Nat.le_of_ble_eq_true rfl) (Nat.le_of_ble_eq_true rfl)

set_option maxHeartbeats 400000 in
set_option maxRecDepth 100000 in
theorem c_sInit (l : Launch) (D : va_G) (M : MH) (x : Nat) (hx : M x = some (oB 5 dvX5)) : xC l D yX5_init wsX5_init ({ frames := 1, cells := 1, slots := 8, locals := 24 }) 1 8 [.ref x] (M) (fun v M' => v = none ∧ ∃ a, M a = none ∧ M' = xu (xu M a (aR 4 8 fun _ => none)) x (oB 5 [.ref a, .int 0])) := by
  refine xC_ofI (cc := cX5_init) (maxL := 1) (ret := none) (own := RX5) [some (.ref x)] (by decide) rfl rfl rfl (Nat.le_of_ble_eq_true rfl) rfl rfl rfl ?_
  intro X hXl hXD g r hinit
  subst hXl
  subst hXD
  have inX5 : ∀ w ∈ wsX50, w ∈ wsX5_init := inwX5_X5_init
  refine j_aload_n (pc := 0) g 0 dX5_init_0 rfl rfl ?_
  refine j_objInit (pc := 1) g dX5_init_1 (by decide +kernel) (by decide +kernel) (by decide +kernel) (Nat.le_of_ble_eq_true rfl) (Nat.le_of_ble_eq_true rfl) ?_
  refine j_aload_n (pc := 4) g 0 dX5_init_4 rfl rfl ?_
  refine j_bipush (pc := 5) g (8) dX5_init_5 (by decide) ?_
  refine j_newq (pc := 7) (C := RX4) (tc := 4) g 8 dX5_init_7 (by decide +kernel) (by decide) rfl (by decide) (by decide) (by decide) (Nat.le_of_ble_eq_true rfl) (Nat.le_of_ble_eq_true rfl) (fun a ha => ?_)
  have hx2 := xu_k (e' := aR 4 8 (fun _ => none)) ha hx
  refine j_putF (pc := 10) g dX5_init_10 (hx2) rfl inX5 tyX5 tyX5_ok nmX5 0 (by decide) (by decide +kernel) rfl hinit rfl rfl rfl (rfl) (rfl) (Nat.le_of_ble_eq_true rfl) ?_
  exact j_vret (pc := 13) g r rfl  (⟨rfl, a, ha, rfl⟩) dX5_init_13 (Nat.le_of_ble_eq_true rfl) (Nat.le_of_ble_eq_true rfl)

set_option maxHeartbeats 400000 in
set_option maxRecDepth 100000 in
theorem c_stInit (l : Launch) (D : va_G) (M : MH) (q : Nat) (x y ex ey : Int32) (hx : M q = some (oB 4 dvX4)) : xC l D yX4_init wsX4_init ({ frames := 1, cells := 0, slots := 0, locals := 24 }) 0 0 [.ref q, .int x, .int y, .int ex, .int ey] (M) (xq none (xu M q (oB 4 [.int x, .int y, .int ex, .int ey]))) := by
  refine xC_ofI (cc := cX4_init) (maxL := 5) (ret := none) (own := RX4) [some (.ref q), some (.int x), some (.int y), some (.int ex), some (.int ey)] (by decide) rfl rfl rfl (Nat.le_of_ble_eq_true rfl) rfl rfl rfl ?_
  intro X hXl hXD g r hinit
  subst hXl
  subst hXD
  have inX4 : ∀ w ∈ wsX40, w ∈ wsX4_init := inwX4_X4_init
  refine j_aload_n (pc := 0) g 0 dX4_init_0 rfl rfl ?_
  refine j_objInit (pc := 1) g dX4_init_1 (by decide +kernel) (by decide +kernel) (by decide +kernel) (Nat.le_of_ble_eq_true rfl) (Nat.le_of_ble_eq_true rfl) ?_
  refine j_aload_n (pc := 4) g 0 dX4_init_4 rfl rfl ?_
  refine j_iload_n (pc := 5) g 1 dX4_init_5 rfl rfl ?_
  refine j_putF (pc := 6) g dX4_init_6 (hx) rfl inX4 tyX4 tyX4_ok nmX4 0 (by decide) (by decide +kernel) rfl hinit rfl rfl rfl (rfl) (rfl) (Nat.le_of_ble_eq_true rfl) ?_
  refine j_aload_n (pc := 9) g 0 dX4_init_9 rfl rfl ?_
  refine j_iload_n (pc := 10) g 2 dX4_init_10 rfl rfl ?_
  refine j_putF (pc := 11) g dX4_init_11 (xu_s _ _ _) rfl inX4 tyX4 tyX4_ok nmX4 1 (by decide) (by decide +kernel) rfl hinit rfl rfl rfl (rfl) (rfl) (Nat.le_of_ble_eq_true rfl) ?_
  refine j_aload_n (pc := 14) g 0 dX4_init_14 rfl rfl ?_
  refine j_iload_n (pc := 15) g 3 dX4_init_15 rfl rfl ?_
  refine j_putF (pc := 16) g dX4_init_16 (xu_s _ _ _) rfl inX4 tyX4 tyX4_ok nmX4 2 (by decide) (by decide +kernel) rfl hinit rfl rfl rfl (rfl) (rfl) (Nat.le_of_ble_eq_true rfl) ?_
  refine j_aload_n (pc := 19) g 0 dX4_init_19 rfl rfl ?_
  refine j_iload (pc := 20) g dX4_init_20 rfl ?_
  refine j_putF (pc := 22) g dX4_init_22 (xu_s _ _ _) rfl inX4 tyX4 tyX4_ok nmX4 3 (by decide) (by decide +kernel) rfl hinit rfl rfl rfl (rfl) (rfl) (Nat.le_of_ble_eq_true rfl) ?_
  exact j_vret (pc := 25) g r rfl  (xq_v (by rw [xu_xu, xu_xu, xu_xu]; rfl)) dX4_init_25 (Nat.le_of_ble_eq_true rfl) (Nat.le_of_ble_eq_true rfl)

set_option maxHeartbeats 400000 in
set_option maxRecDepth 100000 in
theorem c_paInit (l : Launch) (D : va_G) (M : MH) (q : Nat) (u v w : UInt32) (hx : M q = some (oB 3 dvX3)) : xC l D yX3_init wsX3_init ({ frames := 1, cells := 0, slots := 0, locals := 24 }) 0 0 [.ref q, .float u, .float v, .float w] (M) (xq none (xu M q (oB 3 [.float u, .float v, .float w]))) := by
  refine xC_ofI (cc := cX3_init) (maxL := 4) (ret := none) (own := RX3) [some (.ref q), some (.float u), some (.float v), some (.float w)] (by decide) rfl rfl rfl (Nat.le_of_ble_eq_true rfl) rfl rfl rfl ?_
  intro X hXl hXD g r hinit
  subst hXl
  subst hXD
  have inX3 : ∀ w ∈ wsX30, w ∈ wsX3_init := inwX3_X3_init
  refine j_aload_n (pc := 0) g 0 dX3_init_0 rfl rfl ?_
  refine j_objInit (pc := 1) g dX3_init_1 (by decide +kernel) (by decide +kernel) (by decide +kernel) (Nat.le_of_ble_eq_true rfl) (Nat.le_of_ble_eq_true rfl) ?_
  refine j_aload_n (pc := 4) g 0 dX3_init_4 rfl rfl ?_
  refine j_fload_n (pc := 5) g 1 dX3_init_5 rfl rfl ?_
  refine j_putF (pc := 6) g dX3_init_6 (hx) rfl inX3 tyX3 tyX3_ok nmX3 0 (by decide) (by decide +kernel) rfl hinit rfl rfl rfl (rfl) (rfl) (Nat.le_of_ble_eq_true rfl) ?_
  refine j_aload_n (pc := 9) g 0 dX3_init_9 rfl rfl ?_
  refine j_fload_n (pc := 10) g 2 dX3_init_10 rfl rfl ?_
  refine j_putF (pc := 11) g dX3_init_11 (xu_s _ _ _) rfl inX3 tyX3 tyX3_ok nmX3 1 (by decide) (by decide +kernel) rfl hinit rfl rfl rfl (rfl) (rfl) (Nat.le_of_ble_eq_true rfl) ?_
  refine j_aload_n (pc := 14) g 0 dX3_init_14 rfl rfl ?_
  refine j_fload_n (pc := 15) g 3 dX3_init_15 rfl rfl ?_
  refine j_putF (pc := 16) g dX3_init_16 (xu_s _ _ _) rfl inX3 tyX3 tyX3_ok nmX3 2 (by decide) (by decide +kernel) rfl hinit rfl rfl rfl (rfl) (rfl) (Nat.le_of_ble_eq_true rfl) ?_
  exact j_vret (pc := 19) g r rfl  (xq_v (by rw [xu_xu, xu_xu]; rfl)) dX3_init_19 (Nat.le_of_ble_eq_true rfl) (Nat.le_of_ble_eq_true rfl)

set_option maxHeartbeats 400000 in
set_option maxRecDepth 100000 in
theorem c_pInit (l : Launch) (D : va_G) (M : MH) (q : Nat) : xC l D yX2_init wsX2_init ({ frames := 1, cells := 0, slots := 0, locals := 24 }) 0 0 [.ref q] (M) (xq none M) := by
  refine xC_ofI (cc := cX2_init) (maxL := 1) (ret := none) (own := RX2) [some (.ref q)] (by decide) rfl rfl rfl (Nat.le_of_ble_eq_true rfl) rfl rfl rfl ?_
  intro X hXl hXD g r hinit
  subst hXl
  subst hXD
  refine j_aload_n (pc := 0) g 0 dX2_init_0 rfl rfl ?_
  refine j_objInit (pc := 1) g dX2_init_1 (by decide +kernel) (by decide +kernel) (by decide +kernel) (Nat.le_of_ble_eq_true rfl) (Nat.le_of_ble_eq_true rfl) ?_
  exact j_vret (pc := 4) g r rfl  (xq_v rfl) dX2_init_4 (Nat.le_of_ble_eq_true rfl) (Nat.le_of_ble_eq_true rfl)

set_option maxHeartbeats 400000 in
set_option maxRecDepth 100000 in
theorem c_yInit (l : Launch) (D : va_G) (M : MH) (q : Nat) : xC l D yX6_init wsX6_init ({ frames := 1, cells := 0, slots := 0, locals := 24 }) 0 0 [.ref q] (M) (xq none M) := by
  refine xC_ofI (cc := cX6_init) (maxL := 1) (ret := none) (own := RX6) [some (.ref q)] (by decide) rfl rfl rfl (Nat.le_of_ble_eq_true rfl) rfl rfl rfl ?_
  intro X hXl hXD g r hinit
  subst hXl
  subst hXD
  refine j_aload_n (pc := 0) g 0 dX6_init_0 rfl rfl ?_
  refine j_objInit (pc := 1) g dX6_init_1 (by decide +kernel) (by decide +kernel) (by decide +kernel) (Nat.le_of_ble_eq_true rfl) (Nat.le_of_ble_eq_true rfl) ?_
  exact j_vret (pc := 4) g r rfl  (xq_v rfl) dX6_init_4 (Nat.le_of_ble_eq_true rfl) (Nat.le_of_ble_eq_true rfl)
