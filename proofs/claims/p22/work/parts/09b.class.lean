set_option maxHeartbeats 400000 in
set_option maxRecDepth 100000 in
theorem c_isWithin (l : Launch) (D : va_G) (M : MH) (v lo hi : Int32) : xC l D yX8_isWithin wsX8_isWithin ({ frames := 0, cells := 0, slots := 0, locals := 0 }) 0 0 [.int v, .int lo, .int hi] (M) (xq (some (.int (b01 (iN v lo hi)))) M) := by
  refine xC_of (cc := cX8_isWithin) (maxL := 3) (ret := (some .boolean)) (own := RX8) [some (.int v), some (.int lo), some (.int hi)] (by decide) rfl rfl (Nat.le_of_ble_eq_true rfl) rfl rfl rfl ?_
  intro X hXl hXD g r
  subst hXl
  subst hXD
  refine j_iload_n (pc := 0) g 0 dX8_isWithin_0 rfl rfl ?_
  refine j_iload_n (pc := 1) g 1 dX8_isWithin_1 rfl rfl ?_
  refine j_icmp_lt (pc := 2) g 14 dX8_isWithin_2 (by decide) (fun c2 => ?_) (fun c2 => ?_)
  · refine j_iconst (pc := 14) g (0) dX8_isWithin_14 (by decide) ?_
    exact j_iret (pc := 15) g r rfl rfl (xq_i (by grind [b01]) rfl) dX8_isWithin_15 (Nat.le_of_ble_eq_true rfl) (Nat.le_of_ble_eq_true rfl)
  · refine j_iload_n (pc := 5) g 0 dX8_isWithin_5 rfl rfl ?_
    refine j_iload_n (pc := 6) g 2 dX8_isWithin_6 rfl rfl ?_
    refine j_icmp_gt (pc := 7) g 14 dX8_isWithin_7 (by decide) (fun c7 => ?_) (fun c7 => ?_)
    · refine j_iconst (pc := 14) g (0) dX8_isWithin_14 (by decide) ?_
      exact j_iret (pc := 15) g r rfl rfl (xq_i (by grind [b01]) rfl) dX8_isWithin_15 (Nat.le_of_ble_eq_true rfl) (Nat.le_of_ble_eq_true rfl)
    · refine j_iconst (pc := 10) g (1) dX8_isWithin_10 (by decide) ?_
      refine j_goto (pc := 11) g 15 dX8_isWithin_11 (by decide) ?_
      exact j_iret (pc := 15) g r rfl rfl (xq_i (by grind [b01]) rfl) dX8_isWithin_15 (Nat.le_of_ble_eq_true rfl) (Nat.le_of_ble_eq_true rfl)

set_option maxHeartbeats 400000 in
set_option maxRecDepth 100000 in
theorem c_isPlace (l : Launch) (D : va_G) (M : MH) (x y : Int32) : xC l D yX8_isPlace wsX8_isPlace ({ frames := 1, cells := 0, slots := 0, locals := 22 }) 0 0 [.int x, .int y] (M) (xq (some (.int (b01 (iN x 0 99 ∧ iN y 0 99)))) M) := by
  refine xC_of (cc := cX8_isPlace) (maxL := 2) (ret := (some .boolean)) (own := RX8) [some (.int x), some (.int y)] (by decide) rfl rfl (Nat.le_of_ble_eq_true rfl) rfl rfl rfl ?_
  intro X hXl hXD g r
  subst hXl
  subst hXD
  refine j_iload_n (pc := 0) g 0 dX8_isPlace_0 rfl rfl ?_
  refine j_iconst (pc := 1) g (0) dX8_isPlace_1 (by decide) ?_
  refine j_bipush (pc := 2) g (99) dX8_isPlace_2 (by decide) ?_
  refine j_cSi (pc := 4) (n := 3) g (c_isWithin (jl X) (jD X) _ _ _ _) dX8_isPlace_4 gX8_isPlace_X8_isWithin rfl rfl rfl rfl ⟨by decide, by decide, by decide +kernel⟩ ⟨Nat.le_of_ble_eq_true rfl, Nat.le_of_ble_eq_true rfl⟩ ⟨Nat.le_of_ble_eq_true rfl, Nat.le_of_ble_eq_true rfl⟩ rfl (Nat.le_of_ble_eq_true rfl) ?_
  refine j_if_eq (pc := 7) g 24 dX8_isPlace_7 (by decide) (fun c7 => ?_) (fun c7 => ?_)
  · refine j_iconst (pc := 24) g (0) dX8_isPlace_24 (by decide) ?_
    exact j_iret (pc := 25) g r rfl rfl (xq_i (by grind [b01]) rfl) dX8_isPlace_25 (Nat.le_of_ble_eq_true rfl) (Nat.le_of_ble_eq_true rfl)
  · refine j_iload_n (pc := 10) g 1 dX8_isPlace_10 rfl rfl ?_
    refine j_iconst (pc := 11) g (0) dX8_isPlace_11 (by decide) ?_
    refine j_bipush (pc := 12) g (99) dX8_isPlace_12 (by decide) ?_
    refine j_cSi (pc := 14) (n := 3) g (c_isWithin (jl X) (jD X) _ _ _ _) dX8_isPlace_14 gX8_isPlace_X8_isWithin rfl rfl rfl rfl ⟨by decide, by decide, by decide +kernel⟩ ⟨Nat.le_of_ble_eq_true rfl, Nat.le_of_ble_eq_true rfl⟩ ⟨Nat.le_of_ble_eq_true rfl, Nat.le_of_ble_eq_true rfl⟩ rfl (Nat.le_of_ble_eq_true rfl) ?_
    refine j_if_eq (pc := 17) g 24 dX8_isPlace_17 (by decide) (fun c17 => ?_) (fun c17 => ?_)
    · refine j_iconst (pc := 24) g (0) dX8_isPlace_24 (by decide) ?_
      exact j_iret (pc := 25) g r rfl rfl (xq_i (by grind [b01]) rfl) dX8_isPlace_25 (Nat.le_of_ble_eq_true rfl) (Nat.le_of_ble_eq_true rfl)
    · refine j_iconst (pc := 20) g (1) dX8_isPlace_20 (by decide) ?_
      refine j_goto (pc := 21) g 25 dX8_isPlace_21 (by decide) ?_
      exact j_iret (pc := 25) g r rfl rfl (xq_i (by grind [b01]) rfl) dX8_isPlace_25 (Nat.le_of_ble_eq_true rfl) (Nat.le_of_ble_eq_true rfl)

set_option maxHeartbeats 400000 in
set_option maxRecDepth 100000 in
theorem c_isWriter (l : Launch) (D : va_G) (M : MH) (x : Int32) : xC l D yX8_isWriter wsX8_isWriter ({ frames := 1, cells := 0, slots := 0, locals := 22 }) 0 0 [.int x] (M) (xq (some (.int (b01 (iN x 0 7)))) M) := by
  refine xC_of (cc := cX8_isWriter) (maxL := 1) (ret := (some .boolean)) (own := RX8) [some (.int x)] (by decide) rfl rfl (Nat.le_of_ble_eq_true rfl) rfl rfl rfl ?_
  intro X hXl hXD g r
  subst hXl
  subst hXD
  refine j_iload_n (pc := 0) g 0 dX8_isWriter_0 rfl rfl ?_
  refine j_iconst (pc := 1) g (0) dX8_isWriter_1 (by decide) ?_
  refine j_bipush (pc := 2) g (7) dX8_isWriter_2 (by decide) ?_
  refine j_cSi (pc := 4) (n := 3) g (c_isWithin (jl X) (jD X) _ _ _ _) dX8_isWriter_4 gX8_isWriter_X8_isWithin rfl rfl rfl rfl ⟨by decide, by decide, by decide +kernel⟩ ⟨Nat.le_of_ble_eq_true rfl, Nat.le_of_ble_eq_true rfl⟩ ⟨Nat.le_of_ble_eq_true rfl, Nat.le_of_ble_eq_true rfl⟩ rfl (Nat.le_of_ble_eq_true rfl) ?_
  exact j_iret (pc := 7) g r rfl b01_nar (⟨rfl, rfl⟩) dX8_isWriter_7 (Nat.le_of_ble_eq_true rfl) (Nat.le_of_ble_eq_true rfl)

set_option maxHeartbeats 400000 in
set_option maxRecDepth 100000 in
theorem c_rightSeal (l : Launch) (D : va_G) (M : MH) (w t : Int32) : xC l D yX8_rightSeal wsX8_rightSeal ({ frames := 0, cells := 0, slots := 0, locals := 0 }) 0 0 [.int w, .int t] (M) (xq (some (.int (remI (101 * w + 37 * t) 1000))) M) := by
  refine xC_of (cc := cX8_rightSeal) (maxL := 2) (ret := (some .int)) (own := RX8) [some (.int w), some (.int t)] (by decide) rfl rfl (Nat.le_of_ble_eq_true rfl) rfl rfl rfl ?_
  intro X hXl hXD g r
  subst hXl
  subst hXD
  refine j_bipush (pc := 0) g (101) dX8_rightSeal_0 (by decide) ?_
  refine j_iload_n (pc := 2) g 0 dX8_rightSeal_2 rfl rfl ?_
  refine j_imul (pc := 3) g dX8_rightSeal_3 ?_
  refine j_bipush (pc := 4) g (37) dX8_rightSeal_4 (by decide) ?_
  refine j_iload_n (pc := 6) g 1 dX8_rightSeal_6 rfl rfl ?_
  refine j_imul (pc := 7) g dX8_rightSeal_7 ?_
  refine j_iadd (pc := 8) g dX8_rightSeal_8 ?_
  refine j_sipush (pc := 9) g (1000) dX8_rightSeal_9 (by decide) ?_
  refine j_irem (pc := 12) g dX8_rightSeal_12 (by decide) ?_
  exact j_iret (pc := 13) g r rfl rfl (⟨rfl, rfl⟩) dX8_rightSeal_13 (Nat.le_of_ble_eq_true rfl) (Nat.le_of_ble_eq_true rfl)

set_option maxHeartbeats 400000 in
set_option maxRecDepth 100000 in
theorem c_signAt (l : Launch) (D : va_G) (M : MH) (x aS aP aY aJ aD dr : Nat) (nS nD tk dy : Int32) (hx8 : M x = some (oB 8 [.ref aS, .ref aP, .ref aY, .ref aJ, .ref aD, .ref dr, .int nS, .int nD, .int tk, .int dy])) (f : Nat → Option Nat) (ha : M aS = some (aR 5 6 f)) (k : Int32) : xC l D yX8_signAt wsX8_signAt ({ frames := 0, cells := 0, slots := 0, locals := 0 }) 0 0 [.ref x, .int k] (M) (xq (some (va_rf (atR 6 f k))) M) := by
  refine xC_of (cc := cX8_signAt) (maxL := 2) (ret := (some (.object "InkRing$Strokes"))) (own := RX8) [some (.ref x), some (.int k)] (by decide) rfl rfl (Nat.le_of_ble_eq_true rfl) rfl rfl rfl ?_
  intro X hXl hXD g r
  subst hXl
  subst hXD
  have inX8 : ∀ w ∈ wsX80, w ∈ wsX8_signAt := inwX8_X8_signAt
  refine j_iload_n (pc := 0) g 1 dX8_signAt_0 rfl rfl ?_
  refine j_if_lt (pc := 1) g 22 dX8_signAt_1 (by decide) (fun c1 => ?_) (fun c1 => ?_)
  · refine j_aconst_null (pc := 22) g dX8_signAt_22 ?_
    exact j_aretV (pc := 23) g r rfl (by first | exact Or.inl rfl | exact va_rf_ok _) (by first | exact xq_r (by rw [atR_in c1 c10]; rfl) rfl | exact xq_r (by rw [atR_lo c1]; rfl) rfl | exact xq_r (by rw [atR_hi c10]; rfl) rfl) dX8_signAt_23 (Nat.le_of_ble_eq_true rfl) (Nat.le_of_ble_eq_true rfl)
  · refine j_iload_n (pc := 4) g 1 dX8_signAt_4 rfl rfl ?_
    refine j_aload_n (pc := 5) g 0 dX8_signAt_5 rfl rfl ?_
    refine j_get (pc := 6) g dX8_signAt_6 (by assumption) rfl inX8 0 (by decide) (by decide +kernel) rfl rfl ?_
    refine j_alen (pc := 9) g (nI 6) dX8_signAt_9 (ha) rfl ?_
    refine j_icmp_ge (pc := 10) g 22 dX8_signAt_10 (by decide) (fun c10 => ?_) (fun c10 => ?_)
    · refine j_aconst_null (pc := 22) g dX8_signAt_22 ?_
      exact j_aretV (pc := 23) g r rfl (by first | exact Or.inl rfl | exact va_rf_ok _) (by first | exact xq_r (by rw [atR_in c1 c10]; rfl) rfl | exact xq_r (by rw [atR_lo c1]; rfl) rfl | exact xq_r (by rw [atR_hi c10]; rfl) rfl) dX8_signAt_23 (Nat.le_of_ble_eq_true rfl) (Nat.le_of_ble_eq_true rfl)
    · refine j_aload_n (pc := 13) g 0 dX8_signAt_13 rfl rfl ?_
      refine j_get (pc := 14) g dX8_signAt_14 (by assumption) rfl inX8 0 (by decide) (by decide +kernel) rfl rfl ?_
      refine j_iload_n (pc := 17) g 1 dX8_signAt_17 rfl rfl ?_
      refine j_aald (pc := 18) g dX8_signAt_18 (ha) rfl (vp_in_of2 (n := 6) (by omega) (Nat.le_refl _) c1 c10) ?_
      refine j_goto (pc := 19) g 23 dX8_signAt_19 (by decide) ?_
      exact j_aretV (pc := 23) g r rfl (by first | exact Or.inl rfl | exact va_rf_ok _) (by first | exact xq_r (by rw [atR_in c1 c10]; rfl) rfl | exact xq_r (by rw [atR_lo c1]; rfl) rfl | exact xq_r (by rw [atR_hi c10]; rfl) rfl) dX8_signAt_23 (Nat.le_of_ble_eq_true rfl) (Nat.le_of_ble_eq_true rfl)

set_option maxHeartbeats 400000 in
set_option maxRecDepth 100000 in
theorem c_paperAt (l : Launch) (D : va_G) (M : MH) (x aS aP aY aJ aD dr : Nat) (nS nD tk dy : Int32) (hx8 : M x = some (oB 8 [.ref aS, .ref aP, .ref aY, .ref aJ, .ref aD, .ref dr, .int nS, .int nD, .int tk, .int dy])) (f : Nat → Option Nat) (ha : M aP = some (aR 2 3 f)) (k : Int32) : xC l D yX8_paperAt wsX8_paperAt ({ frames := 0, cells := 0, slots := 0, locals := 0 }) 0 0 [.ref x, .int k] (M) (xq (some (va_rf (atR 3 f k))) M) := by
  refine xC_of (cc := cX8_paperAt) (maxL := 2) (ret := (some (.object "InkRing$Paper"))) (own := RX8) [some (.ref x), some (.int k)] (by decide) rfl rfl (Nat.le_of_ble_eq_true rfl) rfl rfl rfl ?_
  intro X hXl hXD g r
  subst hXl
  subst hXD
  have inX8 : ∀ w ∈ wsX80, w ∈ wsX8_paperAt := inwX8_X8_paperAt
  refine j_iload_n (pc := 0) g 1 dX8_paperAt_0 rfl rfl ?_
  refine j_if_lt (pc := 1) g 22 dX8_paperAt_1 (by decide) (fun c1 => ?_) (fun c1 => ?_)
  · refine j_aconst_null (pc := 22) g dX8_paperAt_22 ?_
    exact j_aretV (pc := 23) g r rfl (by first | exact Or.inl rfl | exact va_rf_ok _) (by first | exact xq_r (by rw [atR_in c1 c10]; rfl) rfl | exact xq_r (by rw [atR_lo c1]; rfl) rfl | exact xq_r (by rw [atR_hi c10]; rfl) rfl) dX8_paperAt_23 (Nat.le_of_ble_eq_true rfl) (Nat.le_of_ble_eq_true rfl)
  · refine j_iload_n (pc := 4) g 1 dX8_paperAt_4 rfl rfl ?_
    refine j_aload_n (pc := 5) g 0 dX8_paperAt_5 rfl rfl ?_
    refine j_get (pc := 6) g dX8_paperAt_6 (by assumption) rfl inX8 1 (by decide) (by decide +kernel) rfl rfl ?_
    refine j_alen (pc := 9) g (nI 3) dX8_paperAt_9 (ha) rfl ?_
    refine j_icmp_ge (pc := 10) g 22 dX8_paperAt_10 (by decide) (fun c10 => ?_) (fun c10 => ?_)
    · refine j_aconst_null (pc := 22) g dX8_paperAt_22 ?_
      exact j_aretV (pc := 23) g r rfl (by first | exact Or.inl rfl | exact va_rf_ok _) (by first | exact xq_r (by rw [atR_in c1 c10]; rfl) rfl | exact xq_r (by rw [atR_lo c1]; rfl) rfl | exact xq_r (by rw [atR_hi c10]; rfl) rfl) dX8_paperAt_23 (Nat.le_of_ble_eq_true rfl) (Nat.le_of_ble_eq_true rfl)
    · refine j_aload_n (pc := 13) g 0 dX8_paperAt_13 rfl rfl ?_
      refine j_get (pc := 14) g dX8_paperAt_14 (by assumption) rfl inX8 1 (by decide) (by decide +kernel) rfl rfl ?_
      refine j_iload_n (pc := 17) g 1 dX8_paperAt_17 rfl rfl ?_
      refine j_aald (pc := 18) g dX8_paperAt_18 (ha) rfl (vp_in_of2 (n := 3) (by omega) (Nat.le_refl _) c1 c10) ?_
      refine j_goto (pc := 19) g 23 dX8_paperAt_19 (by decide) ?_
      exact j_aretV (pc := 23) g r rfl (by first | exact Or.inl rfl | exact va_rf_ok _) (by first | exact xq_r (by rw [atR_in c1 c10]; rfl) rfl | exact xq_r (by rw [atR_lo c1]; rfl) rfl | exact xq_r (by rw [atR_hi c10]; rfl) rfl) dX8_paperAt_23 (Nat.le_of_ble_eq_true rfl) (Nat.le_of_ble_eq_true rfl)

set_option maxHeartbeats 400000 in
set_option maxRecDepth 100000 in
theorem c_styleAt (l : Launch) (D : va_G) (M : MH) (x aS aP aY aJ aD dr : Nat) (nS nD tk dy : Int32) (hx8 : M x = some (oB 8 [.ref aS, .ref aP, .ref aY, .ref aJ, .ref aD, .ref dr, .int nS, .int nD, .int tk, .int dy])) (f : Nat → Option Nat) (ha : M aY = some (aR 6 4 f)) (k : Int32) : xC l D yX8_styleAt wsX8_styleAt ({ frames := 0, cells := 0, slots := 0, locals := 0 }) 0 0 [.ref x, .int k] (M) (xq (some (va_rf (atR 4 f k))) M) := by
  refine xC_of (cc := cX8_styleAt) (maxL := 2) (ret := (some (.object "InkRing$Style"))) (own := RX8) [some (.ref x), some (.int k)] (by decide) rfl rfl (Nat.le_of_ble_eq_true rfl) rfl rfl rfl ?_
  intro X hXl hXD g r
  subst hXl
  subst hXD
  have inX8 : ∀ w ∈ wsX80, w ∈ wsX8_styleAt := inwX8_X8_styleAt
  refine j_iload_n (pc := 0) g 1 dX8_styleAt_0 rfl rfl ?_
  refine j_if_lt (pc := 1) g 22 dX8_styleAt_1 (by decide) (fun c1 => ?_) (fun c1 => ?_)
  · refine j_aconst_null (pc := 22) g dX8_styleAt_22 ?_
    exact j_aretV (pc := 23) g r rfl (by first | exact Or.inl rfl | exact va_rf_ok _) (by first | exact xq_r (by rw [atR_in c1 c10]; rfl) rfl | exact xq_r (by rw [atR_lo c1]; rfl) rfl | exact xq_r (by rw [atR_hi c10]; rfl) rfl) dX8_styleAt_23 (Nat.le_of_ble_eq_true rfl) (Nat.le_of_ble_eq_true rfl)
  · refine j_iload_n (pc := 4) g 1 dX8_styleAt_4 rfl rfl ?_
    refine j_aload_n (pc := 5) g 0 dX8_styleAt_5 rfl rfl ?_
    refine j_get (pc := 6) g dX8_styleAt_6 (by assumption) rfl inX8 2 (by decide) (by decide +kernel) rfl rfl ?_
    refine j_alen (pc := 9) g (nI 4) dX8_styleAt_9 (ha) rfl ?_
    refine j_icmp_ge (pc := 10) g 22 dX8_styleAt_10 (by decide) (fun c10 => ?_) (fun c10 => ?_)
    · refine j_aconst_null (pc := 22) g dX8_styleAt_22 ?_
      exact j_aretV (pc := 23) g r rfl (by first | exact Or.inl rfl | exact va_rf_ok _) (by first | exact xq_r (by rw [atR_in c1 c10]; rfl) rfl | exact xq_r (by rw [atR_lo c1]; rfl) rfl | exact xq_r (by rw [atR_hi c10]; rfl) rfl) dX8_styleAt_23 (Nat.le_of_ble_eq_true rfl) (Nat.le_of_ble_eq_true rfl)
    · refine j_aload_n (pc := 13) g 0 dX8_styleAt_13 rfl rfl ?_
      refine j_get (pc := 14) g dX8_styleAt_14 (by assumption) rfl inX8 2 (by decide) (by decide +kernel) rfl rfl ?_
      refine j_iload_n (pc := 17) g 1 dX8_styleAt_17 rfl rfl ?_
      refine j_aald (pc := 18) g dX8_styleAt_18 (ha) rfl (vp_in_of2 (n := 4) (by omega) (Nat.le_refl _) c1 c10) ?_
      refine j_goto (pc := 19) g 23 dX8_styleAt_19 (by decide) ?_
      exact j_aretV (pc := 23) g r rfl (by first | exact Or.inl rfl | exact va_rf_ok _) (by first | exact xq_r (by rw [atR_in c1 c10]; rfl) rfl | exact xq_r (by rw [atR_lo c1]; rfl) rfl | exact xq_r (by rw [atR_hi c10]; rfl) rfl) dX8_styleAt_23 (Nat.le_of_ble_eq_true rfl) (Nat.le_of_ble_eq_true rfl)

set_option maxHeartbeats 400000 in
set_option maxRecDepth 100000 in
theorem c_judgeAt (l : Launch) (D : va_G) (M : MH) (x aS aP aY aJ aD dr : Nat) (nS nD tk dy : Int32) (hx8 : M x = some (oB 8 [.ref aS, .ref aP, .ref aY, .ref aJ, .ref aD, .ref dr, .int nS, .int nD, .int tk, .int dy])) (f : Nat → Option Nat) (ha : M aJ = some (aR 1 4 f)) (k : Int32) : xC l D yX8_judgeAt wsX8_judgeAt ({ frames := 0, cells := 0, slots := 0, locals := 0 }) 0 0 [.ref x, .int k] (M) (xq (some (va_rf (atR 4 f k))) M) := by
  refine xC_of (cc := cX8_judgeAt) (maxL := 2) (ret := (some (.object "InkRing$Judge"))) (own := RX8) [some (.ref x), some (.int k)] (by decide) rfl rfl (Nat.le_of_ble_eq_true rfl) rfl rfl rfl ?_
  intro X hXl hXD g r
  subst hXl
  subst hXD
  have inX8 : ∀ w ∈ wsX80, w ∈ wsX8_judgeAt := inwX8_X8_judgeAt
  refine j_iload_n (pc := 0) g 1 dX8_judgeAt_0 rfl rfl ?_
  refine j_if_lt (pc := 1) g 22 dX8_judgeAt_1 (by decide) (fun c1 => ?_) (fun c1 => ?_)
  · refine j_aconst_null (pc := 22) g dX8_judgeAt_22 ?_
    exact j_aretV (pc := 23) g r rfl (by first | exact Or.inl rfl | exact va_rf_ok _) (by first | exact xq_r (by rw [atR_in c1 c10]; rfl) rfl | exact xq_r (by rw [atR_lo c1]; rfl) rfl | exact xq_r (by rw [atR_hi c10]; rfl) rfl) dX8_judgeAt_23 (Nat.le_of_ble_eq_true rfl) (Nat.le_of_ble_eq_true rfl)
  · refine j_iload_n (pc := 4) g 1 dX8_judgeAt_4 rfl rfl ?_
    refine j_aload_n (pc := 5) g 0 dX8_judgeAt_5 rfl rfl ?_
    refine j_get (pc := 6) g dX8_judgeAt_6 (by assumption) rfl inX8 3 (by decide) (by decide +kernel) rfl rfl ?_
    refine j_alen (pc := 9) g (nI 4) dX8_judgeAt_9 (ha) rfl ?_
    refine j_icmp_ge (pc := 10) g 22 dX8_judgeAt_10 (by decide) (fun c10 => ?_) (fun c10 => ?_)
    · refine j_aconst_null (pc := 22) g dX8_judgeAt_22 ?_
      exact j_aretV (pc := 23) g r rfl (by first | exact Or.inl rfl | exact va_rf_ok _) (by first | exact xq_r (by rw [atR_in c1 c10]; rfl) rfl | exact xq_r (by rw [atR_lo c1]; rfl) rfl | exact xq_r (by rw [atR_hi c10]; rfl) rfl) dX8_judgeAt_23 (Nat.le_of_ble_eq_true rfl) (Nat.le_of_ble_eq_true rfl)
    · refine j_aload_n (pc := 13) g 0 dX8_judgeAt_13 rfl rfl ?_
      refine j_get (pc := 14) g dX8_judgeAt_14 (by assumption) rfl inX8 3 (by decide) (by decide +kernel) rfl rfl ?_
      refine j_iload_n (pc := 17) g 1 dX8_judgeAt_17 rfl rfl ?_
      refine j_aald (pc := 18) g dX8_judgeAt_18 (ha) rfl (vp_in_of2 (n := 4) (by omega) (Nat.le_refl _) c1 c10) ?_
      refine j_goto (pc := 19) g 23 dX8_judgeAt_19 (by decide) ?_
      exact j_aretV (pc := 23) g r rfl (by first | exact Or.inl rfl | exact va_rf_ok _) (by first | exact xq_r (by rw [atR_in c1 c10]; rfl) rfl | exact xq_r (by rw [atR_lo c1]; rfl) rfl | exact xq_r (by rw [atR_hi c10]; rfl) rfl) dX8_judgeAt_23 (Nat.le_of_ble_eq_true rfl) (Nat.le_of_ble_eq_true rfl)

set_option maxHeartbeats 400000 in
set_option maxRecDepth 100000 in
theorem c_duelAt (l : Launch) (D : va_G) (M : MH) (x aS aP aY aJ aD dr : Nat) (nS nD tk dy : Int32) (hx8 : M x = some (oB 8 [.ref aS, .ref aP, .ref aY, .ref aJ, .ref aD, .ref dr, .int nS, .int nD, .int tk, .int dy])) (f : Nat → Option Nat) (ha : M aD = some (aR 0 12 f)) (k : Int32) : xC l D yX8_duelAt wsX8_duelAt ({ frames := 0, cells := 0, slots := 0, locals := 0 }) 0 0 [.ref x, .int k] (M) (xq (some (va_rf (atR 12 f k))) M) := by
  refine xC_of (cc := cX8_duelAt) (maxL := 2) (ret := (some (.object "InkRing$Duel"))) (own := RX8) [some (.ref x), some (.int k)] (by decide) rfl rfl (Nat.le_of_ble_eq_true rfl) rfl rfl rfl ?_
  intro X hXl hXD g r
  subst hXl
  subst hXD
  have inX8 : ∀ w ∈ wsX80, w ∈ wsX8_duelAt := inwX8_X8_duelAt
  refine j_iload_n (pc := 0) g 1 dX8_duelAt_0 rfl rfl ?_
  refine j_if_lt (pc := 1) g 22 dX8_duelAt_1 (by decide) (fun c1 => ?_) (fun c1 => ?_)
  · refine j_aconst_null (pc := 22) g dX8_duelAt_22 ?_
    exact j_aretV (pc := 23) g r rfl (by first | exact Or.inl rfl | exact va_rf_ok _) (by first | exact xq_r (by rw [atR_in c1 c10]; rfl) rfl | exact xq_r (by rw [atR_lo c1]; rfl) rfl | exact xq_r (by rw [atR_hi c10]; rfl) rfl) dX8_duelAt_23 (Nat.le_of_ble_eq_true rfl) (Nat.le_of_ble_eq_true rfl)
  · refine j_iload_n (pc := 4) g 1 dX8_duelAt_4 rfl rfl ?_
    refine j_aload_n (pc := 5) g 0 dX8_duelAt_5 rfl rfl ?_
    refine j_get (pc := 6) g dX8_duelAt_6 (by assumption) rfl inX8 4 (by decide) (by decide +kernel) rfl rfl ?_
    refine j_alen (pc := 9) g (nI 12) dX8_duelAt_9 (ha) rfl ?_
    refine j_icmp_ge (pc := 10) g 22 dX8_duelAt_10 (by decide) (fun c10 => ?_) (fun c10 => ?_)
    · refine j_aconst_null (pc := 22) g dX8_duelAt_22 ?_
      exact j_aretV (pc := 23) g r rfl (by first | exact Or.inl rfl | exact va_rf_ok _) (by first | exact xq_r (by rw [atR_in c1 c10]; rfl) rfl | exact xq_r (by rw [atR_lo c1]; rfl) rfl | exact xq_r (by rw [atR_hi c10]; rfl) rfl) dX8_duelAt_23 (Nat.le_of_ble_eq_true rfl) (Nat.le_of_ble_eq_true rfl)
    · refine j_aload_n (pc := 13) g 0 dX8_duelAt_13 rfl rfl ?_
      refine j_get (pc := 14) g dX8_duelAt_14 (by assumption) rfl inX8 4 (by decide) (by decide +kernel) rfl rfl ?_
      refine j_iload_n (pc := 17) g 1 dX8_duelAt_17 rfl rfl ?_
      refine j_aald (pc := 18) g dX8_duelAt_18 (ha) rfl (vp_in_of2 (n := 12) (by omega) (Nat.le_refl _) c1 c10) ?_
      refine j_goto (pc := 19) g 23 dX8_duelAt_19 (by decide) ?_
      exact j_aretV (pc := 23) g r rfl (by first | exact Or.inl rfl | exact va_rf_ok _) (by first | exact xq_r (by rw [atR_in c1 c10]; rfl) rfl | exact xq_r (by rw [atR_lo c1]; rfl) rfl | exact xq_r (by rw [atR_hi c10]; rfl) rfl) dX8_duelAt_23 (Nat.le_of_ble_eq_true rfl) (Nat.le_of_ble_eq_true rfl)
