/-! ===== a rounding is off by a small part at most ===== -/
theorem rr_rel {f : FP.Core.Fmt} (hf : FP.Core.Good f) {s : Bool} {A B : Nat} {e e0 : Int} (hA : 0 < A) (hB : 0 < B) (h0 : e0 ≤ f.qmin) (h0e : e0 ≤ e) (hn : f.tails * (B * 2 ^ (f.qmin - e0).toNat) ≤ FP.Core.inUnits A e e0) (hfin : ∃ t c q, FP.Core.roundRatio f s A B e = .fin t c q) :
    FP.Core.zmag f (FP.Core.roundRatio f s A B e) * 2 ^ (f.qmin - e0).toNat * B * (2 * f.tails) ≤ FP.Core.inUnits A e e0 * (2 * f.tails + 1) := by
  obtain ⟨t, c, q, h⟩ := hfin
  have hfit := FP.Core.roundRatio_fits hf s A hB e
  rw [h] at hfit
  rw [h, ← FP.Core.units_fin hfit h0]
  unfold FP.Core.roundRatio at h
  rw [if_neg (by omega)] at h
  have g1 := FP.Core.quantum_ge f A B e
  have g2 := FP.Core.nearest_units_le (f := f) hA hB e
  have g3 := FP.Core.quantum_not_below (f := f) hA hB e
  unfold FP.Core.roundAt at h
  generalize FP.Core.quantum f A B e = r at h g1 g2 g3
  have ha : FP.Core.inUnits A e e0 = FP.Core.unitsNum A e r * 2 ^ (min e r - e0).toNat := by
    unfold FP.Core.inUnits FP.Core.unitsNum
    rw [show (e - e0).toNat = (e - r).toNat + (min e r - e0).toNat by omega, Nat.pow_add, Nat.mul_assoc]
  have hD : B * 2 ^ (r - e0).toNat = FP.Core.unitsDen B e r * 2 ^ (min e r - e0).toNat := by
    unfold FP.Core.unitsDen
    rw [show (r - e0).toNat = (r - e).toNat + (min e r - e0).toNat by omega, Nat.pow_add, Nat.mul_assoc]
  have hv := (FP.Core.settle_value hf (e0 := e0) g2 h (by omega)).2
  have hs := (FP.Core.nearest_spec (FP.Core.unitsNum A e r) (FP.Core.unitsDen B e r) (FP.Core.unitsDen_pos hB e r)).2.1
  rw [hv]
  generalize FP.Core.nearest (FP.Core.unitsNum A e r) (FP.Core.unitsDen B e r) = m at hs ⊢
  have g4 : f.tails * (B * 2 ^ (r - e0).toNat) ≤ FP.Core.inUnits A e e0 := by
    rcases g3 with g3 | g3
    · rw [g3]
      exact hn
    · rw [show (f.p : Int) - 1 = ((f.p - 1 : Nat) : Int) by have := hf.2; omega, ← FP.Core.units_below] at g3
      rw [ha, hD, ← Nat.mul_assoc]
      exact Nat.mul_le_mul_right _ (Nat.le_of_not_lt g3)
  have hs2 : 2 * (m * (B * 2 ^ (r - e0).toNat)) ≤ 2 * FP.Core.inUnits A e e0 + B * 2 ^ (r - e0).toNat := by
    rw [hD, ha]
    have := Nat.mul_le_mul_right (2 ^ (min e r - e0).toNat) hs
    rw [Nat.add_mul] at this
    calc 2 * (m * (FP.Core.unitsDen B e r * 2 ^ (min e r - e0).toNat)) = 2 * m * FP.Core.unitsDen B e r * 2 ^ (min e r - e0).toNat := by ac_rfl
      _ ≤ _ := this
      _ = _ := by rw [Nat.mul_assoc]
  have e1 : FP.Core.inUnits m r e0 * B = m * (B * 2 ^ (r - e0).toNat) := by
    unfold FP.Core.inUnits
    ac_rfl
  rw [e1]
  generalize B * 2 ^ (r - e0).toNat = Y at *
  generalize FP.Core.inUnits A e e0 = X at *
  generalize f.tails = T at *
  calc m * Y * (2 * T) = T * (2 * (m * Y)) := by ac_rfl
    _ ≤ T * (2 * X + Y) := Nat.mul_le_mul_left _ hs2
    _ = T * (2 * X) + T * Y := Nat.mul_add _ _ _
    _ ≤ T * (2 * X) + X := Nat.add_le_add_left g4 _
    _ = X * (2 * T + 1) := by rw [Nat.mul_add X, Nat.mul_one]; congr 1; ac_rfl
theorem tl32 : FP.Core.b32.tails = 8388608 := by decide +kernel
theorem zn_pos {x : UInt32} {c d : Nat} {s : Bool} {e : Int} (h : FP.Core.val32 x = FP.Core.roundRatio FP.Core.b32 s c d e) (hx : FP.Core.FFin x) : ∃ t c1 q, FP.Core.roundRatio FP.Core.b32 s c d e = .fin t c1 q := by
  obtain ⟨t, c1, q, e9⟩ := hx
  exact ⟨t, c1, q, by rw [← h, e9]⟩
theorem in_pos {c : Nat} {q e0 : Int} {n : Nat} (h : FP.Core.inUnits c q e0 = n) (hn : 0 < n) : 0 < c := by
  rcases Nat.eq_zero_or_pos c with z | z
  · rw [z] at h
    unfold FP.Core.inUnits at h
    rw [Nat.zero_mul] at h
    omega
  · exact z
theorem zn_mul_rel {a b : UInt32} (ha : FP.Core.FFin a) (hb : FP.Core.FFin b) (hr : FP.Core.FFin (FP.fmul a b)) (hn : 8388608 * 2 ^ 149 ≤ zn a * zn b) : zn (FP.fmul a b) * 2 ^ 149 * 16777216 ≤ zn a * zn b * 16777217 := by
  obtain ⟨s, c, q, e, h2, h3, -⟩ := mul_shape ha hb
  have hq : (FP.Core.b32.qmin - 2 * FP.Core.b32.qmin).toNat = 149 := by rw [qmin32]; decide
  have h := rr_rel FP.Core.good_b32 (s := s) (A := c) (B := 1) (e := q) (e0 := 2 * FP.Core.b32.qmin) (in_pos h3 (Nat.lt_of_lt_of_le (by decide) hn)) (by decide) (by rw [qmin32]; decide) h2 (by rw [h3, hq, tl32, Nat.one_mul]; exact hn) (zn_pos e hr)
  rw [h3, hq, tl32, Nat.mul_one] at h
  unfold zn at h ⊢
  rw [e]
  exact h
theorem zn_div_rel {a b : UInt32} (ha : FP.Core.FFin a) (hb : FP.Core.FFin b) (hz : zn b ≠ 0) (hr : FP.Core.FFin (FP.fdiv a b)) (hn : 8388608 * zn b ≤ zn a * 2 ^ 149) : zn (FP.fdiv a b) * zn b * 16777216 ≤ zn a * 2 ^ 149 * 16777217 := by
  obtain ⟨s, c, d, q, e0, e, hd, h0, h1, h2, h3, -⟩ := div_shape ha hb hz
  have hp : 0 < zn a * 2 ^ 149 := Nat.lt_of_lt_of_le (Nat.mul_pos (by decide) (Nat.pos_of_ne_zero hz)) hn
  have h := rr_rel FP.Core.good_b32 (s := s) (A := c) (B := d) (e := q) (e0 := e0) (in_pos h2 hp) hd h0 h1 (by rw [h2, tl32, Nat.mul_comm d, h3]; exact hn) (zn_pos e hr)
  rw [h2, tl32, Nat.mul_assoc (FP.Core.zmag _ _), h3] at h
  have e9 : zn (FP.fdiv a b) = FP.Core.zmag FP.Core.b32 (FP.Core.roundRatio FP.Core.b32 s c d q) := by unfold zn; rw [e]
  rw [e9]
  exact h
/-! ===== slope: at most ten and a little ===== -/
theorem mul_self0 (z : Int) : 0 ≤ z * z := by
  rcases Int.le_total 0 z with h | h
  · exact Int.mul_nonneg h h
  · exact Int.mul_nonneg_of_nonpos_of_nonpos h h
theorem cs_ineq (a b c d : Int) : (a * c + b * d) * (a * c + b * d) ≤ (a * a + b * b) * (c * c + d * d) := by
  have h1 : (a * a + b * b) * (c * c + d * d) = (a * c + b * d) * (a * c + b * d) + (a * d - b * c) * (a * d - b * c) := by grind
  have h2 := mul_self0 (a * d - b * c)
  omega
theorem sl_chain {P A C T M N X1 X2 X3 X4 : Nat} (hT : 0 < T) (hA : 0 < A) (hC : 0 < C) (hx1 : X1 * T * M ≤ P * T * (P * T) * N) (hx2 : X2 * (A * T) * M ≤ X1 * T * N) (hx3 : X3 * (C * T) * M ≤ X2 * T * N) (hx4 : X4 * T * M ≤ X3 * (10 * T) * N) (hcs : P * P ≤ A * C) : X4 * (M * M * M * M) ≤ 10 * T * (N * N * N * N) := by
  have k1 : X1 * M ≤ P * P * T * N := Nat.le_of_mul_le_mul_left (show T * (X1 * M) ≤ T * (P * P * T * N) by
    calc T * (X1 * M) = X1 * T * M := by ac_rfl
      _ ≤ _ := hx1
      _ = _ := by ac_rfl) hT
  have k2 : X2 * A * M ≤ X1 * N := Nat.le_of_mul_le_mul_left (show T * (X2 * A * M) ≤ T * (X1 * N) by
    calc T * (X2 * A * M) = X2 * (A * T) * M := by ac_rfl
      _ ≤ _ := hx2
      _ = _ := by ac_rfl) hT
  have k3 : X3 * C * M ≤ X2 * N := Nat.le_of_mul_le_mul_left (show T * (X3 * C * M) ≤ T * (X2 * N) by
    calc T * (X3 * C * M) = X3 * (C * T) * M := by ac_rfl
      _ ≤ _ := hx3
      _ = _ := by ac_rfl) hT
  have k4 : X4 * M ≤ X3 * 10 * N := Nat.le_of_mul_le_mul_left (show T * (X4 * M) ≤ T * (X3 * 10 * N) by
    calc T * (X4 * M) = X4 * T * M := by ac_rfl
      _ ≤ _ := hx4
      _ = _ := by ac_rfl) hT
  refine Nat.le_of_mul_le_mul_left (show A * C * (X4 * (M * M * M * M)) ≤ A * C * (10 * T * (N * N * N * N)) from ?_) (Nat.mul_pos hA hC)
  calc A * C * (X4 * (M * M * M * M)) = X4 * M * (A * C * M * M * M) := by ac_rfl
    _ ≤ X3 * 10 * N * (A * C * M * M * M) := Nat.mul_le_mul_right _ k4
    _ = X3 * C * M * (10 * N * A * M * M) := by ac_rfl
    _ ≤ X2 * N * (10 * N * A * M * M) := Nat.mul_le_mul_right _ k3
    _ = X2 * A * M * (10 * N * N * M) := by ac_rfl
    _ ≤ X1 * N * (10 * N * N * M) := Nat.mul_le_mul_right _ k2
    _ = X1 * M * (10 * N * N * N) := by ac_rfl
    _ ≤ P * P * T * N * (10 * N * N * N) := Nat.mul_le_mul_right _ k1
    _ = P * P * (T * N * (10 * N * N * N)) := by ac_rfl
    _ ≤ A * C * (T * N * (10 * N * N * N)) := Nat.mul_le_mul_right _ hcs
    _ = A * C * (10 * T * (N * N * N * N)) := by ac_rfl
theorem zn_i2f {v : Int32} (h : 0 ≤ v.toInt) (h2 : v.toInt.natAbs ≤ 2 ^ 24) : zn (FP.i2f v) = v.toInt.natAbs * 2 ^ 149 := by
  have h1 := zv_zn (i2f_0 h h2).2
  rw [zv_i2f h2] at h1
  have e : v.toInt = (v.toInt.natAbs : Int) := by omega
  rw [e, ← Int.natCast_mul] at h1
  have := Int.ofNat_inj.mp h1
  omega
theorem zv_n {x : UInt32} (h : zv x ≤ 0) : FP.Core.sgn (FP.Core.val32 x) = true ∨ zn x = 0 := by
  unfold zv FP.Core.zval at h
  unfold zn
  generalize FP.Core.zmag FP.Core.b32 (FP.Core.val32 x) = m at h ⊢
  cases hs : FP.Core.sgn (FP.Core.val32 x) with
  | true => exact Or.inl rfl
  | false =>
    rw [hs] at h
    simp only [FP.Core.signed, Bool.false_eq_true, if_false] at h
    exact Or.inr (by omega)
theorem zv_n_of {x : UInt32} (h : FP.Core.sgn (FP.Core.val32 x) = true ∨ zn x = 0) : zv x ≤ 0 := by
  unfold zv FP.Core.zval
  unfold zn at h
  generalize FP.Core.zmag FP.Core.b32 (FP.Core.val32 x) = m at h ⊢
  rcases h with h | h
  · rw [h]
    simp only [FP.Core.signed, if_true]
    omega
  · rw [h]
    cases FP.Core.sgn (FP.Core.val32 x) <;> simp [FP.Core.signed]
theorem zn_zero : zn 0 = 0 := by
  unfold zn
  rw [FP.Core.val32_zero]
  decide
theorem zv_mul_n {a b : UInt32} (ha : FP.Core.FFin a) (ha0 : zv a ≤ 0) (hb : f0 b) : zv (FP.fmul a b) ≤ 0 := by
  obtain ⟨s, c, q, e, h2, h3, hs⟩ := mul_shape ha hb.1
  have hz : zn a * zn b = 0 → zn (FP.fmul a b) = 0 := fun h => by
    have h9 := zn_mul_le (V := 0) ha hb.1 z_0.1 (by rw [h]; exact Nat.zero_le _)
    rw [zn_zero] at h9
    omega
  refine zv_n_of ?_
  rcases zv_n ha0 with h | h
  · rcases s_same hb.2 with k | k
    · refine Or.inl ?_
      rw [e, FP.Core.sgn_roundRatio, hs, h, k]
      rfl
    · exact Or.inr (hz (by rw [k]; rfl))
  · exact Or.inr (hz (by rw [h, Nat.zero_mul]))
theorem zv_div_n {a b : UInt32} (ha : FP.Core.FFin a) (ha0 : zv a ≤ 0) (hb : f0 b) (hz : zn b ≠ 0) : zv (FP.fdiv a b) ≤ 0 := by
  obtain ⟨s, c, d, q, e0, e, hd, h0, h1, h2, h3, hs⟩ := div_shape ha hb.1 hz
  refine zv_n_of ?_
  rcases zv_n ha0 with h | h
  · rcases s_same hb.2 with k | k
    · refine Or.inl ?_
      rw [e, FP.Core.sgn_roundRatio, hs, h, k]
      rfl
    · exact absurd k hz
  · have h9 := zn_div_le (V := 0) ha hb.1 hz z_0.1 (by rw [h, Nat.zero_mul]; exact Nat.zero_le _)
    rw [zn_zero] at h9
    exact Or.inr (by omega)
/-- the greater of it and zero -/
theorem fb_ab {v V : UInt32} {K : Nat} (h : fl v K) (hK : K ≤ 255) (h1 : zv v ≤ zv V) (h0 : 0 ≤ zv V) : fb (abF v) V := by
  have hv := fl_fin h hK
  have e : FP.fcmp v FP.fconst0 = some (compare (zv v) (zv FP.fconst0)) := FP.Core.fcmp_zval hv.ne_nan (by decide)
  have e0 : zv FP.fconst0 = 0 := FP.Core.zval32_zero
  unfold abF
  rw [e, e0]
  have zz : fb FP.fconst0 V := ⟨z_0.1, Int.le_of_eq z_0.2.symm, by rw [e0]; exact h0⟩
  rcases Int.lt_trichotomy (zv v) 0 with q | q | q
  · rw [show compare (zv v) 0 = .lt from (FP.Core.compare_lt_iff _ _).mpr q, if_pos (by decide)]
    exact zz
  · rw [show compare (zv v) 0 = .eq from (FP.Core.compare_eq_iff _ _).mpr q, if_pos (by decide)]
    exact zz
  · rw [show compare (zv v) 0 = .gt from (FP.Core.compare_gt_iff _ _).mpr q, if_neg (by decide)]
    exact ⟨hv, Int.le_of_lt q, h1⟩
theorem k1 : f0 FP.fconst1 ∧ zn FP.fconst1 = 2 ^ 149 := ⟨⟨fl_fin fl_1 (by decide), by decide +kernel⟩, by decide +kernel⟩
theorem k15 : zn 939524096 = 2 ^ 134 := by decide +kernel
theorem k30 : zn 813694976 = 2 ^ 119 := by decide +kernel
theorem k10 : f0 1092616192 ∧ zn 1092616192 = 10 * 2 ^ 149 := ⟨⟨fl_fin fl_10 (by decide), by decide +kernel⟩, by decide +kernel⟩
theorem kSl : f0 1092617241 := ⟨fl_fin (K := 131) (by unfold fl; decide) (by decide), by decide +kernel⟩
theorem sl_top : 10 * 2 ^ 149 * (16777217 * 16777217 * 16777217 * 16777217) ≤ zn 1092617241 * (16777216 * 16777216 * 16777216 * 16777216) := by decide +kernel
theorem sl_pA {a b : Int32} (h : wayOk a b) : (slN a b).toInt = a.toInt * a.toInt + b.toInt * b.toInt := by
  have h1 := rg_mul 99 99 h.1 h.1 (by decide)
  have h2 := rg_mul 99 99 h.2.1 h.2.1 (by decide)
  have h3 := rg_add h1.2 h2.2 (by decide)
  unfold slN
  rw [h3.1, h1.1, h2.1]
theorem sl_pP {a b c d : Int32} (h : wayOk a b) (k : wayOk c d) : (slP a b c d).toInt = a.toInt * c.toInt + b.toInt * d.toInt := by
  have h1 := rg_mul 99 99 h.1 k.1 (by decide)
  have h2 := rg_mul 99 99 h.2.1 k.2.1 (by decide)
  have h3 := rg_add h1.2 h2.2 (by decide)
  unfold slP
  rw [h3.1, h1.1, h2.1]
theorem slope_fb {a b c d : Int32} (h : wayOk a b) (k : wayOk c d) : fb (slopeV a b c d) 1092617241 := by
  refine fb_ab (sl_4 h k) (by decide) ?_ kSl.2
  have f1 := fl_fin (sl_1 h k) (by decide)
  have f2 := fl_fin (sl_2 h k) (by decide)
  have f3 := fl_fin (sl_3 h k) (by decide)
  have f4 := fl_fin (sl_4 h k) (by decide)
  have nA := sl_n h
  have nC := sl_n k
  have nP := sl_p h k
  have am := (am_rg (m := 19602) nP (by decide)).1
  have eA := sl_pA h
  have eC := sl_pA k
  have eP := sl_pP h k
  have hcs := cs_ineq a.toInt b.toInt c.toInt d.toInt
  rw [← eA, ← eC, ← eP] at hcs
  clear eA eC eP
  unfold slA at f4 ⊢
  generalize slP a b c d = p at *
  generalize slN a b = A at *
  generalize slN c d = C at *
  unfold rg at nA nC nP
  have zA := zn_i2f (v := A) (by omega) (by omega)
  have zC := zn_i2f (v := C) (by omega) (by omega)
  have gA := i2f_0 (v := A) (by omega) (by omega)
  have gC := i2f_0 (v := C) (by omega) (by omega)
  have zA0 : zn (FP.i2f A) ≠ 0 := by rw [zA]; exact Nat.mul_ne_zero (by omega) (by decide)
  have zC0 : zn (FP.i2f C) ≠ 0 := by rw [zC]; exact Nat.mul_ne_zero (by omega) (by decide)
  by_cases hp : p.toInt ≤ 0
  · have gm := i2f_0 (v := amI p) (by omega) (by omega)
    have z1 := zv_mul_n (i2f_fin p) (by rw [zv_i2f (by omega)]; exact Int.mul_nonpos_of_nonpos_of_nonneg hp (Int.natCast_nonneg _)) gm
    have z2 := zv_div_n f1 z1 gA zA0
    have z3 := zv_div_n f2 z2 gC zC0
    have z4 := zv_mul_n f3 z3 k10.1
    exact Int.le_trans z4 kSl.2
  · have zP := zn_i2f (v := p) (by omega) (by omega)
    have zQ := zn_i2f (v := amI p) (by omega) (by omega)
    have gP := i2f_0 (v := p) (by omega) (by omega)
    have gQ := i2f_0 (v := amI p) (by omega) (by omega)
    have e9 : (amI p).toInt.natAbs = p.toInt.natAbs := by omega
    rw [e9] at zQ
    have hcs2 : p.toInt.natAbs * p.toInt.natAbs ≤ A.toInt.natAbs * C.toInt.natAbs := by
      rw [← Int.natAbs_mul, ← Int.natAbs_mul]
      have := mul_self0 p.toInt
      omega
    have hP : 0 < p.toInt.natAbs := by omega
    have hA9 : A.toInt.natAbs ≤ 19602 := by omega
    have hC9 : C.toInt.natAbs ≤ 19602 := by omega
    have hA0 : 0 < A.toInt.natAbs := by omega
    have hC0 : 0 < C.toInt.natAbs := by omega
    generalize p.toInt.natAbs = P at *
    generalize A.toInt.natAbs = a9 at *
    generalize C.toInt.natAbs = c9 at *
    have hPT : 2 ^ 149 ≤ P * 2 ^ 149 := Nat.le_mul_of_pos_left _ hP
    have b1 := zn_mul_ge (V := FP.fconst1) (i2f_fin p) (i2f_fin (amI p)) (by rw [k1.2, zP, zQ]; exact Nat.mul_le_mul hPT hPT)
    have r1 := zn_mul_rel (i2f_fin p) (i2f_fin (amI p)) f1 (by rw [zP, zQ]; exact Nat.mul_le_mul (Nat.le_trans (by decide) hPT) hPT)
    rw [k1.2] at b1
    rw [zP, zQ] at r1
    generalize FP.fmul (FP.i2f p) (FP.i2f (amI p)) = x1 at *
    have b2 := zn_div_ge (V := 939524096) f1 gA.1 zA0 (by
      rw [k15, zA]
      exact Nat.le_trans (Nat.mul_le_mul_left _ (Nat.mul_le_mul_right _ hA9)) (Nat.le_trans (show 2 ^ 134 * (19602 * 2 ^ 149) ≤ 2 ^ 149 * 2 ^ 149 by decide +kernel) (Nat.mul_le_mul_right _ b1)))
    have r2 := zn_div_rel f1 gA.1 zA0 f2 (by
      rw [zA]
      exact Nat.le_trans (Nat.mul_le_mul_left _ (Nat.mul_le_mul_right _ hA9)) (Nat.le_trans (show 8388608 * (19602 * 2 ^ 149) ≤ 2 ^ 149 * 2 ^ 149 by decide +kernel) (Nat.mul_le_mul_right _ b1)))
    rw [k15] at b2
    rw [zA] at r2
    generalize FP.fdiv x1 (FP.i2f A) = x2 at *
    have b3 := zn_div_ge (V := 813694976) f2 gC.1 zC0 (by
      rw [k30, zC]
      exact Nat.le_trans (Nat.mul_le_mul_left _ (Nat.mul_le_mul_right _ hC9)) (Nat.le_trans (show 2 ^ 119 * (19602 * 2 ^ 149) ≤ 2 ^ 134 * 2 ^ 149 by decide +kernel) (Nat.mul_le_mul_right _ b2)))
    have r3 := zn_div_rel f2 gC.1 zC0 f3 (by
      rw [zC]
      exact Nat.le_trans (Nat.mul_le_mul_left _ (Nat.mul_le_mul_right _ hC9)) (Nat.le_trans (show 8388608 * (19602 * 2 ^ 149) ≤ 2 ^ 134 * 2 ^ 149 by decide +kernel) (Nat.mul_le_mul_right _ b2)))
    rw [k30] at b3
    rw [zC] at r3
    generalize FP.fdiv x2 (FP.i2f C) = x3 at *
    have r4 := zn_mul_rel f3 k10.1.1 f4 (by
      rw [k10.2]
      exact Nat.le_trans (show 8388608 * 2 ^ 149 ≤ 2 ^ 119 * (10 * 2 ^ 149) by decide +kernel) (Nat.mul_le_mul_right _ b3))
    rw [k10.2] at r4
    generalize FP.fmul x3 1092616192 = x4 at *
    have h5 := Nat.le_trans (sl_chain (Nat.two_pow_pos 149) hA0 hC0 r1 r2 r3 r4 hcs2) sl_top
    have h6 : zn x4 ≤ zn 1092617241 := Nat.le_of_mul_le_mul_right h5 (by decide)
    rcases Int.le_total (zv x4) 0 with q | q
    · exact Int.le_trans q kSl.2
    · rw [zv_zn q, zv_zn kSl.2]
      exact Int.ofNat_le.mpr h6
/-! ===== nearness: at most ten ===== -/
theorem kh : f0 1056964608 ∧ zv 1056964608 = ((2 ^ 148 : Nat) : Int) ∧ zn 1056964608 = 2 ^ 148 := ⟨⟨fl_fin (K := 127) (by unfold fl; decide) (by decide), by decide +kernel⟩, by decide +kernel, by decide +kernel⟩
theorem k200 : f0 1128792064 ∧ zn 1128792064 = 200 * 2 ^ 149 := ⟨⟨fl_fin fl_200 (by decide), by decide +kernel⟩, by decide +kernel⟩
theorem near_fb {s w : Int32} (h : rg s 0 396) (hw : rg w 0 100) : fb (nearV s w) 1092616192 := by
  have h' := h
  have hw' := hw
  unfold rg at h' hw'
  have q1 : 0 ≤ zv (FP.fdiv (FP.i2f s) 1092616192) := zv_div_0 (i2f_0 h'.1 (by omega)) k10.1 (by rw [k10.2]; decide)
  have n1 : zv (nearA s) ≤ zv 1092616192 := z_sub_le k10.1.1 (fl_fin (near_1 h) (by decide)) k10.1.1 (by omega)
  have q2 : 0 ≤ zv (FP.fdiv (FP.i2f w) 1128792064) := zv_div_0 (i2f_0 hw'.1 (by omega)) k200.1 (by rw [k200.2]; decide)
  have q3 : zn (FP.fdiv (FP.i2f w) 1128792064) ≤ zn 1056964608 := zn_div_le (i2f_fin w) k200.1.1 (by rw [k200.2]; decide) kh.1.1 (by
    rw [zn_i2f hw'.1 (by omega), k200.2, kh.2.2]
    calc w.toInt.natAbs * 2 ^ 149 * 2 ^ 149 ≤ 100 * 2 ^ 149 * 2 ^ 149 := Nat.mul_le_mul_right _ (Nat.mul_le_mul_right _ (by omega))
      _ = 2 ^ 148 * (200 * 2 ^ 149) := by decide +kernel)
  have z1 := zv_zn k1.1.2
  have zh := zv_zn kh.1.2
  have z2 := zv_zn q2
  have e1 := k1.2
  have eh := kh.2.2
  have b1 : zv (nearB w) ≤ zv FP.fconst1 := z_sub_le k1.1.1 (fl_fin (near_3 hw) (by decide)) k1.1.1 (by omega)
  have b0 := z_sub_ge (V := 0) k1.1.1 (fl_fin (near_3 hw) (by decide)) z_0.1 (by rw [z_0.2]; omega)
  rw [z_0.2] at b0
  exact fb_mul (fb_ab (near_2 h) (by decide) n1 k10.1.2) ⟨fl_fin (near_4 hw) (by decide), b0, b1⟩ (near_5 h hw) (by decide) k10.1 (by rw [k10.2, k1.2]; exact Nat.le_refl _)
theorem ord_fb (s m : Int32) : fb (ordV s m) 1092616192 := by
  unfold ordV
  split
  · exact ⟨k10.1.1, k10.1.2, Int.le_refl _⟩
  · exact ⟨z_0.1, Int.le_of_eq z_0.2.symm, by rw [show FP.fconst0 = 0 from rfl, z_0.2]; exact k10.1.2⟩
