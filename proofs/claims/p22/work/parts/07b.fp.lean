theorem fg_mul {a b : UInt32} {Ka Kb La Lb : Nat} (K : Nat) (ha : fl a Ka) (hb : fl b Kb) (ga : fg a La) (gb : fg b Lb) (h : Ka ≤ 255 ∧ Kb ≤ 255 ∧ 1 ≤ La ∧ 1 ≤ Lb ∧ 1 ≤ K ∧ K ≤ 255 ∧ K + 127 ≤ La + Lb) : fg (FP.fmul a b) K := by
  obtain ⟨h1, h2, h3, h4, h5, h6, h7⟩ := h
  have hf := FP.Core.good_b32
  have hx : FP.Core.mag FP.Core.b32 a.toNat < Ka * FP.Core.b32.tails := by rw [FP.Core.mag_toNat32, FP.Core.tails_b32]; exact ha
  have hy : FP.Core.mag FP.Core.b32 b.toNat < Kb * FP.Core.b32.tails := by rw [FP.Core.mag_toNat32, FP.Core.tails_b32]; exact hb
  have gx : La * FP.Core.b32.tails ≤ FP.Core.mag FP.Core.b32 a.toNat := by rw [FP.Core.mag_toNat32, FP.Core.tails_b32]; exact ga
  have gy : Lb * FP.Core.b32.tails ≤ FP.Core.mag FP.Core.b32 b.toNat := by rw [FP.Core.mag_toNat32, FP.Core.tails_b32]; exact gb
  obtain ⟨s, c, q, x1, x2, x3⟩ := FP.Core.fin_of_mag hf (FP.Core.mag_lt_inf hx (by rw [FP.Core.exps_b32]; omega))
  obtain ⟨t, d, r, y1, y2, y3⟩ := FP.Core.fin_of_mag hf (FP.Core.mag_lt_inf hy (by rw [FP.Core.exps_b32]; omega))
  obtain ⟨p1, p2, p3⟩ := FP.Core.product_units x2 y2
  have hd : FP.Core.decode FP.Core.b32 (FP.fmul a b).toNat = FP.Core.roundRatio FP.Core.b32 (s != t) (c * d) 1 (q + r) := by
    have h9 : FP.Core.decode FP.Core.b32 (FP.fmul a b).toNat = _ := FP.Core.val32_fmul a b
    rw [h9]
    unfold FP.Core.val32
    rw [x1, y1, p1]
    rfl
  have hq : FP.Core.b32.qmin = -149 := FP.Core.qmin_b32
  have key := FP.Core.mag_ge hf hd (by decide) (e0 := 2 * FP.Core.b32.qmin) (m := K * FP.Core.b32.tails) (by rw [hq]; decide) p2 (by unfold FP.Core.infBits; rw [FP.Core.exps_b32]; exact Nat.mul_le_mul_right _ h6) (by
    rw [p3, x3, y3, FP.Core.unitsOf_start h5, Nat.mul_one]
    have lx := (FP.Core.unitsOf_le_iff (f := FP.Core.b32)).mpr gx
    have ly := (FP.Core.unitsOf_le_iff (f := FP.Core.b32)).mpr gy
    rw [FP.Core.unitsOf_start h3] at lx
    rw [FP.Core.unitsOf_start h4] at ly
    refine Nat.le_trans ?_ (Nat.mul_le_mul lx ly)
    rw [hq, FP.Core.tails_b32, show ((-149 : Int) - 2 * -149).toNat = 149 from rfl, ← Nat.pow_add, ← Nat.pow_add, ← Nat.pow_add, ← Nat.pow_add, ← Nat.pow_add]
    exact Nat.pow_le_pow_right (by decide) (by omega))
  rw [FP.Core.mag_toNat32, FP.Core.tails_b32] at key
  exact key
theorem fg_div {a b : UInt32} {Ka Kb La Lb : Nat} (K : Nat) (ha : fl a Ka) (hb : fl b Kb) (ga : fg a La) (gb : fg b Lb) (h : Ka ≤ 255 ∧ Kb ≤ 255 ∧ 1 ≤ La ∧ 1 ≤ Lb ∧ 1 ≤ K ∧ K ≤ 255 ∧ K + Kb ≤ La + 127) : fg (FP.fdiv a b) K := by
  obtain ⟨h1, h2, h3, h4, h5, h6, h7⟩ := h
  have hf := FP.Core.good_b32
  have hx : FP.Core.mag FP.Core.b32 a.toNat < Ka * FP.Core.b32.tails := by rw [FP.Core.mag_toNat32, FP.Core.tails_b32]; exact ha
  have hy : FP.Core.mag FP.Core.b32 b.toNat < Kb * FP.Core.b32.tails := by rw [FP.Core.mag_toNat32, FP.Core.tails_b32]; exact hb
  have gx : La * FP.Core.b32.tails ≤ FP.Core.mag FP.Core.b32 a.toNat := by rw [FP.Core.mag_toNat32, FP.Core.tails_b32]; exact ga
  have gy : Lb * FP.Core.b32.tails ≤ FP.Core.mag FP.Core.b32 b.toNat := by rw [FP.Core.mag_toNat32, FP.Core.tails_b32]; exact gb
  obtain ⟨s, c, q, x1, x2, x3⟩ := FP.Core.fin_of_mag hf (FP.Core.mag_lt_inf hx (by rw [FP.Core.exps_b32]; omega))
  obtain ⟨t, d, r, y1, y2, y3⟩ := FP.Core.fin_of_mag hf (FP.Core.mag_lt_inf hy (by rw [FP.Core.exps_b32]; omega))
  have hq : FP.Core.b32.qmin = -149 := FP.Core.qmin_b32
  have ht : FP.Core.b32.tails = 2 ^ 23 := FP.Core.tails_b32
  have lx := (FP.Core.unitsOf_le_iff (f := FP.Core.b32)).mpr gx
  have ly := (FP.Core.unitsOf_le_iff (f := FP.Core.b32)).mpr gy
  rw [FP.Core.unitsOf_start h3, ← x3] at lx
  rw [FP.Core.unitsOf_start h4, ← y3] at ly
  obtain ⟨k2, uy⟩ := FP.Core.units_lt_start hy
  rw [← y3] at uy
  have hd0 : d ≠ 0 := by
    rintro rfl
    have h1 : FP.Core.zmag FP.Core.b32 (.fin t 0 r) = 0 := Nat.zero_mul _
    have := Nat.mul_pos (FP.Core.tails_pos FP.Core.b32) (Nat.two_pow_pos (Lb - 1))
    omega
  have hd : FP.Core.decode FP.Core.b32 (FP.fdiv a b).toNat = FP.Core.roundRatio FP.Core.b32 (s != t) c d (q - r) := by
    have h9 : FP.Core.decode FP.Core.b32 (FP.fdiv a b).toNat = _ := FP.Core.val32_fdiv a b
    rw [h9]
    unfold FP.Core.val32
    rw [x1, y1]
    simp only [FP.Core.quotient, if_neg hd0]
  have hx1 := x2.2.1
  have hy1 := y2.2.1
  have key := FP.Core.mag_ge hf hd (by omega) (e0 := 2 * FP.Core.b32.qmin - r) (m := K * FP.Core.b32.tails) (by omega) (by omega) (by unfold FP.Core.infBits; rw [FP.Core.exps_b32]; exact Nat.mul_le_mul_right _ h6) (by
    rw [FP.Core.unitsOf_start h5]
    have e1 : FP.Core.inUnits c (q - r) (2 * FP.Core.b32.qmin - r) = FP.Core.zmag FP.Core.b32 (.fin s c q) * 2 ^ (-FP.Core.b32.qmin).toNat := by
      show c * _ = c * _ * _
      rw [Nat.mul_assoc, ← Nat.pow_add]; congr 2; omega
    have e2 : 2 ^ (FP.Core.b32.qmin - (2 * FP.Core.b32.qmin - r)).toNat * d = FP.Core.zmag FP.Core.b32 (.fin t d r) := by
      show _ = d * _
      rw [Nat.mul_comm]; congr 2; omega
    rw [e1, Nat.mul_assoc, e2]
    refine Nat.le_trans (Nat.mul_le_mul_left _ (Nat.le_of_lt uy)) (Nat.le_trans ?_ (Nat.mul_le_mul_right _ lx))
    rw [hq, ht, show (-(-149 : Int)).toNat = 149 from rfl, ← Nat.pow_add, ← Nat.pow_add, ← Nat.pow_add, ← Nat.pow_add, ← Nat.pow_add]
    exact Nat.pow_le_pow_right (by decide) (by omega))
  rw [FP.Core.mag_toNat32, FP.Core.tails_b32] at key
  exact key
