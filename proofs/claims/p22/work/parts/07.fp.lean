/-! ===== floats: their magnitude by the exponent; where that is bounded nothing is a NaN ===== -/
def fl (x : UInt32) (K : Nat) : Prop := x.toNat % 2 ^ 31 < K * 2 ^ 23
theorem fl_n {x : UInt32} {K : Nat} (h : fl x K) (hK : K ≤ 255) : vf_n32 x := by
  unfold vf_n32
  rw [UInt32.le_iff_toNat_le, FP.Core.mask_toNat32]
  rw [show (0x7f800000 : UInt32).toNat = 255 * 2 ^ 23 from rfl]
  exact Nat.le_of_lt (Nat.lt_of_lt_of_le h (Nat.mul_le_mul_right _ hK))
theorem fl_m {x : UInt32} {K L : Nat} (h : fl x K) (hK : K ≤ L) : fl x L := Nat.lt_of_lt_of_le h (Nat.mul_le_mul_right _ hK)
theorem fl_mul {a b : UInt32} {Ka Kb : Nat} (K : Nat) (ha : fl a Ka) (hb : fl b Kb) (h : Ka ≤ 255 ∧ Kb ≤ 255 ∧ Ka + Kb - 129 + 3 ≤ K) : fl (FP.fmul a b) K := fl_m (FP.Core.fmul_mag ha hb h.1 h.2.1) h.2.2
theorem fl_add {a b : UInt32} {Ka Kb : Nat} (K : Nat) (ha : fl a Ka) (hb : fl b Kb) (h : Ka + 2 ≤ K ∧ Kb + 2 ≤ K ∧ K ≤ 255) : fl (FP.fadd a b) K := by
  have h1 := FP.Core.fadd_mag (a := a) (b := b) (K := K - 2) (fl_m ha (by omega)) (fl_m hb (by omega)) (by omega)
  exact fl_m h1 (by omega)
theorem fl_sub {a b : UInt32} {Ka Kb : Nat} (K : Nat) (ha : fl a Ka) (hb : fl b Kb) (h : Ka + 2 ≤ K ∧ Kb + 2 ≤ K ∧ K ≤ 255) : fl (FP.fsub a b) K := by
  have h1 := FP.Core.fsub_mag (a := a) (b := b) (K := K - 2) (fl_m ha (by omega)) (fl_m hb (by omega)) (by omega)
  exact fl_m h1 (by omega)
/-- a magnitude of at least 2 to the L less 127 -/
def fg (x : UInt32) (L : Nat) : Prop := L * 2 ^ 23 ≤ x.toNat % 2 ^ 31
theorem fl_div {a b : UInt32} {Ka Kb L : Nat} (K : Nat) (ha : fl a Ka) (hb : fl b Kb) (hl : fg b L) (h : Ka ≤ 255 ∧ Kb ≤ 255 ∧ 1 ≤ L ∧ Ka + 125 - L + 3 ≤ K) : fl (FP.fdiv a b) K :=
  fl_m (FP.Core.fdiv_mag ha hl (fl_m hb h.2.1) h.1 h.2.2.1) (by omega)
theorem fl_i2f {v : Int32} (j K : Nat) (hv : v.toInt.natAbs ≤ 2 ^ j) (h : j + 128 ≤ K) : fl (FP.i2f v) K := by
  have h1 := FP.Core.fromInt_mag32 (K := j + 127) (FP.Core.toNat_i2f v) hv (by omega) (by omega)
  unfold fl
  have h2 : (j + 127) * 2 ^ 23 < K * 2 ^ 23 := Nat.mul_lt_mul_of_pos_right (by omega) (by decide)
  exact Nat.lt_of_le_of_lt h1 h2
theorem fg_i2f {v : Int32} (hv : v.toInt ≠ 0) : fg (FP.i2f v) 127 := FP.Core.fromInt_ge32 (FP.Core.toNat_i2f v) hv
theorem fl_nI {n j K : Nat} (hn : n ≤ 2 ^ j) (hj : j ≤ 30) (h : j + 128 ≤ K) : fl (FP.i2f (nI n)) K := by
  have h1 : (2 : Nat) ^ j ≤ 2 ^ 30 := Nat.pow_le_pow_right (by decide) hj
  have h2 : n < 2 ^ 31 := by omega
  refine fl_i2f j K ?_ h
  rw [nI_toInt h2]
  exact hn
theorem fg_nI {n : Nat} (h0 : 0 < n) (hn : n < 2 ^ 31) : fg (FP.i2f (nI n)) 127 := fg_i2f (by rw [nI_toInt hn]; omega)
def f10 : UInt32 := 1092616192
def f100 : UInt32 := 1120403456
def f200 : UInt32 := 1128792064
theorem fl_10 : fl 1092616192 131 := by unfold fl; decide
theorem fg_10 : fg 1092616192 130 := by unfold fg; decide
theorem fl_100 : fl 1120403456 134 := by unfold fl; decide
theorem fg_100 : fg 1120403456 133 := by unfold fg; decide
theorem fl_200 : fl 1128792064 135 := by unfold fl; decide
theorem fg_200 : fg 1128792064 134 := by unfold fg; decide
theorem fl_0 : fl FP.fconst0 1 := by unfold fl; decide
theorem fl_1 : fl FP.fconst1 128 := by unfold fl; decide
theorem fl_2 : fl FP.fconst2 129 := by unfold fl; decide
theorem fg_2 : fg FP.fconst2 128 := by unfold fg; decide
