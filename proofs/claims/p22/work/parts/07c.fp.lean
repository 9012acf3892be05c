/-! small whole numbers -/
theorem bm_id {x : Int} (h : -2147483648 ≤ x ∧ x ≤ 2147483647) : x.bmod (2 ^ 32) = x := Int.bmod_eq_of_le_mul_two (by omega) (by omega)
theorem rg_add {x y : Int32} {a b c d : Int} (hx : rg x a b) (hy : rg y c d) (h : -2147483648 ≤ a + c ∧ b + d ≤ 2147483647) : (x + y).toInt = x.toInt + y.toInt ∧ rg (x + y) (a + c) (b + d) := by
  unfold rg at *
  have : (x + y).toInt = x.toInt + y.toInt := by rw [Int32.toInt_add]; exact bm_id (by omega)
  exact ⟨this, by omega⟩
theorem rg_sub {x y : Int32} {a b c d : Int} (hx : rg x a b) (hy : rg y c d) (h : -2147483648 ≤ a - d ∧ b - c ≤ 2147483647) : (x - y).toInt = x.toInt - y.toInt ∧ rg (x - y) (a - d) (b - c) := by
  unfold rg at *
  have : (x - y).toInt = x.toInt - y.toInt := by rw [Int32.toInt_sub]; exact bm_id (by omega)
  exact ⟨this, by omega⟩
theorem sq_bd {m n x y : Int} (hx : -m ≤ x ∧ x ≤ m) (hy : -n ≤ y ∧ y ≤ n) : -(m * n) ≤ x * y ∧ x * y ≤ m * n := by
  have hm : 0 ≤ m := by omega
  have hn : 0 ≤ n := by omega
  have h1 : (x * y).natAbs ≤ (m * n).natAbs := by
    rw [Int.natAbs_mul, Int.natAbs_mul]
    exact Nat.mul_le_mul (by omega) (by omega)
  have h2 : 0 ≤ m * n := Int.mul_nonneg hm hn
  omega
theorem rg_mul {x y : Int32} (m n : Int) (hx : rg x (-m) m) (hy : rg y (-n) n) (h : m * n ≤ 2147483647) : (x * y).toInt = x.toInt * y.toInt ∧ rg (x * y) (-(m * n)) (m * n) := by
  have h1 := sq_bd hx hy
  have : (x * y).toInt = x.toInt * y.toInt := by rw [Int32.toInt_mul]; exact bm_id (by omega)
  exact ⟨this, by unfold rg; rw [this]; exact h1⟩
def amI (v : Int32) : Int32 := if v < 0 then -v else v
theorem am_rg {v : Int32} {m : Int} (h : rg v (-m) m) (hm : m ≤ 2147483647) : (amI v).toInt = v.toInt.natAbs ∧ rg (amI v) 0 m := by
  unfold rg at *
  have e0 : (0 : Int32).toInt = 0 := rfl
  unfold amI
  by_cases hv : v < 0
  · rw [if_pos hv]
    rw [Int32.lt_iff_toInt_lt, e0] at hv
    have : (-v).toInt = -v.toInt := by rw [Int32.toInt_neg]; exact bm_id (by omega)
    rw [this]
    omega
  · rw [if_neg hv]
    rw [Int32.lt_iff_toInt_lt, e0] at hv
    omega
/-! comparisons with zero -/
theorem fl_ne {x : UInt32} {K : Nat} (h : fl x K) (hK : K ≤ 255) : FP.Core.val32 x ≠ .nan := by
  rw [FP.Core.ne_nan32]
  have h1 : K * 2 ^ 23 ≤ 255 * 2 ^ 23 := Nat.mul_le_mul_right _ hK
  have h2 : (255 : Nat) * 2 ^ 23 = 2139095040 := by decide
  unfold fl at h
  rw [← h2]
  exact Nat.le_of_lt (Nat.lt_of_lt_of_le h h1)
def abF (v : UInt32) : UInt32 := if Op.cmpValue (FP.fcmp v FP.fconst0) .l ≤ 0 then FP.fconst0 else v
/-- the other clamp: below zero it is zero -/
def clF (v : UInt32) : UInt32 := if 0 ≤ Op.cmpValue (FP.fcmp v FP.fconst0) .g then v else FP.fconst0
theorem fcmp0 {x : UInt32} {K : Nat} (h : fl x K) (hK : K ≤ 255) : FP.fcmp x FP.fconst0 = some (compare (FP.Core.fkey x) 0) := by
  have h0 : FP.Core.fkey FP.fconst0 = 0 := by decide
  rw [← h0]
  exact FP.Core.fcmp_key (fl_ne h hK) (fl_ne fl_0 (by decide))
theorem cl_ab {v : UInt32} {K : Nat} (h : fl v K) (hK : K ≤ 255) (hz : v ≠ 2147483648) : clF v = abF v := by
  unfold clF abF
  rw [fcmp0 h hK]
  rcases Int.lt_trichotomy (FP.Core.fkey v) 0 with z | z | z
  · rw [(FP.Core.compare_lt_iff _ _).mpr z]
    rfl
  · rw [(FP.Core.compare_eq_iff _ _).mpr z]
    have hv : v = 0 := by
      unfold FP.Core.fkey at z
      have hb := v.toNat_lt
      split at z
      · have : v.toNat = 2147483648 := by omega
        exact absurd (UInt32.toNat_inj.mp this) hz
      · have : v.toNat = 0 := by omega
        exact UInt32.toNat_inj.mp this
    rw [hv]
    decide
  · rw [(FP.Core.compare_gt_iff _ _).mpr z]
    rfl
theorem ab_fl {v : UInt32} {K : Nat} (h : fl v K) (hK : 1 ≤ K) : fl (abF v) K := by
  unfold abF
  split
  · exact fl_m fl_0 hK
  · exact h
/-- no sign: zero or more -/
def nn (v : UInt32) : Prop := v.toNat < 2147483648
theorem fg_nz {v : UInt32} {L : Nat} (h : fg v L) (hL : 1 ≤ L) : v ≠ 2147483648 ∧ v ≠ 0 := by
  unfold fg at h
  have h1 : 1 * 2 ^ 23 ≤ L * 2 ^ 23 := Nat.mul_le_mul_right _ hL
  constructor <;> rintro rfl <;> exact absurd (Nat.le_trans h1 h) (by decide)
theorem i2f_sgn (v : Int32) : FP.Core.sgn (FP.Core.val32 (FP.i2f v)) = decide (v.toInt < 0) := by
  show FP.Core.sgn (FP.Core.val32 (FP.Core.i2f v)) = _
  rw [FP.Core.val32_i2f]
  exact FP.Core.sgn_roundRatio _ _ _ _ _
theorem i2f_pos {v : Int32} {j : Nat} (hv : 0 < v.toInt) (hj : v.toInt.natAbs ≤ 2 ^ j) (h : j ≤ 127) : 0 < FP.Core.fkey (FP.i2f v) ∧ ∃ c q, FP.Core.val32 (FP.i2f v) = .fin false c q ∧ c ≠ 0 := by
  have hl : fl (FP.i2f v) (j + 128) := fl_i2f j _ hj (Nat.le_refl _)
  have hg : fg (FP.i2f v) 127 := fg_i2f (by omega)
  have hne := fl_ne hl (by omega)
  have hs := i2f_sgn v
  have hs2 := FP.Core.sgn_bits32 hne
  rw [hs2, decide_eq_decide] at hs
  have hlt : ¬ 2 ^ 31 ≤ (FP.i2f v).toNat := fun z => by have := hs.mp z; omega
  have hb := (FP.i2f v).toNat_lt
  have hm : 0 < (FP.i2f v).toNat := by
    unfold fg at hg
    have h2 : (127 : Nat) * 2 ^ 23 = 1065353216 := by decide
    rw [h2] at hg
    omega
  constructor
  · unfold FP.Core.fkey
    rw [if_neg hlt]
    omega
  · have hx : FP.Core.mag FP.Core.b32 (FP.i2f v).toNat < (j + 128) * FP.Core.b32.tails := by rw [FP.Core.mag_toNat32, FP.Core.tails_b32]; exact hl
    obtain ⟨s, c, q, x1, x2, x3⟩ := FP.Core.fin_of_mag FP.Core.good_b32 (FP.Core.mag_lt_inf hx (by rw [FP.Core.exps_b32]; omega))
    have e1 : FP.Core.val32 (FP.i2f v) = .fin s c q := x1
    have hs3 := i2f_sgn v
    rw [e1] at hs3
    have hs4 : s = false := by
      have : s = decide (v.toInt < 0) := hs3
      rw [this, decide_eq_false_iff_not]
      omega
    subst hs4
    refine ⟨c, q, e1, ?_⟩
    rintro rfl
    have z0 : FP.Core.zmag FP.Core.b32 (.fin false 0 q) = 0 := Nat.zero_mul _
    rw [x3] at z0
    have hgx : 127 * FP.Core.b32.tails ≤ FP.Core.mag FP.Core.b32 (FP.i2f v).toNat := by rw [FP.Core.mag_toNat32, FP.Core.tails_b32]; exact hg
    have lx := (FP.Core.unitsOf_le_iff (f := FP.Core.b32)).mpr hgx
    rw [FP.Core.unitsOf_start (by decide), z0] at lx
    have := Nat.mul_pos (FP.Core.tails_pos FP.Core.b32) (Nat.two_pow_pos (127 - 1))
    omega
theorem fdiv_0 {x : UInt32} {c : Nat} {q : Int} (h : FP.Core.val32 x = .fin false c q) (hc : c ≠ 0) : FP.fdiv FP.fconst0 x = FP.fconst0 := by
  refine FP.Core.val32_inj (a := FP.fdiv FP.fconst0 x) (b := FP.fconst0) ?_ ?_
  · show FP.Core.val32 (FP.Core.fdiv FP.Core.fconst0 x) ≠ .nan
    rw [FP.Core.val32_fdiv, FP.Core.val32_fconst0, h]
    simp [FP.Core.quotient, hc, FP.Core.roundRatio]
  · show FP.Core.val32 (FP.Core.fdiv FP.Core.fconst0 x) = FP.Core.val32 FP.Core.fconst0
    rw [FP.Core.val32_fdiv, FP.Core.val32_fconst0, h]
    simp [FP.Core.quotient, hc, FP.Core.roundRatio]
/-- the sign turned of a whole number below zero is that of its amount -/
theorem fneg_i2f {v : Int32} (h : v.toInt < 0) (h2 : -2147483647 ≤ v.toInt) : FP.fneg (FP.i2f v) = FP.i2f (amI v) := by
  have ha : (amI v).toInt = -v.toInt := by
    have := (am_rg (v := v) (m := 2147483647) ⟨by omega, by omega⟩ (by omega)).1
    omega
  have e : FP.Core.val32 (FP.fneg (FP.i2f v)) = FP.Core.val32 (FP.i2f (amI v)) := by
    rw [FP.val32_fneg]
    show FP.Core.negate (FP.Core.val32 (FP.Core.i2f v)) = FP.Core.val32 (FP.Core.i2f (amI v))
    rw [FP.Core.val32_i2f, FP.Core.val32_i2f, ha]
    show FP.Core.negate (FP.Core.roundRatio _ _ _ _ _) = FP.Core.roundRatio _ _ _ _ _
    rw [FP.Core.negate_roundRatio]
    congr 1
    · simp [h]; omega
    · omega
  refine FP.Core.val32_inj ?_ e
  rw [e]
  exact fl_ne (fl_i2f (v := amI v) 31 159 (by rw [ha]; omega) (by omega)) (by omega)
