/-! ===== bounds of floats: their values in units of the least float ===== -/
def zv (x : UInt32) : Int := FP.Core.zval FP.Core.b32 (FP.Core.val32 x)
abbrev zU : Int := ((2 ^ 149 : Nat) : Int)
theorem fl_fin {x : UInt32} {K : Nat} (h : fl x K) (hK : K ≤ 255) : FP.Core.FFin x := FP.Core.fin_of_lt32 h hK
theorem z_add_le {a b V : UInt32} (ha : FP.Core.FFin a) (hb : FP.Core.FFin b) (hV : FP.Core.FFin V) (h : zv a + zv b ≤ zv V) : zv (FP.fadd a b) ≤ zv V := by
  unfold zv
  rw [show FP.Core.val32 (FP.fadd a b) = FP.Core.round FP.Core.b32 (FP.Core.exactSum (FP.Core.val32 a) (FP.Core.val32 b)) from FP.Core.val32_fadd a b]
  exact FP.Core.sum_le FP.Core.good_b32 ha hb (FP.Core.val32_fits a) (FP.Core.val32_fits b) (FP.Core.val32_fits V) hV.ne_nan h
theorem z_add_ge {a b V : UInt32} (ha : FP.Core.FFin a) (hb : FP.Core.FFin b) (hV : FP.Core.FFin V) (h : zv V ≤ zv a + zv b) : zv V ≤ zv (FP.fadd a b) := by
  unfold zv
  rw [show FP.Core.val32 (FP.fadd a b) = FP.Core.round FP.Core.b32 (FP.Core.exactSum (FP.Core.val32 a) (FP.Core.val32 b)) from FP.Core.val32_fadd a b]
  exact FP.Core.sum_ge FP.Core.good_b32 ha hb (FP.Core.val32_fits a) (FP.Core.val32_fits b) (FP.Core.val32_fits V) hV.ne_nan h
theorem zv_neg (a : UInt32) : zv (FP.Core.fneg a) = - zv a := by
  unfold zv
  rw [show FP.Core.val32 (FP.Core.fneg a) = FP.Core.negate (FP.Core.val32 a) from FP.Core.val32_fneg a, FP.Core.zval_negate]
theorem fneg_fin {a : UInt32} (h : FP.Core.FFin a) : FP.Core.FFin (FP.Core.fneg a) := by
  obtain ⟨s, c, q, e⟩ := h
  refine ⟨!s, c, q, ?_⟩
  rw [show FP.Core.val32 (FP.Core.fneg a) = FP.Core.negate (FP.Core.val32 a) from FP.Core.val32_fneg a, e]
  rfl
theorem z_sub_le {a b V : UInt32} (ha : FP.Core.FFin a) (hb : FP.Core.FFin b) (hV : FP.Core.FFin V) (h : zv a - zv b ≤ zv V) : zv (FP.fsub a b) ≤ zv V := by
  rw [show FP.fsub a b = FP.fadd a (FP.Core.fneg b) from FP.Core.fsub_eq a b]
  exact z_add_le ha (fneg_fin hb) hV (by rw [zv_neg]; omega)
theorem z_sub_ge {a b V : UInt32} (ha : FP.Core.FFin a) (hb : FP.Core.FFin b) (hV : FP.Core.FFin V) (h : zv V ≤ zv a - zv b) : zv V ≤ zv (FP.fsub a b) := by
  rw [show FP.fsub a b = FP.fadd a (FP.Core.fneg b) from FP.Core.fsub_eq a b]
  exact z_add_ge ha (fneg_fin hb) hV (by rw [zv_neg]; omega)
/-! of products and quotients of what is not below zero -/
def zn (x : UInt32) : Nat := FP.Core.zmag FP.Core.b32 (FP.Core.val32 x)
/-- not below zero -/
def f0 (x : UInt32) : Prop := FP.Core.FFin x ∧ 0 ≤ zv x
theorem zv_zn {x : UInt32} (h : 0 ≤ zv x) : zv x = zn x := by
  unfold zv FP.Core.zval at h ⊢
  unfold zn
  generalize FP.Core.zmag FP.Core.b32 (FP.Core.val32 x) = m at h ⊢
  cases hs : FP.Core.sgn (FP.Core.val32 x) with
  | false => rfl
  | true =>
    rw [hs] at h
    simp only [FP.Core.signed, if_true] at h ⊢
    omega
theorem qmin32 : FP.Core.b32.qmin = -149 := by decide +kernel
theorem mul_shape {a b : UInt32} (ha : FP.Core.FFin a) (hb : FP.Core.FFin b) : ∃ s c q, FP.Core.val32 (FP.fmul a b) = FP.Core.roundRatio FP.Core.b32 s c 1 q ∧ 2 * FP.Core.b32.qmin ≤ q ∧ FP.Core.inUnits c q (2 * FP.Core.b32.qmin) = zn a * zn b ∧ s = (FP.Core.sgn (FP.Core.val32 a) != FP.Core.sgn (FP.Core.val32 b)) := by
  obtain ⟨s, c, q, ea⟩ := ha
  obtain ⟨t, d, r, eb⟩ := hb
  have fa := FP.Core.val32_fits a
  have fb := FP.Core.val32_fits b
  rw [ea] at fa
  rw [eb] at fb
  obtain ⟨h1, h2, h3⟩ := FP.Core.product_units fa fb
  refine ⟨s != t, c * d, q + r, ?_, h2, ?_, ?_⟩
  · rw [show FP.Core.val32 (FP.fmul a b) = FP.Core.round FP.Core.b32 (FP.Core.exactProduct (FP.Core.val32 a) (FP.Core.val32 b)) from FP.Core.val32_fmul a b, ea, eb, h1]
    rfl
  · rw [h3]
    unfold zn
    rw [ea, eb]
  · rw [ea, eb]
    rfl
theorem zn_mul_le {a b V : UInt32} (ha : FP.Core.FFin a) (hb : FP.Core.FFin b) (hV : FP.Core.FFin V) (h : zn a * zn b ≤ zn V * 2 ^ 149) : zn (FP.fmul a b) ≤ zn V := by
  obtain ⟨s, c, q, e, h2, h3, -⟩ := mul_shape ha hb
  unfold zn
  rw [e]
  refine FP.Core.zmag_roundRatio_le FP.Core.good_b32 (by decide) (FP.Core.val32_fits V) hV.ne_nan (e0 := 2 * FP.Core.b32.qmin) (by rw [qmin32]; decide) h2 ?_
  rw [h3, Nat.mul_one, show (FP.Core.b32.qmin - 2 * FP.Core.b32.qmin).toNat = 149 by rw [qmin32]; decide]
  exact h
theorem zn_mul_ge {a b V : UInt32} (ha : FP.Core.FFin a) (hb : FP.Core.FFin b) (h : zn V * 2 ^ 149 ≤ zn a * zn b) : zn V ≤ zn (FP.fmul a b) := by
  obtain ⟨s, c, q, e, h2, h3, -⟩ := mul_shape ha hb
  unfold zn
  rw [e]
  refine FP.Core.zmag_roundRatio_ge FP.Core.good_b32 (by decide) (FP.Core.val32_fits V) (e0 := 2 * FP.Core.b32.qmin) (by rw [qmin32]; decide) h2 ?_
  rw [h3, Nat.mul_one, show (FP.Core.b32.qmin - 2 * FP.Core.b32.qmin).toNat = 149 by rw [qmin32]; decide]
  exact h
theorem div_shape {a b : UInt32} (ha : FP.Core.FFin a) (hb : FP.Core.FFin b) (hz : zn b ≠ 0) : ∃ s c d q e0, FP.Core.val32 (FP.fdiv a b) = FP.Core.roundRatio FP.Core.b32 s c d q ∧ 0 < d ∧ e0 ≤ FP.Core.b32.qmin ∧ e0 ≤ q ∧ FP.Core.inUnits c q e0 = zn a * 2 ^ 149 ∧ 2 ^ (FP.Core.b32.qmin - e0).toNat * d = zn b ∧ s = (FP.Core.sgn (FP.Core.val32 a) != FP.Core.sgn (FP.Core.val32 b)) := by
  obtain ⟨s, c, q, ea⟩ := ha
  obtain ⟨t, d, r, eb⟩ := hb
  have fa := FP.Core.val32_fits a
  have fb := FP.Core.val32_fits b
  rw [ea] at fa
  rw [eb] at fb
  have a1 := fa.2.1
  have b1 := fb.2.1
  have zb : zn b = FP.Core.inUnits d r FP.Core.b32.qmin := by
    unfold zn
    rw [eb]
    rfl
  have hd : d ≠ 0 := fun z => hz (by rw [zb, z]; unfold FP.Core.inUnits; simp)
  rw [qmin32] at a1 b1 zb
  refine ⟨s != t, c, d, q - r, -149 - r - 149, ?_, Nat.pos_of_ne_zero hd, by rw [qmin32]; omega, by omega, ?_, ?_, ?_⟩
  · rw [show FP.Core.val32 (FP.fdiv a b) = FP.Core.quotient FP.Core.b32 (FP.Core.val32 a) (FP.Core.val32 b) from FP.Core.val32_fdiv a b, ea, eb]
    exact if_neg hd
  · unfold zn
    rw [ea]
    show _ = FP.Core.inUnits c q FP.Core.b32.qmin * 2 ^ 149
    rw [qmin32]
    unfold FP.Core.inUnits
    rw [Nat.mul_assoc, ← Nat.pow_add]
    congr 2
    omega
  · rw [zb, qmin32, Nat.mul_comm]
    unfold FP.Core.inUnits
    congr 2
    omega
  · rw [ea, eb]
    rfl
theorem zn_div_le {a b V : UInt32} (ha : FP.Core.FFin a) (hb : FP.Core.FFin b) (hz : zn b ≠ 0) (hV : FP.Core.FFin V) (h : zn a * 2 ^ 149 ≤ zn V * zn b) : zn (FP.fdiv a b) ≤ zn V := by
  obtain ⟨s, c, d, q, e0, e, hd, h0, h1, h2, h3, -⟩ := div_shape ha hb hz
  unfold zn
  rw [e]
  refine FP.Core.zmag_roundRatio_le FP.Core.good_b32 hd (FP.Core.val32_fits V) hV.ne_nan h0 h1 ?_
  rw [h2, Nat.mul_assoc, h3]
  exact h
theorem zn_div_ge {a b V : UInt32} (ha : FP.Core.FFin a) (hb : FP.Core.FFin b) (hz : zn b ≠ 0) (h : zn V * zn b ≤ zn a * 2 ^ 149) : zn V ≤ zn (FP.fdiv a b) := by
  obtain ⟨s, c, d, q, e0, e, hd, h0, h1, h2, h3, -⟩ := div_shape ha hb hz
  unfold zn
  rw [e]
  refine FP.Core.zmag_roundRatio_ge FP.Core.good_b32 hd (FP.Core.val32_fits V) h0 h1 ?_
  rw [h2, Nat.mul_assoc, h3]
  exact h
theorem s_same {x : UInt32} (h : 0 ≤ zv x) : FP.Core.sgn (FP.Core.val32 x) = false ∨ zn x = 0 := by
  unfold zv FP.Core.zval at h
  unfold zn
  generalize FP.Core.zmag FP.Core.b32 (FP.Core.val32 x) = m at h ⊢
  cases hs : FP.Core.sgn (FP.Core.val32 x) with
  | false => exact Or.inl rfl
  | true =>
    rw [hs] at h
    simp only [FP.Core.signed, if_true] at h
    exact Or.inr (by omega)
theorem zv_of {x : UInt32} (h : FP.Core.sgn (FP.Core.val32 x) = false ∨ zn x = 0) : 0 ≤ zv x := by
  unfold zv FP.Core.zval
  unfold zn at h
  generalize FP.Core.zmag FP.Core.b32 (FP.Core.val32 x) = m at h ⊢
  rcases h with h | h
  · rw [h]
    simp only [FP.Core.signed, Bool.false_eq_true, if_false]
    omega
  · rw [h]
    cases FP.Core.sgn (FP.Core.val32 x) <;> simp [FP.Core.signed]
theorem zv_mul_0 {a b : UInt32} (ha : f0 a) (hb : f0 b) : 0 ≤ zv (FP.fmul a b) := by
  obtain ⟨s, c, q, e, h2, h3, hs⟩ := mul_shape ha.1 hb.1
  have hz : ∀ z : UInt32, zn z = 0 → zn a * zn b = 0 → zn (FP.fmul a b) = 0 := fun z _ h => by
    have h9 := zn_mul_le (V := 0) ha.1 hb.1 ⟨false, 0, FP.Core.b32.qmin, FP.Core.val32_zero⟩ (by rw [h]; exact Nat.zero_le _)
    have e9 : zn 0 = 0 := by unfold zn; rw [FP.Core.val32_zero]; decide
    omega
  refine zv_of ?_
  rcases s_same ha.2 with h | h
  · rcases s_same hb.2 with k | k
    · refine Or.inl ?_
      rw [e, FP.Core.sgn_roundRatio, hs, h, k]
      rfl
    · exact Or.inr (hz b k (by rw [k]; rfl))
  · exact Or.inr (hz a h (by rw [h, Nat.zero_mul]))
theorem zv_div_0 {a b : UInt32} (ha : f0 a) (hb : f0 b) (hz : zn b ≠ 0) : 0 ≤ zv (FP.fdiv a b) := by
  obtain ⟨s, c, d, q, e0, e, hd, h0, h1, h2, h3, hs⟩ := div_shape ha.1 hb.1 hz
  refine zv_of ?_
  rcases s_same ha.2 with h | h
  · rcases s_same hb.2 with k | k
    · refine Or.inl ?_
      rw [e, FP.Core.sgn_roundRatio, hs, h, k]
      rfl
    · exact absurd k hz
  · have h9 := zn_div_le (V := 0) ha.1 hb.1 hz ⟨false, 0, FP.Core.b32.qmin, FP.Core.val32_zero⟩ (by rw [h, Nat.zero_mul]; exact Nat.zero_le _)
    have e9 : zn 0 = 0 := by unfold zn; rw [FP.Core.val32_zero]; decide
    exact Or.inr (by omega)
/-- finite, not below zero, at most V -/
def fb (x V : UInt32) : Prop := FP.Core.FFin x ∧ 0 ≤ zv x ∧ zv x ≤ zv V
theorem fb.z {x V : UInt32} (h : fb x V) : zn x ≤ zn V := by
  have h1 := zv_zn h.2.1
  have h2 := zv_zn (x := V) (Int.le_trans h.2.1 h.2.2)
  have := h.2.2
  omega
theorem fb_of {x V : UInt32} (hx : FP.Core.FFin x) (h0 : 0 ≤ zv x) (hV : 0 ≤ zv V) (h : zn x ≤ zn V) : fb x V := by
  refine ⟨hx, h0, ?_⟩
  rw [zv_zn h0, zv_zn hV]
  exact Int.ofNat_le.mpr h
theorem fb_mul {a b A B V : UInt32} {K : Nat} (ha : fb a A) (hb : fb b B) (hf : fl (FP.fmul a b) K) (hK : K ≤ 255) (hV : f0 V) (h : zn A * zn B ≤ zn V * 2 ^ 149) : fb (FP.fmul a b) V :=
  fb_of (fl_fin hf hK) (zv_mul_0 ⟨ha.1, ha.2.1⟩ ⟨hb.1, hb.2.1⟩) hV.2 (zn_mul_le ha.1 hb.1 hV.1 (Nat.le_trans (Nat.mul_le_mul ha.z hb.z) h))
theorem fb_div {a b A V : UInt32} {K : Nat} (ha : fb a A) (hb : f0 b) (hz : zn b ≠ 0) (hf : fl (FP.fdiv a b) K) (hK : K ≤ 255) (hV : f0 V) (h : zn A * 2 ^ 149 ≤ zn V * zn b) : fb (FP.fdiv a b) V :=
  fb_of (fl_fin hf hK) (zv_div_0 ⟨ha.1, ha.2.1⟩ hb hz) hV.2 (zn_div_le ha.1 hb.1 hz hV.1 (Nat.le_trans (Nat.mul_le_mul_right _ ha.z) h))
theorem z_0 : FP.Core.FFin 0 ∧ zv 0 = 0 := ⟨⟨false, 0, FP.Core.b32.qmin, FP.Core.val32_zero⟩, FP.Core.zval32_zero⟩
theorem fb_add {a b A B V : UInt32} {K : Nat} (ha : fb a A) (hb : fb b B) (hf : fl (FP.fadd a b) K) (hK : K ≤ 255) (hV : FP.Core.FFin V) (h : zv A + zv B ≤ zv V) : fb (FP.fadd a b) V := by
  have a1 := ha.2.1
  have a2 := ha.2.2
  have b1 := hb.2.1
  have b2 := hb.2.2
  refine ⟨fl_fin hf hK, ?_, z_add_le ha.1 hb.1 hV (by omega)⟩
  have h1 := z_add_ge (V := 0) ha.1 hb.1 z_0.1 (by rw [z_0.2]; omega)
  rw [z_0.2] at h1
  exact h1
theorem fb_m {x A V : UInt32} (h : fb x A) (hV : zv A ≤ zv V) : fb x V := ⟨h.1, h.2.1, Int.le_trans h.2.2 hV⟩
/-- of a whole number -/
theorem zv_i2f {v : Int32} (h : v.toInt.natAbs ≤ 2 ^ 24) : zv (FP.i2f v) = v.toInt * zU := FP.Core.FInt_zval (FP.Core.i2f_int h)
theorem i2f_fin (v : Int32) : FP.Core.FFin (FP.i2f v) := FP.Core.i2f_fin v
theorem i2f_0 {v : Int32} (h : 0 ≤ v.toInt) (h2 : v.toInt.natAbs ≤ 2 ^ 24) : f0 (FP.i2f v) := ⟨i2f_fin v, by rw [zv_i2f h2]; exact Int.mul_nonneg h (Int.natCast_nonneg _)⟩
/-! what a comparison of the law finds -/
theorem c_ge0 {x V : UInt32} (h : fb x V) : 0 ≤ Op.cmpValue (FP.fcmp x FP.fconst0) .l := by
  have e : FP.fcmp x FP.fconst0 = some (compare (zv x) (zv FP.fconst0)) := FP.Core.fcmp_zval h.1.ne_nan (by decide)
  have e0 : zv FP.fconst0 = 0 := FP.Core.zval32_zero
  rw [e, e0]
  have h0 := h.2.1
  generalize zv x = z at h0
  rcases Int.lt_trichotomy z 0 with q | q | q
  · omega
  · rw [q]; decide
  · rw [show compare z 0 = .gt from (FP.Core.compare_gt_iff _ _).mpr q]; decide
theorem c_le {x V : UInt32} (h : fb x V) (hV : FP.Core.FFin V) : Op.cmpValue (FP.fcmp x V) .g ≤ 0 := by
  have e : FP.fcmp x V = some (compare (zv x) (zv V)) := FP.Core.fcmp_zval h.1.ne_nan hV.ne_nan
  rw [e]
  have h0 := h.2.2
  generalize zv x = z at h0
  generalize zv V = w at h0
  rcases Int.lt_trichotomy z w with q | q | q
  · rw [show compare z w = .lt from (FP.Core.compare_lt_iff _ _).mpr q]; decide
  · rw [show compare z w = .eq from (FP.Core.compare_eq_iff _ _).mpr q]; decide
  · omega
