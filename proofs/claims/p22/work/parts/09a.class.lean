/-! ===== the class: its cells ===== -/
def dvX0 : List Value := [.int 0, .int 0, .int 0, .int 0, .int 0, .int 0, .null, .null, .int 0, .int 0]
def dvX1 : List Value := [.null]
def dvX2 : List Value := [.int 0, .int 0, .int 0]
def dvX3 : List Value := [.float 0, .float 0, .float 0]
def dvX4 : List Value := [.int 0, .int 0, .int 0, .int 0]
def dvX5 : List Value := [.null, .int 0]
def dvX6 : List Value := [.int 0, .int 0, .int 0]
def dvX7 : List Value := [.null, .int 0, .int 0, .int 0]
theorem dfX0 : ∀ j, j < 10 → defaultValue (tyX0 j) = vp_V dvX0 j := fun j hj => match j, hj with
  | 0, _ => rfl | 1, _ => rfl | 2, _ => rfl | 3, _ => rfl | 4, _ => rfl | 5, _ => rfl | 6, _ => rfl | 7, _ => rfl | 8, _ => rfl | 9, _ => rfl
  | n + 10, h => absurd h (by omega)
theorem dfX1 : ∀ j, j < 1 → defaultValue (tyX1 j) = vp_V dvX1 j := fun j hj => match j, hj with
  | 0, _ => rfl | n + 1, h => absurd h (by omega)
theorem dfX2 : ∀ j, j < 3 → defaultValue (tyX2 j) = vp_V dvX2 j := fun j hj => match j, hj with
  | 0, _ => rfl | 1, _ => rfl | 2, _ => rfl | n + 3, h => absurd h (by omega)
theorem dfX3 : ∀ j, j < 3 → defaultValue (tyX3 j) = vp_V dvX3 j := fun j hj => match j, hj with
  | 0, _ => rfl | 1, _ => rfl | 2, _ => rfl | n + 3, h => absurd h (by omega)
theorem dfX4 : ∀ j, j < 4 → defaultValue (tyX4 j) = vp_V dvX4 j := fun j hj => match j, hj with
  | 0, _ => rfl | 1, _ => rfl | 2, _ => rfl | 3, _ => rfl | n + 4, h => absurd h (by omega)
theorem dfX5 : ∀ j, j < 2 → defaultValue (tyX5 j) = vp_V dvX5 j := fun j hj => match j, hj with
  | 0, _ => rfl | 1, _ => rfl | n + 2, h => absurd h (by omega)
theorem dfX6 : ∀ j, j < 3 → defaultValue (tyX6 j) = vp_V dvX6 j := fun j hj => match j, hj with
  | 0, _ => rfl | 1, _ => rfl | 2, _ => rfl | n + 3, h => absurd h (by omega)
theorem dfX7 : ∀ j, j < 4 → defaultValue (tyX7 j) = vp_V dvX7 j := fun j hj => match j, hj with
  | 0, _ => rfl | 1, _ => rfl | 2, _ => rfl | 3, _ => rfl | n + 4, h => absurd h (by omega)
/-- an array of references, an array of ints, an object -/
abbrev aR (tc n : Nat) (f : Nat → Option Nat) : va_E := .inl (tc, n, .inr (.inr (.inr (.inr f))))
abbrev aI (n : Nat) (f : Nat → Int32) : va_E := .inl (10, n, .inl f)
abbrev oB (ci : Nat) (fs : List Value) : va_E := .inr (ci, fs)
theorem va_rf_ok (r : Option Nat) : va_rf r = .null ∨ ∃ a, va_rf r = .ref a := by
  cases r with
  | none => exact Or.inl rfl
  | some a => exact Or.inr ⟨a, rfl⟩
theorem xq_r {r r' : Value} {M M' : MH} (h : r = r') (hM : M = M') : xq (some r') M' (some r) M := by rw [h, hM]; exact ⟨rfl, rfl⟩
/-- the place k of a row of n, or nothing -/
def atR (n : Nat) (f : Nat → Option Nat) (k : Int32) : Option Nat := if 0 ≤ k ∧ k < nI n then f (ix k) else none
theorem atR_in {n : Nat} {f : Nat → Option Nat} {k : Int32} (h0 : ¬ k < 0) (h : ¬ nI n ≤ k) : atR n f k = f (ix k) := if_pos ⟨Int32.not_lt.mp h0, Int32.not_le.mp h⟩
theorem atR_lo {n : Nat} {f : Nat → Option Nat} {k : Int32} (h0 : k < 0) : atR n f k = none := if_neg fun z => absurd z.1 (Int32.not_le.mpr h0)
theorem atR_hi {n : Nat} {f : Nat → Option Nat} {k : Int32} (h0 : nI n ≤ k) : atR n f k = none := if_neg fun z => absurd z.2 (Int32.not_lt.mpr h0)
theorem vp_in_of2 {k : Int32} {n m : Nat} (hm : m < 2 ^ 31) (hnm : n ≤ m) (h0 : ¬ k < 0) (h : ¬ nI n ≤ k) : vp_in k m := by
  have h1 := ix_lt (n := n) (by omega) (Int32.not_lt.mp h0) (Int32.not_le.mp h)
  rw [h1.1]
  exact vp_in_nI (by omega) hm
theorem am_abs {x : Int32} : (if 0 ≤ x then x else 0 - x) = amI x := by
  unfold amI
  by_cases h : x < 0
  · rw [if_pos h, if_neg (Int32.not_le.mpr h), Int32.zero_sub]
  · rw [if_neg h, if_pos (Int32.not_lt.mp h)]
def sum4 (x y ex ey x' y' ex' ey' : Int32) : Int32 := amI (x - x') + amI (y - y') + amI (ex - ex') + amI (ey - ey')
abbrev okS (x y ex ey : Int32) : Prop := rg x 0 99 ∧ rg y 0 99 ∧ rg ex 0 99 ∧ rg ey 0 99 ∧ ¬ (x = ex ∧ y = ey)
theorem sum4_rg {x y ex ey x' y' ex' ey' : Int32} (h : okS x y ex ey) (k : okS x' y' ex' ey') : rg (sum4 x y ex ey x' y' ex' ey') 0 396 := by
  have q : ∀ {a b : Int32}, rg a 0 99 → rg b 0 99 → rg (amI (a - b)) 0 99 := fun ha hb => (am_rg (m := 99) (rg_sub ha hb (by decide)).2 (by decide)).2
  have a1 := (rg_add (q h.1 k.1) (q h.2.1 k.2.1) (by decide)).2
  have a2 := (rg_add a1 (q h.2.2.1 k.2.2.1) (by decide)).2
  exact (rg_add a2 (q h.2.2.2.1 k.2.2.2.1) (by decide)).2
theorem okS_way {x y ex ey : Int32} (h : okS x y ex ey) : wayOk (ex - x) (ey - y) :=
  ⟨(rg_sub h.2.2.1 h.1 (by decide)).2, (rg_sub h.2.2.2.1 h.2.1 (by decide)).2, fun z => h.2.2.2.2 ⟨(i32_sub0 z.1).symm, (i32_sub0 z.2).symm⟩⟩
theorem i2f_gt {v : Int32} (h : rg v 1 19602) : FP.fcmp (FP.i2f v) FP.fconst0 = some .gt := by
  have hp := (i2f_pos (v := v) (j := 15) (by unfold rg at h; omega) (by unfold rg at h; omega) (by decide)).1
  rw [fcmp0 (K := 143) (sl_f (rg_m h (by omega) (by omega))) (by decide), (FP.Core.compare_gt_iff _ _).mpr hp]
/-- the amount of a whole number as a float, found by its float's sign -/
theorem amt_f {p : Int32} (h : rg p (-19602) 19602) : (if 0 ≤ Op.cmpValue (FP.fcmp (FP.i2f p) FP.fconst0) .g then FP.i2f p else FP.fneg (FP.i2f p)) = FP.i2f (amI p) := by
  have hl := sl_f h
  have hs := i2f_sgn p
  rw [FP.Core.sgn_bits32 (fl_ne hl (by decide)), decide_eq_decide] at hs
  have e0 : (0 : Int32).toInt = 0 := rfl
  rw [fcmp0 hl (by decide)]
  by_cases hp : p.toInt < 0
  · have hk : FP.Core.fkey (FP.i2f p) < 0 := by
      have hg := fg_i2f (v := p) (by omega)
      have hb := hs.mpr hp
      unfold fg at hg
      have h2 : (127 : Nat) * 2 ^ 23 = 1065353216 := by decide
      rw [h2] at hg
      unfold FP.Core.fkey
      rw [if_pos hb]
      omega
    rw [(FP.Core.compare_lt_iff _ _).mpr hk, if_neg (by decide)]
    exact fneg_i2f hp (by unfold rg at h; omega)
  · have ha : amI p = p := if_neg (by rw [Int32.lt_iff_toInt_lt, e0]; exact hp)
    rw [ha]
    by_cases hz : p.toInt = 0
    · have e : p = 0 := i32_0 hz
      rw [e]
      decide
    · have hk : 0 < FP.Core.fkey (FP.i2f p) := (i2f_pos (v := p) (j := 15) (by omega) (by unfold rg at h; omega) (by decide)).1
      rw [(FP.Core.compare_gt_iff _ _).mpr hk, if_pos (by decide)]
