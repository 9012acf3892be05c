/-! ===== Judge, Duel, Paper: their values ===== -/
theorem xu_sw {M : MH} {a b : Nat} {e e' : va_E} (h : a ≠ b) : xu (xu M a e) b e' = xu (xu M b e') a e := by
  funext q
  unfold xu
  by_cases h1 : q = b
  · rw [if_pos h1, if_neg (fun z => h (z.symm.trans h1)), if_pos h1]
  · rw [if_neg h1]
    by_cases h2 : q = a
    · rw [if_pos h2, if_pos h2]
    · rw [if_neg h2, if_neg h2, if_neg h1]
def cntf (f : Nat → Int32) : Nat → Int32
  | 0 => 0
  | n + 1 => cntf f n + (if f n = -1 then 0 else 1)
def ageV (v : Int32) : Int32 := if 0 < (if v < 100 then v else 100) then (if v < 100 then v else 100) else 0
def dlC (one other judge paper day rounds : Int32) (p w : Nat) (handed second : Int32) : va_E := oB 0 [.int one, .int other, .int judge, .int paper, .int day, .int rounds, .ref p, .ref w, .int handed, .int second]
def atI (n : Nat) (f : Nat → Int32) (k : Int32) : Int32 := if 0 ≤ k ∧ k < nI n then f (ix k) else -1
theorem atI_in {n : Nat} {f : Nat → Int32} {k : Int32} (h0 : ¬ k < 0) (h : ¬ nI n ≤ k) : atI n f k = f (ix k) := if_pos ⟨Int32.not_lt.mp h0, Int32.not_le.mp h⟩
theorem atI_lo {n : Nat} {f : Nat → Int32} {k : Int32} (h0 : k < 0) : atI n f k = -1 := if_neg fun z => absurd z.1 (Int32.not_le.mpr h0)
theorem atI_hi {n : Nat} {f : Nat → Int32} {k : Int32} (h0 : nI n ≤ k) : atI n f k = -1 := if_neg fun z => absurd z.2 (Int32.not_lt.mpr h0)
/-- the writing of a round -/
def wAt (f : Nat → Option Nat) (r o : Int32) : Option Nat := if 0 ≤ r ∧ r < 5 then f (2 * ix r + ofI o) else none
def prV (w n R r : Nat) : Int32 := if r < R then nI ((w + 17 * r) % n) else -1
