/-! ===== the class's heap against the state ===== -/
def inj (g : Nat → Nat) (n : Nat) : Prop := ∀ i j, i < n → j < n → g i = g j → i = j
def cTop (M : MH) (x : Nat) (al : Nat → Nat → Nat) (S : ST) (ns nd : Nat) : Prop :=
  M x = some (oB 8 [.ref (al 0 0), .ref (al 0 1), .ref (al 0 2), .ref (al 0 3), .ref (al 0 4), .ref (al 5 ns), .int (nI ns), .int (nI nd), .int (S 9 0), .int (S 0 0)]) ∧ M (al 0 0) = some (aR 5 6 (rowF (al 5) ns)) ∧ M (al 0 1) = some (aR 2 3 (rowF (al 1) 3)) ∧ M (al 0 2) = some (aR 6 4 (rowF (al 2) 4)) ∧ M (al 0 3) = some (aR 1 4 (rowF (al 3) 4)) ∧ M (al 0 4) = some (aR 0 12 (rowF (al 7) nd))
def cPap (M : MH) (al : Nat → Nat → Nat) (S : ST) : Prop := (∀ i, i < 3 → M (al 1 i) = some (oB 2 [.int (S 6 i), .int (S 7 i), .int (S 8 i)])) ∧ inj (al 1) 3
def cSty (M : MH) (al : Nat → Nat → Nat) (S : ST) : Prop := (∀ i, i < 4 → M (al 2 i) = some (oB 6 [.int (S 10 (3 * i)), .int (S 10 (3 * i + 1)), .int (S 10 (3 * i + 2))])) ∧ inj (al 2) 4
def cJud (M : MH) (al : Nat → Nat → Nat) (S : ST) : Prop := (∀ i, i < 4 → M (al 3 i) = some (oB 1 [.ref (al 4 i)]) ∧ ∃ f, M (al 4 i) = some (aI 4 f) ∧ ∀ y, y < 4 → f y = S 11 (4 * i + y)) ∧ inj (al 4) 4
def cStr (M : MH) (al : Nat → Nat → Nat) (S : ST) (d ns : Nat) : Prop := (∀ g, g < ns → stR M (al 5 g) (al 6 g) S 5 (24 * g) (ix (S 4 g))) ∧ stR M (al 5 ns) (al 6 ns) S 2 0 d ∧ inj (al 5) (ns + 1) ∧ inj (al 6) (ns + 1)
def cDue (M : MH) (al : Nat → Nat → Nat) (S : ST) (nd : Nat) : Prop := (∀ i, i < nd → M (al 7 i) = some (dlC (S 13 i) (S 14 i) (S 15 i) (S 17 i) (S 21 i) (S 18 i) (al 8 i) (al 9 i) (S 22 i) (S 16 i)) ∧ (∃ f, M (al 8 i) = some (aI 5 f) ∧ ∀ r, r < 5 → f r = prV (ix (S 19 i)) (ix (S 20 i)) (ix (S 18 i)) r) ∧ M (al 9 i) = some (aR 7 10 (rowF (fun j => al 10 (10 * i + j)) (ix (S 22 i))))) ∧ inj (al 7) nd ∧ inj (al 9) nd
def pgS (S : ST) (i w : Nat) : Nat := promptI S i (w % 10 / 2)
def wrS (M : MH) (al : Nat → Nat → Nat) (S : ST) (i w : Nat) : Prop := wrC M (al 10 w) (al 11 w) S 27 (32 * w) (ix (S 23 w)) (pgS S i w) (ix (S 4 (pgS S i w))) (S 24 w) (S 25 w) (S 26 w)
def cWri (M : MH) (al : Nat → Nat → Nat) (S : ST) (nd : Nat) : Prop := (∀ i h, i < nd → h < ix (S 22 i) → wrS M al S i (10 * i + h)) ∧ ∀ i j h k, i < nd → j < nd → h < ix (S 22 i) → k < ix (S 22 j) → al 10 (10 * i + h) = al 10 (10 * j + k) → i = j ∧ h = k
def CRep (M : MH) (x : Nat) (al : Nat → Nat → Nat) (S : ST) (d ns nd : Nat) : Prop := cTop M x al S ns nd ∧ cPap M al S ∧ cSty M al S ∧ cJud M al S ∧ cStr M al S d ns ∧ cDue M al S nd ∧ cWri M al S nd
/-! what a round is, in the class's words -/
def rtC (S : ST) (i r : Nat) : Int32 := if rtS S i r = 1 then 1 else if rtS S i r = 2 then -1 else 0
def ldC (S : ST) (i : Nat) : Nat → Int32
  | 0 => 0
  | r + 1 => ldC S i r + rtC S i r
def rcC (S : ST) (i : Nat) (side : Int32) : Nat → Int32
  | 0 => 0
  | r + 1 => rcC S i side r + (if rtC S i r = side then 1 else 0)
theorem rtS_cases (S : ST) (i r : Nat) : rtS S i r = 0 ∨ rtS S i r = 1 ∨ rtS S i r = 2 := by
  unfold rtS
  repeat' split
  all_goals simp
theorem rtS_over {S : ST} {i r : Nat} (h : mDu S i) (hr : ix (S 18 i) ≤ r) (hr5 : r < 5) : rtS S i r = 0 := by
  have h1 := h.i22
  have h2 := h.i18
  unfold rtS
  rw [if_pos]
  rw [h1.1]
  exact nI_le (by omega) (by omega)
theorem rsS_over {S : ST} {i : Nat} {who : Int32} (h : mDu S i) (hw : who ≠ 0) : ∀ n, ix (S 18 i) + n ≤ 5 → rsS S i who (ix (S 18 i) + n) = rsS S i who (ix (S 18 i))
  | 0, _ => rfl
  | n + 1, hn => by
    rw [← Nat.add_assoc, rsS, rtS_over h (by omega) (by omega), if_neg (fun z => hw z.symm), Int32.add_zero]
    exact rsS_over h hw n (by omega)
theorem rsS_5 {S : ST} {i : Nat} {who : Int32} (h : mDu S i) (hw : who ≠ 0) : rsS S i who 5 = rsS S i who (ix (S 18 i)) := by
  have h2 := h.i18
  have h3 := rsS_over h hw (5 - ix (S 18 i)) (by omega)
  rw [show ix (S 18 i) + (5 - ix (S 18 i)) = 5 by omega] at h3
  exact h3
theorem rcC_1 (S : ST) (i : Nat) : ∀ n, rcC S i 1 n = rsS S i 1 n
  | 0 => rfl
  | n + 1 => by
    rw [rcC, rsS, rcC_1 S i n]
    congr 1
    unfold rtC
    rcases rtS_cases S i n with h | h | h <;> rw [h] <;> rfl
theorem rcC_2 (S : ST) (i : Nat) : ∀ n, rcC S i (-1) n = rsS S i 2 n
  | 0 => rfl
  | n + 1 => by
    rw [rcC, rsS, rcC_2 S i n]
    congr 1
    unfold rtC
    rcases rtS_cases S i n with h | h | h <;> rw [h] <;> rfl
theorem ldC_e (S : ST) (i : Nat) : ∀ n, ldC S i n = rsS S i 1 n - rsS S i 2 n
  | 0 => by
    show (0 : Int32) = 0 - 0
    decide
  | n + 1 => by
    rw [ldC, rsS, rsS, ldC_e S i n]
    unfold rtC
    generalize rsS S i 1 n = a
    generalize rsS S i 2 n = b
    rcases rtS_cases S i n with h | h | h <;> rw [h]
    · show a - b + 0 = a + 0 - (b + 0)
      simp
    · show a - b + 1 = a + 1 - (b + 0)
      apply Int32.toInt_inj.mp
      simp only [Int32.toInt_add, Int32.toInt_sub]
      have e1 : (1 : Int32).toInt = 1 := rfl
      have e0 : (0 : Int32).toInt = 0 := rfl
      rw [e1, e0]
      simp only [Int.bmod_def]
      omega
    · show a - b + -1 = a + 0 - (b + 1)
      apply Int32.toInt_inj.mp
      simp only [Int32.toInt_add, Int32.toInt_sub]
      have e1 : (1 : Int32).toInt = 1 := rfl
      have e2 : (-1 : Int32).toInt = -1 := rfl
      have e0 : (0 : Int32).toInt = 0 := rfl
      rw [e1, e2, e0]
      simp only [Int.bmod_def]
      omega
/-- the class's winner -/
theorem wnS_c {S : ST} {i : Nat} (h : mDu S i) : wnS S i = if ¬ 2 * S 18 i ≤ S 22 i then -1 else if ldC S i 5 = 0 then -1 else if ldC S i 5 ≤ 0 then S 14 i else S 13 i := by
  have h1 := h.i22
  have h2 := h.i18
  have ho : isOv S i ↔ 2 * S 18 i ≤ S 22 i := by
    rw [h.ov, h1.1, h2.1, lit_2, pk_mul, ix_nI (by omega), ix_nI (by omega), nI_leI (by omega) (by omega)]
    omega
  unfold wnS
  rw [ldC_e, rsS_5 h (by decide), rsS_5 h (by decide)]
  generalize rsS S i 1 (ix (S 18 i)) - rsS S i 2 (ix (S 18 i)) = v
  by_cases h3 : isOv S i
  · rw [if_neg (not_not_intro h3), if_neg (not_not_intro (ho.mp h3))]
    have h3v : v < 0 ∨ v = 0 ∨ 0 < v := by
      rw [Int32.lt_iff_toInt_lt, Int32.lt_iff_toInt_lt, ← Int32.toInt_inj]
      omega
    rcases h3v with hv | hv | hv
    · rw [if_neg (Int32.not_lt.mpr (Int32.le_of_lt hv)), if_pos hv, if_neg (Int32.ne_of_lt hv), if_pos (Int32.le_of_lt hv)]
    · subst hv
      rfl
    · rw [if_pos hv, if_neg (fun z => by rw [z] at hv; exact absurd hv (by decide)), if_neg (Int32.not_le.mpr hv)]
  · rw [if_pos h3, if_pos (fun z => h3 (ho.mpr z))]
theorem gt_sw {a b : UInt32} {K : Nat} (ha : fl a K) (hb : fl b K) (hK : K ≤ 255) : (Op.cmpValue (FP.fcmp a b) .l = 0 ↔ Op.cmpValue (FP.fcmp a b) .l ≤ 0 ∧ Op.cmpValue (FP.fcmp b a) .l ≤ 0) ∧ (Op.cmpValue (FP.fcmp a b) .l ≠ 0 → Op.cmpValue (FP.fcmp a b) .l ≤ 0 → ¬ Op.cmpValue (FP.fcmp b a) .l ≤ 0) := by
  have hn := mt (FP.Core.fcmp_none a b).mp (fun z => z.elim (fl_ne ha hK) (fl_ne hb hK))
  have hs := FP.Core.fcmp_swap a b
  rw [← FP.fcmp_core] at hn hs
  rw [hs]
  cases hc : FP.fcmp a b with
  | none => exact absurd hc hn
  | some o => cases o <;> decide
theorem byJ_n {S : ST} {i w j y : Nat} (h : b01 (knS S i j y) = 0) : byJS S i w j (y + 1) = byJS S i w j y := by rw [byJS, if_neg (by grind [b01])]
theorem byJ_a {S : ST} {i w j y : Nat} (h : ¬ b01 (knS S i j y) = 0) (h3 : Op.cmpValue (FP.fcmp (wMark S i w y) (byJS S i w j y)) .l ≤ 0) : byJS S i w j (y + 1) = byJS S i w j y := by rw [byJS, if_pos (by grind [b01]), maxF, if_pos h3]
theorem byJ_b {S : ST} {i w j y : Nat} (h : ¬ b01 (knS S i j y) = 0) (h3 : ¬ Op.cmpValue (FP.fcmp (wMark S i w y) (byJS S i w j y)) .l ≤ 0) : byJS S i w j (y + 1) = wMark S i w y := by rw [byJS, if_pos (by grind [b01]), maxF, if_neg h3]
theorem atR_row {g : Nat → Nat} {n m : Nat} {v : Int32} (hv : rg v 0 m) (hm : m < n) (hn : n < 2 ^ 31) : va_rf (atR n (rowF g n) v) = .ref (g (ix v)) := by
  have h := rg_ix hv
  rw [h.1, atR_nI (by omega) hn, rowF_in (by omega), ix_nI (by omega)]
  rfl
theorem wAt_in {g : Nat → Nat} {n r : Nat} {o : Int32} (hr : r < 5) (h : 2 * r + ofI o < n) : va_rf (wAt (rowF g n) (nI r) o) = .ref (g (2 * r + ofI o)) := by
  unfold wAt
  rw [if_pos ⟨Int32.not_lt.mp (nI_pos (by omega)), nI_lt (b := 5) hr (by decide)⟩, ix_nI (by omega), rowF_in h]
  rfl
theorem wAt_out {g : Nat → Nat} {n r : Nat} {o : Int32} (hr : r < 5) (h : ¬ 2 * r + ofI o < n) : va_rf (wAt (rowF g n) (nI r) o) = .null := by
  unfold wAt
  rw [if_pos ⟨Int32.not_lt.mp (nI_pos (by omega)), nI_lt (b := 5) hr (by decide)⟩, ix_nI (by omega), rowF_out h]
  rfl
theorem rt_hi {S : ST} {i r : Nat} (h : mDu S i) (hr : r < 5) (h1 : ix (S 22 i) ≤ 2 * r + 1) : rtC S i r = 0 := by
  have h2 := h.i22
  have h3 : rtS S i r = 0 := by
    unfold rtS
    rw [if_pos]
    rw [h2.1]
    exact nI_le h1 (by omega)
  unfold rtC
  rw [h3]
  rfl
theorem rt_lo {S : ST} {i r : Nat} (h : mDu S i) (hr : r < 5) (h1 : 2 * r + 1 < ix (S 22 i)) : ¬ S 22 i ≤ nI (2 * r + 1) := by
  have h2 := h.i22
  have h3 := h.i18
  rw [h2.1]
  exact nI_ge h1 (by omega)
theorem rt_00 {S : ST} {i r : Nat} (h0 : ¬ S 22 i ≤ nI (2 * r + 1)) (ha : S 26 (10 * i + 2 * r) ≠ 0) (hb : S 26 (10 * i + 2 * r + 1) ≠ 0) : rtC S i r = 0 := by
  have h3 : rtS S i r = 0 := by
    unfold rtS
    rw [if_neg h0, if_pos (Or.inl ha), if_pos ha, if_pos hb]
  unfold rtC
  rw [h3]
  rfl
theorem rt_01 {S : ST} {i r : Nat} (h0 : ¬ S 22 i ≤ nI (2 * r + 1)) (ha : S 26 (10 * i + 2 * r) ≠ 0) (hb : S 26 (10 * i + 2 * r + 1) = 0) : rtC S i r = -1 := by
  have h3 : rtS S i r = 2 := by
    unfold rtS
    rw [if_neg h0, if_pos (Or.inl ha), if_pos ha, if_neg (not_not_intro hb)]
  unfold rtC
  rw [h3]
  rfl
theorem rt_10 {S : ST} {i r : Nat} (h0 : ¬ S 22 i ≤ nI (2 * r + 1)) (ha : S 26 (10 * i + 2 * r) = 0) (hb : S 26 (10 * i + 2 * r + 1) ≠ 0) : rtC S i r = 1 := by
  have h3 : rtS S i r = 1 := by
    unfold rtS
    rw [if_neg h0, if_pos (Or.inr hb), if_neg (not_not_intro ha)]
  unfold rtC
  rw [h3]
  rfl
theorem rt_m {S : ST} {i r : Nat} (h0 : ¬ S 22 i ≤ nI (2 * r + 1)) (ha : S 26 (10 * i + 2 * r) = 0) (hb : S 26 (10 * i + 2 * r + 1) = 0) : rtC S i r = if Op.cmpValue (FP.fcmp (allS S i (10 * i + 2 * r)) (allS S i (10 * i + (2 * r + 1)))) .l ≤ 0 then (if Op.cmpValue (FP.fcmp (allS S i (10 * i + (2 * r + 1))) (allS S i (10 * i + 2 * r))) .l ≤ 0 then 0 else -1) else 1 := by
  have hn : ¬ (S 26 (10 * i + 2 * r) ≠ 0 ∨ S 26 (10 * i + 2 * r + 1) ≠ 0) := fun z => z.elim (fun q => q ha) (fun q => q hb)
  unfold rtC rtS
  rw [if_neg h0, if_neg hn]
  split
  · split <;> rfl
  · rfl
