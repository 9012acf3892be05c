/-! ===== pass: holding once is holding daily ===== -/
theorem clamp_t {v : Int32} : (clampD v).toInt = if v.toInt < 0 then 0 else if 100 < v.toInt then 100 else v.toInt := by
  have e0 : (0 : Int32).toInt = 0 := rfl
  have e1 : (100 : Int32).toInt = 100 := rfl
  unfold clampD
  simp only [Int32.lt_iff_toInt_lt, e0, e1]
  split
  · exact e0
  · split
    · exact e1
    · rfl
theorem age_t {v : Int32} : (ageV v).toInt = if v.toInt < 0 then 0 else if 100 < v.toInt then 100 else v.toInt := by
  have e0 : (0 : Int32).toInt = 0 := rfl
  have e1 : (100 : Int32).toInt = 100 := rfl
  unfold ageV
  by_cases h : v < 100
  · rw [if_pos h]
    have h3 := Int32.lt_iff_toInt_lt.mp h
    rw [e1] at h3
    by_cases h2 : 0 < v
    · rw [if_pos h2]
      have h4 := Int32.lt_iff_toInt_lt.mp h2
      rw [e0] at h4
      rw [if_neg (by omega), if_neg (by omega)]
    · rw [if_neg h2, e0]
      have h4 := mt Int32.lt_iff_toInt_lt.mpr h2
      rw [e0] at h4
      split
      · rfl
      · rw [if_neg (by omega)]
        omega
  · rw [if_neg h, if_pos (by decide : (0 : Int32) < 100), e1]
    have h3 := mt Int32.lt_iff_toInt_lt.mpr h
    rw [e1] at h3
    rw [if_neg (by omega)]
    split <;> omega
theorem ageK_7 (S : ST) : ∀ n j, ageK S n 7 j = if j < n then clampD (S 7 j + S 8 j) else S 7 j
  | 0, j => by rw [if_neg (by omega)]; rfl
  | n + 1, j => by
    have h8 : ageK S n 8 = S 8 := ageK_o S n 8 (by decide)
    unfold ageK
    by_cases hj : j = n
    · subst hj
      rw [su_s, h8, ageK_7 S j j, if_neg (by omega), if_pos (by omega)]
    · rw [su_n hj, ageK_7 S n j]
      by_cases h2 : j < n
      · rw [if_pos h2, if_pos (by omega)]
      · rw [if_neg h2, if_neg (by omega)]
theorem toInt_add_s {a b : Int32} (h1 : -2000000 ≤ a.toInt) (h2 : a.toInt ≤ 2000000) (h3 : -2000000 ≤ b.toInt) (h4 : b.toInt ≤ 2000000) : (a + b).toInt = a.toInt + b.toInt := by
  rw [Int32.toInt_add, Int.bmod_def]
  omega
theorem ageN_t {S : ST} {j : Nat} (hj : j < 3) (h7 : rg (S 7 j) 0 100) (h8 : rg (S 8 j) (-10) 10) : ∀ n, n ≤ 100 → (ageN S n 7 j).toInt = if (S 7 j).toInt + n * (S 8 j).toInt < 0 then 0 else if 100 < (S 7 j).toInt + n * (S 8 j).toInt then 100 else (S 7 j).toInt + n * (S 8 j).toInt
  | 0, _ => by
    show (S 7 j).toInt = _
    have a := h7.1
    have b := h7.2
    rw [if_neg (by omega), if_neg (by omega)]
    omega
  | n + 1, hn => by
    have ih := ageN_t hj h7 h8 n (by omega)
    have e8 : ageN S n 8 = S 8 := ageN_o S n 8 (by decide)
    have a := h7.1
    have b := h7.2
    have c := h8.1
    have e := h8.2
    show (ageK (ageN S n) 3 7 j).toInt = _
    rw [ageK_7, if_pos hj, clamp_t, e8]
    have hr : 0 ≤ (ageN S n 7 j).toInt ∧ (ageN S n 7 j).toInt ≤ 100 := by
      rw [ih]
      split
      · omega
      · split <;> omega
    rw [toInt_add_s (by omega) (by omega) (by omega) (by omega), ih]
    have e1 : ((n + 1 : Nat) : Int) * (S 8 j).toInt = n * (S 8 j).toInt + (S 8 j).toInt := by
      rw [Int.natCast_add, Int.add_mul]
      simp
    rw [e1]
    rcases Int.lt_or_le (S 8 j).toInt 0 with hs | hs
    · have hm : (n : Int) * (S 8 j).toInt ≤ 0 := Int.mul_nonpos_of_nonneg_of_nonpos (by omega) (by omega)
      generalize (n : Int) * (S 8 j).toInt = z at hm ⊢
      repeat' split
      all_goals omega
    · have hm : 0 ≤ (n : Int) * (S 8 j).toInt := Int.mul_nonneg (by omega) hs
      generalize (n : Int) * (S 8 j).toInt = z at hm ⊢
      repeat' split
      all_goals omega
theorem ageN_v {S : ST} {j n : Nat} (hj : j < 3) (h7 : rg (S 7 j) 0 100) (h8 : rg (S 8 j) (-10) 10) (hn : n ≤ 100) : ageN S n 7 j = ageV (S 7 j + nI n * S 8 j) := by
  apply Int32.toInt_inj.mp
  rw [ageN_t hj h7 h8 n hn, age_t]
  have a := h7.1
  have b := h7.2
  have c := h8.1
  have e := h8.2
  have hm : -1000 ≤ (n : Int) * (S 8 j).toInt ∧ (n : Int) * (S 8 j).toInt ≤ 1000 := by
    have k1 : (n : Int) * (S 8 j).toInt ≤ n * 10 := Int.mul_le_mul_of_nonneg_left e (by omega)
    have k2 : (n : Int) * (-10) ≤ n * (S 8 j).toInt := Int.mul_le_mul_of_nonneg_left c (by omega)
    omega
  have e1 : (nI n * S 8 j).toInt = n * (S 8 j).toInt := by
    rw [Int32.toInt_mul, nI_toInt (by omega), Int.bmod_def]
    generalize (n : Int) * (S 8 j).toInt = z at hm ⊢
    omega
  rw [toInt_add_s (by omega) (by omega) (by omega) (by omega), e1]
/-- the first k papers are aged already -/
def pasK (S : ST) (n : Int32) (k : Nat) : ST := fun q i => if q = 7 then (if i < k then nPass S n 7 i else S 7 i) else nPass S n q i
theorem pasK_o {S : ST} {n : Int32} {k q : Nat} (h : q ≠ 7) (h0 : q ≠ 0) : pasK S n k q = S q := by
  funext i
  unfold pasK nPass
  rw [if_neg h, su_o h0, ageN_o _ _ _ h]
theorem pasK_0 {S : ST} {n : Int32} {k : Nat} : pasK S n k 0 0 = S 0 0 + n := by
  unfold pasK nPass
  rw [if_neg (by decide), su_s]
theorem pasK_sf {S : ST} {n : Int32} : sf [0, 9] S (pasK S n 0) := fun q hq => by
  by_cases h : q = 7
  · subst h
    funext i
    unfold pasK
    rw [if_pos rfl, if_neg (by omega)]
  · exact pasK_o h (fun z => hq (by rw [z]; decide))
theorem pasK_n {S : ST} {n : Int32} {k : Nat} : sf [6, 7, 8] (pasK S n k) (pasK S n (k + 1)) := fun q hq => by
  funext i
  unfold pasK
  rw [if_neg (fun z => hq (by rw [z]; decide)), if_neg (fun z => hq (by rw [z]; decide))]
theorem R_pas {M : MH} {x d ns nd : Nat} {al : Nat → Nat → Nat} {S : ST} {n : Int32} (h : CRep M x al (pasK S n 3) d ns nd) : CRep M x al (nPass S n) d ns nd := by
  obtain ⟨h1, h2, h3, h4, h5, h6, h7⟩ := h
  have hF : sf [7] (pasK S n 3) (nPass S n) := fun q hq => by
    funext i
    unfold pasK
    rw [if_neg (fun z => hq (by rw [z]; decide))]
  have e6 : pasK S n 3 6 = nPass S n 6 := by funext i; rfl
  have e8 : pasK S n 3 8 = nPass S n 8 := by funext i; rfl
  have hp : pr [] M M := pr.rf
  refine ⟨h1.st hp hF (by decide) (by decide), ⟨fun i hi => ?_, h2.2⟩, h3.st hp hF (by decide) (by decide), h4.st hp hF (by decide) (by decide), h5.st hp hF (by decide) (by decide), h6.st hp hF (by decide) (by decide), h7.st hp hF (by decide) (by decide)⟩
  have a := h2.1 i hi
  rw [e6, e8] at a
  have e7 : pasK S n 3 7 i = nPass S n 7 i := by
    unfold pasK
    rw [if_pos rfl, if_pos hi]
  rw [e7] at a
  exact a
theorem pasK_7 {S : ST} {days : Int32} {k : Nat} (hk : k < 3) (h7 : rg (S 7 k) 0 100) (h8 : rg (S 8 k) (-10) 10) (hd : iN days 1 100) : pasK S days (k + 1) 7 k = ageV (pasK S days k 7 k + days * pasK S days k 8 k) := by
  have h1 := iN_ix (v := days) (n := 100) (by decide) ⟨Int32.le_trans (by decide) hd.1, hd.2⟩
  have e1 : pasK S days (k + 1) 7 k = ageN S (ix days) 7 k := by
    unfold pasK nPass
    rw [if_pos rfl, if_pos (by omega), su_o (by decide)]
  have e2 : pasK S days k 7 k = S 7 k := by
    unfold pasK
    rw [if_pos rfl, if_neg (by omega)]
  rw [e1, e2, show pasK S days k 8 = S 8 from pasK_o (by decide) (by decide), ageN_v hk h7 h8 h1.2, ← h1.1]
theorem pasK_7o {S : ST} {days : Int32} {k i : Nat} (h : i ≠ k) : pasK S days (k + 1) 7 i = pasK S days k 7 i := by
  unfold pasK
  rw [if_pos rfl, if_pos rfl]
  by_cases hi : i < k
  · rw [if_pos hi, if_pos (by omega)]
  · rw [if_neg hi, if_neg (by omega)]
theorem isOv_le {S : ST} {i : Nat} (h : mDu S i) : isOv S i ↔ 2 * S 18 i ≤ S 22 i := by
  have h1 := h.i22
  have h2 := h.i18
  rw [h.ov, h1.1, h2.1, lit_2, pk_mul, ix_nI (by omega), ix_nI (by omega), nI_leI (by omega) (by omega)]
  omega
theorem mDu_10 {S : ST} {i : Nat} (h : mDu S i) : ix (S 22 i) ≤ 10 := by
  have h1 := h.i22
  have h2 := h.i18
  omega
