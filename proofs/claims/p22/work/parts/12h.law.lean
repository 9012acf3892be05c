/-! ===== days, appeals ===== -/
section Days
variable {n0 n x d ns nd i j k t : Nat} {S R R' : ST} {v : Option Value} {M1 : MH}
theorem pass_ok (hk : mOK S d ns nd) (ht : tie n0 S R d ns nd) (hn : n0 ≤ 60) (h9 : t < 12) : tPass S (nI (1 + t)) = 0 := by
  have b := ht.2.2.2.2.2.1
  have e1 : rg (nI (1 + t)) 1 12 := by
    unfold rg
    rw [nI_toInt (by omega)]
    omega
  have q := (rg_add b e1 (by omega)).2
  have hle : S 0 0 + nI (1 + t) ≤ 5000 := by
    rw [Int32.le_iff_toInt_le]
    have e5 : (5000 : Int32).toInt = 5000 := by decide
    have := q.2
    omega
  unfold tPass
  rw [if_neg (fun z => z ⟨nI_le (a := 1) (by omega) (by omega), nI_le (b := 100) (by omega) (by decide)⟩), if_neg (fun z => z hle)]
theorem pass_7 (hk : mOK S d ns nd) (h9 : t < 12) (hk3 : k < 3) : nPass S (nI (1 + t)) 7 k = ageV (S 7 k + nI (1 + t) * S 8 k) := by
  have p := hk.2.2.2.1 k hk3
  unfold nPass
  rw [su_o (by decide), ix_nI (by omega)]
  exact ageN_v hk3 p.1 p.2 (by omega)
theorem ag_0 {v : Int32} (h : v < 0) : ageV v = 0 := by
  have h1 := Int32.lt_iff_toInt_lt.mp h
  have e0 : (0 : Int32).toInt = 0 := rfl
  apply Int32.toInt_inj.mp
  rw [age_t, if_pos (by omega), e0]
theorem ag_100 {v : Int32} (h0 : 0 ≤ v) (h : 100 < v) : ageV v = 100 := by
  have h1 := Int32.lt_iff_toInt_lt.mp h
  have h2 := Int32.le_iff_toInt_le.mp h0
  have e0 : (0 : Int32).toInt = 0 := rfl
  have e1 : (100 : Int32).toInt = 100 := by decide
  apply Int32.toInt_inj.mp
  rw [age_t, if_neg (by omega), if_pos (by omega), e1]
theorem ag_v {v : Int32} (h0 : 0 ≤ v) (h : v ≤ 100) : ageV v = v := by
  have h1 := Int32.le_iff_toInt_le.mp h
  have h2 := Int32.le_iff_toInt_le.mp h0
  have e0 : (0 : Int32).toInt = 0 := rfl
  have e1 : (100 : Int32).toInt = 100 := by decide
  apply Int32.toInt_inj.mp
  rw [age_t, if_neg (by omega), if_neg (by omega)]
/-- the rows while the papers' damps are noted -/
def dI (S R R' : ST) (t k : Nat) : Prop := sf [0, 2] R R' ∧ (∀ j, j ≠ 0 → R' 0 j = R 0 j) ∧ R' 0 0 = S 0 0 + nI (1 + t) ∧ ∀ p, p < 3 → R' 2 (3 * p) = R 2 (3 * p) ∧ R' 2 (3 * p + 1) = (if p < k then nPass S (nI (1 + t)) 7 p else R 2 (3 * p + 1)) ∧ R' 2 (3 * p + 2) = R 2 (3 * p + 2)
theorem dI_0 : dI S R (su R 0 0 (S 0 0 + nI (1 + t))) t 0 := by
  refine ⟨sf.rf.su (by decide), fun j hj => su_n hj, su_s, fun p hp => ?_⟩
  rw [su_o (by decide), if_neg (by omega)]
  exact ⟨rfl, rfl, rfl⟩
theorem dI_s (h : dI S R R' t k) (hk : k < 3) : dI S R (su R' 2 (3 * k + 1) (nPass S (nI (1 + t)) 7 k)) t (k + 1) := by
  obtain ⟨h1, h2, h3, h4⟩ := h
  refine ⟨h1.su (by decide), fun j hj => by rw [su_o (by decide)]; exact h2 j hj, by rw [su_o (by decide)]; exact h3, fun p hp => ?_⟩
  obtain ⟨a, b, c⟩ := h4 p hp
  rw [su_a]
  have e0 : upd (R' 2) (3 * k + 1) (nPass S (nI (1 + t)) 7 k) (3 * p) = R' 2 (3 * p) := pk_un (by omega)
  have e2 : upd (R' 2) (3 * k + 1) (nPass S (nI (1 + t)) 7 k) (3 * p + 2) = R' 2 (3 * p + 2) := pk_un (by omega)
  rw [e0, e2]
  refine ⟨a, ?_, c⟩
  by_cases hpk : p = k
  · subst hpk
    rw [pk_us, if_pos (by omega)]
  · rw [pk_un (by omega), b]
    by_cases q : p < k
    · rw [if_pos q, if_pos (by omega)]
    · rw [if_neg q, if_neg (by omega)]
theorem dI_3 (h : dI S R R' t 3) (ht : tie n0 S R d ns nd) (hn : n0 ≤ 60) (h9 : t < 12) : tie (n0 + 1) (nPass S (nI (1 + t))) R' d ns nd := by
  obtain ⟨h1, h2, h3, h4⟩ := h
  refine ht.pass (by omega) hn h1 h2 h3 (fun p hp => ?_)
  obtain ⟨a, b, c⟩ := h4 p hp
  rw [if_pos hp] at b
  exact ⟨a, b, c⟩
/-- an appeal: refused, or made -/
theorem appeal_cases {hN rN : Nat} (hk : mOK S d ns nd) (ht : tie n0 S R d ns nd) (hi : i < nd) (hj : j < 4) (e22 : S 22 i = nI hN) (e18 : S 18 i = nI rN) (hh : hN ≤ 2 * rN) (r5 : rN ≤ 5)
    (h : pI (tAppeal S (nI i) (nI j)) (-1000001) (-1000003) 0 (wnS (nAppeal S (nI i) (nI j)) (ix (nI i))) x S d ns nd (nAppeal S (nI i) (nI j)) d ns nd v M1) :
    ((hN = 2 * rN ∧ S 16 i < 0 ∧ ¬ nI j = S 15 i) ∧ ∃ S2, v = some (.int (wnS S2 i)) ∧ ∃ al, CRep M1 x al S2 d ns nd ∧ mOK S2 d ns nd ∧ tie n0 S2 (su R 4 (8 * i + 7) (nI j)) d ns nd) ∨ (¬ (hN = 2 * rN ∧ S 16 i < 0 ∧ ¬ nI j = S 15 i) ∧ v = some (.int (-1000003)) ∧ ∃ al, CRep M1 x al S d ns nd) := by
  have h12 := hk.2.2.1.2.1
  have n8 := ht.2.2.2.2.2.2.2.2.2
  have xi : ix (nI i) = i := ix_nI (by omega)
  have e0 : (0 : Int32).toInt = 0 := rfl
  have eo : isOv S i ↔ hN = 2 * rN := by
    unfold isOv
    rw [e22, e18, lit_2, pk_mul, nI_eq (by omega) (by omega)]
  have q16 : S 16 i = -1 ↔ S 16 i < 0 := by
    rcases (hk.2.2.1.2.2 i hi).1.2.1 with z | z
    · rw [z]
      decide
    · constructor
      · intro q
        rw [q] at z
        exact absurd z (by unfold rg; decide)
      · intro q
        have := Int32.lt_iff_toInt_lt.mp q
        have := z.1
        omega
  have t0 : tAppeal S (nI i) (nI j) = if ¬ (isOv S i ∧ S 16 i = -1 ∧ S 15 i ≠ nI j) then 2 else 0 := by
    unfold tAppeal
    rw [if_neg (fun z => z ⟨isDu_k hk hi, iN_k 3 (by decide) (by omega)⟩), xi]
  rw [xi] at h
  by_cases c : hN = 2 * rN ∧ S 16 i < 0 ∧ ¬ nI j = S 15 i
  · have t : tAppeal S (nI i) (nI j) = 0 := by
      rw [t0, if_neg (fun z => z ⟨eo.mpr c.1, q16.mpr c.2.1, fun q => c.2.2 q.symm⟩)]
    obtain ⟨hv, al, hx⟩ := h.ok t
    exact Or.inl ⟨c, _, hv, al, hx, ok_appeal hk t, ht.appeal (by omega) rfl⟩
  · have t : tAppeal S (nI i) (nI j) = 2 := by
      rw [t0, if_pos (fun z => c ⟨eo.mp z.1, q16.mp z.2.1, fun q => z.2.2 q.symm⟩)]
    exact Or.inr ⟨c, h.no2 t⟩
theorem wn_3 (hk : mOK S d ns nd) (hi : i < nd) : wnS S i = -1 ∨ wnS S i = S 13 i ∨ wnS S i = S 14 i := by
  unfold wnS
  split
  · exact Or.inl rfl
  · split
    · exact Or.inr (Or.inl rfl)
    · split
      · exact Or.inr (Or.inr rfl)
      · exact Or.inl rfl
end Days
