/-! ===== duels: rounds, who wins, who has won ===== -/
section Duels
variable {n0 d ns nd i k hN rN a b : Nat} {S R : ST}
theorem isDu_k (hk : mOK S d ns nd) (hi : i < nd) : isDu S (nI i) := by
  unfold isDu
  rw [hk.2.2.1.1]
  exact iN_ix1' (by have := hk.2.2.1.2.1; omega) hi
theorem to0 {w : Int32} (hk : mOK S d ns nd) (hi : i < nd) (hw : iN w 0 5) : tOf S (nI i) w = 0 := by
  unfold tOf
  rw [if_neg (fun z => z (isDu_k hk hi)), if_neg (fun z => z hw)]
theorem to6 (hk : mOK S d ns nd) (hi : i < nd) : tOf S (nI i) 6 = 2 := by
  unfold tOf
  rw [if_neg (fun z => z (isDu_k hk hi)), if_pos (by decide)]
/-- what a duel's numbers are -/
theorem du_nums (hk : mOK S d ns nd) (hi : i < nd) : ∃ hN rN, S 22 i = nI hN ∧ S 18 i = nI rN ∧ ix (S 22 i) = hN ∧ ix (S 18 i) = rN ∧ hN ≤ 2 * rN ∧ rN ≤ 5 ∧ 1 ≤ rN := by
  have h := (hk.2.2.1.2.2 i hi).1
  refine ⟨_, _, h.i22.1, h.i18.1, rfl, rfl, h.i22.2, h.i18.2, ?_⟩
  have h1 := h.2.2.2.1.1
  have h18 := h.i18
  rw [h18.1, nI_toInt (by omega)] at h1
  omega
theorem rs_ok (e22 : S 22 i = nI hN) (h10 : hN ≤ 10) : ∀ n, n ≤ 5 → ∃ a b, rsS S i 1 n = nI a ∧ rsS S i 2 n = nI b ∧ a + b ≤ n ∧ a + b ≤ hN / 2
  | 0, _ => ⟨0, 0, rfl, rfl, by omega, by omega⟩
  | n + 1, hn => by
    obtain ⟨a, b, h1, h2, h3, h4⟩ := rs_ok e22 h10 n (by omega)
    by_cases h : n < hN / 2
    · by_cases e1 : rtS S i n = 1
      · refine ⟨a + 1, b, ?_, ?_, by omega, by omega⟩
        · rw [rsS, if_pos e1, h1, nI_1]
        · rw [rsS, if_neg (by rw [e1]; decide), h2, Int32.add_zero]
      · by_cases e2 : rtS S i n = 2
        · refine ⟨a, b + 1, ?_, ?_, by omega, by omega⟩
          · rw [rsS, if_neg e1, h1, Int32.add_zero]
          · rw [rsS, if_pos e2, h2, nI_1]
        · refine ⟨a, b, ?_, ?_, by omega, by omega⟩
          · rw [rsS, if_neg e1, h1, Int32.add_zero]
          · rw [rsS, if_neg e2, h2, Int32.add_zero]
    · have e0 : rtS S i n = 0 := by
        unfold rtS
        rw [if_pos (by rw [e22]; exact nI_le (by omega) (by omega))]
      refine ⟨a, b, ?_, ?_, by omega, by omega⟩
      · rw [rsS, if_neg (by rw [e0]; decide), h1, Int32.add_zero]
      · rw [rsS, if_neg (by rw [e0]; decide), h2, Int32.add_zero]
theorem wn_f (e22 : S 22 i = nI hN) (e18 : S 18 i = nI rN) (x18 : ix (S 18 i) = rN) (hh : hN ≤ 2 * rN) (r5 : rN ≤ 5) (ea : rsS S i 1 rN = nI a) (eb : rsS S i 2 rN = nI b) (hab : a + b ≤ 5) : wnS S i = if hN = 2 * rN then (if b < a then S 13 i else if a < b then S 14 i else -1) else -1 := by
  unfold wnS
  have eo : isOv S i ↔ hN = 2 * rN := by
    unfold isOv
    rw [e22, e18, lit_2, pk_mul, nI_eq (by omega) (by omega)]
  have e0 : (0 : Int32).toInt = 0 := rfl
  have et := pk_sub_toInt (a := a) (b := b) (by omega) (by omega)
  rw [x18, ea, eb]
  have q1 : 0 < nI a - nI b ↔ b < a := by
    rw [Int32.lt_iff_toInt_lt, et, e0]
    omega
  have q2 : nI a - nI b < 0 ↔ a < b := by
    rw [Int32.lt_iff_toInt_lt, et, e0]
    omega
  by_cases h : hN = 2 * rN
  · rw [if_neg (fun z => z (eo.mpr h)), if_pos h]
    by_cases h1 : b < a
    · rw [if_pos (q1.mpr h1), if_pos h1]
    · rw [if_neg (fun z => h1 (q1.mp z)), if_neg h1]
      by_cases h2 : a < b
      · rw [if_pos (q2.mpr h2), if_pos h2]
      · rw [if_neg (fun z => h2 (q2.mp z)), if_neg h2]
  · rw [if_pos (fun z => h (eo.mp z)), if_neg h]
theorem ve0 (hi : i < 8) (e22 : S 22 i = nI hN) : vOf S (ix (nI i)) 0 = nI hN := by
  rw [ix_nI (by omega), vOf, if_pos rfl, e22]
theorem ve1 (hi : i < 8) (x18 : ix (S 18 i) = rN) (ea : rsS S i 1 rN = nI a) : vOf S (ix (nI i)) 1 = nI a := by
  rw [ix_nI (by omega), vOf, if_neg (by decide), if_pos (by decide), x18, ea]
theorem ve2 (hi : i < 8) (x18 : ix (S 18 i) = rN) (ea : rsS S i 2 rN = nI a) : vOf S (ix (nI i)) 2 = nI a := by
  rw [ix_nI (by omega), vOf, if_neg (by decide), if_pos (by decide), x18, ea]
theorem ve3 (hi : i < 8) : vOf S (ix (nI i)) 3 = wnS S i := by
  rw [ix_nI (by omega), vOf, if_neg (by decide), if_neg (by decide), if_pos rfl]
theorem ve4 (hi : i < 8) : vOf S (ix (nI i)) 4 = S 21 i := by
  rw [ix_nI (by omega), vOf, if_neg (by decide), if_neg (by decide), if_neg (by decide), if_pos rfl]
theorem ve5 (hi : i < 8) : vOf S (ix (nI i)) 5 = S 16 i := by
  rw [ix_nI (by omega), vOf, if_neg (by decide), if_neg (by decide), if_neg (by decide), if_neg (by decide)]
theorem ofI_k {ob : Int32} (hob : ob = b01 (k % 2 = 1)) : ofI ob = k % 2 := by
  subst hob
  unfold ofI b01
  by_cases h : k % 2 = 1
  · rw [if_pos h, if_neg (by decide), h]
  · rw [if_neg h, if_pos rfl]
    omega
theorem wI_k {ob : Int32} (hob : ob = b01 (k % 2 = 1)) (hi : i < 8) (hk : k < 20) : wI (ix (nI i)) (ix (nI (k / 2))) ob = 10 * i + k := by
  unfold wI
  rw [ofI_k hob, ix_nI (by omega), ix_nI (by omega)]
  omega
theorem isHa_k {ob : Int32} (hk : mOK S d ns nd) (hi : i < nd) (x22 : ix (S 22 i) = hN) (hob : ob = b01 (k % 2 = 1)) (h10 : hN ≤ 10) (h11 : k < 11) : isHa S (nI i) (nI (k / 2)) ob ↔ k < hN := by
  have h12 := hk.2.2.1.2.1
  have e22 := (hk.2.2.1.2.2 i hi).1.i22.1
  rw [x22] at e22
  have e : 2 * nI (k / 2) + nI (ofI ob) = nI k := by
    rw [ofI_k hob, lit_2, pk_mul, nI_add]
    congr 1
    omega
  unfold isHa
  rw [e, ix_nI (by omega), e22, nI_ltI (by omega) (by omega)]
  constructor
  · exact fun z => z.2.2
  · intro z
    exact ⟨isDu_k hk hi, iN_k 4 (by decide) (by omega), z⟩
theorem tMd_0 {ob : Int32} (hk : mOK S d ns nd) (hi : i < nd) (x22 : ix (S 22 i) = hN) (hob : ob = b01 (k % 2 = 1)) (h10 : hN ≤ 10) (h : k < hN) : tMarked S (nI i) (nI (k / 2)) ob = 0 := if_neg (fun z => z ((isHa_k hk hi x22 hob h10 (by omega)).mpr h))
theorem tMd_1 {ob : Int32} (hk : mOK S d ns nd) (hi : i < nd) (x22 : ix (S 22 i) = hN) (hob : ob = b01 (k % 2 = 1)) (h10 : hN ≤ 10) (h : ¬ k < hN) (h11 : k < 11) : tMarked S (nI i) (nI (k / 2)) ob = 1 := if_pos (fun z => h ((isHa_k hk hi x22 hob h10 h11).mp z))
theorem md_b {ob : Int32} (hk : mOK S d ns nd) (hi : i < nd) (hi8 : i < 8) (x22 : ix (S 22 i) = hN) (hob : ob = b01 (k % 2 = 1)) (h10 : hN ≤ 10) (h : k < hN) : fb (allS S (ix (nI i)) (wI (ix (nI i)) (ix (nI (k / 2))) ob)) 1106252923 := by
  rw [wI_k hob hi8 (by omega), ix_nI (by omega)]
  exact fb_m (allS_fb (hk.2.2.1.2.2 i hi) hk.2.1.2 (by rw [x22]; exact h)) kM31
/-! who has won: the writers' duels together are the duels that are won -/
def sumW (S : ST) (nd : Nat) : Nat → Int32
  | 0 => 0
  | k + 1 => sumW S nd k + cntW S (nI k) nd
def subW (S : ST) (nd : Nat) : Nat → Int32
  | 0 => sumW S nd 8
  | k + 1 => subW S nd k - (if wnS S k < 0 then 0 else 1)
def ctW (S : ST) : Nat → Int32
  | 0 => 0
  | k + 1 => ctW S k + (if wnS S k < 0 then 0 else 1)
theorem one8 {w : Int32} (h : w = -1 ∨ ∃ j, j < 8 ∧ w = nI j) : (if w = nI 0 then (1 : Int32) else 0) + (if w = nI 1 then 1 else 0) + (if w = nI 2 then 1 else 0) + (if w = nI 3 then 1 else 0) + (if w = nI 4 then 1 else 0) + (if w = nI 5 then 1 else 0) + (if w = nI 6 then 1 else 0) + (if w = nI 7 then 1 else 0) = if w < 0 then 0 else 1 := by
  rcases h with rfl | ⟨j, hj, rfl⟩
  · decide
  · match j, hj with
    | 0, _ => decide
    | 1, _ => decide
    | 2, _ => decide
    | 3, _ => decide
    | 4, _ => decide
    | 5, _ => decide
    | 6, _ => decide
    | 7, _ => decide
    | n + 8, h => omega
theorem sumW_ct (hw : ∀ k, k < nd → wnS S k = -1 ∨ ∃ j, j < 8 ∧ wnS S k = nI j) : sumW S nd 8 = ctW S nd := by
  induction nd with
  | zero => rfl
  | succ m ih =>
    have ih := ih (fun k hk => hw k (by omega))
    rw [ctW, ← ih, ← one8 (hw m (by omega))]
    unfold sumW sumW sumW sumW sumW sumW sumW sumW sumW
    simp only [cntW]
    ac_rfl
theorem subW_ct : ∀ k, subW S nd k = sumW S nd 8 - ctW S k
  | 0 => by rw [subW, ctW, Int32.sub_zero]
  | k + 1 => by
    rw [subW, ctW, subW_ct k, Int32.sub_sub]
theorem wn_who (hk : mOK S d ns nd) (hd : dTie S R i) (hi : i < nd) : wnS S i = -1 ∨ ∃ j, j < 8 ∧ wnS S i = nI j := by
  obtain ⟨hN, rN, e22, e18, x22, x18, hh, r5, r1⟩ := du_nums hk hi
  obtain ⟨a, b, ea, eb, h1, h2⟩ := rs_ok e22 (by omega) rN r5
  rw [wn_f e22 e18 x18 hh r5 ea eb (by omega)]
  have h13 := rg_ix (n := 7) hd.2.2.2.2.2.2.2.2.1
  have h14 := rg_ix (n := 7) hd.2.2.2.2.2.2.2.2.2
  by_cases q1 : hN = 2 * rN
  · rw [if_pos q1]
    by_cases q2 : b < a
    · rw [if_pos q2]
      exact Or.inr ⟨_, by omega, h13.1⟩
    · rw [if_neg q2]
      by_cases q3 : a < b
      · rw [if_pos q3]
        exact Or.inr ⟨_, by omega, h14.1⟩
      · rw [if_neg q3]
        exact Or.inl rfl
  · rw [if_neg q1]
    exact Or.inl rfl
theorem subW_0 (hk : mOK S d ns nd) (ht : tD S R nd) : subW S nd nd = 0 := by
  rw [subW_ct, sumW_ct (fun k h => wn_who hk (ht k h) h), Int32.sub_self]
theorem tw0 (hk : k < 8) : tWon (nI k) = 0 := if_neg (fun z => z (iN_k 7 (by decide) (by omega)))
end Duels
