/-! ===== what ties the law's rows to the class's state ===== -/
abbrev dTie (S R : ST) (i : Nat) : Prop := R 4 (8 * i) = S 13 i ∧ R 4 (8 * i + 1) = S 14 i ∧ R 4 (8 * i + 2) = S 15 i ∧ R 4 (8 * i + 3) = S 17 i ∧ R 4 (8 * i + 4) = S 18 i ∧ R 4 (8 * i + 5) = S 22 i ∧ R 4 (8 * i + 6) = S 21 i ∧ R 4 (8 * i + 7) = S 16 i ∧ rg (S 13 i) 0 7 ∧ rg (S 14 i) 0 7
def tG (S R : ST) (d ns nd : Nat) : Prop := R 0 0 = S 0 0 ∧ R 0 1 = nI ns ∧ R 0 2 = nI d ∧ R 0 3 = nI nd ∧ R 0 4 = S 9 0
def tL (S R : ST) (ns : Nat) : Prop := ∀ i, i < ns → R 1 i = S 4 i
def tH (S R : ST) : Prop := ∀ p, p < 3 → R 2 (3 * p) = S 6 p ∧ R 2 (3 * p + 1) = S 7 p ∧ R 2 (3 * p + 2) = S 8 p
def tK (S R : ST) : Prop := ∀ j, j < 16 → R 3 j = S 11 j + 1
def tD (S R : ST) (nd : Nat) : Prop := ∀ i, i < nd → dTie S R i
def tB (n : Nat) (S : ST) (nd : Nat) : Prop := rg (S 0 0) 0 ((12 * n : Nat) : Int) ∧ rg (S 9 0) 0 ((n : Nat) : Int) ∧ (∀ p, p < 3 → rg (S 6 p) 0 ((9 + 15 * n : Nat) : Int)) ∧ (∀ j, j < 16 → rg (S 11 j) (-1) 5000) ∧ nd ≤ 8
def tie (n : Nat) (S R : ST) (d ns nd : Nat) : Prop := tG S R d ns nd ∧ tL S R ns ∧ tH S R ∧ tK S R ∧ tD S R nd ∧ tB n S nd
section Tie
variable {n d ns nd : Nat} {S S' R R' : ST} {F G : List Nat}
theorem tG.st (h : tG S R d ns nd) (hF : sf F S S') (hf : ∀ k, k ∈ [0, 9] → k ∉ F) (hG : sf G R R') (hg : ∀ k, k ∈ [0] → k ∉ G) : tG S' R' d ns nd := by
  unfold tG
  rw [hF 0 (hf _ (by decide)), hF 9 (hf _ (by decide)), hG 0 (hg _ (by decide))]
  exact h
theorem tL.st (h : tL S R ns) (hF : sf F S S') (hf : ∀ k, k ∈ [4] → k ∉ F) (hG : sf G R R') (hg : ∀ k, k ∈ [1] → k ∉ G) : tL S' R' ns := by
  unfold tL
  rw [hF 4 (hf _ (by decide)), hG 1 (hg _ (by decide))]
  exact h
theorem tH.st (h : tH S R) (hF : sf F S S') (hf : ∀ k, k ∈ [6, 7, 8] → k ∉ F) (hG : sf G R R') (hg : ∀ k, k ∈ [2] → k ∉ G) : tH S' R' := by
  unfold tH
  rw [hF 6 (hf _ (by decide)), hF 7 (hf _ (by decide)), hF 8 (hf _ (by decide)), hG 2 (hg _ (by decide))]
  exact h
theorem tK.st (h : tK S R) (hF : sf F S S') (hf : ∀ k, k ∈ [11] → k ∉ F) (hG : sf G R R') (hg : ∀ k, k ∈ [3] → k ∉ G) : tK S' R' := by
  unfold tK
  rw [hF 11 (hf _ (by decide)), hG 3 (hg _ (by decide))]
  exact h
theorem tD.st (h : tD S R nd) (hF : sf F S S') (hf : ∀ k, k ∈ [13, 14, 15, 16, 17, 18, 21, 22] → k ∉ F) (hG : sf G R R') (hg : ∀ k, k ∈ [4] → k ∉ G) : tD S' R' nd := by
  unfold tD dTie
  rw [hF 13 (hf _ (by decide)), hF 14 (hf _ (by decide)), hF 15 (hf _ (by decide)), hF 16 (hf _ (by decide)), hF 17 (hf _ (by decide)), hF 18 (hf _ (by decide)), hF 21 (hf _ (by decide)), hF 22 (hf _ (by decide)), hG 4 (hg _ (by decide))]
  exact h
theorem tB.st (h : tB n S nd) (hF : sf F S S') (hf : ∀ k, k ∈ [0, 6, 9, 11] → k ∉ F) : tB n S' nd := by
  unfold tB
  rw [hF 0 (hf _ (by decide)), hF 6 (hf _ (by decide)), hF 9 (hf _ (by decide)), hF 11 (hf _ (by decide))]
  exact h
theorem tB.up (h : tB n S nd) : tB (n + 1) S nd := ⟨rg_m h.1 (by omega) (by omega), rg_m h.2.1 (by omega) (by omega), fun p hp => rg_m (h.2.2.1 p hp) (by omega) (by omega), h.2.2.2⟩
theorem tie.up (h : tie n S R d ns nd) : tie (n + 1) S R d ns nd := ⟨h.1, h.2.1, h.2.2.1, h.2.2.2.1, h.2.2.2.2.1, h.2.2.2.2.2.up⟩
/-- fields that the tie doesn't speak of -/
theorem tie.st (h : tie n S R d ns nd) (hF : sf F S S') (hf : ∀ k, k ∈ [0, 4, 6, 7, 8, 9, 11, 13, 14, 15, 16, 17, 18, 21, 22] → k ∉ F) : tie n S' R d ns nd :=
  ⟨h.1.st hF (fun k hk => hf k (by revert hk; revert k; decide)) (G := []) sf.rf (by decide), h.2.1.st hF (fun k hk => hf k (by revert hk; revert k; decide)) (G := []) sf.rf (by decide), h.2.2.1.st hF (fun k hk => hf k (by revert hk; revert k; decide)) (G := []) sf.rf (by decide), h.2.2.2.1.st hF (fun k hk => hf k (by revert hk; revert k; decide)) (G := []) sf.rf (by decide), h.2.2.2.2.1.st hF (fun k hk => hf k (by revert hk; revert k; decide)) (G := []) sf.rf (by decide), h.2.2.2.2.2.st hF (fun k hk => hf k (by revert hk; revert k; decide))⟩
/-- the draft's count alone -/
theorem tie.g2 (h : tie n S R d ns nd) (hF : sf [1, 2] S S') {d' : Nat} {v : Int32} (hv : v = nI d') : tie n S' (su R 0 2 v) d' ns nd := by
  subst hv
  have hG : sf [0] R (su R 0 2 (nI d')) := sf.rf.su (by decide)
  refine ⟨?_, h.2.1.st hF (by decide) hG (by decide), h.2.2.1.st hF (by decide) hG (by decide), h.2.2.2.1.st hF (by decide) hG (by decide), h.2.2.2.2.1.st hF (by decide) hG (by decide), h.2.2.2.2.2.st hF (by decide)⟩
  obtain ⟨a, b, c, e, f⟩ := h.1
  unfold tG
  rw [hF 0 (by decide), hF 9 (by decide), su_n (by decide), su_n (by decide), su_s, su_n (by decide), su_n (by decide)]
  exact ⟨a, b, rfl, e, f⟩
theorem sf_stroke {x y ex ey : Int32} : sf [1, 2] S (nStroke S d x y ex ey) := (((((sf.rf).su (by decide)).su (by decide)).su (by decide)).su (by decide)).su (by decide)
theorem sf_clear : sf [1, 2] S (nClear S) := sf.rf.su (by decide)
theorem tie.sign (h : tie n S R d ns nd) : tie n (nSign S d ns) (su (su (su R 1 ns (nI d)) 0 1 (nI (ns + 1))) 0 2 0) 0 (ns + 1) nd := by
  have hF : sf [1, 3, 4, 5] S (nSign S d ns) := ((((sf.rf).cw (by decide)).su (by decide)).su (by decide)).su (by decide)
  have hG : sf [0, 1] R (su (su (su R 1 ns (nI d)) 0 1 (nI (ns + 1))) 0 2 0) := (((sf.rf).su (by decide)).su (by decide)).su (by decide)
  refine ⟨?_, ?_, h.2.2.1.st hF (by decide) hG (by decide), h.2.2.2.1.st hF (by decide) hG (by decide), h.2.2.2.2.1.st hF (by decide) hG (by decide), h.2.2.2.2.2.st hF (by decide)⟩
  · obtain ⟨a, b, c, e, f⟩ := h.1
    unfold tG
    rw [hF 0 (by decide), hF 9 (by decide), su_n (by decide), su_n (by decide), su_n (by decide), su_s, su_s, su_n (by decide), su_n (by decide), su_n (by decide), su_n (by decide), su_o (by decide)]
    exact ⟨a, rfl, rfl, e, f⟩
  · intro i hi
    rw [su_o (by decide), su_o (by decide)]
    have e4 : nSign S d ns 4 = upd (S 4) ns (nI d) := by
      unfold nSign
      rw [su_o (by decide), su_o (by decide), su_a, cp_o (by decide)]
    rw [e4, su_a]
    by_cases h1 : i = ns
    · rw [h1, pk_us, pk_us]
    · rw [pk_un h1, pk_un h1]
      exact h.2.1 i (by omega)
theorem tie.style {a b c its : Int32} (h : tie n S R d ns nd) : tie n (nStyle S its a b c) R d ns nd := h.st (F := [10]) (((sf.rf).su (by decide)).su (by decide)) (by decide) |>.st (F := [10]) ((sf.rf).su (by decide)) (by decide)
theorem tie.look {its k o : Int32} (h : tie n S R d ns nd) : tie n (nLook S its k o) R d ns nd := h.st (F := [26]) ((sf.rf).su (by decide)) (by decide)
/-- sheets and a rise told -/
theorem tie.buy {p : Nat} {many b : Int32} (h : tie n S R d ns nd) (hp : p < 3) (hm : rg many 1 15) (hn : n ≤ 60) : tie (n + 1) (nRise (nBuy S (nI p) many) (nI p) b) (su (su R 2 (3 * p) (S 6 p + many)) 2 (3 * p + 2) b) d ns nd := by
  have hF : sf [6, 8] S (nRise (nBuy S (nI p) many) (nI p) b) := ((sf.rf).su (by decide)).su (by decide)
  have hG : sf [2] R (su (su R 2 (3 * p) (S 6 p + many)) 2 (3 * p + 2) b) := ((sf.rf).su (by decide)).su (by decide)
  have ep : ix (nI p) = p := ix_nI (by omega)
  obtain ⟨b1, b2, b3, b4, b5⟩ := h.2.2.2.2.2
  have e6 : nRise (nBuy S (nI p) many) (nI p) b 6 = upd (S 6) p (S 6 p + many) := by
    unfold nRise nBuy
    rw [su_o (by decide), su_a, ep]
  have e8 : nRise (nBuy S (nI p) many) (nI p) b 8 = upd (S 8) p b := by
    unfold nRise nBuy
    rw [su_a, su_o (by decide), ep]
  refine ⟨h.1.st hF (by decide) hG (by decide), h.2.1.st hF (by decide) hG (by decide), fun q hq => ?_, h.2.2.2.1.st hF (by decide) hG (by decide), h.2.2.2.2.1.st hF (by decide) hG (by decide), ?_⟩
  · obtain ⟨h1, h2, h3⟩ := h.2.2.1 q hq
    rw [e6, hF 7 (by decide), e8, su_a, su_a]
    by_cases hqp : q = p
    · subst hqp
      rw [pk_un (by omega), pk_us, pk_us, pk_un (by omega), pk_un (by omega), pk_us, pk_us]
      exact ⟨rfl, h2, rfl⟩
    · rw [pk_un (by omega), pk_un (by omega), pk_un (by omega), pk_un (by omega), pk_un (by omega), pk_un (by omega), pk_un (by omega), pk_un (by omega)]
      exact ⟨h1, h2, h3⟩
  · refine ⟨?_, ?_, fun q hq => ?_, ?_, b5⟩
    · rw [hF 0 (by decide)]
      exact rg_m b1 (by omega) (by omega)
    · rw [hF 9 (by decide)]
      exact rg_m b2 (by omega) (by omega)
    · rw [e6]
      by_cases hqp : q = p
      · subst hqp
        rw [pk_us]
        exact rg_m (rg_add (b3 q hq) hm (by omega)).2 (by omega) (by omega)
      · rw [pk_un hqp]
        exact rg_m (b3 q hq) (by omega) (by omega)
    · rw [hF 11 (by decide)]
      exact b4
/-- a style learned -/
theorem tie.learn {j : Nat} (h : tie n S R d ns nd) (hj : j < 16) (hn : n ≤ 60) {w s : Int32} (hws : 4 * ix w + ix s = j) : tie n (nLearn S w s) (su R 3 j (S 0 0 + 1)) d ns nd := by
  have hF : sf [11] S (nLearn S w s) := (sf.rf).su (by decide)
  have hG : sf [3] R (su R 3 j (S 0 0 + 1)) := (sf.rf).su (by decide)
  obtain ⟨b1, b2, b3, b4, b5⟩ := h.2.2.2.2.2
  have e11 : nLearn S w s 11 = upd (S 11) j (S 0 0) := by
    unfold nLearn
    rw [su_a, hws]
  refine ⟨h.1.st hF (by decide) hG (by decide), h.2.1.st hF (by decide) hG (by decide), h.2.2.1.st hF (by decide) hG (by decide), fun q hq => ?_, h.2.2.2.2.1.st hF (by decide) hG (by decide), ?_⟩
  · rw [e11, su_a]
    by_cases hqj : q = j
    · rw [hqj, pk_us, pk_us]
    · rw [pk_un hqj, pk_un hqj]
      exact h.2.2.2.1 q hq
  · refine ⟨by rw [hF 0 (by decide)]; exact b1, by rw [hF 9 (by decide)]; exact b2, by rw [hF 6 (by decide)]; exact b3, fun q hq => ?_, b5⟩
    rw [e11]
    by_cases hqj : q = j
    · rw [hqj, pk_us]
      exact rg_m b1 (by omega) (by omega)
    · rw [pk_un hqj]
      exact b4 q hq
/-- the row of what a judge learned is as it was -/
theorem tie.r3 {j : Nat} {v : Int32} (h : tie n S R d ns nd) (hv : R 3 j = v) : tie n S (su R 3 j v) d ns nd := by
  have e : su R 3 j v = R := by
    funext a b
    by_cases ha : a = 3
    · subst ha
      rw [su_a]
      by_cases hb : b = j
      · subst hb
        rw [pk_us, hv]
      · rw [pk_un hb]
    · rw [su_o ha]
  rw [e]
  exact h
end Tie
/-- the class, the rows, the state -/
def LV (n : Nat) (M : MH) (x : Nat) (ra : Nat → Nat) (R S : ST) (d ns nd : Nat) : Prop := ∃ Mx al, LR M Mx ra R ∧ CRep Mx x al S d ns nd ∧ mOK S d ns nd ∧ tie n S R d ns nd
