/-! ===== what holds of the state at every call ===== -/
def gD (S : ST) (d : Nat) : Prop := S 1 0 = nI d ∧ d ≤ 8 ∧ ∀ i, i < d → okC S 2 (4 * i)
def gS (S : ST) (ns : Nat) : Prop := S 3 0 = nI ns ∧ mMK S ns
def gU (S : ST) (ns nd : Nat) : Prop := S 12 0 = nI nd ∧ nd ≤ 12 ∧ ∀ i, i < nd → mHd S ns i
def gP (S : ST) : Prop := ∀ i, i < 3 → rg (S 7 i) 0 100 ∧ rg (S 8 i) (-10) 10
def gL (S : ST) : Prop := rg (S 0 0) 0 5000 ∧ ∀ j, j < 16 → S 11 j = -1 ∨ S 11 j ≤ S 0 0
def gB (S : ST) : Prop := ∀ w, w < 120 → S 25 w = 0 ∨ S 25 w = 1
def gZ (S : ST) (nd : Nat) : Prop := ∀ i, nd ≤ i → S 22 i = 0
def gF (S : ST) : Prop := ∀ i h, i < 12 → h < 10 → ix (S 22 i) ≤ h → S 26 (10 * i + h) = 0
def mOK (S : ST) (d ns nd : Nat) : Prop := gD S d ∧ gS S ns ∧ gU S ns nd ∧ gP S ∧ gL S ∧ gB S ∧ gZ S nd ∧ gF S
theorem sf_nb {F : List Nat} {S S' : ST} {k j : Nat} {v : Int32} (h : sf F S S') : sf F (su S k j v) (su S' k j v) := fun q hq => by
  by_cases hk : q = k
  · subst hk
    rw [su_a, su_a, h q hq]
  · rw [su_o hk, su_o hk, h q hq]
theorem sf.cp {F : List Nat} {S S' : ST} {dst src off n : Nat} (h : sf F S S') (hs : src ∉ F) : sf F (cpS S dst src off n) (cpS S' dst src off n) := fun q hq => by
  funext j
  unfold cpS
  rw [h q hq, h src hs]
theorem sf.cw {F : List Nat} {S S' : ST} {dst src off n : Nat} (h : sf F S S') (hd : dst ∈ F) : sf F S (cpS S' dst src off n) := fun q hq => by
  have hne : q ≠ dst := fun z => hq (by rw [z]; exact hd)
  rw [← h q hq]
  funext j
  unfold cpS
  rw [if_neg (fun z => hne z.1)]
theorem su_ij {S : ST} {k j k2 i : Nat} {v : Int32} (h : i ≠ j) : su S k j v k2 i = S k2 i := by
  by_cases hk : k2 = k
  · subst hk
    exact su_n h
  · rw [su_o hk]
theorem cp_o {S : ST} {dst src off n k : Nat} (h : k ≠ dst) : cpS S dst src off n k = S k := by
  funext j
  unfold cpS
  rw [if_neg (fun z => h z.1)]
theorem cp_n {S : ST} {dst src off n j : Nat} (h : ¬ (off ≤ j ∧ j < off + n)) : cpS S dst src off n dst j = S dst j := by
  unfold cpS
  rw [if_neg (fun z => h z.2)]
theorem cp_s {S : ST} {dst src off n j : Nat} (h : j < n) : cpS S dst src off n dst (off + j) = S src j := by
  unfold cpS
  rw [if_pos ⟨rfl, by omega, by omega⟩, Nat.add_sub_cancel_left]
theorem t_a {P : Prop} [Decidable P] {c r : Int32} (hc : c ≠ 0) (t : (if ¬ P then c else r) = 0) : P ∧ r = 0 := by
  by_cases h : P
  · rw [if_neg (not_not_intro h)] at t
    exact ⟨h, t⟩
  · rw [if_pos h] at t
    exact absurd t hc
section Stays
variable {S S' : ST} {F : List Nat} {d ns nd : Nat}
theorem gD.st (h : gD S d) (hF : sf F S S') (hf : ∀ k, k ∈ [1, 2] → k ∉ F) : gD S' d := by
  unfold gD okC
  rw [hF 1 (hf _ (by decide)), hF 2 (hf _ (by decide))]
  exact h
theorem gS.st (h : gS S ns) (hF : sf F S S') (hf : ∀ k, k ∈ [3, 4, 5, 10] → k ∉ F) : gS S' ns := by
  unfold gS mMK mWt mSg okC
  rw [hF 3 (hf _ (by decide)), hF 4 (hf _ (by decide)), hF 5 (hf _ (by decide)), hF 10 (hf _ (by decide))]
  exact h
theorem gU.st (h : gU S ns nd) (hF : sf F S S') (hf : ∀ k, k ∈ [12, 15, 16, 17, 18, 19, 20, 22, 23, 24, 27] → k ∉ F) : gU S' ns nd := by
  unfold gU mHd mDu mWr okC
  rw [hF 12 (hf _ (by decide)), hF 15 (hf _ (by decide)), hF 16 (hf _ (by decide)), hF 17 (hf _ (by decide)), hF 18 (hf _ (by decide)), hF 19 (hf _ (by decide)), hF 20 (hf _ (by decide)), hF 22 (hf _ (by decide)), hF 23 (hf _ (by decide)), hF 24 (hf _ (by decide)), hF 27 (hf _ (by decide))]
  exact h
theorem gP.st (h : gP S) (hF : sf F S S') (hf : ∀ k, k ∈ [7, 8] → k ∉ F) : gP S' := by
  unfold gP
  rw [hF 7 (hf _ (by decide)), hF 8 (hf _ (by decide))]
  exact h
theorem gL.st (h : gL S) (hF : sf F S S') (hf : ∀ k, k ∈ [0, 11] → k ∉ F) : gL S' := by
  unfold gL
  rw [hF 0 (hf _ (by decide)), hF 11 (hf _ (by decide))]
  exact h
theorem gB.st (h : gB S) (hF : sf F S S') (hf : ∀ k, k ∈ [25] → k ∉ F) : gB S' := by
  unfold gB
  rw [hF 25 (hf _ (by decide))]
  exact h
theorem gZ.st (h : gZ S nd) (hF : sf F S S') (hf : ∀ k, k ∈ [22] → k ∉ F) : gZ S' nd := by
  unfold gZ
  rw [hF 22 (hf _ (by decide))]
  exact h
theorem gF.st (h : gF S) (hF : sf F S S') (hf : ∀ k, k ∈ [22, 26] → k ∉ F) : gF S' := by
  unfold gF
  rw [hF 22 (hf _ (by decide)), hF 26 (hf _ (by decide))]
  exact h
theorem mOK.t (h : mOK S d ns nd) (hF : sf [28] S S') : mOK S' d ns nd := ⟨h.1.st hF (by decide), h.2.1.st hF (by decide), h.2.2.1.st hF (by decide), h.2.2.2.1.st hF (by decide), h.2.2.2.2.1.st hF (by decide), h.2.2.2.2.2.1.st hF (by decide), h.2.2.2.2.2.2.1.st hF (by decide), h.2.2.2.2.2.2.2.st hF (by decide)⟩
theorem gU.up (h : gU S ns nd) : gU S (ns + 1) nd := ⟨h.1, h.2.1, fun i hi => ⟨(h.2.2 i hi).1, by have := (h.2.2 i hi).2.1; omega, (h.2.2 i hi).2.2⟩⟩
/-- a duel whose fields are the same -/
theorem mDu_c {i : Nat} (h : mDu S i) (e : ∀ k, k ∈ [15, 16, 17, 18, 19, 20, 22] → S' k i = S k i) : mDu S' i := by
  unfold mDu
  rw [e 15 (by decide), e 16 (by decide), e 17 (by decide), e 18 (by decide), e 19 (by decide), e 20 (by decide), e 22 (by decide)]
  exact h
theorem okC_c {k p k' p' : Nat} (h : okC S k p) (e : ∀ j, j < 4 → S' k' (p' + j) = S k (p + j)) : okC S' k' p' := by
  have e0 : S' k' p' = S k p := e 0 (by decide)
  have e1 := e 1 (by decide)
  have e2 := e 2 (by decide)
  have e3 := e 3 (by decide)
  unfold okC
  rw [e0, e1, e2, e3]
  exact h
theorem mWr_c {w : Nat} (h : mWr S w) (e3 : S' 23 w = S 23 w) (e4 : S' 24 w = S 24 w) (e : ∀ j, j < 32 → S' 27 (32 * w + j) = S 27 (32 * w + j)) : mWr S' w := by
  have h8 := h.i23.2
  unfold mWr
  rw [e3, e4]
  exact ⟨h.1, h.2.1, fun i hi => okC_c (h.2.2 i hi) (fun j hj => by rw [Nat.add_assoc]; exact e _ (by omega))⟩
/-! every call keeps it -/
theorem ok_clear (h : mOK S d ns nd) : mOK (nClear S) 0 ns nd := by
  have hF : sf [1] S (nClear S) := sf.rf.su (by decide)
  exact ⟨⟨su_s.trans lit_0, by omega, fun i hi => absurd hi (by omega)⟩, h.2.1.st hF (by decide), h.2.2.1.st hF (by decide), h.2.2.2.1.st hF (by decide), h.2.2.2.2.1.st hF (by decide), h.2.2.2.2.2.1.st hF (by decide), h.2.2.2.2.2.2.1.st hF (by decide), h.2.2.2.2.2.2.2.st hF (by decide)⟩
theorem ok_stroke {x y ex ey : Int32} (h : mOK S d ns nd) (t : tStroke S x y ex ey = 0) : mOK (nStroke S d x y ex ey) (d + 1) ns nd := by
  obtain ⟨hs, t⟩ := t_a (by decide) t
  obtain ⟨h8, -⟩ := t_a (by decide) t
  rw [h.1.1] at h8
  have hd8 : d < 8 := (nI_ltI (b := 8) (by have := h.1.2.1; omega) (by omega)).mp h8
  have hF : sf [1, 2] S (nStroke S d x y ex ey) := (((((sf.rf).su (by decide)).su (by decide)).su (by decide)).su (by decide)).su (by decide)
  have en : ∀ q, q < 4 * d → nStroke S d x y ex ey 2 q = S 2 q := fun q hq => by
    unfold nStroke
    rw [su_o (by decide), su_n (by omega), su_n (by omega), su_n (by omega), su_n (by omega)]
  have e0 : nStroke S d x y ex ey 2 (4 * d) = x := by
    unfold nStroke
    rw [su_o (by decide), su_n (by omega), su_n (by omega), su_n (by omega), su_s]
  have e1 : nStroke S d x y ex ey 2 (4 * d + 1) = y := by
    unfold nStroke
    rw [su_o (by decide), su_n (by omega), su_n (by omega), su_s]
  have e2 : nStroke S d x y ex ey 2 (4 * d + 2) = ex := by
    unfold nStroke
    rw [su_o (by decide), su_n (by omega), su_s]
  have e3 : nStroke S d x y ex ey 2 (4 * d + 3) = ey := by
    unfold nStroke
    rw [su_o (by decide), su_s]
  refine ⟨⟨su_s, by omega, fun i hi => ?_⟩, h.2.1.st hF (by decide), h.2.2.1.st hF (by decide), h.2.2.2.1.st hF (by decide), h.2.2.2.2.1.st hF (by decide), h.2.2.2.2.2.1.st hF (by decide), h.2.2.2.2.2.2.1.st hF (by decide), h.2.2.2.2.2.2.2.st hF (by decide)⟩
  by_cases hid : i = d
  · subst hid
    unfold okC
    rw [e0, e1, e2, e3]
    exact ⟨iN_rg hs.1, iN_rg hs.2.1, iN_rg hs.2.2.1, iN_rg hs.2.2.2.1, fun z => hs.2.2.2.2.elim (fun w => w z.1) (fun w => w z.2)⟩
  · exact okC_c (h.1.2.2 i (by omega)) (fun j hj => en _ (by omega))
theorem ok_sign (h : mOK S d ns nd) (t : tSign S = 0) : mOK (nSign S d ns) 0 (ns + 1) nd := by
  obtain ⟨⟨hs, h6⟩, -⟩ := t_a (by decide) t
  rw [h.1.1] at hs
  rw [h.2.1.1] at h6
  have h8 := h.1.2.1
  have hn6 := h.2.1.2.2.1
  have hd6 : d ≤ 6 := (nI_leI (b := 6) (by omega) (by omega)).mp hs.2
  have hd1 : 1 ≤ d := (nI_leI (a := 1) (by omega) (by omega)).mp hs.1
  have hns : ns < 6 := (nI_ltI (b := 6) (by omega) (by omega)).mp h6
  have hF : sf [5, 4, 1, 3] S (nSign S d ns) := ((((sf.rf).cw (by decide)).su (by decide)).su (by decide)).su (by decide)
  have e4 : ∀ g, g ≠ ns → nSign S d ns 4 g = S 4 g := fun g hg => by
    unfold nSign
    rw [su_o (by decide), su_o (by decide), su_n hg, cp_o (by decide)]
  have e4s : nSign S d ns 4 ns = nI d := by
    unfold nSign
    rw [su_o (by decide), su_o (by decide), su_s]
  have e5 : ∀ q, q < 24 * ns → nSign S d ns 5 q = S 5 q := fun q hq => by
    unfold nSign
    rw [su_o (by decide), su_o (by decide), su_o (by decide), cp_n (by omega)]
  have e5s : ∀ q, q < 4 * d → nSign S d ns 5 (24 * ns + q) = S 2 q := fun q hq => by
    unfold nSign
    rw [su_o (by decide), su_o (by decide), su_o (by decide), cp_s hq]
  refine ⟨⟨by unfold nSign; rw [su_o (by decide), su_s]; exact lit_0, by omega, fun i hi => absurd hi (by omega)⟩, ⟨su_s, ?_, by omega, fun g hg => ?_⟩, (h.2.2.1.st hF (by decide)).up, h.2.2.2.1.st hF (by decide), h.2.2.2.2.1.st hF (by decide), h.2.2.2.2.2.1.st hF (by decide), h.2.2.2.2.2.2.1.st hF (by decide), h.2.2.2.2.2.2.2.st hF (by decide)⟩
  · unfold mWt
    rw [hF 10 (by decide)]
    exact h.2.1.2.1
  · unfold mSg
    by_cases hgn : g = ns
    · subst hgn
      rw [e4s]
      refine ⟨by unfold rg; rw [nI_toInt (by omega)]; omega, fun i hi => ?_⟩
      rw [ix_nI (by omega)] at hi
      exact okC_c (h.1.2.2 i hi) (fun j hj => by rw [Nat.add_assoc]; exact e5s _ (by omega))
    · rw [e4 g hgn]
      have hg2 := h.2.1.2.2.2 g (by omega)
      have hi4 := hg2.i4
      exact ⟨hg2.1, fun i hi => okC_c (hg2.2 i hi) (fun j hj => e5 _ (by omega))⟩
theorem ok_buy {its many : Int32} (h : mOK S d ns nd) : mOK (nBuy S its many) d ns nd := by
  have hF : sf [6] S (nBuy S its many) := sf.rf.su (by decide)
  exact ⟨h.1.st hF (by decide), h.2.1.st hF (by decide), h.2.2.1.st hF (by decide), h.2.2.2.1.st hF (by decide), h.2.2.2.2.1.st hF (by decide), h.2.2.2.2.2.1.st hF (by decide), h.2.2.2.2.2.2.1.st hF (by decide), h.2.2.2.2.2.2.2.st hF (by decide)⟩
theorem ok_rise {its b : Int32} (h : mOK S d ns nd) (t : tRise its b = 0) : mOK (nRise S its b) d ns nd := by
  obtain ⟨hs, t⟩ := t_a (by decide) t
  obtain ⟨hb, -⟩ := t_a (by decide) t
  have hF : sf [8] S (nRise S its b) := sf.rf.su (by decide)
  refine ⟨h.1.st hF (by decide), h.2.1.st hF (by decide), h.2.2.1.st hF (by decide), fun i hi => ⟨?_, ?_⟩, h.2.2.2.2.1.st hF (by decide), h.2.2.2.2.2.1.st hF (by decide), h.2.2.2.2.2.2.1.st hF (by decide), h.2.2.2.2.2.2.2.st hF (by decide)⟩
  · rw [hF 7 (by decide)]
    exact (h.2.2.2.1 i hi).1
  · unfold nRise
    by_cases hii : i = ix its
    · rw [hii, su_s]
      exact iN_rg hb
    · rw [su_n hii]
      exact (h.2.2.2.1 i hi).2
theorem ok_style {its a b c : Int32} (h : mOK S d ns nd) (t : tStyle its a b c = 0) : mOK (nStyle S its a b c) d ns nd := by
  obtain ⟨hs, t⟩ := t_a (by decide) t
  obtain ⟨hb, -⟩ := t_a (by decide) t
  have hF : sf [10] S (nStyle S its a b c) := (((sf.rf).su (by decide)).su (by decide)).su (by decide)
  refine ⟨h.1.st hF (by decide), ⟨by rw [hF 3 (by decide)]; exact h.2.1.1, fun j hj => ?_, h.2.1.2.2.1, ?_⟩, h.2.2.1.st hF (by decide), h.2.2.2.1.st hF (by decide), h.2.2.2.2.1.st hF (by decide), h.2.2.2.2.2.1.st hF (by decide), h.2.2.2.2.2.2.1.st hF (by decide), h.2.2.2.2.2.2.2.st hF (by decide)⟩
  · unfold nStyle
    by_cases h2 : j = 3 * ix its + 2
    · rw [h2, su_s]
      exact iN_rg hb.2.2
    · rw [su_n h2]
      by_cases h1 : j = 3 * ix its + 1
      · rw [h1, su_s]
        exact iN_rg hb.2.1
      · rw [su_n h1]
        by_cases h0 : j = 3 * ix its
        · rw [h0, su_s]
          exact iN_rg hb.1
        · rw [su_n h0]
          exact h.2.1.2.1 j hj
  · intro g hg
    have hg2 := h.2.1.2.2.2 g hg
    unfold mSg okC
    rw [hF 4 (by decide), hF 5 (by decide)]
    exact hg2
theorem ok_learn {w s : Int32} (h : mOK S d ns nd) : mOK (nLearn S w s) d ns nd := by
  have hF : sf [11] S (nLearn S w s) := sf.rf.su (by decide)
  refine ⟨h.1.st hF (by decide), h.2.1.st hF (by decide), h.2.2.1.st hF (by decide), h.2.2.2.1.st hF (by decide), ⟨by rw [hF 0 (by decide)]; exact h.2.2.2.2.1.1, fun j hj => ?_⟩, h.2.2.2.2.2.1.st hF (by decide), h.2.2.2.2.2.2.1.st hF (by decide), h.2.2.2.2.2.2.2.st hF (by decide)⟩
  rw [hF 0 (by decide)]
  unfold nLearn
  by_cases hj2 : j = 4 * ix w + ix s
  · rw [hj2, su_s]
    exact Or.inr (Int32.le_refl _)
  · rw [su_n hj2]
    exact h.2.2.2.2.1.2 j hj
theorem clampD_rg (v : Int32) : rg (clampD v) 0 100 := by
  unfold clampD rg
  by_cases h1 : v < 0
  · rw [if_pos h1]
    decide
  · rw [if_neg h1]
    by_cases h2 : 100 < v
    · rw [if_pos h2]
      decide
    · rw [if_neg h2]
      have a := Int32.le_iff_toInt_le.mp (Int32.not_lt.mp h1)
      have b := Int32.le_iff_toInt_le.mp (Int32.not_lt.mp h2)
      exact ⟨a, b⟩
theorem ageK_rg : ∀ i, i < 3 → rg (ageK S 3 7 i) 0 100
  | 0, _ => by
    rw [ageK, su_n (by decide), ageK, su_n (by decide), ageK, su_s]
    exact clampD_rg _
  | 1, _ => by
    rw [ageK, su_n (by decide), ageK, su_s]
    exact clampD_rg _
  | 2, _ => by
    rw [ageK, su_s]
    exact clampD_rg _
  | i + 3, h => absurd h (by omega)
theorem ageN_rg (h : ∀ i, i < 3 → rg (S 7 i) 0 100) : ∀ n i, i < 3 → rg (ageN S n 7 i) 0 100
  | 0, i, hi => h i hi
  | n + 1, i, hi => by
    rw [ageN]
    exact ageK_rg i hi
theorem ok_pass {n : Int32} (h : mOK S d ns nd) (t : tPass S n = 0) : mOK (nPass S n) d ns nd := by
  obtain ⟨hn, t⟩ := t_a (by decide) t
  obtain ⟨hl, -⟩ := t_a (by decide) t
  have hF : sf [7, 0] S (nPass S n) := sf.su (fun k hk => ageN_o S (ix n) k (fun z => hk (by rw [z]; decide))) (by decide)
  have hn2 : rg n 1 100 := iN_rg hn
  obtain ⟨e, -⟩ := rg_add h.2.2.2.2.1.1 hn2 (by decide)
  have hl2 := Int32.le_iff_toInt_le.mp hl
  have e5 : (5000 : Int32).toInt = 5000 := rfl
  have e0 : nPass S n 0 0 = S 0 0 + n := su_s
  have hr := h.2.2.2.2.1.1
  refine ⟨h.1.st hF (by decide), h.2.1.st hF (by decide), h.2.2.1.st hF (by decide), fun i hi => ⟨?_, ?_⟩, ⟨?_, fun j hj => ?_⟩, h.2.2.2.2.2.1.st hF (by decide), h.2.2.2.2.2.2.1.st hF (by decide), h.2.2.2.2.2.2.2.st hF (by decide)⟩
  · unfold nPass
    rw [su_o (by decide)]
    exact ageN_rg (fun i hi => (h.2.2.2.1 i hi).1) _ i hi
  · rw [hF 8 (by decide)]
    exact (h.2.2.2.1 i hi).2
  · rw [e0]
    unfold rg at hr hn2 ⊢
    omega
  · rw [e0, hF 11 (by decide)]
    rcases h.2.2.2.2.1.2 j hj with z | z
    · exact Or.inl z
    · refine Or.inr (Int32.le_iff_toInt_le.mpr ?_)
      have z2 := Int32.le_iff_toInt_le.mp z
      unfold rg at hr hn2
      omega
theorem ok_duel {a b j q r w : Int32} (h : mOK S d ns nd) (t : tDuel S a b j q r w = 0) : mOK (nDuel S nd a b j q r w) d ns (nd + 1) := by
  obtain ⟨ho, t⟩ := t_a (by decide) t
  obtain ⟨hr, t⟩ := t_a (by decide) t
  obtain ⟨⟨hs, hn⟩, -⟩ := t_a (by decide) t
  have hn6 := h.2.1.2.2.1
  have hd12 := h.2.2.1.2.1
  rw [h.2.1.1] at hs
  rw [h.2.2.1.1] at hn
  have hns : 0 < ns := (nI_ltI (a := 0) (by omega) (by omega)).mp hs
  have hnd : nd < 12 := (nI_ltI (b := 12) (by omega) (by omega)).mp hn
  have hF : sf [13, 14, 15, 16, 17, 18, 19, 20, 21, 12] S (nDuel S nd a b j q r w) := ((((((((((sf.rf).su (by decide)).su (by decide)).su (by decide)).su (by decide)).su (by decide)).su (by decide)).su (by decide)).su (by decide)).su (by decide)).su (by decide)
  have ei : ∀ k i, i ≠ nd → k ≠ 12 → nDuel S nd a b j q r w k i = S k i := fun k i hi hk => by
    unfold nDuel
    rw [su_o hk, su_ij hi, su_ij hi, su_ij hi, su_ij hi, su_ij hi, su_ij hi, su_ij hi, su_ij hi, su_ij hi]
  have e15 : nDuel S nd a b j q r w 15 nd = j := by
    unfold nDuel
    rw [su_o (by decide), su_o (by decide), su_o (by decide), su_o (by decide), su_o (by decide), su_o (by decide), su_o (by decide), su_s]
  have e16 : nDuel S nd a b j q r w 16 nd = -1 := by
    unfold nDuel
    rw [su_o (by decide), su_o (by decide), su_o (by decide), su_o (by decide), su_o (by decide), su_o (by decide), su_s]
  have e17 : nDuel S nd a b j q r w 17 nd = q := by
    unfold nDuel
    rw [su_o (by decide), su_o (by decide), su_o (by decide), su_o (by decide), su_o (by decide), su_s]
  have e18 : nDuel S nd a b j q r w 18 nd = r := by
    unfold nDuel
    rw [su_o (by decide), su_o (by decide), su_o (by decide), su_o (by decide), su_s]
  have e19 : nDuel S nd a b j q r w 19 nd = w := by
    unfold nDuel
    rw [su_o (by decide), su_o (by decide), su_o (by decide), su_s]
  have e20 : nDuel S nd a b j q r w 20 nd = S 3 0 := by
    unfold nDuel
    rw [su_o (by decide), su_o (by decide), su_s]
  have e22 : nDuel S nd a b j q r w 22 nd = 0 := by
    rw [hF 22 (by decide)]
    exact h.2.2.2.2.2.2.1 nd (Nat.le_refl _)
  refine ⟨h.1.st hF (by decide), h.2.1.st hF (by decide), ⟨su_s, by omega, fun i hi => ?_⟩, h.2.2.2.1.st hF (by decide), h.2.2.2.2.1.st hF (by decide), h.2.2.2.2.2.1.st hF (by decide), fun i hi => ?_, h.2.2.2.2.2.2.2.st hF (by decide)⟩
  · by_cases hin : i = nd
    · subst hin
      refine ⟨?_, ?_, fun k hk => ?_⟩
      · unfold mDu
        rw [e15, e16, e17, e18, e19, e20, e22, h.2.1.1]
        refine ⟨iN_rg ho.2.2.1, Or.inl rfl, iN_rg ho.2.2.2, iN_rg hr.2.1, iN_rg hr.2.2, ?_, by unfold rg; decide, ?_⟩
        · unfold rg
          rw [nI_toInt (by omega)]
          omega
        · have h5 : rg r 1 5 := iN_rg hr.2.1
          have e0 : (0 : Int32).toInt = 0 := rfl
          unfold rg at h5
          rw [e0]
          omega
      · rw [e20, h.2.1.1, nI_toInt (by omega)]
        exact Int.le_refl _
      · rw [e22] at hk
        exact absurd hk (Nat.not_lt_zero _)
    · have hq := h.2.2.1.2.2 i (by omega)
      refine ⟨mDu_c hq.1 (fun k hk => ei k i hin (fun z => by rw [z] at hk; exact absurd hk (by decide))), ?_, fun k hk => ?_⟩
      · rw [ei 20 i hin (by decide)]
        exact hq.2.1
      · rw [hF 22 (by decide)] at hk
        exact mWr_c (hq.2.2 k hk) (by rw [hF 23 (by decide)]) (by rw [hF 24 (by decide)]) (fun l _ => by rw [hF 27 (by decide)])
  · rw [hF 22 (by decide)]
    exact h.2.2.2.2.2.2.1 i (by omega)
theorem ok_hand0 {i q hn : Nat} {s : Int32} (h : mOK S d ns nd) (hi : i < nd) (hq : q < 3) (hh : ix (S 22 i) = hn) (hlt : hn < 2 * ix (S 18 i)) (hd1 : 1 ≤ d) : mOK (nHand S i q hn d s) 0 ns nd := by
  have h8 := h.1.2.1
  have hd12 := h.2.2.1.2.1
  have hqi := h.2.2.1.2.2 i hi
  have i18 := hqi.1.i18
  have i22 := hqi.1.i22
  have hF : sf [6, 9, 27, 23, 24, 25, 1, 22] S (nHand S i q hn d s) := (((((((sf.rf.su (by decide)).su (by decide)).cw (by decide)).su (by decide)).su (by decide)).su (by decide)).su (by decide)).su (by decide)
  have e22 : nHand S i q hn d s 22 i = nI (hn + 1) := su_s
  have e22n : ∀ k, k ≠ i → nHand S i q hn d s 22 k = S 22 k := fun k hk => by
    simp only [nHand]
    rw [su_n hk, su_o (by decide), su_o (by decide), su_o (by decide), su_o (by decide), cp_o (by decide), su_o (by decide), su_o (by decide)]
  have e1 : nHand S i q hn d s 1 0 = 0 := by
    show su (su _ 1 0 0) 22 i _ 1 0 = _
    rw [su_o (by decide), su_s]
  have e23 : nHand S i q hn d s 23 (10 * i + hn) = nI d := by
    simp only [nHand]
    rw [su_o (by decide), su_o (by decide), su_o (by decide), su_o (by decide), su_s]
  have e24 : nHand S i q hn d s 24 (10 * i + hn) = S 7 q := by
    simp only [nHand]
    rw [su_o (by decide), su_o (by decide), su_o (by decide), su_s]
  have e25 : nHand S i q hn d s 25 (10 * i + hn) = b01 (s ≠ remI (101 * whoH S i hn + 37 * (S 9 0 + 1)) 1000) := by
    simp only [nHand]
    rw [su_o (by decide), su_o (by decide), su_s]
  have ewn : ∀ w, w ≠ 10 * i + hn → nHand S i q hn d s 23 w = S 23 w ∧ nHand S i q hn d s 24 w = S 24 w ∧ nHand S i q hn d s 25 w = S 25 w ∧ ∀ j, j < 32 → nHand S i q hn d s 27 (32 * w + j) = S 27 (32 * w + j) := fun w hw => by
    simp only [nHand]
    refine ⟨?_, ?_, ?_, fun j hj => ?_⟩
    · rw [su_o (by decide), su_o (by decide), su_o (by decide), su_o (by decide), su_n hw, cp_o (by decide), su_o (by decide), su_o (by decide)]
    · rw [su_o (by decide), su_o (by decide), su_o (by decide), su_n hw, su_o (by decide), cp_o (by decide), su_o (by decide), su_o (by decide)]
    · rw [su_o (by decide), su_o (by decide), su_n hw, su_o (by decide), su_o (by decide), cp_o (by decide), su_o (by decide), su_o (by decide)]
    · rw [su_o (by decide), su_o (by decide), su_o (by decide), su_o (by decide), su_o (by decide), cp_n (by omega), su_o (by decide), su_o (by decide)]
  have e27 : ∀ j, j < 4 * d → nHand S i q hn d s 27 (32 * (10 * i + hn) + j) = S 2 j := fun j hj => by
    simp only [nHand]
    rw [su_o (by decide), su_o (by decide), su_o (by decide), su_o (by decide), su_o (by decide), cp_s hj, su_o (by decide), su_o (by decide)]
  refine ⟨⟨e1.trans lit_0, by omega, fun k hk => absurd hk (by omega)⟩, h.2.1.st hF (by decide), ⟨by rw [hF 12 (by decide)]; exact h.2.2.1.1, hd12, fun k hk => ?_⟩, h.2.2.2.1.st hF (by decide), h.2.2.2.2.1.st hF (by decide), fun w hw => ?_, fun k hk => ?_, fun k l hk hl hkl => ?_⟩
  · have hqk := h.2.2.1.2.2 k hk
    have k22 := mDu_10 hqk.1
    have hlk : ∀ l, l < ix (nHand S i q hn d s 22 k) → mWr (nHand S i q hn d s) (10 * k + l) := fun l hl => by
      by_cases hw : 10 * k + l = 10 * i + hn
      · rw [hw]
        unfold mWr
        rw [e23, e24]
        refine ⟨by unfold rg; rw [nI_toInt (by omega)]; omega, (h.2.2.2.1 q hq).1, fun g hg => ?_⟩
        rw [ix_nI (by omega)] at hg
        exact okC_c (h.1.2.2 g hg) (fun j hj => by rw [Nat.add_assoc]; exact e27 _ (by omega))
      · have hl2 : l < ix (S 22 k) := by
          by_cases hki : k = i
          · subst hki
            rw [e22, ix_nI (by omega)] at hl
            omega
          · rw [e22n k hki] at hl
            exact hl
        obtain ⟨a1, a2, -, a4⟩ := ewn _ hw
        exact mWr_c (hqk.2.2 l hl2) a1 a2 a4
    refine ⟨?_, by rw [hF 20 (by decide)]; exact hqk.2.1, hlk⟩
    by_cases hki : k = i
    · subst hki
      obtain ⟨a1, a2, a3, a4, a5, a6, a7, a8⟩ := hqk.1
      unfold mDu
      rw [hF 15 (by decide), hF 16 (by decide), hF 17 (by decide), hF 18 (by decide), hF 19 (by decide), hF 20 (by decide), e22]
      refine ⟨a1, a2, a3, a4, a5, a6, ?_, ?_⟩
      · unfold rg
        rw [nI_toInt (by omega)]
        omega
      · rw [nI_toInt (by omega), i18.1, nI_toInt (by omega)]
        omega
    · exact mDu_c hqk.1 (fun j hj => by
        by_cases h22 : j = 22
        · rw [h22]
          exact e22n k hki
        · rw [hF j (by
            simp only [List.mem_cons, List.not_mem_nil, or_false] at hj ⊢
            omega)])
  · by_cases hw0 : w = 10 * i + hn
    · rw [hw0, e25]
      unfold b01
      split
      · exact Or.inr rfl
      · exact Or.inl rfl
    · rw [(ewn w hw0).2.2.1]
      exact h.2.2.2.2.2.1 w hw
  · rw [e22n k (by omega)]
    exact h.2.2.2.2.2.2.1 k hk
  · rw [hF 26 (by decide)]
    refine h.2.2.2.2.2.2.2 k l hk hl ?_
    by_cases hki : k = i
    · subst hki
      rw [e22, ix_nI (by omega)] at hkl
      omega
    · rw [e22n k hki] at hkl
      exact hkl
theorem ok_hand {its s : Int32} (h : mOK S d ns nd) (t : tHand S its s = 0) : mOK (nHand S (ix its) (ix (S 17 (ix its))) (ix (S 22 (ix its))) d s) 0 ns nd := by
  obtain ⟨hdu, t⟩ := t_a (by decide) t
  obtain ⟨-, t⟩ := t_a (by decide) t
  obtain ⟨⟨hov, hd0, -⟩, -⟩ := t_a (by decide) t
  obtain ⟨-, hi⟩ := isDu_ix h.2.2.1.1 h.2.2.1.2.1 hdu
  have hq := (h.2.2.1.2.2 _ hi).1
  have h8 := h.1.2.1
  have i17 := hq.i17
  have i22 := hq.i22
  rw [h.1.1] at hd0
  have hd1 : 0 < d := (nI_ltI (a := 0) (by omega) (by omega)).mp hd0
  rw [hq.ov] at hov
  exact ok_hand0 h hi (by omega) rfl (by omega) hd1
theorem isHa_at {its k o : Int32} (h : mOK S d ns nd) (hh : isHa S its k o) : its = nI (ix its) ∧ ix its < nd ∧ k = nI (ix k) ∧ ix k ≤ 4 ∧ 2 * ix k + ofI o < ix (S 22 (ix its)) := by
  obtain ⟨h1, h2, h3⟩ := hh
  obtain ⟨a1, a2⟩ := isDu_ix h.2.2.1.1 h.2.2.1.2.1 h1
  obtain ⟨b1, b2⟩ := iN_ix (n := 4) (by omega) h2
  have i22 := (h.2.2.1.2.2 _ a2).1.i22
  have i10 := mDu_10 (h.2.2.1.2.2 _ a2).1
  have ho : ofI o ≤ 1 := by unfold ofI; split <;> omega
  refine ⟨a1, a2, b1, b2, ?_⟩
  rw [b1, i22.1, lit_2, pk_mul, nI_add] at h3
  exact (nI_ltI (by omega) (by omega)).mp h3
theorem ok_look {its k o : Int32} (h : mOK S d ns nd) (t : tLook S its k o = 0) : mOK (nLook S its k o) d ns nd := by
  obtain ⟨hh, -⟩ := t_a (by decide) t
  obtain ⟨a1, a2, b1, b2, h3⟩ := isHa_at h hh
  have i10 := mDu_10 (h.2.2.1.2.2 _ a2).1
  have hF : sf [26] S (nLook S its k o) := sf.rf.su (by decide)
  refine ⟨h.1.st hF (by decide), h.2.1.st hF (by decide), h.2.2.1.st hF (by decide), h.2.2.2.1.st hF (by decide), h.2.2.2.2.1.st hF (by decide), h.2.2.2.2.2.1.st hF (by decide), h.2.2.2.2.2.2.1.st hF (by decide), fun i l hi hl hil => ?_⟩
  rw [hF 22 (by decide)] at hil
  unfold nLook
  rw [su_n (fun z => by
    unfold wI at z
    have hii : i = ix its := by omega
    rw [hii] at hil
    omega)]
  exact h.2.2.2.2.2.2.2 i l hi hl hil
theorem ok_appeal {its w : Int32} (h : mOK S d ns nd) (t : tAppeal S its w = 0) : mOK (nAppeal S its w) d ns nd := by
  obtain ⟨⟨h1, h2⟩, -⟩ := t_a (by decide) t
  have hF : sf [16] S (nAppeal S its w) := sf.rf.su (by decide)
  refine ⟨h.1.st hF (by decide), h.2.1.st hF (by decide), ⟨by rw [hF 12 (by decide)]; exact h.2.2.1.1, h.2.2.1.2.1, fun i hi => ?_⟩, h.2.2.2.1.st hF (by decide), h.2.2.2.2.1.st hF (by decide), h.2.2.2.2.2.1.st hF (by decide), h.2.2.2.2.2.2.1.st hF (by decide), h.2.2.2.2.2.2.2.st hF (by decide)⟩
  by_cases hii : i = ix its
  · subst hii
    exact mHd_16 (h.2.2.1.2.2 _ hi) (iN_rg h2)
  · have hq := h.2.2.1.2.2 i hi
    refine ⟨mDu_c hq.1 (fun k hk => by unfold nAppeal; rw [su_ij hii]), by rw [hF 20 (by decide)]; exact hq.2.1, fun k hk => ?_⟩
    rw [hF 22 (by decide)] at hk
    exact mWr_c (hq.2.2 k hk) (by rw [hF 23 (by decide)]) (by rw [hF 24 (by decide)]) (fun l _ => by rw [hF 27 (by decide)])
end Stays
/-- at the start -/
theorem ok_start : mOK (LZ 16) 0 0 0 := by
  have z : ∀ k j, k ≠ 11 → LZ 16 k j = 0 := fun k j hk => by
    unfold LZ
    rw [if_neg (fun e => hk e.1)]
  refine ⟨⟨z 1 0 (by decide), by omega, fun i hi => absurd hi (by omega)⟩, ⟨z 3 0 (by decide), fun j _ => by rw [z 10 j (by decide)]; unfold rg; decide, by omega, fun g hg => absurd hg (by omega)⟩, ⟨z 12 0 (by decide), by omega, fun i hi => absurd hi (by omega)⟩, fun i _ => by rw [z 7 i (by decide), z 8 i (by decide)]; unfold rg; decide, ⟨by rw [z 0 0 (by decide)]; unfold rg; decide, fun j hj => Or.inl ?_⟩, fun w _ => Or.inl (z 25 w (by decide)), fun i _ => z 22 i (by decide), fun i l _ _ _ => z 26 _ (by decide)⟩
  unfold LZ
  rw [if_pos ⟨rfl, hj⟩]
