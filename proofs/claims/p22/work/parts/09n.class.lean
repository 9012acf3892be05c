/-! ===== the picture stays where nothing of it is written ===== -/
def sf (F : List Nat) (S S' : ST) : Prop := ∀ k, k ∉ F → S' k = S k
theorem sf.rf {F : List Nat} {S : ST} : sf F S S := fun _ _ => rfl
theorem sf.su {F : List Nat} {S S' : ST} {k j : Nat} {v : Int32} (h : sf F S S') (hk : k ∈ F) : sf F S (su S' k j v) := fun q hq => by
  have hne : q ≠ k := fun z => hq (by rw [z]; exact hk)
  rw [su_o hne]
  exact h q hq
theorem sf.tr {F : List Nat} {S S' S2 : ST} (h : sf F S S') (h2 : sf F S' S2) : sf F S S2 := fun q hq => (h2 q hq).trans (h q hq)
section Stay
variable {M M' : MH} {x d ns nd : Nat} {al : Nat → Nat → Nat} {S S' : ST} {L F : List Nat}
theorem cTop.st (h : cTop M x al S ns nd) (hp : pr L M M') (hF : sf F S S') (hL : ∀ k, k ∈ [8, 606, 303, 704, 204, 112] → k ∉ L) (hf : ∀ k, k ∈ [9, 0] → k ∉ F) : cTop M' x al S' ns nd := by
  obtain ⟨h0, h1, h2, h3, h4, h5⟩ := h
  unfold cTop
  rw [hF 9 (hf _ (by decide)), hF 0 (hf _ (by decide))]
  exact ⟨hp _ _ h0 (hL 8 (by decide)), hp _ _ h1 (hL 606 (by decide)), hp _ _ h2 (hL 303 (by decide)), hp _ _ h3 (hL 704 (by decide)), hp _ _ h4 (hL 204 (by decide)), hp _ _ h5 (hL 112 (by decide))⟩
theorem cPap.st (h : cPap M al S) (hp : pr L M M') (hF : sf F S S') (hL : ∀ k, k ∈ [2] → k ∉ L) (hf : ∀ k, k ∈ [6, 7, 8] → k ∉ F) : cPap M' al S' := by
  unfold cPap
  rw [hF 6 (hf _ (by decide)), hF 7 (hf _ (by decide)), hF 8 (hf _ (by decide))]
  exact ⟨fun i hi => hp _ _ (h.1 i hi) (hL 2 (by decide)), h.2⟩
theorem cSty.st (h : cSty M al S) (hp : pr L M M') (hF : sf F S S') (hL : ∀ k, k ∈ [6] → k ∉ L) (hf : ∀ k, k ∈ [10] → k ∉ F) : cSty M' al S' := by
  unfold cSty
  rw [hF 10 (hf _ (by decide))]
  exact ⟨fun i hi => hp _ _ (h.1 i hi) (hL 6 (by decide)), h.2⟩
theorem cJud.st (h : cJud M al S) (hp : pr L M M') (hF : sf F S S') (hL : ∀ k, k ∈ [1, 1104] → k ∉ L) (hf : ∀ k, k ∈ [11] → k ∉ F) : cJud M' al S' := by
  unfold cJud
  rw [hF 11 (hf _ (by decide))]
  refine ⟨fun i hi => ?_, h.2⟩
  obtain ⟨h1, f, h2, h3⟩ := h.1 i hi
  exact ⟨hp _ _ h1 (hL 1 (by decide)), f, hp _ _ h2 (hL 1104 (by decide)), h3⟩
theorem cStr.st (h : cStr M al S d ns) (hp : pr L M M') (hF : sf F S S') (hL : ∀ k, k ∈ [5, 508, 4] → k ∉ L) (hf : ∀ k, k ∈ [2, 4, 5] → k ∉ F) : cStr M' al S' d ns := by
  have e2 := hF 2 (hf _ (by decide))
  have e4 := hF 4 (hf _ (by decide))
  have e5 := hF 5 (hf _ (by decide))
  refine ⟨fun g hg => ?_, h.2.1.k hp (hL 5 (by decide)) (hL 508 (by decide)) (hL 4 (by decide)) (fun j _ => by rw [e2]), h.2.2⟩
  rw [e4]
  exact (h.1 g hg).k hp (hL 5 (by decide)) (hL 508 (by decide)) (hL 4 (by decide)) (fun j _ => by rw [e5])
theorem cDue.st (h : cDue M al S nd) (hp : pr L M M') (hF : sf F S S') (hL : ∀ k, k ∈ [0, 1105, 810] → k ∉ L) (hf : ∀ k, k ∈ [13, 14, 15, 16, 17, 18, 19, 20, 21, 22] → k ∉ F) : cDue M' al S' nd := by
  unfold cDue
  rw [hF 13 (hf _ (by decide)), hF 14 (hf _ (by decide)), hF 15 (hf _ (by decide)), hF 16 (hf _ (by decide)), hF 17 (hf _ (by decide)), hF 18 (hf _ (by decide)), hF 19 (hf _ (by decide)), hF 20 (hf _ (by decide)), hF 21 (hf _ (by decide)), hF 22 (hf _ (by decide))]
  refine ⟨fun i hi => ?_, h.2⟩
  obtain ⟨h1, ⟨f, h2, h3⟩, h4⟩ := h.1 i hi
  exact ⟨hp _ _ h1 (hL 0 (by decide)), ⟨f, hp _ _ h2 (hL 1105 (by decide)), h3⟩, hp _ _ h4 (hL 810 (by decide))⟩
theorem wrC.st {x a kw pw dw gg dm : Nat} {wet fo fd : Int32} (h : wrC M x a S kw pw dw gg dm wet fo fd) (hp : pr L M M') (hL : ∀ k, k ∈ [7, 406, 3] → k ∉ L) (hkw : ∀ i, i < dw → ∀ j, j < 4 → S' kw (pw + 4 * i + j) = S kw (pw + 4 * i + j)) (h5 : ∀ i, i < dm → ∀ j, j < 4 → S' 5 (24 * gg + 4 * i + j) = S 5 (24 * gg + 4 * i + j)) : wrC M' x a S' kw pw dw gg dm wet fo fd := by
  obtain ⟨h1, f, h2, h3⟩ := h
  refine ⟨hp _ _ h1 (hL 7 (by decide)), f, hp _ _ h2 (hL 406 (by decide)), fun i hi => ⟨fun hd => ?_, (h3 i hi).2⟩⟩
  obtain ⟨q, hq, hc⟩ := (h3 i hi).1 hd
  refine ⟨q, hq, ?_⟩
  rw [hp _ _ hc (hL 3 (by decide))]
  have a0 := hkw i hd.1 0 (by decide)
  have a1 := hkw i hd.1 1 (by decide)
  have a2 := hkw i hd.1 2 (by decide)
  have a3 := hkw i hd.1 3 (by decide)
  have b0 := h5 i hd.2 0 (by decide)
  have b1 := h5 i hd.2 1 (by decide)
  have b2 := h5 i hd.2 2 (by decide)
  have b3 := h5 i hd.2 3 (by decide)
  have en : nearS S' kw (pw + 4 * i) (24 * gg + 4 * i) wet = nearS S kw (pw + 4 * i) (24 * gg + 4 * i) wet := by
    unfold nearS dsum dsum dsum dsum dsum
    rw [a0, a1, a2, a3, b0, b1, b2, b3]
  have es : slopeS S' kw (pw + 4 * i) (24 * gg + 4 * i) = slopeS S kw (pw + 4 * i) (24 * gg + 4 * i) := by
    unfold slopeS
    rw [show S' kw (pw + 4 * i) = S kw (pw + 4 * i) from a0, a1, a2, a3, show S' 5 (24 * gg + 4 * i) = S 5 (24 * gg + 4 * i) from b0, b1, b2, b3]
  unfold paC
  rw [en, es]
theorem cWri.st (h : cWri M al S nd) (hp : pr L M M') (hF : sf F S S') (hL : ∀ k, k ∈ [7, 406, 3] → k ∉ L) (hf : ∀ k, k ∈ [4, 5, 19, 20, 22, 23, 24, 25, 26, 27] → k ∉ F) : cWri M' al S' nd := by
  have e19 := hF 19 (hf _ (by decide))
  have e20 := hF 20 (hf _ (by decide))
  have ep : ∀ i w, pgS S' i w = pgS S i w := fun i w => by unfold pgS promptI; rw [e19, e20]
  unfold cWri
  rw [hF 22 (hf _ (by decide))]
  refine ⟨fun i k hi hk => ?_, h.2⟩
  have h1 := h.1 i k hi hk
  unfold wrS at h1 ⊢
  rw [ep, hF 4 (hf _ (by decide)), hF 23 (hf _ (by decide)), hF 24 (hf _ (by decide)), hF 25 (hf _ (by decide)), hF 26 (hf _ (by decide))]
  exact h1.st hp hL (fun _ _ _ _ => by rw [hF 27 (hf _ (by decide))]) (fun _ _ _ _ => by rw [hF 5 (hf _ (by decide))])
theorem CRep.st (h : CRep M x al S d ns nd) (hp : pr [] M M') (hF : sf [28] S S') : CRep M' x al S' d ns nd := by
  obtain ⟨h1, h2, h3, h4, h5, h6, h7⟩ := h
  exact ⟨h1.st hp hF (by decide) (by decide), h2.st hp hF (by decide) (by decide), h3.st hp hF (by decide) (by decide), h4.st hp hF (by decide) (by decide), h5.st hp hF (by decide) (by decide), h6.st hp hF (by decide) (by decide), h7.st hp hF (by decide) (by decide)⟩
end Stay
/-- what a method that throws has by its answer's number -/
def xE (t : Int32) (a b c : String) (E : String) : Prop := (t = 1 ∧ E = a) ∨ (t = 2 ∧ E = b) ∨ (t = 3 ∧ E = c)
theorem at_or {g : Nat → Nat} {n m : Nat} {i : Int32} (hn : n ≤ m) (hm : m < 2 ^ 31) : (iN i 0 (nI n - 1) ∧ i = nI (ix i) ∧ ix i < n ∧ va_rf (atR m (rowF g n) i) = .ref (g (ix i))) ∨ (¬ iN i 0 (nI n - 1) ∧ va_rf (atR m (rowF g n) i) = .null) := by
  by_cases h : iN i 0 (nI n - 1)
  · have h1 := iN_ix1 (by omega) h
    refine Or.inl ⟨h, h1.1, h1.2, ?_⟩
    rw [h1.1, atR_nI (by omega) hm, rowF_in h1.2, ix_nI (by omega)]
    rfl
  · refine Or.inr ⟨h, ?_⟩
    unfold atR
    by_cases hk : 0 ≤ i ∧ i < nI m
    · rw [if_pos hk]
      have h1 := ix_lt hm hk.1 hk.2
      rw [rowF_out (fun z => h (by rw [h1.1]; exact iN_ix1' (by omega) z))]
      rfl
    · rw [if_neg hk]
      rfl
theorem pr_at {S : ST} {i : Nat} {f : Nat → Int32} {k : Int32} (h : mDu S i) (hf : ∀ r, r < 5 → f r = prV (ix (S 19 i)) (ix (S 20 i)) (ix (S 18 i)) r) : (0 ≤ k ∧ k < S 18 i ∧ atI 5 f k = nI (promptI S i (ix k))) ∨ (¬ (0 ≤ k ∧ k < S 18 i) ∧ atI 5 f k = -1) := by
  have h2 := h.i18
  unfold atI
  by_cases hk : 0 ≤ k ∧ k < S 18 i
  · have h1 := ix_lt (n := ix (S 18 i)) (by omega) hk.1 (by rw [← h2.1]; exact hk.2)
    refine Or.inl ⟨hk.1, hk.2, ?_⟩
    rw [if_pos ⟨hk.1, by rw [h1.1]; exact nI_lt (by omega) (by omega)⟩, hf _ (by omega), prV, if_pos h1.2]
    rfl
  · refine Or.inr ⟨hk, ?_⟩
    by_cases h5 : 0 ≤ k ∧ k < nI 5
    · have h1 := ix_lt (by omega) h5.1 h5.2
      rw [if_pos h5, hf _ h1.2, prV, if_neg]
      intro z
      exact hk ⟨h5.1, by rw [h1.1, h2.1]; exact nI_lt z (by omega)⟩
    · rw [if_neg h5]
theorem ne_m1 {n : Nat} (h : n < 2 ^ 31) : nI n ≠ -1 := fun z => by
  have h1 := nI_pos h
  rw [z] at h1
  exact h1 (by decide)
theorem lk2 (w : Int32) : w = 0 ∨ w = 1 ∨ (w ≠ 0 ∧ w ≠ 1 ∧ Op.lookupswitch.offset #[(0, 27), (1, 32)].toList 37 w.toInt = 37) := by
  by_cases h0 : w = 0
  · exact Or.inl h0
  · by_cases h1 : w = 1
    · exact Or.inr (Or.inl h1)
    · refine Or.inr (Or.inr ⟨h0, h1, ?_⟩)
      have e0 : ¬ w.toInt = 0 := fun z => h0 (Int32.toInt_inj.mp (by rw [z]; rfl))
      have e1 : ¬ w.toInt = 1 := fun z => h1 (Int32.toInt_inj.mp (by rw [z]; rfl))
      simp [Op.lookupswitch.offset, e0, e1, Ne.symm e0, Ne.symm e1]
theorem lk2n {w : Int32} (h0 : w ≠ 0) (h1 : w ≠ 1) : ¬ iN w 0 1 := fun z => by
  have h := iN_rg z
  have e0 : (0 : Int32).toInt = 0 := rfl
  have e1 : (1 : Int32).toInt = 1 := rfl
  unfold rg at h
  rw [e0, e1] at h
  have g0 : ¬ w.toInt = 0 := fun z => h0 (Int32.toInt_inj.mp (by rw [z]; rfl))
  have g1 : ¬ w.toInt = 1 := fun z => h1 (Int32.toInt_inj.mp (by rw [z]; rfl))
  omega
theorem vOf_0 {S : ST} {i : Nat} : vOf S i 0 = S 22 i := if_pos rfl
theorem vOf_1 {S : ST} {i : Nat} (h : mDu S i) : vOf S i 1 = rcC S i 1 5 := by
  unfold vOf
  rw [if_neg (by decide), if_pos (Or.inl rfl), rcC_1, rsS_5 h (by decide)]
theorem vOf_2 {S : ST} {i : Nat} (h : mDu S i) : vOf S i 2 = rcC S i (-1) 5 := by
  unfold vOf
  rw [if_neg (by decide), if_pos (Or.inr rfl), rcC_2, rsS_5 h (by decide)]
theorem vOf_3 {S : ST} {i : Nat} : vOf S i 3 = wnS S i := by
  unfold vOf
  rw [if_neg (by decide), if_neg (by decide), if_pos rfl]
theorem vOf_4 {S : ST} {i : Nat} : vOf S i 4 = S 21 i := by
  unfold vOf
  rw [if_neg (by decide), if_neg (by decide), if_neg (by decide), if_pos rfl]
theorem vOf_5 {S : ST} {i : Nat} : vOf S i 5 = S 16 i := by
  unfold vOf
  rw [if_neg (by decide), if_neg (by decide), if_neg (by decide), if_neg (by decide)]
theorem tb_or {w : Int32} {n : Nat} (hn : n < 2 ^ 31) : iN w 0 (nI n) ∨ (¬ iN w 0 (nI n) ∧ (w.toInt < 0 ∨ (n : Int) < w.toInt)) := by
  by_cases h : iN w 0 (nI n)
  · exact Or.inl h
  · refine Or.inr ⟨h, ?_⟩
    have h1 : ¬ rg w 0 n := fun z => h (rg_iN (lo := 0) (hi := nI n) (by rw [nI_toInt hn]; exact z))
    unfold rg at h1
    omega
theorem i5_or (w : Int32) : w = 0 ∨ w = 1 ∨ w = 2 ∨ w = 3 ∨ w = 4 ∨ w = 5 ∨ (¬ iN w 0 5 ∧ (w.toInt < 0 ∨ 5 < w.toInt)) := by
  rcases tb_or (w := w) (n := 5) (by decide) with h | h
  · rcases i5_cases h with h | h | h | h | h | h
    · exact Or.inl h
    · exact Or.inr (Or.inl h)
    · exact Or.inr (Or.inr (Or.inl h))
    · exact Or.inr (Or.inr (Or.inr (Or.inl h)))
    · exact Or.inr (Or.inr (Or.inr (Or.inr (Or.inl h))))
    · exact Or.inr (Or.inr (Or.inr (Or.inr (Or.inr (Or.inl h)))))
  · exact Or.inr (Or.inr (Or.inr (Or.inr (Or.inr (Or.inr h)))))
theorem i2_or (w : Int32) : w = 0 ∨ w = 1 ∨ w = 2 ∨ (¬ iN w 0 2 ∧ (w.toInt < 0 ∨ 2 < w.toInt)) := by
  rcases tb_or (w := w) (n := 2) (by decide) with h | h
  · have h1 := iN_ix (n := 2) (by omega) h
    rw [h1.1]
    have h2 := h1.2
    generalize ix w = k at h2 ⊢
    match k, h2 with
    | 0, _ => exact Or.inl rfl
    | 1, _ => exact Or.inr (Or.inl rfl)
    | 2, _ => exact Or.inr (Or.inr (Or.inl rfl))
    | n + 3, h => omega
  · exact Or.inr (Or.inr (Or.inr h))
theorem wa_or {S : ST} {g : Nat → Nat} {i : Nat} {k o : Int32} (h : mDu S i) : (iN k 0 4 ∧ 2 * k + nI (ofI o) < S 22 i ∧ k = nI (ix k) ∧ ix k < 5 ∧ 2 * ix k + ofI o < ix (S 22 i) ∧ va_rf (wAt (rowF g (ix (S 22 i))) k o) = .ref (g (2 * ix k + ofI o))) ∨ (¬ (iN k 0 4 ∧ 2 * k + nI (ofI o) < S 22 i) ∧ va_rf (wAt (rowF g (ix (S 22 i))) k o) = .null) := by
  have h1 := h.i22
  have h2 := h.i18
  have ho : ofI o ≤ 1 := by unfold ofI; split <;> omega
  by_cases hk : iN k 0 4
  · have h3 := iN_ix (n := 4) (by decide) hk
    have e1 : 2 * k + nI (ofI o) = nI (2 * ix k + ofI o) := by
      rw [h3.1, ix_nI (by omega), lit_2, pk_mul, nI_add]
    by_cases hl : 2 * ix k + ofI o < ix (S 22 i)
    · refine Or.inl ⟨hk, ?_, h3.1, by omega, hl, ?_⟩
      · rw [e1, h1.1]
        exact nI_lt hl (by omega)
      · have h4 := wAt_in (g := g) (n := ix (S 22 i)) (r := ix k) (o := o) (by omega) hl
        rw [← h3.1] at h4
        exact h4
    · refine Or.inr ⟨fun z => ?_, ?_⟩
      · have z2 := z.2
        rw [e1, h1.1] at z2
        exact nI_nlt (by omega) (by omega) z2
      · have h4 := wAt_out (g := g) (n := ix (S 22 i)) (r := ix k) (o := o) (by omega) hl
        rw [← h3.1] at h4
        exact h4
  · refine Or.inr ⟨fun z => hk z.1, ?_⟩
    unfold wAt
    rw [if_neg]
    · rfl
    · intro z
      have h3 := ix_lt (n := 5) (by decide) z.1 z.2
      exact hk (by rw [h3.1]; exact ⟨Int32.not_lt.mp (nI_pos (by omega)), nI_le (b := 4) (by omega) (by decide)⟩)
theorem wrP.wr {M0 M : MH} {x a : Nat} {S : ST} {kw pw dw gg dm : Nat} {wet fo : Int32} (h : wrP M0 M x a 6 S kw pw dw gg dm wet fo) : wrC M x a S kw pw dw gg dm wet fo 0 := by
  obtain ⟨-, -, h3, f, h4, h5⟩ := h
  exact ⟨h3, f, h4, h5⟩
