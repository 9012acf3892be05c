/-! ===== hand: the picture ===== -/
theorem wrC.mv {M : MH} {S S' : ST} {x a kw pw kw' pw' dw gg dm : Nat} {wet fo fd : Int32} (h : wrC M x a S kw pw dw gg dm wet fo fd) (hkw : ∀ i, i < dw → ∀ j, j < 4 → S' kw' (pw' + 4 * i + j) = S kw (pw + 4 * i + j)) (h5 : ∀ i, i < dm → ∀ j, j < 4 → S' 5 (24 * gg + 4 * i + j) = S 5 (24 * gg + 4 * i + j)) : wrC M x a S' kw' pw' dw gg dm wet fo fd := by
  obtain ⟨h1, f, h2, h3⟩ := h
  refine ⟨h1, f, h2, fun i hi => ⟨fun hd => ?_, (h3 i hi).2⟩⟩
  obtain ⟨q, hq, hc⟩ := (h3 i hi).1 hd
  refine ⟨q, hq, ?_⟩
  rw [hc]
  have a0 := hkw i hd.1 0 (by decide)
  have a1 := hkw i hd.1 1 (by decide)
  have a2 := hkw i hd.1 2 (by decide)
  have a3 := hkw i hd.1 3 (by decide)
  have b0 := h5 i hd.2 0 (by decide)
  have b1 := h5 i hd.2 1 (by decide)
  have b2 := h5 i hd.2 2 (by decide)
  have b3 := h5 i hd.2 3 (by decide)
  have en : nearS S' kw' (pw' + 4 * i) (24 * gg + 4 * i) wet = nearS S kw (pw + 4 * i) (24 * gg + 4 * i) wet := by
    unfold nearS dsum dsum dsum dsum dsum
    rw [a0, a1, a2, a3, b0, b1, b2, b3]
  have es : slopeS S' kw' (pw' + 4 * i) (24 * gg + 4 * i) = slopeS S kw (pw + 4 * i) (24 * gg + 4 * i) := by
    unfold slopeS
    rw [show S' kw' (pw' + 4 * i) = S kw (pw + 4 * i) from a0, a1, a2, a3, show S' 5 (24 * gg + 4 * i) = S 5 (24 * gg + 4 * i) from b0, b1, b2, b3]
  unfold paC
  rw [en, es]
def al1011 (al : Nat → Nat → Nat) (w q pa : Nat) : Nat → Nat → Nat := fun k i => if k = 10 then (if i = w then q else al 10 i) else if k = 11 then (if i = w then pa else al 11 i) else al k i
theorem al_10n {al : Nat → Nat → Nat} {w q pa : Nat} : al1011 al w q pa 10 w = q := by unfold al1011; rw [if_pos rfl, if_pos rfl]
theorem al_11n {al : Nat → Nat → Nat} {w q pa : Nat} : al1011 al w q pa 11 w = pa := by unfold al1011; rw [if_neg (by decide), if_pos rfl, if_pos rfl]
theorem al_10o {al : Nat → Nat → Nat} {w q pa i : Nat} (h : i ≠ w) : al1011 al w q pa 10 i = al 10 i := by unfold al1011; rw [if_pos rfl, if_neg h]
theorem al_11o {al : Nat → Nat → Nat} {w q pa i : Nat} (h : i ≠ w) : al1011 al w q pa 11 i = al 11 i := by unfold al1011; rw [if_neg (by decide), if_pos rfl, if_neg h]
theorem R_add {M M' : MH} {x d ns nd : Nat} {al : Nat → Nat → Nat} {S S' : ST} {q pa i h : Nat} {wet fo : Int32} (hc : CRep M x al S d ns nd) (hi : i < nd) (hh : S 22 i = nI h) (h9 : h < 10) (h10 : ∀ k, k < nd → ix (S 22 k) ≤ 10)
    (hq' : wrC M' q pa S 2 0 d (pgS S i (10 * i + h)) (ix (S 4 (pgS S i (10 * i + h)))) wet fo 0) (hd8 : d ≤ 8)
    (hd' : M' (al 7 i) = some (dlC (S 13 i) (S 14 i) (S 15 i) (S 17 i) (S 21 i) (S 18 i) (al 8 i) (al 9 i) (nI (h + 1)) (S 16 i)))
    (hr' : M' (al 9 i) = some (aR 7 10 (rowF (fun j => al1011 al (10 * i + h) q pa 10 (10 * i + j)) (h + 1))))
    (hq : M q = none) (hk : ∀ p e, M p = some e → p ≠ al 7 i → p ≠ al 9 i → M' p = some e)
    (hF : sf [1, 22, 23, 24, 25, 27] S S') (s22 : S' 22 i = nI (h + 1)) (o22 : ∀ k, k ≠ i → S' 22 k = S 22 k) (s23 : S' 23 (10 * i + h) = nI d) (o23 : ∀ k, k ≠ 10 * i + h → S' 23 k = S 23 k) (s24 : S' 24 (10 * i + h) = wet) (o24 : ∀ k, k ≠ 10 * i + h → S' 24 k = S 24 k) (s25 : S' 25 (10 * i + h) = fo) (o25 : ∀ k, k ≠ 10 * i + h → S' 25 k = S 25 k)
    (s27 : ∀ j, j < 4 * d → S' 27 (32 * (10 * i + h) + j) = S 2 j) (o27 : ∀ k, ¬ (32 * (10 * i + h) ≤ k ∧ k < 32 * (10 * i + h) + 32) → S' 27 k = S 27 k) (z26 : S 26 (10 * i + h) = 0) (hw8 : ∀ k l, k < nd → l < ix (S 22 k) → ix (S 23 (10 * k + l)) ≤ 8) : CRep M' x (al1011 al (10 * i + h) q pa) S' d ns nd := by
  obtain ⟨h1, h2, h3, h4, h5, h6, h7⟩ := hc
  have hdi := h6.1 i hi
  have hpr : pr [0, 810] M M' := fun z e hz he => hk z e hz (kd_ne hz hdi.1 (fun y => he (by rw [y]; show 0 ∈ [0, 810]; decide))) (kd_ne hz hdi.2.2 (fun y => he (by rw [y]; show 810 ∈ [0, 810]; decide)))
  have hxh : ix (S 22 i) = h := by rw [hh, ix_nI (by omega)]
  have hxh' : ix (S' 22 i) = h + 1 := by rw [s22, ix_nI (by omega)]
  refine ⟨h1.st hpr hF (by decide) (by decide), h2.st hpr hF (by decide) (by decide), h3.st hpr hF (by decide) (by decide), h4.st hpr hF (by decide) (by decide), h5.st hpr hF (by decide) (by decide), ⟨fun k hk9 => ?_, h6.2⟩, ⟨fun k l hk9 hl => ?_, ?_⟩⟩
  · obtain ⟨b1, ⟨f2, b2, b3⟩, b4⟩ := h6.1 k hk9
    show M' (al 7 k) = some (dlC (S' 13 k) (S' 14 k) (S' 15 k) (S' 17 k) (S' 21 k) (S' 18 k) (al 8 k) (al 9 k) (S' 22 k) (S' 16 k)) ∧ (∃ f, M' (al 8 k) = some (aI 5 f) ∧ ∀ r, r < 5 → f r = prV (ix (S' 19 k)) (ix (S' 20 k)) (ix (S' 18 k)) r) ∧ M' (al 9 k) = some (aR 7 10 (rowF (fun j => al1011 al (10 * i + h) q pa 10 (10 * k + j)) (ix (S' 22 k))))
    rw [hF 13 (by decide), hF 14 (by decide), hF 15 (by decide), hF 16 (by decide), hF 17 (by decide), hF 18 (by decide), hF 19 (by decide), hF 20 (by decide), hF 21 (by decide)]
    refine ⟨?_, ⟨f2, hpr _ _ b2 (by show 1105 ∉ [0, 810]; decide), b3⟩, ?_⟩
    · by_cases hki : k = i
      · subst hki
        rw [s22]
        exact hd'
      · rw [o22 k hki]
        exact hk _ _ b1 (fun z => hki (h6.2.1 k i hk9 hi z)) (kd_ne b1 hdi.2.2 (by show (0 : Nat) ≠ 810; decide))
    · by_cases hki : k = i
      · subst hki
        rw [hxh']
        exact hr'
      · rw [o22 k hki]
        have e1 : rowF (fun j => al1011 al (10 * i + h) q pa 10 (10 * k + j)) (ix (S 22 k)) = rowF (fun j => al 10 (10 * k + j)) (ix (S 22 k)) := by
          funext j
          unfold rowF
          by_cases hj : j < ix (S 22 k)
          · have := h10 k hk9
            rw [if_pos hj, if_pos hj]
            show some (al1011 al (10 * i + h) q pa 10 (10 * k + j)) = some (al 10 (10 * k + j))
            rw [al_10o (by omega)]
          · rw [if_neg hj, if_neg hj]
        rw [e1]
        exact hk _ _ b4 (kd_ne b4 hdi.1 (by show (810 : Nat) ≠ 0; decide)) (fun z => hki (h6.2.2 k i hk9 hi z))
  · have e19 := hF 19 (by decide)
    have e20 := hF 20 (by decide)
    have ep : ∀ w, pgS S' k w = pgS S k w := fun w => by unfold pgS promptI; rw [e19, e20]
    unfold wrS
    rw [ep, hF 4 (by decide), hF 26 (by decide)]
    by_cases hw : 10 * k + l = 10 * i + h
    · have hki : k = i := by
        by_cases hki : k = i
        · exact hki
        · have := h10 k hk9
          rw [o22 k hki] at hl
          omega
      subst hki
      have hlh : l = h := by omega
      subst hlh
      rw [al_10n, al_11n, s23, s24, s25, z26, ix_nI (by omega)]
      exact hq'.mv (fun z hz j hj => by rw [show 32 * (10 * k + l) + 4 * z + j = 32 * (10 * k + l) + (4 * z + j) by omega, s27 _ (by omega)]; congr 1; omega) (fun z hz j hj => by rw [hF 5 (by decide)])
    · have hl' : l < ix (S 22 k) := by
        by_cases hki : k = i
        · subst hki
          rw [hxh'] at hl
          omega
        · rw [o22 k hki] at hl
          exact hl
      rw [al_10o hw, al_11o hw, o23 _ hw, o24 _ hw, o25 _ hw]
      have h8 := hw8 k l hk9 hl'
      exact (h7.1 k l hk9 hl').st hpr (by decide) (fun z hz j hj => by rw [o27 _ (by omega)]) (fun z hz j hj => by rw [hF 5 (by decide)])
  · intro k m l n hk9 hm hl hn e
    have hb : ∀ {k l : Nat}, k < nd → l < ix (S' 22 k) → 10 * k + l ≠ 10 * i + h → l < ix (S 22 k) := fun {k l} hk9 hl hw => by
      by_cases hki : k = i
      · subst hki
        rw [hxh'] at hl
        omega
      · rw [o22 k hki] at hl
        exact hl
    have hb2 : ∀ {k l : Nat}, k < nd → l < ix (S' 22 k) → 10 * k + l = 10 * i + h → k = i ∧ l = h := fun {k l} hk9 hl hw => by
      by_cases hki : k = i
      · omega
      · have := h10 k hk9
        rw [o22 k hki] at hl
        omega
    have hne : ∀ {k l : Nat}, k < nd → l < ix (S 22 k) → al 10 (10 * k + l) ≠ q := fun {k l} hk9 hl z => by
      have h8 := (h7.1 k l hk9 hl).1
      rw [z, hq] at h8
      exact absurd h8 (by simp)
    by_cases hw1 : 10 * k + l = 10 * i + h
    · by_cases hw2 : 10 * m + n = 10 * i + h
      · have g1 := hb2 hk9 hl hw1
        have g2 := hb2 hm hn hw2
        omega
      · rw [hw1, al_10n, al_10o hw2] at e
        exact absurd e.symm (hne hm (hb hm hn hw2))
    · by_cases hw2 : 10 * m + n = 10 * i + h
      · rw [hw2, al_10n, al_10o hw1] at e
        exact absurd e (hne hk9 (hb hk9 hl hw1))
      · rw [al_10o hw1, al_10o hw2] at e
        exact h7.2 k m l n hk9 hm (hb hk9 hl hw1) (hb hm hn hw2) e
theorem b01_or {P : Prop} [Decidable P] : b01 P = 0 ∨ b01 P = 1 := by by_cases h : P <;> simp [b01, h]
theorem nHand_27 {S : ST} {i p h d k : Nat} {s : Int32} : nHand S i p h d s 27 k = if 32 * (10 * i + h) ≤ k ∧ k < 32 * (10 * i + h) + 4 * d then S 2 (k - 32 * (10 * i + h)) else S 27 k := by
  unfold nHand
  rw [su_o (by decide), su_o (by decide), su_o (by decide), su_o (by decide), su_o (by decide)]
  unfold cpS
  by_cases hk : 32 * (10 * i + h) ≤ k ∧ k < 32 * (10 * i + h) + 4 * d
  · rw [if_pos ⟨rfl, hk⟩, if_pos hk, su_o (by decide), su_o (by decide)]
  · rw [if_neg (fun z => hk z.2), if_neg hk, su_o (by decide), su_o (by decide)]
theorem R_hand {M1 M2 : MH} {x d ns nd : Nat} {al : Nat → Nat → Nat} {S : ST} {q pa i p h : Nat} {s : Int32} {e0 : va_E} (hc2 : CRep M2 x al (su (su S 6 p (S 6 p - 1)) 9 0 (S 9 0 + 1)) d ns nd) (hi : i < nd) (hh : S 22 i = nI h) (h9 : h < 10) (h10 : ∀ k, k < nd → ix (S 22 k) ≤ 10)
    (hwc : wrC M1 q pa S 2 0 d (promptI S i (h / 2)) (ix (S 4 (promptI S i (h / 2)))) (S 7 p) (b01 (s ≠ remI (101 * whoH S i h + 37 * (S 9 0 + 1)) 1000)) 0) (hd8 : d ≤ 8) (hq9 : M2 q = none) (hex : ex1 (xu M2 q e0) M1 q) (z26 : S 26 (10 * i + h) = 0) (hw8 : ∀ k l, k < nd → l < ix (S 22 k) → ix (S 23 (10 * k + l)) ≤ 8) :
    CRep (xu (xu M1 (al 9 i) (aR 7 10 (va_up (rowF (fun j => al 10 (10 * i + j)) h) h (some q)))) (al 7 i) (dlC (S 13 i) (S 14 i) (S 15 i) (S 17 i) (S 21 i) (S 18 i) (al 8 i) (al 9 i) (nI (h + 1)) (S 16 i))) x (al1011 al (10 * i + h) q pa) (nHand S i p h d s) d ns nd := by
  have hdi := hc2.2.2.2.2.2.1.1 i hi
  have up : ∀ {a : Nat} {e : va_E}, M2 a = some e → M1 a = some e := fun {a e} ha => hex a e (fun z => by rw [z, hq9] at ha; exact absurd ha (by simp)) (xu_k hq9 ha)
  have h79 : al 9 i ≠ al 7 i := kd_ne hdi.2.2 hdi.1 (by show (810 : Nat) ≠ 0; decide)
  have m9 := up hdi.2.2
  have m7 := up hdi.1
  have hp' : pr [0, 810] M1 (xu (xu M1 (al 9 i) (aR 7 10 (va_up (rowF (fun j => al 10 (10 * i + j)) h) h (some q)))) (al 7 i) (dlC (S 13 i) (S 14 i) (S 15 i) (S 17 i) (S 21 i) (S 18 i) (al 8 i) (al 9 i) (nI (h + 1)) (S 16 i))) := (pr.rf.wr m9 (by show 810 ∈ [0, 810]; decide)).wr (by rw [xu_n h79.symm]; exact m7) (by show 0 ∈ [0, 810]; decide)
  have hpg : pgS (su (su S 6 p (S 6 p - 1)) 9 0 (S 9 0 + 1)) i (10 * i + h) = promptI S i (h / 2) := by
    unfold pgS
    rw [show (10 * i + h) % 10 = h by omega]
    rfl
  refine R_add (q := q) (pa := pa) (h := h) hc2 hi hh h9 h10 (by rw [hpg]; exact hwc.st hp' (by decide) (fun _ _ _ _ => rfl) (fun _ _ _ _ => rfl)) hd8 (xu_s _ _ _) ?_ hq9 (fun a e ha h1 h2 => by rw [xu_n h1, xu_n h2]; exact up ha) ?_ ?_ ?_ ?_ ?_ ?_ ?_ ?_ ?_ ?_ ?_ z26 hw8
  · rw [xu_n h79, xu_s, rowF_up (g' := fun j => al1011 al (10 * i + h) q pa 10 (10 * i + j)) al_10n (fun j hj => al_10o (by omega))]
  · unfold nHand
    exact sf.su (sf.su (sf.su (sf.su (sf.su (fun k hk => cpS_o (fun z => hk (by rw [z]; decide))) (by decide)) (by decide)) (by decide)) (by decide)) (by decide)
  · simp [nHand, su, upd]
  · intro k hk
    simp [nHand, su, upd, cpS, hk]
  · simp [nHand, su, upd]
  · intro k hk
    simp [nHand, su, upd, cpS, hk]
  · simp [nHand, su, upd]
  · intro k hk
    simp [nHand, su, upd, cpS, hk]
  · simp [nHand, su, upd]
  · intro k hk
    simp [nHand, su, upd, cpS, hk]
  · intro j hj
    rw [nHand_27, if_pos (by omega)]
    show S 2 _ = S 2 _
    congr 1
    omega
  · intro k hk
    rw [nHand_27, if_neg (by omega)]
    rfl
