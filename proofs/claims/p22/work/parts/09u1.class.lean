/-! ===== duel: the picture ===== -/
theorem su_i {S : ST} {k j k2 i : Nat} {v : Int32} (h : i ≠ j) : su S k j v k2 i = S k2 i := by
  by_cases hk : k2 = k
  · subst hk
    exact su_n h
  · rw [su_o hk]
theorem nDuel_o {S : ST} {nd k i : Nat} {a b j p r w : Int32} (hi : i ≠ nd) (hk : k ≠ 12) : nDuel S nd a b j p r w k i = S k i := by
  unfold nDuel
  rw [su_o hk, su_i hi, su_i hi, su_i hi, su_i hi, su_i hi, su_i hi, su_i hi, su_i hi, su_i hi]
def al789 (al : Nat → Nat → Nat) (n q pp ww : Nat) : Nat → Nat → Nat := fun k i => if k = 7 then (if i = n then q else al 7 i) else if k = 8 then (if i = n then pp else al 8 i) else if k = 9 then (if i = n then ww else al 9 i) else al k i
theorem al_7n {al : Nat → Nat → Nat} {n q pp ww : Nat} : al789 al n q pp ww 7 n = q := by unfold al789; rw [if_pos rfl, if_pos rfl]
theorem al_8n {al : Nat → Nat → Nat} {n q pp ww : Nat} : al789 al n q pp ww 8 n = pp := by unfold al789; rw [if_neg (by decide), if_pos rfl, if_pos rfl]
theorem al_9n {al : Nat → Nat → Nat} {n q pp ww : Nat} : al789 al n q pp ww 9 n = ww := by unfold al789; rw [if_neg (by decide), if_neg (by decide), if_pos rfl, if_pos rfl]
theorem al_7o {al : Nat → Nat → Nat} {n q pp ww i : Nat} (h : i ≠ n) : al789 al n q pp ww 7 i = al 7 i := by unfold al789; rw [if_pos rfl, if_neg h]
theorem al_8o {al : Nat → Nat → Nat} {n q pp ww i : Nat} (h : i ≠ n) : al789 al n q pp ww 8 i = al 8 i := by unfold al789; rw [if_neg (by decide), if_pos rfl, if_neg h]
theorem al_9o {al : Nat → Nat → Nat} {n q pp ww i : Nat} (h : i ≠ n) : al789 al n q pp ww 9 i = al 9 i := by unfold al789; rw [if_neg (by decide), if_neg (by decide), if_pos rfl, if_neg h]
theorem R_duel {M M' : MH} {x d ns nd : Nat} {al : Nat → Nat → Nat} {S : ST} {q pp ww : Nat} {a b j p r w : Int32} {f : Nat → Int32} (h : CRep M x al S d ns nd) (h22 : S 22 nd = 0)
    (hs4 : M' (al 0 4) = some (aR 0 12 (rowF (al789 al nd q pp ww 7) (nd + 1))))
    (hx : M' x = some (oB 8 [.ref (al 0 0), .ref (al 0 1), .ref (al 0 2), .ref (al 0 3), .ref (al 0 4), .ref (al 5 ns), .int (nI ns), .int (nI (nd + 1)), .int (S 9 0), .int (S 0 0)]))
    (hq' : M' q = some (dlC a b j p (S 0 0) r pp ww 0 (-1))) (hp' : M' pp = some (aI 5 f)) (hf : ∀ k, k < 5 → f k = prV (ix w) (ix (S 3 0)) (ix r) k) (hw' : M' ww = some (aR 7 10 fun _ => none))
    (hq : M q = none) (hw : M ww = none) (hk : ∀ z e, M z = some e → z ≠ al 0 4 → z ≠ x → M' z = some e) : CRep M' x (al789 al nd q pp ww) (nDuel S nd a b j p r w) d ns (nd + 1) := by
  obtain ⟨h1, h2, h3, h4, h5, h6, h7⟩ := h
  have hpr : pr [112, 8] M M' := fun z e hz he => hk z e hz (kd_ne hz h1.2.2.2.2.2 (fun y => he (by rw [y]; show 112 ∈ [112, 8]; decide))) (kd_ne hz h1.1 (fun y => he (by rw [y]; show 8 ∈ [112, 8]; decide)))
  have hF : sf [12, 13, 14, 15, 16, 17, 18, 19, 20, 21] S (nDuel S nd a b j p r w) := by
    unfold nDuel
    exact ((((((((((sf.rf.su (by decide)).su (by decide)).su (by decide)).su (by decide)).su (by decide)).su (by decide)).su (by decide)).su (by decide)).su (by decide)).su (by decide))
  have i0 : ix (S 22 nd) = 0 := by rw [h22]; rfl
  refine ⟨⟨?_, hpr _ _ h1.2.1 (by show 606 ∉ [112, 8]; decide), hpr _ _ h1.2.2.1 (by show 303 ∉ [112, 8]; decide), hpr _ _ h1.2.2.2.1 (by show 704 ∉ [112, 8]; decide), hpr _ _ h1.2.2.2.2.1 (by show 204 ∉ [112, 8]; decide), hs4⟩, h2.st hpr hF (by decide) (by decide), h3.st hpr hF (by decide) (by decide), h4.st hpr hF (by decide) (by decide), h5.st hpr hF (by decide) (by decide), ⟨fun i hi => ?_, ?_, ?_⟩, ⟨fun i k hi hk9 => ?_, ?_⟩⟩
  · rw [hx, hF 9 (by decide), hF 0 (by decide)]
    rfl
  · by_cases hin : i = nd
    · subst hin
      rw [al_7n, al_8n, al_9n, hF 22 (by decide), i0, h22, hw', rowF_0]
      refine ⟨?_, ⟨f, hp', fun k hk5 => ?_⟩, rfl⟩
      · rw [hq']
        simp [nDuel, su, upd]
      · rw [hf k hk5]
        simp [nDuel, su, upd]
    · rw [al_7o hin, al_8o hin, al_9o hin]
      obtain ⟨b1, ⟨f2, b2, b3⟩, b4⟩ := h6.1 i (by omega)
      rw [nDuel_o hin (by decide), nDuel_o hin (by decide), nDuel_o hin (by decide), nDuel_o hin (by decide), nDuel_o hin (by decide), nDuel_o hin (by decide), nDuel_o hin (by decide), nDuel_o hin (by decide), nDuel_o hin (by decide), nDuel_o hin (by decide)]
      exact ⟨hpr _ _ b1 (by show 0 ∉ [112, 8]; decide), ⟨f2, hpr _ _ b2 (by show 1105 ∉ [112, 8]; decide), b3⟩, hpr _ _ b4 (by show 810 ∉ [112, 8]; decide)⟩
  · exact inj_add (q := q) h6.2.1 al_7n (fun i hi => al_7o (by omega)) (fun i hi z => by
      have h9 := (h6.1 i hi).1
      rw [z, hq] at h9
      exact absurd h9 (by simp))
  · exact inj_add (q := ww) h6.2.2 al_9n (fun i hi => al_9o (by omega)) (fun i hi z => by
      have h9 := (h6.1 i hi).2.2
      rw [z, hw] at h9
      exact absurd h9 (by simp))
  · rw [hF 22 (by decide)] at hk9
    have hin : i ≠ nd := fun z => by rw [z, i0] at hk9; omega
    have h8 := h7.1 i k (by omega) hk9
    have ep : pgS (nDuel S nd a b j p r w) i (10 * i + k) = pgS S i (10 * i + k) := by unfold pgS promptI; rw [nDuel_o hin (by decide), nDuel_o hin (by decide)]
    unfold wrS at h8 ⊢
    rw [ep, hF 4 (by decide), hF 23 (by decide), hF 24 (by decide), hF 25 (by decide), hF 26 (by decide)]
    exact h8.st hpr (by decide) (fun _ _ _ _ => by rw [hF 27 (by decide)]) (fun _ _ _ _ => by rw [hF 5 (by decide)])
  · rw [hF 22 (by decide)]
    intro i k h8 l hi hk9 hh hl e
    have hin : i ≠ nd := fun z => by rw [z, i0] at hh; omega
    have hkn : k ≠ nd := fun z => by rw [z, i0] at hl; omega
    exact h7.2 i k h8 l (by omega) (by omega) hh hl e
