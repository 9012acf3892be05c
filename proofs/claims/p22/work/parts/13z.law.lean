/-! ===== the law's start ===== -/
def raf (q0 q1 q2 q3 q4 : Nat) (j : Nat) : Nat := match j with
  | 0 => q0 | 1 => q1 | 2 => q2 | 3 => q3 | _ => q4
def Z0 : ST := fun _ _ => 0
abbrev aZ (n : Nat) : va_E := .inl (10, n, .inl (fun _ => 0))
theorem LR_start {M1 : MH} {q0 q1 q2 q3 q4 : Nat} (h0 : M1 q0 = none) (h1 : xu M1 q0 (aZ 5) q1 = none) (h2 : xu (xu M1 q0 (aZ 5)) q1 (aZ 6) q2 = none) (h3 : xu (xu (xu M1 q0 (aZ 5)) q1 (aZ 6)) q2 (aZ 9) q3 = none) (h4 : xu (xu (xu (xu M1 q0 (aZ 5)) q1 (aZ 6)) q2 (aZ 9)) q3 (aZ 16) q4 = none) :
    LR (xu (xu (xu (xu (xu M1 q0 (aZ 5)) q1 (aZ 6)) q2 (aZ 9)) q3 (aZ 16)) q4 (aZ 64)) M1 (raf q0 q1 q2 q3 q4) Z0 := by
  have n1 := (xu_none h1).1
  have n2 := (xu_none (xu_none h2).1).1
  have n3 := (xu_none (xu_none (xu_none h3).1).1).1
  have n4 := (xu_none (xu_none (xu_none (xu_none h4).1).1).1).1
  refine ⟨fun q e he => xu_k h4 (xu_k h3 (xu_k h2 (xu_k h1 (xu_k h0 he)))), fun j hj => ?_, fun j hj => ?_⟩
  · match j, hj with
    | 0, _ => exact xu_k h4 (xu_k h3 (xu_k h2 (xu_k h1 (xu_s _ _ _))))
    | 1, _ => exact xu_k h4 (xu_k h3 (xu_k h2 (xu_s _ _ _)))
    | 2, _ => exact xu_k h4 (xu_k h3 (xu_s _ _ _))
    | 3, _ => exact xu_k h4 (xu_s _ _ _)
    | 4, _ => exact xu_s _ _ _
    | n + 5, h => exact absurd h (by omega)
  · match j, hj with
    | 0, _ => exact h0
    | 1, _ => exact n1
    | 2, _ => exact n2
    | 3, _ => exact n3
    | 4, _ => exact n4
    | n + 5, h => exact absurd h (by omega)
theorem ra_start {M1 : MH} {q0 q1 q2 q3 q4 : Nat} (h0 : M1 q0 = none) (h1 : xu M1 q0 (aZ 5) q1 = none) (h2 : xu (xu M1 q0 (aZ 5)) q1 (aZ 6) q2 = none) (h3 : xu (xu (xu M1 q0 (aZ 5)) q1 (aZ 6)) q2 (aZ 9) q3 = none) (h4 : xu (xu (xu (xu M1 q0 (aZ 5)) q1 (aZ 6)) q2 (aZ 9)) q3 (aZ 16) q4 = none) :
    ∃ (ra : Nat → Nat) (M : MH), xu (xu (xu (xu (xu M1 q0 (aZ 5)) q1 (aZ 6)) q2 (aZ 9)) q3 (aZ 16)) q4 (aZ 64) = M ∧ q0 = ra 0 ∧ q1 = ra 1 ∧ q2 = ra 2 ∧ q3 = ra 3 ∧ q4 = ra 4 ∧ LR M M1 ra Z0 :=
  ⟨raf q0 q1 q2 q3 q4, _, rfl, rfl, rfl, rfl, rfl, rfl, LR_start h0 h1 h2 h3 h4⟩
theorem tie_start : tie 0 (LZ 16) Z0 0 0 0 := by
  have e : ∀ k, k ≠ 11 → ∀ j, LZ 16 k j = 0 := fun k hk j => if_neg (fun z => hk z.1)
  have e11 : ∀ j, j < 16 → LZ 16 11 j = -1 := fun j hj => if_pos ⟨rfl, hj⟩
  have z : rg (0 : Int32) 0 0 := by unfold rg; decide
  refine ⟨⟨(e 0 (by decide) 0).symm, rfl, rfl, rfl, (e 9 (by decide) 0).symm⟩, fun i hi => absurd hi (by omega), fun p hp => ⟨(e 6 (by decide) p).symm, (e 7 (by decide) p).symm, (e 8 (by decide) p).symm⟩, fun j hj => ?_, fun i hi => absurd hi (by omega), ?_, ?_, fun p hp => ?_, fun j hj => ?_, by omega⟩
  · rw [e11 j hj]
    rfl
  · rw [e 0 (by decide)]
    exact z
  · rw [e 9 (by decide)]
    exact z
  · rw [e 6 (by decide)]
    exact rg_m z (by omega) (by omega)
  · rw [e11 j hj]
    unfold rg
    decide
section Start
variable {d ns : Nat} {S R R0 : ST}
theorem s6_0 (ht : tie 0 S R d ns 0) (e : R 2 = Z0 2) (p : Nat) (hp : p < 3) : S 6 p = 0 := by
  rw [← (ht.2.2.1 p hp).1, e]
  rfl
theorem by_0 (h : S 6 0 = 0) : tBuy S 0 9 = 0 ∧ S 6 (ix 0) + 9 = 9 := by
  have e : ix 0 = 0 := by decide
  unfold tBuy
  rw [e, h]
  decide
theorem by_1 (h : S 6 1 = 0) : tBuy S 1 9 = 0 ∧ S 6 (ix 1) + 9 = 9 := by
  have e : ix 1 = 1 := by decide
  unfold tBuy
  rw [e, h]
  decide
theorem nb_1 (h : S 6 1 = 0) : nBuy S 0 9 6 1 = 0 := by
  unfold nBuy
  rw [su_n (by decide), h]
theorem tie_buys (ht : tie 0 S R d ns 0) (e : R 2 = Z0 2) : tie 0 (nBuy (nBuy S 0 9) 1 9) (su (su R 2 0 9) 2 3 9) d ns 0 := by
  have h0 := s6_0 ht e 0 (by decide)
  have h1 := s6_0 ht e 1 (by decide)
  have h2 := s6_0 ht e 2 (by decide)
  have x0 : ix 0 = 0 := by decide
  have x1 : ix 1 = 1 := by decide
  have e6 : nBuy (nBuy S 0 9) 1 9 6 = upd (upd (S 6) 0 9) 1 9 := by
    unfold nBuy
    rw [su_a, su_a, x0, x1, h0, pk_un (by decide), h1]
    rfl
  have hF : sf [6] S (nBuy (nBuy S 0 9) 1 9) := (sf.rf.su (by decide)).su (by decide)
  have hG : sf [2] R (su (su R 2 0 9) 2 3 9) := (sf.rf.su (by decide)).su (by decide)
  obtain ⟨b1, b2, b3, b4, b5⟩ := ht.2.2.2.2.2
  refine ⟨ht.1.st hF (by decide) hG (by decide), ht.2.1.st hF (by decide) hG (by decide), fun p hp => ?_, ht.2.2.2.1.st hF (by decide) hG (by decide), ht.2.2.2.2.1.st hF (by decide) hG (by decide), by rw [hF 0 (by decide)]; exact b1, by rw [hF 9 (by decide)]; exact b2, fun p hp => ?_, by rw [hF 11 (by decide)]; exact b4, b5⟩
  · obtain ⟨c1, c2, c3⟩ := ht.2.2.1 p hp
    rw [e6, hF 7 (by decide), hF 8 (by decide), su_a, su_a]
    match p, hp with
    | 0, _ => exact ⟨by rw [pk_un (by decide), pk_us, pk_un (by decide), pk_us], c2, c3⟩
    | 1, _ => exact ⟨by rw [pk_us, pk_us], c2, c3⟩
    | 2, _ => exact ⟨by rw [pk_un (by decide), pk_un (by decide), pk_un (by decide), pk_un (by decide)]; exact c1, c2, c3⟩
    | n + 3, h => exact absurd h (by omega)
  · rw [e6]
    match p, hp with
    | 0, _ => unfold rg; rw [pk_un (by decide), pk_us]; decide
    | 1, _ => unfold rg; rw [pk_us]; decide
    | 2, _ => unfold rg; rw [pk_un (by decide), pk_un (by decide), h2]; decide
    | n + 3, h => exact absurd h (by omega)
end Start
