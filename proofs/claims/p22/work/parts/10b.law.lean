def Zs : ST := fun _ _ => 0
def LZ (i : Nat) : ST := fun k j => if k = 11 ∧ j < i then -1 else 0
theorem LZ_0 : Zs = LZ 0 := by
  funext k j
  unfold Zs LZ
  rw [if_neg (by omega)]
theorem LZ_s (i : Nat) : su (LZ i) 11 i (-1) = LZ (i + 1) := by
  funext k j
  by_cases hk : k = 11
  · subst hk
    by_cases hj : j = i
    · subst hj
      rw [su_s]
      unfold LZ
      rw [if_pos (by omega)]
    · rw [su_n hj]
      unfold LZ
      by_cases h : j < i
      · rw [if_pos ⟨rfl, h⟩, if_pos ⟨rfl, by omega⟩]
      · rw [if_neg (by omega), if_neg (by omega)]
  · rw [su_o hk]
    unfold LZ
    rw [if_neg (by omega), if_neg (by omega)]
theorem CRep_LZ {M : MH} {x : Nat} {al : Nat → Nat → Nat} (h : CRep M x al S0 0 0 0) : CRep M x al (LZ 16) 0 0 0 := by
  have hF : sf [11] S0 (LZ 16) := fun k hk => by
    have hk : k ≠ 11 := fun z => hk (by rw [z]; exact List.mem_cons_self)
    funext j
    unfold S0 LZ
    rw [if_neg hk, if_neg (by omega)]
  obtain ⟨h1, h2, h3, h4, h5, h6, h7⟩ := h
  have hp : pr [] M M := pr.rf
  refine ⟨h1.st hp hF (by decide) (by decide), h2.st hp hF (by decide) (by decide), h3.st hp hF (by decide) (by decide), ⟨fun i hi => ⟨(h4.1 i hi).1, ?_⟩, h4.2⟩, h5.st hp hF (by decide) (by decide), h6.st hp hF (by decide) (by decide), h7.st hp hF (by decide) (by decide)⟩
  obtain ⟨f, hf, hv⟩ := (h4.1 i hi).2
  refine ⟨f, hf, fun y hy => ?_⟩
  rw [hv y hy]
  unfold S0 LZ
  rw [if_pos rfl, if_pos ⟨rfl, by omega⟩]
