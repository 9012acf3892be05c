/-! ===== stroke, sign: the picture ===== -/
theorem nStroke_2 {S : ST} {d k : Nat} {a b c e : Int32} : nStroke S d a b c e 2 k = if k = 4 * d then a else if k = 4 * d + 1 then b else if k = 4 * d + 2 then c else if k = 4 * d + 3 then e else S 2 k := by
  unfold nStroke
  rw [su_o (by decide)]
  by_cases h3 : k = 4 * d + 3
  · rw [h3, su_s, if_neg (by omega), if_neg (by omega), if_neg (by omega), if_pos rfl]
  · rw [su_n h3]
    by_cases h2 : k = 4 * d + 2
    · rw [h2, su_s, if_neg (by omega), if_neg (by omega), if_pos rfl]
    · rw [su_n h2]
      by_cases h1 : k = 4 * d + 1
      · rw [h1, su_s, if_neg (by omega), if_pos rfl]
      · rw [su_n h1]
        by_cases h0 : k = 4 * d
        · rw [h0, su_s, if_pos rfl]
        · rw [su_n h0, if_neg h0, if_neg h1, if_neg h2, if_neg h3]
section Reps2
variable {M M' : MH} {x d ns nd : Nat} {al : Nat → Nat → Nat} {S S' : ST}
theorem R_stroke {q : Nat} {a b c e : Int32} {f : Nat → Option Nat} (h : CRep M x al S d ns nd) (hq : M q = none) (hf : M (al 6 ns) = some (aR 4 8 f)) (hfr : ∀ i, i < d → ∃ q, f i = some q ∧ M q = some (stC S 2 (0 + 4 * i))) :
    CRep (xu (xu (xu M q (oB 4 [.int a, .int b, .int c, .int e])) (al 6 ns) (aR 4 8 (va_up f d (some q)))) (al 5 ns) (oB 5 [.ref (al 6 ns), .int (nI (d + 1))])) x al (nStroke S d a b c e) (d + 1) ns nd := by
  obtain ⟨h1, h2, h3, h4, h5, h6, h7⟩ := h
  have h6' : xu M q (oB 4 [.int a, .int b, .int c, .int e]) (al 6 ns) = some (aR 4 8 f) := xu_k hq hf
  have h5' : xu (xu M q (oB 4 [.int a, .int b, .int c, .int e])) (al 6 ns) (aR 4 8 (va_up f d (some q))) (al 5 ns) = some (oB 5 [.ref (al 6 ns), .int (nI d)]) := xu_o (xu_k hq h5.2.1.1) h6' (by simp)
  have hpr : pr [508, 5] M (xu (xu (xu M q (oB 4 [.int a, .int b, .int c, .int e])) (al 6 ns) (aR 4 8 (va_up f d (some q)))) (al 5 ns) (oB 5 [.ref (al 6 ns), .int (nI (d + 1))])) := ((pr.rf.nw hq).wr h6' (by show 508 ∈ [508, 5]; decide)).wr h5' (by show 5 ∈ [508, 5]; decide)
  have hF : sf [1, 2] S (nStroke S d a b c e) := ((((sf.rf.su (by decide)).su (by decide)).su (by decide)).su (by decide)).su (by decide)
  refine ⟨h1.st hpr hF (by decide) (by decide), h2.st hpr hF (by decide) (by decide), h3.st hpr hF (by decide) (by decide), h4.st hpr hF (by decide) (by decide), ⟨fun g hg => ?_, ?_, h5.2.2⟩, h6.st hpr hF (by decide) (by decide), h7.st hpr hF (by decide) (by decide)⟩
  · obtain ⟨b1, f2, b2, b3⟩ := h5.1 g hg
    rw [hF 4 (by decide)]
    refine ⟨?_, f2, ?_, fun i hi => ?_⟩
    · rw [xu_n (fun z => by have := h5.2.2.1 g ns (by omega) (by omega) z; omega), xu_n (kd_ne (xu_k hq b1) h6' (by show (5 : Nat) ≠ 508; decide))]
      exact xu_k hq b1
    · have hne : al 6 g ≠ al 6 ns := fun z => by have := h5.2.2.2 g ns (by omega) (by omega) z; omega
      rw [xu_n (kd_ne (by rw [xu_n hne]; exact xu_k hq b2) h5' (by show (508 : Nat) ≠ 5; decide)), xu_n hne]
      exact xu_k hq b2
    · obtain ⟨p, hp, hc⟩ := b3 i hi
      refine ⟨p, hp, ?_⟩
      rw [hpr _ _ hc (by show 4 ∉ [508, 5]; decide)]
      unfold stC
      rw [hF 5 (by decide)]
  · have hqn6 : q ≠ al 6 ns := fun z => by rw [z, hf] at hq; exact absurd hq (by simp)
    have hqn5 : q ≠ al 5 ns := fun z => by rw [z, h5.2.1.1] at hq; exact absurd hq (by simp)
    refine ⟨xu_s _ _ _, va_up f d (some q), ?_, fun i hi => ?_⟩
    · rw [xu_n (kd_ne (xu_s _ _ _) h5' (by show (508 : Nat) ≠ 5; decide)), xu_s]
    · by_cases hid : i = d
      · subst hid
        refine ⟨q, if_pos rfl, ?_⟩
        rw [xu_n hqn5, xu_n hqn6, xu_s]
        unfold stC
        rw [nStroke_2, nStroke_2, nStroke_2, nStroke_2, Nat.zero_add, if_pos rfl, if_neg (by omega), if_pos rfl, if_neg (by omega), if_neg (by omega), if_pos rfl, if_neg (by omega), if_neg (by omega), if_neg (by omega), if_pos rfl]
      · obtain ⟨p, hp, hc⟩ := hfr i (by omega)
        refine ⟨p, by unfold va_up; rw [if_neg hid]; exact hp, ?_⟩
        rw [hpr _ _ hc (by show 4 ∉ [508, 5]; decide)]
        have hs : ∀ j, j < 4 → nStroke S d a b c e 2 (0 + 4 * i + j) = S 2 (0 + 4 * i + j) := fun j hj => by
          rw [nStroke_2, if_neg (by omega), if_neg (by omega), if_neg (by omega), if_neg (by omega)]
        unfold stC
        rw [hs 1 (by decide), hs 2 (by decide), hs 3 (by decide), show nStroke S d a b c e 2 (0 + 4 * i) = S 2 (0 + 4 * i) from hs 0 (by decide)]
/-- with one more Strokes -/
def al56 (al : Nat → Nat → Nat) (n q a : Nat) : Nat → Nat → Nat := fun k i => if k = 5 then (if i = n then q else al 5 i) else if k = 6 then (if i = n then a else al 6 i) else al k i
theorem inj_add {g g' : Nat → Nat} {n q : Nat} (h : inj g n) (hq : g' n = q) (hg : ∀ i, i < n → g' i = g i) (hn : ∀ i, i < n → g i ≠ q) : inj g' (n + 1) := fun i j hi hj e => by
  by_cases h1 : i = n
  · by_cases h2 : j = n
    · omega
    · rw [h1, hq, hg j (by omega)] at e
      exact absurd e.symm (hn j (by omega))
  · by_cases h2 : j = n
    · rw [h2, hq, hg i (by omega)] at e
      exact absurd e (hn i (by omega))
    · rw [hg i (by omega), hg j (by omega)] at e
      exact h i j (by omega) (by omega) e
theorem nSign_5 {S : ST} {d ns k : Nat} : nSign S d ns 5 k = if 24 * ns ≤ k ∧ k < 24 * ns + 4 * d then S 2 (k - 24 * ns) else S 5 k := by
  unfold nSign
  rw [su_o (by decide), su_o (by decide), su_o (by decide)]
  unfold cpS
  by_cases h : 24 * ns ≤ k ∧ k < 24 * ns + 4 * d
  · rw [if_pos ⟨rfl, h⟩, if_pos h]
  · rw [if_neg (fun z => h z.2), if_neg h]
theorem nSign_4 {S : ST} {d ns k : Nat} : nSign S d ns 4 k = if k = ns then nI d else S 4 k := by
  unfold nSign
  rw [su_o (by decide), su_o (by decide)]
  by_cases h : k = ns
  · rw [h, su_s, if_pos rfl]
  · rw [su_n h, if_neg h]
    unfold cpS
    rw [if_neg (by omega)]
theorem cpS_o {S : ST} {dst src off n k : Nat} (h : k ≠ dst) : cpS S dst src off n k = S k := by
  funext j
  unfold cpS
  rw [if_neg (fun z => h z.1)]
theorem R_sign {q a : Nat} (h : CRep M x al S d ns nd) (hq0 : ∀ i, i < nd → mHd S ns i) (hkk : mMK S ns) (hd8 : d ≤ 8) (hs0 : M' (al 0 0) = some (aR 5 6 (rowF (al56 al (ns + 1) q a 5) (ns + 1))))
    (hx : M' x = some (oB 8 [.ref (al 0 0), .ref (al 0 1), .ref (al 0 2), .ref (al 0 3), .ref (al 0 4), .ref q, .int (nI (ns + 1)), .int (nI nd), .int (S 9 0), .int (S 0 0)]))
    (hq : M q = none) (ha : M a = none) (hq' : M' q = some (oB 5 [.ref a, .int (nI 0)])) (ha' : M' a = some (aR 4 8 fun _ => none)) (hk : ∀ p e, M p = some e → p ≠ al 0 0 → p ≠ x → M' p = some e) : CRep M' x (al56 al (ns + 1) q a) (nSign S d ns) 0 (ns + 1) nd := by
  obtain ⟨h1, h2, h3, h4, h5, h6, h7⟩ := h
  have hpr : pr [606, 8] M M' := fun p e hp he => hk p e hp (kd_ne hp h1.2.1 (fun z => he (by rw [z]; show 606 ∈ [606, 8]; decide))) (kd_ne hp h1.1 (fun z => he (by rw [z]; show 8 ∈ [606, 8]; decide)))
  have hF : sf [1, 3, 4, 5] S (nSign S d ns) := by
    unfold nSign
    refine (sf.su (sf.su (sf.su ?_ (by decide)) (by decide)) (by decide))
    exact fun k hk9 => cpS_o (fun z => hk9 (by rw [z]; decide))
  have e5 : ∀ {g i j : Nat}, g < ns → i < ix (S 4 g) → j < 4 → nSign S d ns 5 (24 * g + 4 * i + j) = S 5 (24 * g + 4 * i + j) := fun {g i j} hg hi hj => by
    have := (hkk.2.2 g hg).i4
    rw [nSign_5, if_neg (by omega)]
  refine ⟨⟨?_, ?_, hpr _ _ h1.2.2.1 (by show 303 ∉ [606, 8]; decide), hpr _ _ h1.2.2.2.1 (by show 704 ∉ [606, 8]; decide), hpr _ _ h1.2.2.2.2.1 (by show 204 ∉ [606, 8]; decide), hpr _ _ h1.2.2.2.2.2 (by show 112 ∉ [606, 8]; decide)⟩, h2.st hpr hF (by decide) (by decide), h3.st hpr hF (by decide) (by decide), h4.st hpr hF (by decide) (by decide), ⟨fun g hg => ?_, ?_, ?_, ?_⟩, h6.st hpr hF (by decide) (by decide), ⟨fun i k hi hk9 => ?_, ?_⟩⟩
  · rw [hx, hF 9 (by decide), hF 0 (by decide)]
    unfold al56
    rw [if_pos rfl, if_pos rfl]
    rfl
  · exact hs0
  · have hal5 : al56 al (ns + 1) q a 5 g = al 5 g := by
      unfold al56
      rw [if_pos rfl, if_neg (by omega)]
    have hal6 : al56 al (ns + 1) q a 6 g = al 6 g := by
      unfold al56
      rw [if_neg (by decide), if_pos rfl, if_neg (by omega)]
    rw [hal5, hal6, nSign_4]
    by_cases hgn : g = ns
    · subst hgn
      rw [if_pos rfl, ix_nI (by omega)]
      exact h5.2.1.k hpr (by decide) (by decide) (by decide) (fun j hj => by rw [nSign_5, if_pos (by omega)]; congr 1; omega)
    · rw [if_neg hgn]
      have := (hkk.2.2 g (by omega)).i4
      exact (h5.1 g (by omega)).k hpr (by decide) (by decide) (by decide) (fun j hj => by rw [nSign_5, if_neg (by omega)])
  · have hal5 : al56 al (ns + 1) q a 5 (ns + 1) = q := by
      unfold al56
      rw [if_pos rfl, if_pos rfl]
    have hal6 : al56 al (ns + 1) q a 6 (ns + 1) = a := by
      unfold al56
      rw [if_neg (by decide), if_pos rfl, if_pos rfl]
    rw [hal5, hal6]
    exact ⟨hq', _, ha', fun i hi => absurd hi (by omega)⟩
  · refine inj_add (q := q) h5.2.2.1 (by unfold al56; rw [if_pos rfl, if_pos rfl]) (fun i hi => by unfold al56; rw [if_pos rfl, if_neg (by omega)]) (fun i hi z => ?_)
    have hs : ∃ e9, M (al 5 i) = some e9 := by
      by_cases hin : i = ns
      · exact ⟨_, by rw [hin]; exact h5.2.1.1⟩
      · exact ⟨_, (h5.1 i (by omega)).1⟩
    obtain ⟨e9, h9⟩ := hs
    rw [z, hq] at h9
    exact absurd h9 (by simp)
  · refine inj_add (q := a) h5.2.2.2 (by unfold al56; rw [if_neg (by decide), if_pos rfl, if_pos rfl]) (fun i hi => by unfold al56; rw [if_neg (by decide), if_pos rfl, if_neg (by omega)]) (fun i hi z => ?_)
    have hs : ∃ e9, M (al 6 i) = some e9 := by
      by_cases hin : i = ns
      · obtain ⟨-, f, hf, -⟩ := h5.2.1
        exact ⟨_, by rw [hin]; exact hf⟩
      · obtain ⟨-, f, hf, -⟩ := h5.1 i (by omega)
        exact ⟨_, hf⟩
    obtain ⟨e9, h9⟩ := hs
    rw [z, ha] at h9
    exact absurd h9 (by simp)
  · have e22 := hF 22 (by decide)
    rw [e22] at hk9
    have h8 := h7.1 i k hi hk9
    have hg : pgS S i (10 * i + k) < ns := promptI_lt (hq0 i hi)
    have ep : pgS (nSign S d ns) i (10 * i + k) = pgS S i (10 * i + k) := by unfold pgS promptI; rw [hF 19 (by decide), hF 20 (by decide)]
    unfold wrS at h8 ⊢
    rw [ep, nSign_4, if_neg (by omega), hF 23 (by decide), hF 24 (by decide), hF 25 (by decide), hF 26 (by decide)]
    exact h8.st hpr (by decide) (fun _ _ _ _ => by rw [hF 27 (by decide)]) (fun z hz j hj => e5 hg hz hj)
  · rw [hF 22 (by decide)]
    exact h7.2
end Reps2
theorem b01_lt {k n : Nat} (hn : n < 2 ^ 31) (hk : k < 2 ^ 31) (h0 : 0 < n) : b01 (iN (nI k) 0 (nI n - 1)) = b01 (nI k < nI n) := by
  unfold b01
  by_cases h : k < n
  · rw [if_pos (iN_ix1' hn h), if_pos (nI_lt h hn)]
  · rw [if_neg (fun z => h (by have z1 := iN_ix1 hn z; rw [ix_nI hk] at z1; exact z1.2)), if_neg (fun z => h ((nI_ltI hk hn).mp z))]
