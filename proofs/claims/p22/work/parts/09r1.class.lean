/-! ===== the picture behind a write ===== -/
section Reps
variable {M : MH} {x d ns nd : Nat} {al : Nat → Nat → Nat} {S S' : ST}
theorem R_pap {p : Nat} {a b c : Int32} (h : CRep M x al S d ns nd) (hp : p < 3) (hF : sf [6, 7, 8] S S') (e : S' 6 p = a ∧ S' 7 p = b ∧ S' 8 p = c) (ho : ∀ i, i ≠ p → S' 6 i = S 6 i ∧ S' 7 i = S 7 i ∧ S' 8 i = S 8 i) : CRep (xu M (al 1 p) (oB 2 [.int a, .int b, .int c])) x al S' d ns nd := by
  obtain ⟨h1, h2, h3, h4, h5, h6, h7⟩ := h
  have hpr : pr [2] M (xu M (al 1 p) (oB 2 [.int a, .int b, .int c])) := pr.rf.wr (h2.1 p hp) (by show 2 ∈ [2]; decide)
  refine ⟨h1.st hpr hF (by decide) (by decide), ⟨fun i hi => ?_, h2.2⟩, h3.st hpr hF (by decide) (by decide), h4.st hpr hF (by decide) (by decide), h5.st hpr hF (by decide) (by decide), h6.st hpr hF (by decide) (by decide), h7.st hpr hF (by decide) (by decide)⟩
  by_cases hip : i = p
  · subst hip
    rw [xu_s, e.1, e.2.1, e.2.2]
  · rw [xu_n (fun z => hip (h2.2 i p hi hp z)), (ho i hip).1, (ho i hip).2.1, (ho i hip).2.2]
    exact h2.1 i hi
theorem R_sty {p : Nat} {a b c : Int32} (h : CRep M x al S d ns nd) (hp : p < 4) (hF : sf [10] S S') (e : S' 10 (3 * p) = a ∧ S' 10 (3 * p + 1) = b ∧ S' 10 (3 * p + 2) = c) (ho : ∀ i, i ≠ p → S' 10 (3 * i) = S 10 (3 * i) ∧ S' 10 (3 * i + 1) = S 10 (3 * i + 1) ∧ S' 10 (3 * i + 2) = S 10 (3 * i + 2)) : CRep (xu M (al 2 p) (oB 6 [.int a, .int b, .int c])) x al S' d ns nd := by
  obtain ⟨h1, h2, h3, h4, h5, h6, h7⟩ := h
  have hpr : pr [6] M (xu M (al 2 p) (oB 6 [.int a, .int b, .int c])) := pr.rf.wr (h3.1 p hp) (by show 6 ∈ [6]; decide)
  refine ⟨h1.st hpr hF (by decide) (by decide), h2.st hpr hF (by decide) (by decide), ⟨fun i hi => ?_, h3.2⟩, h4.st hpr hF (by decide) (by decide), h5.st hpr hF (by decide) (by decide), h6.st hpr hF (by decide) (by decide), h7.st hpr hF (by decide) (by decide)⟩
  by_cases hip : i = p
  · subst hip
    rw [xu_s, e.1, e.2.1, e.2.2]
  · rw [xu_n (fun z => hip (h3.2 i p hi hp z)), (ho i hip).1, (ho i hip).2.1, (ho i hip).2.2]
    exact h3.1 i hi
theorem R_jud {j y : Nat} {v : Int32} {f : Nat → Int32} (h : CRep M x al S d ns nd) (hj : j < 4) (hy : y < 4) (hf : M (al 4 j) = some (aI 4 f)) (hfv : ∀ y, y < 4 → f y = S 11 (4 * j + y)) : CRep (xu M (al 4 j) (aI 4 (upd f y v))) x al (su S 11 (4 * j + y) v) d ns nd := by
  obtain ⟨h1, h2, h3, h4, h5, h6, h7⟩ := h
  have hF : sf [11] S (su S 11 (4 * j + y) v) := sf.rf.su (by decide)
  have hpr : pr [1104] M (xu M (al 4 j) (aI 4 (upd f y v))) := pr.rf.wr hf (by show 1104 ∈ [1104]; decide)
  refine ⟨h1.st hpr hF (by decide) (by decide), h2.st hpr hF (by decide) (by decide), h3.st hpr hF (by decide) (by decide), ⟨fun i hi => ⟨hpr _ _ (h4.1 i hi).1 (by show 1 ∉ [1104]; decide), ?_⟩, h4.2⟩, h5.st hpr hF (by decide) (by decide), h6.st hpr hF (by decide) (by decide), h7.st hpr hF (by decide) (by decide)⟩
  by_cases hip : i = j
  · subst hip
    refine ⟨_, xu_s _ _ _, fun z hz => ?_⟩
    by_cases hzy : z = y
    · subst hzy
      rw [su_s]
      simp [upd]
    · rw [su_n (by omega)]
      simp [upd, hzy]
      exact hfv z hz
  · obtain ⟨f2, hf2, hv2⟩ := (h4.1 i hi).2
    refine ⟨f2, by rw [xu_n (fun z => hip (h4.2 i j hi hj z))]; exact hf2, fun z hz => ?_⟩
    rw [su_n (by omega)]
    exact hv2 z hz
theorem R_top {tk dy : Int32} (h : CRep M x al S d ns nd) (hF : sf [0, 9] S S') (e9 : S' 9 0 = tk) (e0 : S' 0 0 = dy) : CRep (xu M x (oB 8 [.ref (al 0 0), .ref (al 0 1), .ref (al 0 2), .ref (al 0 3), .ref (al 0 4), .ref (al 5 ns), .int (nI ns), .int (nI nd), .int tk, .int dy])) x al S' d ns nd := by
  obtain ⟨h1, h2, h3, h4, h5, h6, h7⟩ := h
  have hpr : pr [8] M (xu M x (oB 8 [.ref (al 0 0), .ref (al 0 1), .ref (al 0 2), .ref (al 0 3), .ref (al 0 4), .ref (al 5 ns), .int (nI ns), .int (nI nd), .int tk, .int dy])) := pr.rf.wr h1.1 (by show 8 ∈ [8]; decide)
  refine ⟨?_, h2.st hpr hF (by decide) (by decide), h3.st hpr hF (by decide) (by decide), h4.st hpr hF (by decide) (by decide), h5.st hpr hF (by decide) (by decide), h6.st hpr hF (by decide) (by decide), h7.st hpr hF (by decide) (by decide)⟩
  obtain ⟨a0, a1, a2, a3, a4, a5⟩ := h1
  exact ⟨by rw [xu_s, e9, e0], hpr _ _ a1 (by show 606 ∉ [8]; decide), hpr _ _ a2 (by show 303 ∉ [8]; decide), hpr _ _ a3 (by show 704 ∉ [8]; decide), hpr _ _ a4 (by show 204 ∉ [8]; decide), hpr _ _ a5 (by show 112 ∉ [8]; decide)⟩
theorem R_clr (h : CRep M x al S d ns nd) (hF : sf [1, 2] S S') : CRep (xu M (al 5 ns) (oB 5 [.ref (al 6 ns), .int 0])) x al S' 0 ns nd := by
  obtain ⟨h1, h2, h3, h4, h5, h6, h7⟩ := h
  have hpr : pr [5] M (xu M (al 5 ns) (oB 5 [.ref (al 6 ns), .int 0])) := pr.rf.wr h5.2.1.1 (by show 5 ∈ [5]; decide)
  refine ⟨h1.st hpr hF (by decide) (by decide), h2.st hpr hF (by decide) (by decide), h3.st hpr hF (by decide) (by decide), h4.st hpr hF (by decide) (by decide), ⟨fun g hg => ?_, ?_, h5.2.2⟩, h6.st hpr hF (by decide) (by decide), h7.st hpr hF (by decide) (by decide)⟩
  · obtain ⟨b1, f, b2, b3⟩ := h5.1 g hg
    have e4 : S' 4 = S 4 := hF 4 (by decide)
    have e5 : S' 5 = S 5 := hF 5 (by decide)
    rw [e4]
    refine ⟨by rw [xu_n (fun z => by have := h5.2.2.1 g ns (by omega) (by omega) z; omega)]; exact b1, f, hpr _ _ b2 (by show 508 ∉ [5]; decide), fun i hi => ?_⟩
    obtain ⟨q, hq, hc⟩ := b3 i hi
    refine ⟨q, hq, ?_⟩
    rw [hpr _ _ hc (by show 4 ∉ [5]; decide)]
    unfold stC
    rw [e5]
  · obtain ⟨b1, f, b2, b3⟩ := h5.2.1
    exact ⟨xu_s _ _ _, f, hpr _ _ b2 (by show 508 ∉ [5]; decide), fun i hi => absurd hi (by omega)⟩
theorem R_app {i : Nat} {v : Int32} (h : CRep M x al S d ns nd) (hi : i < nd) : CRep (xu M (al 7 i) (dlC (S 13 i) (S 14 i) (S 15 i) (S 17 i) (S 21 i) (S 18 i) (al 8 i) (al 9 i) (S 22 i) v)) x al (su S 16 i v) d ns nd := by
  obtain ⟨h1, h2, h3, h4, h5, h6, h7⟩ := h
  have hF : sf [16] S (su S 16 i v) := sf.rf.su (by decide)
  have hpr : pr [0] M (xu M (al 7 i) (dlC (S 13 i) (S 14 i) (S 15 i) (S 17 i) (S 21 i) (S 18 i) (al 8 i) (al 9 i) (S 22 i) v)) := pr.rf.wr (h6.1 i hi).1 (by show 0 ∈ [0]; decide)
  refine ⟨h1.st hpr hF (by decide) (by decide), h2.st hpr hF (by decide) (by decide), h3.st hpr hF (by decide) (by decide), h4.st hpr hF (by decide) (by decide), h5.st hpr hF (by decide) (by decide), ⟨fun k hk => ?_, h6.2⟩, h7.st hpr hF (by decide) (by decide)⟩
  obtain ⟨b1, ⟨f, b2, b3⟩, b4⟩ := h6.1 k hk
  refine ⟨?_, ⟨f, hpr _ _ b2 (by show 1105 ∉ [0]; decide), b3⟩, hpr _ _ b4 (by show 810 ∉ [0]; decide)⟩
  by_cases hki : k = i
  · subst hki
    rw [xu_s, su_s]
    rfl
  · rw [xu_n (fun z => hki (h6.2.1 k i hk hi z)), su_n hki]
    exact b1
theorem R_look {i k : Nat} {v fo fd : Int32} {pa : Nat} {dm : Int32} (h : CRep M x al S d ns nd) (hi : i < nd) (hk : k < ix (S 22 i)) (h10 : ∀ i, i < nd → ix (S 22 i) ≤ 10) (hc : M (al 10 (10 * i + k)) = some (oB 7 [.ref pa, .int dm, .int fo, .int fd])) : CRep (xu M (al 10 (10 * i + k)) (oB 7 [.ref pa, .int dm, .int fo, .int v])) x al (su S 26 (10 * i + k) v) d ns nd := by
  obtain ⟨h1, h2, h3, h4, h5, h6, h7⟩ := h
  have hF : sf [26] S (su S 26 (10 * i + k) v) := sf.rf.su (by decide)
  have hpr : pr [7] M (xu M (al 10 (10 * i + k)) (oB 7 [.ref pa, .int dm, .int fo, .int v])) := pr.rf.wr hc (by show 7 ∈ [7]; decide)
  refine ⟨h1.st hpr hF (by decide) (by decide), h2.st hpr hF (by decide) (by decide), h3.st hpr hF (by decide) (by decide), h4.st hpr hF (by decide) (by decide), h5.st hpr hF (by decide) (by decide), h6.st hpr hF (by decide) (by decide), ⟨fun j l hj hl => ?_, h7.2⟩⟩
  obtain ⟨b1, f, b2, b3⟩ := h7.1 j l hj hl
  have hb : ∀ z, z < 6 → (z < ix (S 23 (10 * j + l)) ∧ z < ix (S 4 (pgS S j (10 * j + l))) → ∃ q, f z = some q ∧ xu M (al 10 (10 * i + k)) (oB 7 [.ref pa, .int dm, .int fo, .int v]) q = some (paC S 27 (32 * (10 * j + l) + 4 * z) (24 * pgS S j (10 * j + l) + 4 * z) (ix (S 23 (10 * j + l))) (ix (S 4 (pgS S j (10 * j + l)))) (S 24 (10 * j + l)))) ∧ (¬ (z < ix (S 23 (10 * j + l)) ∧ z < ix (S 4 (pgS S j (10 * j + l)))) → f z = none) := fun z hz => by
    refine ⟨fun hd => ?_, (b3 z hz).2⟩
    obtain ⟨q, hq, hc9⟩ := (b3 z hz).1 hd
    exact ⟨q, hq, hpr _ _ hc9 (by show 3 ∉ [7]; decide)⟩
  have hrow := hpr _ _ b2 (by show 406 ∉ [7]; decide)
  by_cases hjk : j = i ∧ l = k
  · obtain ⟨rfl, rfl⟩ := hjk
    rw [b1] at hc
    have h9 := Option.some.inj hc
    injection h9 with h9
    injection h9 with _ h9
    injection h9 with g1 h9
    injection h9 with g2 h9
    injection h9 with g3 h9
    refine ⟨?_, f, hrow, hb⟩
    rw [xu_s]
    show some (oB 7 [.ref pa, .int dm, .int fo, .int v]) = some (oB 7 [.ref _, .int _, .int _, .int (su S 26 (10 * j + l) v 26 (10 * j + l))])
    rw [su_s, ← g1, ← g2, ← g3]
    rfl
  · have hne : 10 * j + l ≠ 10 * i + k := by
      have a1 := h10 j hj
      have a2 := h10 i hi
      have a3 : l < ix (S 22 j) := hl
      omega
    refine ⟨?_, f, hrow, hb⟩
    rw [xu_n (fun z => hjk (h7.2 j i l k hj hi hl hk z))]
    show M (al 10 (10 * j + l)) = some (oB 7 [.ref _, .int _, .int _, .int (su S 26 (10 * i + k) v 26 (10 * j + l))])
    rw [su_n hne]
    exact b1
end Reps
theorem cntf_L {S : ST} {w : Nat} {f : Nat → Int32} : ∀ n, (∀ y, y < n → f y = S 11 (4 * w + y)) → cntf f n = cntL S w n
  | 0, _ => rfl
  | n + 1, h => by rw [cntf, cntL, cntf_L n (fun y hy => h y (by omega)), h n (by omega)]
theorem upd_11 {S : ST} {j y : Nat} {v : Int32} {f : Nat → Int32} (hf : ∀ y, y < 4 → f y = S 11 (4 * j + y)) : ∀ z, z < 4 → upd f y v z = su S 11 (4 * j + y) v 11 (4 * j + z) := fun z hz => by
  by_cases h : z = y
  · subst h
    rw [su_s]
    simp [upd]
  · rw [su_n (by omega)]
    simp [upd, h]
    exact hf z hz
