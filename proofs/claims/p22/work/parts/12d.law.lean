/-! ===== more of the tie: duels, hands, days, appeals ===== -/
theorem su_id {S : ST} {k j : Nat} {v : Int32} (hv : S k j = v) : su S k j v = S := by
  funext a b
  by_cases ha : a = k
  · subst ha
    rw [su_a]
    by_cases hb : b = j
    · subst hb
      rw [pk_us, hv]
    · rw [pk_un hb]
  · rw [su_o ha]
section Tie2
variable {n d ns nd : Nat} {S S' R R' : ST} {F G : List Nat}
/-- the rows of a new duel -/
def rDuel (R : ST) (nd : Nat) (a b j p r day : Int32) : ST := su (su (su (su (su (su (su (su R 4 (8 * nd) a) 4 (8 * nd + 1) b) 4 (8 * nd + 2) j) 4 (8 * nd + 3) p) 4 (8 * nd + 4) r) 4 (8 * nd + 5) 0) 4 (8 * nd + 6) day) 4 (8 * nd + 7) (-1)
theorem tie.duel {a b j p r w : Int32} (h : tie n S R d ns nd) (hz : S 22 nd = 0) (ha : rg a 0 7) (hb : rg b 0 7) (hnd : nd < 8) : tie n (nDuel S nd a b j p r w) (su (rDuel R nd a b j p r (S 0 0)) 0 3 (nI (nd + 1))) d ns (nd + 1) := by
  have hF : sf [13, 14, 15, 16, 17, 18, 19, 20, 21, 12] S (nDuel S nd a b j p r w) := (((((((((sf.rf.su (by decide)).su (by decide)).su (by decide)).su (by decide)).su (by decide)).su (by decide)).su (by decide)).su (by decide)).su (by decide)).su (by decide)
  have hG : sf [4, 0] R (su (rDuel R nd a b j p r (S 0 0)) 0 3 (nI (nd + 1))) := ((((((((sf.rf.su (by decide)).su (by decide)).su (by decide)).su (by decide)).su (by decide)).su (by decide)).su (by decide)).su (by decide)).su (by decide)
  obtain ⟨b1, b2, b3, b4, b5⟩ := h.2.2.2.2.2
  refine ⟨?_, h.2.1.st hF (by decide) hG (by decide), h.2.2.1.st hF (by decide) hG (by decide), h.2.2.2.1.st hF (by decide) hG (by decide), ?_, ?_⟩
  · obtain ⟨a1, a2, a3, a4, a5⟩ := h.1
    have e0 : rDuel R nd a b j p r (S 0 0) 0 = R 0 := by
      unfold rDuel
      rw [su_o (by decide), su_o (by decide), su_o (by decide), su_o (by decide), su_o (by decide), su_o (by decide), su_o (by decide), su_o (by decide)]
    unfold tG
    rw [hF 0 (by decide), hF 9 (by decide), su_n (by decide), su_n (by decide), su_n (by decide), su_s, su_n (by decide), e0]
    exact ⟨a1, a2, a3, rfl, a5⟩
  · intro i hi
    have k13 : nDuel S nd a b j p r w 13 = upd (S 13) nd a := by
      unfold nDuel
      rw [su_o (by decide), su_o (by decide), su_o (by decide), su_o (by decide), su_o (by decide), su_o (by decide), su_o (by decide), su_o (by decide), su_o (by decide), su_a]
    have k14 : nDuel S nd a b j p r w 14 = upd (S 14) nd b := by
      unfold nDuel
      rw [su_o (by decide), su_o (by decide), su_o (by decide), su_o (by decide), su_o (by decide), su_o (by decide), su_o (by decide), su_o (by decide), su_a, su_o (by decide)]
    have k15 : nDuel S nd a b j p r w 15 = upd (S 15) nd j := by
      unfold nDuel
      rw [su_o (by decide), su_o (by decide), su_o (by decide), su_o (by decide), su_o (by decide), su_o (by decide), su_o (by decide), su_a, su_o (by decide), su_o (by decide)]
    have k16 : nDuel S nd a b j p r w 16 = upd (S 16) nd (-1) := by
      unfold nDuel
      rw [su_o (by decide), su_o (by decide), su_o (by decide), su_o (by decide), su_o (by decide), su_o (by decide), su_a, su_o (by decide), su_o (by decide), su_o (by decide)]
    have k17 : nDuel S nd a b j p r w 17 = upd (S 17) nd p := by
      unfold nDuel
      rw [su_o (by decide), su_o (by decide), su_o (by decide), su_o (by decide), su_o (by decide), su_a, su_o (by decide), su_o (by decide), su_o (by decide), su_o (by decide)]
    have k18 : nDuel S nd a b j p r w 18 = upd (S 18) nd r := by
      unfold nDuel
      rw [su_o (by decide), su_o (by decide), su_o (by decide), su_o (by decide), su_a, su_o (by decide), su_o (by decide), su_o (by decide), su_o (by decide), su_o (by decide)]
    have k21 : nDuel S nd a b j p r w 21 = upd (S 21) nd (S 0 0) := by
      unfold nDuel
      rw [su_o (by decide), su_a]
      rw [su_o (by decide), su_o (by decide), su_o (by decide), su_o (by decide), su_o (by decide), su_o (by decide), su_o (by decide), su_o (by decide)]
    have k22 : nDuel S nd a b j p r w 22 = S 22 := hF 22 (by decide)
    have e4 : su (rDuel R nd a b j p r (S 0 0)) 0 3 (nI (nd + 1)) 4 = upd (upd (upd (upd (upd (upd (upd (upd (R 4) (8 * nd) a) (8 * nd + 1) b) (8 * nd + 2) j) (8 * nd + 3) p) (8 * nd + 4) r) (8 * nd + 5) 0) (8 * nd + 6) (S 0 0)) (8 * nd + 7) (-1) := by
      unfold rDuel
      rw [su_o (by decide), su_a, su_a, su_a, su_a, su_a, su_a, su_a, su_a]
    unfold dTie
    rw [k13, k14, k15, k16, k17, k18, k21, k22, e4]
    by_cases hin : i = nd
    · subst hin
      simp only [pk_us]
      refine ⟨?_, ?_, ?_, ?_, ?_, ?_, ?_, ?_, ha, hb⟩
      · rw [pk_un (by omega), pk_un (by omega), pk_un (by omega), pk_un (by omega), pk_un (by omega), pk_un (by omega), pk_un (by omega), pk_us]
      · rw [pk_un (by omega), pk_un (by omega), pk_un (by omega), pk_un (by omega), pk_un (by omega), pk_un (by omega), pk_us]
      · rw [pk_un (by omega), pk_un (by omega), pk_un (by omega), pk_un (by omega), pk_un (by omega), pk_us]
      · rw [pk_un (by omega), pk_un (by omega), pk_un (by omega), pk_un (by omega), pk_us]
      · rw [pk_un (by omega), pk_un (by omega), pk_un (by omega), pk_us]
      · rw [pk_un (by omega), pk_un (by omega), pk_us, hz]
      · rw [pk_un (by omega), pk_us]
      · trivial
    · have hlt : i < nd := by omega
      have q := h.2.2.2.2.1 i hlt
      rw [pk_un hin, pk_un hin, pk_un hin, pk_un hin, pk_un hin, pk_un hin, pk_un hin]
      have o : ∀ q, q < 8 * nd → upd (upd (upd (upd (upd (upd (upd (upd (R 4) (8 * nd) a) (8 * nd + 1) b) (8 * nd + 2) j) (8 * nd + 3) p) (8 * nd + 4) r) (8 * nd + 5) 0) (8 * nd + 6) (S 0 0)) (8 * nd + 7) (-1) q = R 4 q := fun q hq => by
        rw [pk_un (by omega), pk_un (by omega), pk_un (by omega), pk_un (by omega), pk_un (by omega), pk_un (by omega), pk_un (by omega), pk_un (by omega)]
      rw [o _ (by omega), o _ (by omega), o _ (by omega), o _ (by omega), o _ (by omega), o _ (by omega), o _ (by omega), o _ (by omega)]
      exact q
  · refine ⟨by rw [hF 0 (by decide)]; exact b1, by rw [hF 9 (by decide)]; exact b2, by rw [hF 6 (by decide)]; exact b3, by rw [hF 11 (by decide)]; exact b4, by omega⟩
/-- the rows behind a hand -/
def rHand (R : ST) (i p : Nat) (sh tk hn : Int32) : ST := su (su (su (su R 2 (3 * p) sh) 0 4 tk) 4 (8 * i + 5) hn) 0 2 0
theorem tie.hand {i p hd : Nat} {s : Int32} (h : tie n S R d ns nd) (hi : i < nd) (hp : p < 3) (hh : S 22 i = nI hd) (h6 : 0 < S 6 p) (hn : n ≤ 60) : tie (n + 1) (nHand S i p hd d s) (rHand R i p (S 6 p - 1) (S 9 0 + 1) (nI (hd + 1))) 0 ns nd := by
  have hF : sf [6, 9, 27, 23, 24, 25, 1, 22] S (nHand S i p hd d s) := (((((((sf.rf.su (by decide)).su (by decide)).cw (by decide)).su (by decide)).su (by decide)).su (by decide)).su (by decide)).su (by decide)
  have hG : sf [2, 0, 4] R (rHand R i p (S 6 p - 1) (S 9 0 + 1) (nI (hd + 1))) := (((sf.rf.su (by decide)).su (by decide)).su (by decide)).su (by decide)
  obtain ⟨b1, b2, b3, b4, b5⟩ := h.2.2.2.2.2
  have k6 : nHand S i p hd d s 6 = upd (S 6) p (S 6 p - 1) := by
    unfold nHand
    rw [su_o (by decide), su_o (by decide), su_o (by decide), su_o (by decide), su_o (by decide), cp_o (by decide), su_o (by decide), su_a]
  have k9 : nHand S i p hd d s 9 = upd (S 9) 0 (S 9 0 + 1) := by
    unfold nHand
    rw [su_o (by decide), su_o (by decide), su_o (by decide), su_o (by decide), su_o (by decide), cp_o (by decide), su_a, su_o (by decide)]
  have k22 : nHand S i p hd d s 22 = upd (S 22) i (nI (hd + 1)) := by
    unfold nHand
    rw [su_a, su_o (by decide), su_o (by decide), su_o (by decide), su_o (by decide), cp_o (by decide), su_o (by decide), su_o (by decide)]
  have g0 : rHand R i p (S 6 p - 1) (S 9 0 + 1) (nI (hd + 1)) 0 = upd (upd (R 0) 4 (S 9 0 + 1)) 2 0 := by
    unfold rHand
    rw [su_a, su_o (by decide), su_a, su_o (by decide)]
  have g2 : rHand R i p (S 6 p - 1) (S 9 0 + 1) (nI (hd + 1)) 2 = upd (R 2) (3 * p) (S 6 p - 1) := by
    unfold rHand
    rw [su_o (by decide), su_o (by decide), su_o (by decide), su_a]
  have g4 : rHand R i p (S 6 p - 1) (S 9 0 + 1) (nI (hd + 1)) 4 = upd (R 4) (8 * i + 5) (nI (hd + 1)) := by
    unfold rHand
    rw [su_o (by decide), su_a, su_o (by decide), su_o (by decide)]
  refine ⟨?_, h.2.1.st hF (by decide) hG (by decide), fun q hq => ?_, h.2.2.2.1.st hF (by decide) hG (by decide), fun q hq => ?_, ?_⟩
  · obtain ⟨a1, a2, a3, a4, a5⟩ := h.1
    unfold tG
    rw [hF 0 (by decide), k9, g0, pk_us, pk_us, pk_un (by decide), pk_un (by decide), pk_un (by decide), pk_un (by decide), pk_un (by decide), pk_un (by decide), pk_un (by decide), pk_us]
    exact ⟨a1, a2, rfl, a4, rfl⟩
  · obtain ⟨h1, h2, h3⟩ := h.2.2.1 q hq
    rw [k6, hF 7 (by decide), hF 8 (by decide), g2]
    by_cases hqp : q = p
    · subst hqp
      rw [pk_us, pk_us, pk_un (by omega), pk_un (by omega)]
      exact ⟨rfl, h2, h3⟩
    · rw [pk_un (by omega), pk_un (by omega), pk_un (by omega), pk_un (by omega)]
      exact ⟨h1, h2, h3⟩
  · have z := h.2.2.2.2.1 q hq
    unfold dTie at z ⊢
    rw [hF 13 (by decide), hF 14 (by decide), hF 15 (by decide), hF 16 (by decide), hF 17 (by decide), hF 18 (by decide), hF 21 (by decide), k22, g4]
    rw [pk_un (by omega), pk_un (by omega), pk_un (by omega), pk_un (by omega), pk_un (by omega), pk_un (by omega : 8 * q + 6 ≠ 8 * i + 5), pk_un (by omega : 8 * q + 7 ≠ 8 * i + 5)]
    refine ⟨z.1, z.2.1, z.2.2.1, z.2.2.2.1, z.2.2.2.2.1, ?_, z.2.2.2.2.2.2⟩
    by_cases hqi : q = i
    · rw [hqi, pk_us, pk_us]
    · rw [pk_un hqi, pk_un (by omega)]
      exact z.2.2.2.2.2.1
  · have e1 : rg (1 : Int32) 1 1 := by unfold rg; decide
    have h6' : 0 < (S 6 p).toInt := by
      have := Int32.lt_iff_toInt_lt.mp h6
      have e0 : (0 : Int32).toInt = 0 := rfl
      omega
    refine ⟨?_, ?_, fun q hq => ?_, ?_, b5⟩
    · rw [hF 0 (by decide)]
      exact rg_m b1 (by omega) (by omega)
    · rw [k9, pk_us]
      exact rg_m (rg_add b2 e1 (by omega)).2 (by omega) (by omega)
    · rw [k6]
      by_cases hqp : q = p
      · subst hqp
        rw [pk_us]
        have b9 := b3 q hq
        have b8 : rg (S 6 q) 1 ((9 + 15 * n : Nat) : Int) := ⟨by omega, b9.2⟩
        exact rg_m (rg_sub b8 e1 (by omega)).2 (by omega) (by omega)
      · rw [pk_un hqp]
        exact rg_m (b3 q hq) (by omega) (by omega)
    · rw [hF 11 (by decide)]
      exact b4
theorem tie.appeal {i : Nat} {w v : Int32} (h : tie n S R d ns nd) (hi : i < 8) (hv : v = w) : tie n (nAppeal S (nI i) w) (su R 4 (8 * i + 7) v) d ns nd := by
  subst hv
  have hF : sf [16] S (nAppeal S (nI i) v) := sf.rf.su (by decide)
  have hG : sf [4] R (su R 4 (8 * i + 7) v) := sf.rf.su (by decide)
  have ei : ix (nI i) = i := ix_nI (by omega)
  refine ⟨h.1.st hF (by decide) hG (by decide), h.2.1.st hF (by decide) hG (by decide), h.2.2.1.st hF (by decide) hG (by decide), h.2.2.2.1.st hF (by decide) hG (by decide), fun q hq => ?_, h.2.2.2.2.2.st hF (by decide)⟩
  have z := h.2.2.2.2.1 q hq
  have k16 : nAppeal S (nI i) v 16 = upd (S 16) i v := by
    unfold nAppeal
    rw [su_a, ei]
  unfold dTie at z ⊢
  rw [hF 13 (by decide), hF 14 (by decide), hF 15 (by decide), hF 17 (by decide), hF 18 (by decide), hF 21 (by decide), hF 22 (by decide), k16, su_a]
  rw [pk_un (by omega), pk_un (by omega), pk_un (by omega), pk_un (by omega), pk_un (by omega), pk_un (by omega : 8 * q + 5 ≠ 8 * i + 7), pk_un (by omega : 8 * q + 6 ≠ 8 * i + 7)]
  refine ⟨z.1, z.2.1, z.2.2.1, z.2.2.2.1, z.2.2.2.2.1, z.2.2.2.2.2.1, z.2.2.2.2.2.2.1, ?_, z.2.2.2.2.2.2.2.2⟩
  by_cases hqi : q = i
  · rw [hqi, pk_us, pk_us]
  · rw [pk_un hqi, pk_un (by omega)]
    exact z.2.2.2.2.2.2.2.1
/-- a day or more goes by -/
theorem tie.pass {t : Nat} {R' : ST} (h : tie n S R d ns nd) (ht : 1 ≤ t ∧ t ≤ 12) (hn : n ≤ 60) (hG : sf [0, 2] R R') (h0 : ∀ j, j ≠ 0 → R' 0 j = R 0 j) (h00 : R' 0 0 = S 0 0 + nI t) (h2 : ∀ p, p < 3 → R' 2 (3 * p) = R 2 (3 * p) ∧ R' 2 (3 * p + 1) = nPass S (nI t) 7 p ∧ R' 2 (3 * p + 2) = R 2 (3 * p + 2)) : tie (n + 1) (nPass S (nI t)) R' d ns nd := by
  have hF : sf [7, 0] S (nPass S (nI t)) := sf.su (fun k hk => ageN_o S (ix (nI t)) k (fun z => hk (by rw [z]; decide))) (by decide)
  obtain ⟨b1, b2, b3, b4, b5⟩ := h.2.2.2.2.2
  have e0 : nPass S (nI t) 0 0 = S 0 0 + nI t := by
    unfold nPass
    rw [su_s]
  refine ⟨?_, h.2.1.st hF (by decide) hG (by decide), fun q hq => ?_, h.2.2.2.1.st hF (by decide) hG (by decide), h.2.2.2.2.1.st hF (by decide) hG (by decide), ?_⟩
  · obtain ⟨a1, a2, a3, a4, a5⟩ := h.1
    unfold tG
    rw [e0, hF 9 (by decide), h00, h0 1 (by decide), h0 2 (by decide), h0 3 (by decide), h0 4 (by decide)]
    exact ⟨rfl, a2, a3, a4, a5⟩
  · obtain ⟨c1, c2, c3⟩ := h.2.2.1 q hq
    obtain ⟨k1, k2, k3⟩ := h2 q hq
    rw [k1, k2, k3, hF 6 (by decide), hF 8 (by decide)]
    exact ⟨c1, rfl, c3⟩
  · have e1 : rg (nI t) 1 12 := by
      unfold rg
      rw [nI_toInt (by omega)]
      omega
    refine ⟨?_, ?_, ?_, ?_, b5⟩
    · rw [e0]
      exact rg_m (rg_add b1 e1 (by omega)).2 (by omega) (by omega)
    · rw [hF 9 (by decide)]
      exact rg_m b2 (by omega) (by omega)
    · rw [hF 6 (by decide)]
      exact fun q hq => rg_m (b3 q hq) (by omega) (by omega)
    · rw [hF 11 (by decide)]
      exact b4
end Tie2
