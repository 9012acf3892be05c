/-! ===== duels that begin, hands ===== -/
section Cases2
variable {n0 n x d ns nd i k t : Nat} {S R : ST} {v : Option Value} {M1 : MH}
theorem duel_cases {a b j p w : Nat} (hk : mOK S d ns nd) (ht : tie n0 S R d ns nd) (ha : a < 8) (hb : b < 8) (hj : j < 4) (hp : p < 3) (htt : t < 5) (hw : w < 1000) (hnd : nd < 8) (h : pI (tDuel S (nI a) (nI b) (nI j) (nI p) (nI (1 + t)) (nI w)) (-1000001) (-1000002) (-1000003) (nI nd) x S d ns nd (nDuel S nd (nI a) (nI b) (nI j) (nI p) (nI (1 + t)) (nI w)) d ns (nd + 1) v M1) :
    (a = b ∧ v = some (.int (-1000002)) ∧ ∃ al, CRep M1 x al S d ns nd) ∨ (a ≠ b ∧ ns = 0 ∧ v = some (.int (-1000003)) ∧ ∃ al, CRep M1 x al S d ns nd) ∨ (a ≠ b ∧ 0 < ns ∧ v = some (.int (nI nd)) ∧ ∃ al S2, CRep M1 x al S2 d ns (nd + 1) ∧ mOK S2 d ns (nd + 1) ∧ tie n0 S2 (su (rDuel R nd (nI a) (nI b) (nI j) (nI p) (nI (1 + t)) (S 0 0)) 0 3 (nI (nd + 1))) d ns (nd + 1) ∧ S2 18 nd = nI (1 + t) ∧ S2 22 nd = 0) := by
  have ok : okDuel (nI a) (nI b) (nI j) (nI p) := ⟨iN_k 7 (by decide) (by omega), iN_k 7 (by decide) (by omega), iN_k 3 (by decide) (by omega), iN_k 2 (by decide) (by omega)⟩
  have n6 := hk.2.1.2.2.1
  have e3 := hk.2.1.1
  have e12 := hk.2.2.1.1
  have hr : iN (nI (1 + t)) 1 5 := ⟨nI_le (a := 1) (by omega) (by omega), nI_le (b := 5) (by omega) (by decide)⟩
  have hw9 : iN (nI w) 0 999 := iN_k 999 (by decide) (by omega)
  have t0 : tDuel S (nI a) (nI b) (nI j) (nI p) (nI (1 + t)) (nI w) = if ¬ (nI a ≠ nI b ∧ iN (nI (1 + t)) 1 5 ∧ iN (nI w) 0 999) then 2 else if ¬ (0 < S 3 0 ∧ S 12 0 < 12) then 3 else 0 := if_neg (fun z => z ok)
  by_cases hab : a = b
  · have t1 : tDuel S (nI a) (nI b) (nI j) (nI p) (nI (1 + t)) (nI w) = 2 := by
      rw [t0, if_pos (fun z => z.1 (by rw [hab]))]
    exact Or.inl ⟨hab, h.no2 t1⟩
  · have t1 : tDuel S (nI a) (nI b) (nI j) (nI p) (nI (1 + t)) (nI w) = if ¬ (0 < S 3 0 ∧ S 12 0 < 12) then 3 else 0 := by
      rw [t0, if_neg (fun z => z ⟨fun q => hab ((nI_eq (by omega) (by omega)).mp q), hr, hw9⟩)]
    by_cases hns : ns = 0
    · have t2 : tDuel S (nI a) (nI b) (nI j) (nI p) (nI (1 + t)) (nI w) = 3 := by
        rw [t1, e3, hns, if_pos (fun z => absurd z.1 (by decide))]
      exact Or.inr (Or.inl ⟨hab, hns, h.no3 t2⟩)
    · have t2 : tDuel S (nI a) (nI b) (nI j) (nI p) (nI (1 + t)) (nI w) = 0 := by
        rw [t1, e3, e12, if_neg (fun z => z ⟨nI_lt (a := 0) (by omega) (by omega), nI_lt (b := 12) (by omega) (by decide)⟩)]
      obtain ⟨hv, al, hx⟩ := h.ok t2
      refine Or.inr (Or.inr ⟨hab, by omega, hv, al, _, hx, ok_duel hk t2, ht.duel (hk.2.2.2.2.2.2.1 nd (Nat.le_refl _)) ?_ ?_ hnd, ?_, ?_⟩)
      · unfold rg
        rw [nI_toInt (by omega)]
        omega
      · unfold rg
        rw [nI_toInt (by omega)]
        omega
      · unfold nDuel
        rw [su_o (by decide), su_o (by decide), su_o (by decide), su_o (by decide), su_s]
      · unfold nDuel
        rw [su_o (by decide), su_o (by decide), su_o (by decide), su_o (by decide), su_o (by decide), su_o (by decide), su_o (by decide), su_o (by decide), su_o (by decide), su_o (by decide)]
        exact hk.2.2.2.2.2.2.1 nd (Nat.le_refl _)
theorem tpr_1 {r : Nat} (hk : mOK S d ns nd) (hi : i < 8) (e18 : S 18 i = nI r) : tPrompt S (nI i) (nI r) = 1 := by
  refine if_pos (fun z => ?_)
  have h := z.2.2
  rw [ix_nI (by omega), e18] at h
  exact Int32.lt_irrefl h
theorem tpr_0 {r : Nat} (hk : mOK S d ns nd) (hi : i < nd) (e18 : S 18 i = nI r) (hkr : k < r) (hr : r < 10) : tPrompt S (nI i) (nI k) = 0 := by
  have h12 := hk.2.2.1.2.1
  refine if_neg (fun z => z ⟨isDu_k hk hi, nI_pos' (by omega), ?_⟩)
  rw [ix_nI (by omega), e18]
  exact nI_lt hkr (by omega)
theorem pr_lt (hk : mOK S d ns nd) (hi : i < nd) (r : Nat) : promptI S (ix (nI i)) r < ns := by
  have h12 := hk.2.2.1.2.1
  rw [ix_nI (by omega)]
  exact promptI_lt (hk.2.2.1.2.2 i hi)
theorem wn_new {r : Nat} (hk : mOK S d ns nd) (hi : i < nd) (e18 : S 18 i = nI (1 + r)) (e22 : S 22 i = 0) (hr : r < 5) : wnS S i = -1 := by
  have eo : ¬ isOv S i := by
    unfold isOv
    rw [e22, e18, lit_2, pk_mul]
    exact fun z => absurd ((nI_eq (a := 0) (by omega) (by omega)).mp z) (by omega)
  unfold wnS
  rw [if_pos eo]
/-- a hand: refused, or taken -/
theorem hand_cases {pp hN rN sl rt : Nat} (hk : mOK S d ns nd) (ht : tie n0 S R d ns nd) (hn : n0 ≤ 60) (hi : i < nd) (e22 : S 22 i = nI hN) (x22 : ix (S 22 i) = hN) (e18 : S 18 i = nI rN) (hh : hN ≤ 2 * rN) (r5 : rN ≤ 5) (e17 : S 17 i = nI pp) (hpp : pp < 3) (hsl : sl < 1000) (ert : remI (101 * whoH S i hN + 37 * (S 9 0 + 1)) 1000 = nI rt)
    (h : pI (tHand S (nI i) (nI sl)) (-1000001) (-1000002) (-1000003) (S 9 0 + 1) x S d ns nd (nHand S (ix (nI i)) (ix (S 17 (ix (nI i)))) (ix (S 22 (ix (nI i)))) d (nI sl)) 0 ns nd v M1) :
    ((hN = 2 * rN ∨ d = 0 ∨ S 6 pp = 0) ∧ v = some (.int (-1000003)) ∧ ∃ al, CRep M1 x al S d ns nd) ∨ ((hN < 2 * rN ∧ 0 < d ∧ ¬ S 6 pp = 0) ∧ v = some (.int (S 9 0 + 1)) ∧ ∃ al S2, CRep M1 x al S2 0 ns nd ∧ mOK S2 0 ns nd ∧ tie (n0 + 1) S2 (rHand R i pp (S 6 pp - 1) (S 9 0 + 1) (nI (hN + 1))) 0 ns nd ∧ S2 22 i = nI (hN + 1) ∧ S2 9 0 = S 9 0 + 1 ∧ S2 25 (10 * i + hN) = b01 (nI sl ≠ nI rt)) := by
  have h12 := hk.2.2.1.2.1
  have e1 := hk.1.1
  have h8 := hk.1.2.1
  have xi : ix (nI i) = i := ix_nI (by omega)
  have xp : ix (S 17 i) = pp := by rw [e17, ix_nI (by omega)]
  have b6 := ht.2.2.2.2.2.2.2.1 pp hpp
  have e0 : (0 : Int32).toInt = 0 := rfl
  have eo : isOv S i ↔ hN = 2 * rN := by
    unfold isOv
    rw [e22, e18, lit_2, pk_mul, nI_eq (by omega) (by omega)]
  have q6 : 0 < S 6 pp ↔ ¬ S 6 pp = 0 := by
    rw [Int32.lt_iff_toInt_lt, e0]
    constructor
    · intro z q
      rw [q, e0] at z
      omega
    · intro z
      have := b6.1
      rcases Int.lt_or_eq_of_le this with q | q
      · exact q
      · exact absurd (i32_0 q.symm) z
  have q1 : 0 < S 1 0 ↔ 0 < d := by
    rw [e1]
    exact nI_ltI (a := 0) (by omega) (by omega)
  have t0 : tHand S (nI i) (nI sl) = if ¬ (¬ isOv S i ∧ 0 < S 1 0 ∧ 0 < S 6 pp) then 3 else 0 := by
    unfold tHand
    rw [if_neg (fun z => z (isDu_k hk hi)), if_neg (fun z => z (iN_k 999 (by decide) (by omega))), xi, xp]
  rw [xi, xp, x22] at h
  by_cases c : hN < 2 * rN ∧ 0 < d ∧ ¬ S 6 pp = 0
  · have t : tHand S (nI i) (nI sl) = 0 := by
      rw [t0, if_neg (fun z => z ⟨fun q => absurd (eo.mp q) (by omega), q1.mpr c.2.1, q6.mpr c.2.2⟩)]
    obtain ⟨hv, al, hx⟩ := h.ok t
    have hok := ok_hand hk t
    rw [xi, xp, x22] at hok
    refine Or.inr ⟨c, hv, al, _, hx, hok, ht.hand hi hpp e22 (q6.mpr c.2.2) hn, ?_, ?_, ?_⟩
    · unfold nHand
      rw [su_s]
    · unfold nHand
      rw [su_o (by decide), su_o (by decide), su_o (by decide), su_o (by decide), su_o (by decide), cp_o (by decide), su_s]
    · unfold nHand
      rw [su_o (by decide), su_o (by decide), su_s, ert]
  · have t : tHand S (nI i) (nI sl) = 3 := by
      rw [t0, if_pos (fun z => c ⟨by have q : ¬ hN = 2 * rN := (fun q => z.1 (eo.mpr q)); omega, q1.mp z.2.1, q6.mp z.2.2⟩)]
    refine Or.inl ⟨?_, h.no3 t⟩
    by_cases q2 : S 6 pp = 0
    · exact Or.inr (Or.inr q2)
    · by_cases q3 : hN < 2 * rN
      · exact Or.inr (Or.inl (by have q : ¬ 0 < d := (fun q => c ⟨q3, q, q2⟩); omega))
      · exact Or.inl (by omega)
/-- the right seal is one of a thousand -/
theorem seal_ok {hN : Nat} (ht : tie n0 S R d ns nd) (hn : n0 ≤ 60) (hd : dTie S R i) : ∃ rt, rt < 1000 ∧ remI (101 * whoH S i hN + 37 * (S 9 0 + 1)) 1000 = nI rt := by
  have h13 := rg_ix (n := 7) hd.2.2.2.2.2.2.2.2.1
  have h14 := rg_ix (n := 7) hd.2.2.2.2.2.2.2.2.2
  have b9 := rg_ix (n := n0) ht.2.2.2.2.2.2.1
  have hw : ∃ w, w ≤ 7 ∧ whoH S i hN = nI w := by
    unfold whoH
    split
    · exact ⟨_, h13.2, h13.1⟩
    · exact ⟨_, h14.2, h14.1⟩
  obtain ⟨w, hw7, ew⟩ := hw
  refine ⟨(101 * w + 37 * (ix (S 9 0) + 1)) % 1000, Nat.mod_lt _ (by decide), ?_⟩
  rw [ew, b9.1, lit_101, lit_37, nI_1, pk_mul, pk_mul, nI_add, ← b9.1]
  exact pk_rem (d := 1000) (by omega) (by decide) (by decide)
theorem tpap {w : Int32} {p : Nat} (hp : p < 3) (hw : iN w 0 1) : tPaper (nI p) w = 0 := by
  unfold tPaper
  rw [if_neg (fun z => z (iN_k 2 (by decide) (by omega))), if_neg (fun z => z hw)]
theorem vpap0 {p : Nat} (hp : p < 3) : vPaper S (nI p) 0 = S 6 p := by
  unfold vPaper
  rw [if_pos rfl, ix_nI (by omega)]
theorem vpap1 {p : Nat} (hp : p < 3) : vPaper S (nI p) 1 = S 7 p := by
  unfold vPaper
  rw [if_neg (by decide), ix_nI (by omega)]
theorem tlk_0 {ob : Int32} {hN : Nat} (hk : mOK S d ns nd) (hi : i < nd) (x22 : ix (S 22 i) = hN + 1) (hob : ob = b01 (hN % 2 = 1)) (h10 : hN + 1 ≤ 10) : tLook S (nI i) (nI (hN / 2)) ob = 0 := if_neg (fun z => z ((isHa_k hk hi x22 hob h10 (by omega)).mpr (by omega)))
theorem tlk_1 {o : Int32} : tLook S (nI i) 5 o = 1 := if_pos (fun z => absurd z.2.1 (by decide))
end Cases2
