/-! ===== buying, rises, styles, learning ===== -/
section Acts
variable {n0 d ns nd c p t b w s k : Nat} {S R : ST}
theorem tb6 (ht : tie n0 S R d ns nd) (hn : n0 ≤ 58) (hp : p < 3) (h9 : t < 15) : tBuy S (nI p) (nI (1 + t)) = 0 := by
  have b6 := ht.2.2.2.2.2.2.2.1 p hp
  have e1 : rg (nI (1 + t)) 1 15 := by
    unfold rg
    rw [nI_toInt (by omega)]
    omega
  have q := (rg_add b6 e1 (by omega)).2
  have hle : S 6 p + nI (1 + t) ≤ 1000 := by
    rw [Int32.le_iff_toInt_le]
    have e5 : (1000 : Int32).toInt = 1000 := by decide
    have := q.2
    omega
  unfold tBuy
  rw [if_neg (fun z => z (iN_k 2 (by decide) (by omega))), if_neg (fun z => z ⟨nI_le (a := 1) (by omega) (by omega), nI_le (b := 100) (by omega) (by decide)⟩), ix_nI (by omega), if_neg (fun z => z hle)]
theorem rg6 (h9 : t < 15) : rg (nI (1 + t)) 1 15 := by
  unfold rg
  rw [nI_toInt (by omega)]
  omega
theorem tr6 (hp : p < 3) (hb : b < 21) : tRise (nI p) (nI b - 10) = 0 := by
  have h := pk_sub_toInt (a := b) (b := 10) (by omega) (by omega)
  have h' : (nI b - 10).toInt = (b : Int) - 10 := h
  have e1 : (-10 : Int32).toInt = -10 := by decide
  have e2 : (10 : Int32).toInt = 10 := by decide
  unfold tRise
  have q1 : -10 ≤ nI b - 10 := by
    rw [Int32.le_iff_toInt_le, h', e1]
    omega
  have q2 : nI b - 10 ≤ 10 := by
    rw [Int32.le_iff_toInt_le, h', e2]
    omega
  rw [if_neg (fun z => z (iN_k 2 (by decide) (by omega))), if_neg (fun z => z ⟨q1, q2⟩)]
theorem nb7 {m : Int32} (hp : p < 3) : nBuy S (nI p) m 7 (ix (nI p)) = S 7 p := by
  unfold nBuy
  rw [su_o (by decide), ix_nI (by omega)]
theorem ts7 {a b c e : Nat} (ha : a < 4) (hb : b < 101) (hc : c < 101) (he : e < 101) : tStyle (nI a) (nI b) (nI c) (nI e) = 0 := by
  unfold tStyle
  rw [if_neg (fun z => z (iN_k 3 (by decide) (by omega))), if_neg (fun z => z ⟨iN_k 100 (by decide) (by omega), iN_k 100 (by decide) (by omega), iN_k 100 (by decide) (by omega)⟩)]
theorem le_m1 {v : Int32} (h : rg v (-1) 5000) : v + 1 ≤ 0 ↔ v = -1 := by
  have e1 : rg (1 : Int32) 1 1 := by unfold rg; decide
  have e := (rg_add h e1 (by decide)).1
  have q0 : (0 : Int32).toInt = 0 := rfl
  have q1 : (1 : Int32).toInt = 1 := by decide
  have qm : (-1 : Int32).toInt = -1 := by decide
  rw [Int32.le_iff_toInt_le, e, q0, q1]
  constructor
  · intro z
    apply Int32.toInt_inj.mp
    have := h.1
    rw [qm]
    omega
  · intro z
    rw [z, qm]
    omega
theorem c_ix (hc : c < 16) : 4 * ix (nI (c / 4)) + ix (nI (c % 4)) = c := by
  rw [ix_nI (by omega), ix_nI (by omega)]
  omega
theorem tl_0 (hc : c < 16) (e : S 11 c = -1) : tLearn S (nI (c / 4)) (nI (c % 4)) = 0 := by
  unfold tLearn
  rw [if_neg (fun z => z ⟨iN_k 3 (by decide) (by omega), iN_k 3 (by decide) (by omega)⟩), c_ix hc, if_neg (fun z => z e)]
theorem tl_2 (hc : c < 16) (e : ¬ S 11 c = -1) : tLearn S (nI (c / 4)) (nI (c % 4)) = 2 := by
  unfold tLearn
  rw [if_neg (fun z => z ⟨iN_k 3 (by decide) (by omega), iN_k 3 (by decide) (by omega)⟩), c_ix hc, if_pos e]
end Acts
