/-! ===== the law's own rows ===== -/
def jS : JC → Nat → Nat → (Nat → Int32) → Prop
  | (p, l, e, R, s, m, args, below, meth, c, D, M0, Q), b, L, xs => va_X b L xs s s.heap ∧ b < s.heap.size ∧ ¬ xA M0 s.heap.size b
section LawRows2
variable {X : JC} {cc : ByteArray} {own : String} {Ts : List Cond} {nL cells slots pc : Nat} {rm : Room} {M : MH} {vs : List (Option Value)} {st : List Value}
theorem j_sld (g : jG X cc own Ts nL rm) {b L : Nat} {xs : Nat → Int32} (sc : jS X b L xs) {i : Int32} (hd : decode cc pc = .ok (.iaload, 1)) (j : Nat) (hi : i = nI j) (hj : j < L) (hL : L < 2 ^ 31) (kk : J X nL cells slots M vs (.int (xs j) :: st) (pc + 1)) : J X nL cells slots M vs (.int i :: .ref b :: st) pc := by
  obtain ⟨p, l, e, R, s, m, args, below, meth, c, D, M0, Q⟩ := X
  obtain ⟨hx, hb, hml, hown, hts, hKK, hlk, hR⟩ := g
  obtain ⟨hX, hbl, hbA⟩ := sc
  intro H locs ls hH hS hl hq
  subst hi
  refine va_sld hx hb hX hbl hbA hS (vp_in_nI hj hL) hd ?_
  rw [nI_clamp (Nat.lt_trans hj hL)]
  exact kk H locs ls hH hS hl hq
theorem j_slen (g : jG X cc own Ts nL rm) {b L : Nat} {xs : Nat → Int32} (sc : jS X b L xs) (hd : decode cc pc = .ok (.arraylength, 1)) (kk : J X nL cells slots M vs (.int (nI L) :: st) (pc + 1)) : J X nL cells slots M vs (.ref b :: st) pc := by
  obtain ⟨p, l, e, R, s, m, args, below, meth, c, D, M0, Q⟩ := X
  obtain ⟨hx, hb, hml, hown, hts, hKK, hlk, hR⟩ := g
  obtain ⟨hX, hbl, hbA⟩ := sc
  intro H locs ls hH hS hl hq
  exact va_slen hx hb hX hbl hbA hS hd (kk H locs ls hH hS hl hq)
theorem j_loc2 {a0 a1 a2 a3 a4 a5 a6 a7 : Option Value} (k : J X 8 cells slots M [a0, a1, a2, a3, a4, a5, none, none] st pc) : J X 8 cells slots M [a0, a1, a2, a3, a4, a5, a6, a7] st pc := by
  obtain ⟨p, l, e, R, s, m, args, below, meth, c, D, M0, Q⟩ := X
  intro H locs ls hH hS hl hq
  refine k H locs ls hH hS ⟨hl.1, hl.2.1, fun q hq2 => hl.2.2 q ?_⟩ ⟨rfl, ?_⟩
  · obtain ⟨-, h2⟩ := lvl_of _ _ _ hq2
    rw [Nat.sub_zero] at h2
    have h3 : lvg [a0, a1, a2, a3, a4, a5, a6, a7] q.1 = some q.2 := by
      generalize q.1 = j at h2 ⊢
      match j, h2 with
      | 0, h2 => exact h2
      | 1, h2 => exact h2
      | 2, h2 => exact h2
      | 3, h2 => exact h2
      | 4, h2 => exact h2
      | 5, h2 => exact h2
      | 6, h2 => cases h2
      | 7, h2 => cases h2
      | n + 8, h2 => cases h2
    have h4 := lvl_mem _ 0 _ _ h3
    rw [Nat.zero_add] at h4
    exact h4
  · have h2 := hq.2
    unfold lv1 at h2 ⊢
    simp only [List.all_cons, List.all_nil, Bool.and_eq_true] at h2 ⊢
    exact ⟨h2.1, h2.2.1, h2.2.2.1, h2.2.2.2.1, h2.2.2.2.2.1, h2.2.2.2.2.2.1, trivial, trivial, trivial⟩
end LawRows2
theorem lgz (x : Int64) : lg_cmp x x = 0 := by
  unfold lg_cmp
  simp
/-- what holds each time that the law's loop begins -/
def LI (M : MH) (x m o od : Nat) (ad : Nat → Nat) (S : ST) : Prop := ∃ Mx al d ns nd f fd, LR M Mx m ad S o od f fd ∧ CRep Mx x al S d ns nd ∧ mOK S d ns nd
theorem LI.mk {M Mx : MH} {x m o od d ns nd : Nat} {ad : Nat → Nat} {al : Nat → Nat → Nat} {S S2 : ST} {f : Nat → Int64} {fd : Nat → UInt64} (hr : LR M Mx m ad S o od f fd) (hS : S = S2) (hc : CRep Mx x al S2 d ns nd) (hk : mOK S2 d ns nd) : LI M x m o od ad S := by
  subst hS
  exact ⟨_, _, _, _, _, _, _, hr, hc, hk⟩
theorem sf28 {S : ST} {v : Int32} : sf [28] S (su S 28 0 v) := sf.rf.su (by decide)
/-! where only the note of a throw differs, the marks are the same -/
section Same
variable {S S' : ST}
theorem s_dsum (h : sf [28] S S') (k f t : Nat) (hk : k ∉ [28]) : ∀ n, dsum S' k f t n = dsum S k f t n
  | 0 => rfl
  | n + 1 => by rw [dsum, dsum, s_dsum h k f t hk n, h k hk, h 5 (by decide)]
theorem s_near (h : sf [28] S S') (k f t : Nat) (w : Int32) (hk : k ∉ [28]) : nearS S' k f t w = nearS S k f t w := by
  unfold nearS
  rw [s_dsum h k f t hk]
theorem s_slope (h : sf [28] S S') (k f t : Nat) (hk : k ∉ [28]) : slopeS S' k f t = slopeS S k f t := by
  unfold slopeS
  rw [h k hk, h 5 (by decide)]
theorem s_strokeM (h : sf [28] S S') (k f s g y mn : Nat) (w : Int32) (i : Nat) (hk : k ∉ [28]) : strokeM S' k f s g y mn w i = strokeM S k f s g y mn w i := by
  unfold strokeM
  rw [s_near h _ _ _ _ hk, s_slope h _ _ _ hk, h 10 (by decide)]
theorem s_sumS (h : sf [28] S S') (k f s g y mn : Nat) (w : Int32) (hk : k ∉ [28]) : ∀ n, sumS S' k f s g y mn w n = sumS S k f s g y mn w n
  | 0 => rfl
  | n + 1 => by rw [sumS, sumS, s_sumS h k f s g y mn w hk n, s_strokeM h k f s g y mn w n hk]
theorem s_markS (h : sf [28] S S') (k f s g y mn : Nat) (w : Int32) (hk : k ∉ [28]) : markS S' k f s g y mn w = markS S k f s g y mn w := by
  unfold markS
  rw [s_sumS h k f s g y mn w hk]
theorem s_promptI (h : sf [28] S S') (i r : Nat) : promptI S' i r = promptI S i r := by
  unfold promptI
  rw [h 19 (by decide), h 20 (by decide)]
theorem s_wMark (h : sf [28] S S') (i w y : Nat) : wMark S' i w y = wMark S i w y := by
  unfold wMark
  rw [s_promptI h, h 4 (by decide), h 23 (by decide), h 24 (by decide), s_markS h _ _ _ _ _ _ _ (by decide)]
theorem s_byJS (h : sf [28] S S') (i w j : Nat) : ∀ n, byJS S' i w j n = byJS S i w j n
  | 0 => rfl
  | n + 1 => by
    rw [byJS, byJS, s_byJS h i w j n, s_wMark h]
    unfold knS
    rw [h 11 (by decide), h 21 (by decide)]
theorem s_allS (h : sf [28] S S') (i w : Nat) : allS S' i w = allS S i w := by
  unfold allS
  rw [h 15 (by decide), h 16 (by decide), s_byJS h, s_byJS h]
theorem s_rtS (h : sf [28] S S') (i r : Nat) : rtS S' i r = rtS S i r := by
  unfold rtS
  rw [h 22 (by decide), h 26 (by decide), s_allS h, s_allS h]
theorem s_rsS (h : sf [28] S S') (i : Nat) (w : Int32) : ∀ n, rsS S' i w n = rsS S i w n
  | 0 => rfl
  | n + 1 => by rw [rsS, rsS, s_rsS h i w n, s_rtS h]
theorem s_wnS (h : sf [28] S S') (i : Nat) : wnS S' i = wnS S i := by
  unfold wnS isOv
  rw [h 13 (by decide), h 14 (by decide), h 18 (by decide), h 22 (by decide), s_rsS h, s_rsS h]
theorem s_cntW (h : sf [28] S S') (w : Int32) : ∀ n, cntW S' w n = cntW S w n
  | 0 => rfl
  | n + 1 => by rw [cntW, cntW, s_cntW h w n, s_wnS h]
theorem s_vOf (h : sf [28] S S') (i : Nat) (w : Int32) : vOf S' i w = vOf S i w := by
  unfold vOf
  rw [h 16 (by decide), h 18 (by decide), h 21 (by decide), h 22 (by decide), s_rsS h, s_wnS h]
theorem s_ageK (h : sf [28] S S') : ∀ n, sf [28] (ageK S n) (ageK S' n)
  | 0 => h
  | n + 1 => by
    have e := s_ageK h n
    rw [ageK, ageK, e 7 (by decide), e 8 (by decide)]
    exact sf_nb e
theorem s_ageN (h : sf [28] S S') : ∀ n, sf [28] (ageN S n) (ageN S' n)
  | 0 => h
  | n + 1 => by
    rw [ageN, ageN]
    exact s_ageK (s_ageN h n) 3
end Same
