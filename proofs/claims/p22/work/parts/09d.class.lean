/-! ===== maps: writes and new cells ===== -/
theorem xu_xu (M : MH) (a : Nat) (e e' : va_E) : xu (xu M a e) a e' = xu M a e' := by
  funext q
  unfold xu
  split <;> rfl
theorem xu_k {M : MH} {q a : Nat} {e e' : va_E} (hq : M q = none) (h : M a = some e) : xu M q e' a = some e := by
  have hne : a ≠ q := fun z => by rw [z, hq] at h; exact absurd h (by simp)
  rw [xu_n hne]
  exact h
theorem xu_f {M : MH} {q a : Nat} {e e' : va_E} (ha : M a = some e) (h : xu M q e' a ≠ none → False) : False := by
  apply h
  unfold xu
  split
  · simp
  · rw [ha]; simp
theorem xu_none {M : MH} {q a : Nat} {e : va_E} (h : xu M q e a = none) : M a = none ∧ a ≠ q := by
  unfold xu at h
  split at h
  · exact absurd h (by simp)
  · rename_i hne
    exact ⟨h, hne⟩
theorem xu_o {M : MH} {a q : Nat} {e e' e2 : va_E} (ha : M a = some e) (hq : M q = some e2) (hne : e ≠ e2) : xu M q e' a = some e := by
  rw [xu_n (fun z => by rw [z, hq] at ha; exact hne (Option.some.inj ha).symm)]
  exact ha
/-- what kind of cell -/
def kd : va_E → Nat
  | .inr (ci, _) => ci
  | .inl (tc, n, _) => 100 + 100 * tc + n
theorem kd_ne {M : MH} {a b : Nat} {e e' : va_E} (ha : M a = some e) (hb : M b = some e') (h : kd e ≠ kd e') : a ≠ b := fun z => by
  rw [z, hb] at ha
  exact h (by rw [Option.some.inj ha])
/-- all cells but those of the kinds L stay as they are -/
def pr (L : List Nat) (M M' : MH) : Prop := ∀ a e, M a = some e → kd e ∉ L → M' a = some e
theorem pr.rf {L : List Nat} {M : MH} : pr L M M := fun _ _ h _ => h
theorem pr.wr {L : List Nat} {M0 M : MH} {p : Nat} {e e' : va_E} (h : pr L M0 M) (hp : M p = some e) (hk : kd e ∈ L) : pr L M0 (xu M p e') := fun a x ha hx => by
  have h1 := h a x ha hx
  rw [xu_n (kd_ne h1 hp (fun z => hx (z ▸ hk)))]
  exact h1
theorem pr.nw {L : List Nat} {M0 M : MH} {p : Nat} {e' : va_E} (h : pr L M0 M) (hp : M p = none) : pr L M0 (xu M p e') := fun a x ha hx => xu_k hp (h a x ha hx)
theorem pr.tr {L : List Nat} {M0 M M1 : MH} (h : pr L M0 M) (h1 : pr L M M1) : pr L M0 M1 := fun a x ha hx => h1 a x (h a x ha hx) hx
theorem pr.m {L L' : List Nat} {M M1 : MH} (h : pr L M M1) (hL : ∀ k, k ∈ L → k ∈ L') : pr L' M M1 := fun a x ha hx => h a x ha (fun z => hx (hL _ z))
theorem pr.nn {M M1 : MH} {q : Nat} (h : pr [] M M1) (hq : M1 q = none) : M q = none := by
  cases hc : M q with
  | none => rfl
  | some e => rw [h q e hc (by simp)] at hq; exact absurd hq (by simp)
/-! rows -/
def rowF (g : Nat → Nat) (n : Nat) : Nat → Option Nat := fun i => if i < n then some (g i) else none
theorem rowF_0 (g : Nat → Nat) : rowF g 0 = fun _ => none := by
  funext i
  exact if_neg (Nat.not_lt_zero i)
theorem rowF_in {g : Nat → Nat} {n i : Nat} (h : i < n) : rowF g n i = some (g i) := if_pos h
theorem rowF_out {g : Nat → Nat} {n i : Nat} (h : ¬ i < n) : rowF g n i = none := if_neg h
theorem rowF_up {g g' : Nat → Nat} {n q : Nat} (hq : g' n = q) (hg : ∀ i, i < n → g' i = g i) : va_up (rowF g n) n (some q) = rowF g' (n + 1) := by
  funext i
  unfold va_up rowF
  by_cases h : i = n
  · subst h
    rw [if_pos rfl, if_pos (by omega), hq]
  · rw [if_neg h]
    by_cases h2 : i < n
    · rw [if_pos h2, if_pos (by omega), hg i h2]
    · rw [if_neg h2, if_neg (by omega)]
theorem atR_nI {n j : Nat} {f : Nat → Option Nat} (hj : j < n) (hn : n < 2 ^ 31) : atR n f (nI j) = f j := by
  unfold atR
  rw [if_pos ⟨Int32.not_lt.mp (nI_pos (by omega)), nI_lt hj hn⟩, ix_nI (by omega)]
theorem ix_cl (k : Int32) : k.toNatClampNeg = ix k := rfl
/-! a row of strokes -/
def stC (S : ST) (k p : Nat) : va_E := oB 4 [.int (S k p), .int (S k (p + 1)), .int (S k (p + 2)), .int (S k (p + 3))]
/-- the Strokes at x, their row at a, are the d strokes of row k, from p on -/
def stR (M : MH) (x a : Nat) (S : ST) (k p d : Nat) : Prop := M x = some (oB 5 [.ref a, .int (nI d)]) ∧ ∃ f, M a = some (aR 4 8 f) ∧ ∀ i, i < d → ∃ q, f i = some q ∧ M q = some (stC S k (p + 4 * i))
theorem stR.k {M M' : MH} {x a : Nat} {S S' : ST} {k k' p p' d : Nat} {L : List Nat} (h : stR M x a S k p d) (hp : pr L M M') (h5 : 5 ∉ L) (h508 : 508 ∉ L) (h4 : 4 ∉ L) (hS : ∀ j, j < 4 * d → S' k' (p' + j) = S k (p + j)) : stR M' x a S' k' p' d := by
  obtain ⟨h1, f, h2, h3⟩ := h
  refine ⟨hp _ _ h1 h5, f, hp _ _ h2 h508, fun i hi => ?_⟩
  obtain ⟨q, hq, hc⟩ := h3 i hi
  refine ⟨q, hq, ?_⟩
  rw [hp _ _ hc h4]
  unfold stC
  rw [hS (4 * i) (by omega)]
  have e1 := hS (4 * i + 1) (by omega)
  have e2 := hS (4 * i + 2) (by omega)
  have e3 := hS (4 * i + 3) (by omega)
  simp only [← Nat.add_assoc] at e1 e2 e3
  rw [e1, e2, e3]
theorem sum4_d (S : ST) (k p t : Nat) : sum4 (S k p) (S k (p + 1)) (S k (p + 2)) (S k (p + 3)) (S 5 t) (S 5 (t + 1)) (S 5 (t + 2)) (S 5 (t + 3)) = dsum S k p t 4 := by
  show _ = 0 + amI (S k (p + 0) - S 5 (t + 0)) + amI (S k (p + 1) - S 5 (t + 1)) + amI (S k (p + 2) - S 5 (t + 2)) + amI (S k (p + 3) - S 5 (t + 3))
  rw [Int32.zero_add]
  rfl
theorem okC_S {S : ST} {k p : Nat} (h : okC S k p) : okS (S k p) (S k (p + 1)) (S k (p + 2)) (S k (p + 3)) := h
/-- the parts of a stroke -/
def paC (S : ST) (k p t s mn : Nat) (wet : Int32) : va_E := oB 3 [.float (nearS S k p t wet), .float (slopeS S k p t), .float (ordV (nI s) (nI mn))]
/-- what is between two rows of strokes, at number k -/
def btw (M : MH) (S : ST) (kw pw dw g dm : Nat) (wet : Int32) (k : Int32) (v : Option Value) (M' : MH) : Prop :=
  (∃ i q, k = nI i ∧ i < dw ∧ i < dm ∧ M q = none ∧ v = some (.ref q) ∧ M' = xu M q (paC S kw (pw + 4 * i) (24 * g + 4 * i) dw dm wet)) ∨ (¬ (0 ≤ k ∧ k < nI dw ∧ k < nI dm) ∧ v = some .null ∧ M' = M)
theorem atR_or {n : Nat} {f : Nat → Option Nat} {M : MH} {S : ST} {kr p : Nat} (hn : n < 2 ^ 31) (h : ∀ i, i < n → ∃ q, f i = some q ∧ M q = some (stC S kr (p + 4 * i))) (k : Int32) : (∃ i q, k = nI i ∧ i < n ∧ va_rf (atR n f k) = .ref q ∧ M q = some (stC S kr (p + 4 * i))) ∨ (¬ (0 ≤ k ∧ k < nI n) ∧ va_rf (atR n f k) = .null) := by
  by_cases hk : 0 ≤ k ∧ k < nI n
  · have h1 := ix_lt hn hk.1 hk.2
    obtain ⟨q, hq, hc⟩ := h _ h1.2
    refine Or.inl ⟨ix k, q, h1.1, h1.2, ?_, hc⟩
    unfold atR
    rw [if_pos hk, hq]
    rfl
  · refine Or.inr ⟨hk, ?_⟩
    unfold atR
    rw [if_neg hk]
    rfl
/-! the kinds of cells that stay when all but x stay -/
def ex1 (M0 M : MH) (x : Nat) : Prop := ∀ q e, q ≠ x → M0 q = some e → M q = some e
theorem ex1.pr {M0 M : MH} {x k : Nat} {e : va_E} (h : ex1 M0 M x) (hx : M0 x = some e) (hk : kd e = k) : pr [k] M0 M := fun q e' hq he => h q e' (kd_ne hq hx (fun z => he (by rw [z, hk]; exact List.mem_singleton.mpr rfl))) hq
/-- a writing's cell, its row and its parts -/
def wrC (M : MH) (x a : Nat) (S : ST) (kw pw dw g dm : Nat) (wet fo fd : Int32) : Prop := M x = some (oB 7 [.ref a, .int (nI dm), .int fo, .int fd]) ∧ ∃ f, M a = some (aR 3 6 f) ∧ ∀ i, i < 6 → (i < dw ∧ i < dm → ∃ q, f i = some q ∧ M q = some (paC S kw (pw + 4 * i) (24 * g + 4 * i) dw dm wet)) ∧ (¬ (i < dw ∧ i < dm) → f i = none)
/-- its first n parts are there -/
def wrP (M0 M : MH) (x a n : Nat) (S : ST) (kw pw dw g dm : Nat) (wet fo : Int32) : Prop := ex1 M0 M x ∧ M0 a = none ∧ M x = some (oB 7 [.ref a, .int (nI dm), .int fo, .int 0]) ∧ ∃ f, M a = some (aR 3 6 f) ∧ ∀ i, i < n → (i < dw ∧ i < dm → ∃ q, f i = some q ∧ M q = some (paC S kw (pw + 4 * i) (24 * g + 4 * i) dw dm wet)) ∧ (¬ (i < dw ∧ i < dm) → f i = none)
theorem wrP.add {M0 M : MH} {x a n q : Nat} {S : ST} {kw pw dw g dm : Nat} {wet fo : Int32} {f : Nat → Option Nat} (h1 : ex1 M0 M x) (h2 : M0 a = none) (h3 : M x = some (oB 7 [.ref a, .int (nI dm), .int fo, .int 0])) (h4 : M a = some (aR 3 6 f)) (h5 : ∀ i, i < n → (i < dw ∧ i < dm → ∃ q, f i = some q ∧ M q = some (paC S kw (pw + 4 * i) (24 * g + 4 * i) dw dm wet)) ∧ (¬ (i < dw ∧ i < dm) → f i = none)) (hw : n < dw) (hm : n < dm) (hq : M q = none) :
    wrP M0 (xu (xu M q (paC S kw (pw + 4 * n) (24 * g + 4 * n) dw dm wet)) a (aR 3 6 (va_up f n (some q)))) x a (n + 1) S kw pw dw g dm wet fo := by
  have ha : xu M q (paC S kw (pw + 4 * n) (24 * g + 4 * n) dw dm wet) a = some (aR 3 6 f) := xu_k hq h4
  have hz : ∀ {p : Nat} {fs : List Value} {ci : Nat}, M p = some (oB ci fs) → xu (xu M q (paC S kw (pw + 4 * n) (24 * g + 4 * n) dw dm wet)) a (aR 3 6 (va_up f n (some q))) p = some (oB ci fs) := fun hp => xu_o (xu_k hq hp) ha (by simp)
  refine ⟨fun p e hp he => ?_, h2, hz h3, _, xu_s _ _ _, fun i hi => ⟨fun hd => ?_, fun hd => ?_⟩⟩
  · have h := h1 p e hp he
    rw [xu_n (fun z => by rw [z, h2] at he; exact absurd he (by simp))]
    exact xu_k hq h
  · by_cases hin : i = n
    · subst hin
      refine ⟨q, if_pos rfl, ?_⟩
      rw [xu_n (fun z => by rw [z, h4] at hq; exact absurd hq (by simp)), xu_s]
    · obtain ⟨p, hp, hc⟩ := (h5 i (by omega)).1 hd
      exact ⟨p, by unfold va_up; rw [if_neg hin]; exact hp, hz hc⟩
  · have hin : i ≠ n := fun z => hd (by omega)
    unfold va_up
    rw [if_neg hin]
    exact (h5 i (by omega)).2 hd
theorem wrP.add0 {M0 M : MH} {x a n : Nat} {S : ST} {kw pw dw g dm : Nat} {wet fo : Int32} {f : Nat → Option Nat} (h1 : ex1 M0 M x) (h2 : M0 a = none) (h3 : M x = some (oB 7 [.ref a, .int (nI dm), .int fo, .int 0])) (h4 : M a = some (aR 3 6 f)) (h5 : ∀ i, i < n → (i < dw ∧ i < dm → ∃ q, f i = some q ∧ M q = some (paC S kw (pw + 4 * i) (24 * g + 4 * i) dw dm wet)) ∧ (¬ (i < dw ∧ i < dm) → f i = none)) (hn : ¬ (n < dw ∧ n < dm)) :
    wrP M0 (xu M a (aR 3 6 (va_up f n none))) x a (n + 1) S kw pw dw g dm wet fo := by
  have hz : ∀ {p : Nat} {fs : List Value} {ci : Nat}, M p = some (oB ci fs) → xu M a (aR 3 6 (va_up f n none)) p = some (oB ci fs) := fun hp => xu_o hp h4 (by simp)
  refine ⟨fun p e hp he => ?_, h2, hz h3, _, xu_s _ _ _, fun i hi => ⟨fun hd => ?_, fun hd => ?_⟩⟩
  · have h := h1 p e hp he
    rw [xu_n (fun z => by rw [z, h2] at he; exact absurd he (by simp))]
    exact h
  · have hin : i ≠ n := fun z => hn (z ▸ hd)
    obtain ⟨p, hp, hc⟩ := (h5 i (by omega)).1 hd
    exact ⟨p, by unfold va_up; rw [if_neg hin]; exact hp, hz hc⟩
  · unfold va_up
    by_cases hin : i = n
    · rw [if_pos hin]
    · rw [if_neg hin]
      exact (h5 i (by omega)).2 hd
