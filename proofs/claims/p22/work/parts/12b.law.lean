theorem astore_8_7 {X : JC} {cc : ByteArray} {own : String} {Ts : List Cond} {cells slots pc : Nat} {rm : Room} {M : MH} {st : List Value} {a0 a1 a2 a3 a4 a5 a6 a7 : Option Value} (g : jG X cc own Ts 8 rm) {x : Nat} (hd : decode cc pc = .ok (.astore 7, 2)) (k : J X 8 cells slots M [a0, a1, a2, a3, a4, a5, a6, some (.ref x)] st (pc + 2)) : J X 8 cells slots M [a0, a1, a2, a3, a4, a5, a6, a7] (.ref x :: st) pc := j_astore g hd (Nat.le_of_ble_eq_true rfl) k
theorem astore_n_2_1 {X : JC} {cc : ByteArray} {own : String} {Ts : List Cond} {cells slots pc : Nat} {rm : Room} {M : MH} {st : List Value} {a0 a1 : Option Value} (g : jG X cc own Ts 2 rm) {x : Nat} (hd : decode cc pc = .ok (.astore_n 1, 1)) (k : J X 2 cells slots M [a0, some (.ref x)] st (pc + 1)) : J X 2 cells slots M [a0, a1] (.ref x :: st) pc := j_astore_n g 1 hd rfl (Nat.le_of_ble_eq_true rfl) k
theorem astore_n_3_2 {X : JC} {cc : ByteArray} {own : String} {Ts : List Cond} {cells slots pc : Nat} {rm : Room} {M : MH} {st : List Value} {a0 a1 a2 : Option Value} (g : jG X cc own Ts 3 rm) {x : Nat} (hd : decode cc pc = .ok (.astore_n 2, 1)) (k : J X 3 cells slots M [a0, a1, some (.ref x)] st (pc + 1)) : J X 3 cells slots M [a0, a1, a2] (.ref x :: st) pc := j_astore_n g 2 hd rfl (Nat.le_of_ble_eq_true rfl) k



/-! ===== the law's catching methods, over the class's cells ===== -/
theorem jn_same (M M1 : MH) : jn M M M1 = M1 := by
  funext q
  unfold jn
  cases M1 q with
  | some e => rfl
  | none => cases M q <;> rfl
def eX (T e1 e2 e3 : Int32) : Int32 := if T = 1 then e1 else if T = 2 then e2 else e3
def eF (T : Int32) (e1 e2 e3 : UInt32) : UInt32 := if T = 1 then e1 else if T = 2 then e2 else e3
/-- its answer and the new state, or an exception's number and the old one -/
def pI (T e1 e2 e3 R : Int32) (x : Nat) (S : ST) (d ns nd : Nat) (S' : ST) (d' ns' nd' : Nat) : Option Value → MH → Prop := fun v M' => (T = 0 ∧ v = some (.int R) ∧ ∃ al, CRep M' x al S' d' ns' nd') ∨ (T ≠ 0 ∧ v = some (.int (eX T e1 e2 e3)) ∧ ∃ al, CRep M' x al S d ns nd)
def pF (T : Int32) (e1 e2 e3 R : UInt32) (x : Nat) (S : ST) (d ns nd : Nat) (S' : ST) (d' ns' nd' : Nat) : Option Value → MH → Prop := fun v M' => (T = 0 ∧ v = some (.float R) ∧ ∃ al, CRep M' x al S' d' ns' nd') ∨ (T ≠ 0 ∧ v = some (.float (eF T e1 e2 e3)) ∧ ∃ al, CRep M' x al S d ns nd)
theorem pI.ok {T e1 e2 e3 R : Int32} {x : Nat} {S : ST} {d ns nd : Nat} {S' : ST} {d' ns' nd' : Nat} {v : Option Value} {M' : MH} (h : pI T e1 e2 e3 R x S d ns nd S' d' ns' nd' v M') (t : T = 0) : v = some (.int R) ∧ ∃ al, CRep M' x al S' d' ns' nd' := by
  rcases h with h | h
  · exact h.2
  · exact absurd t h.1
theorem pI.no {T e1 e2 e3 R : Int32} {x : Nat} {S : ST} {d ns nd : Nat} {S' : ST} {d' ns' nd' : Nat} {v : Option Value} {M' : MH} (h : pI T e1 e2 e3 R x S d ns nd S' d' ns' nd' v M') (T' : Int32) (t : T = T') (t0 : T' ≠ 0) : v = some (.int (eX T' e1 e2 e3)) ∧ ∃ al, CRep M' x al S d ns nd := by
  rcases h with h | h
  · exact absurd (t.symm.trans h.1) t0
  · rw [t] at h
    exact h.2
theorem pF.ok {T : Int32} {e1 e2 e3 R : UInt32} {x : Nat} {S : ST} {d ns nd : Nat} {S' : ST} {d' ns' nd' : Nat} {v : Option Value} {M' : MH} (h : pF T e1 e2 e3 R x S d ns nd S' d' ns' nd' v M') (t : T = 0) : v = some (.float R) ∧ ∃ al, CRep M' x al S' d' ns' nd' := by
  rcases h with h | h
  · exact h.2
  · exact absurd t h.1
theorem pF.no {T : Int32} {e1 e2 e3 R : UInt32} {x : Nat} {S : ST} {d ns nd : Nat} {S' : ST} {d' ns' nd' : Nat} {v : Option Value} {M' : MH} (h : pF T e1 e2 e3 R x S d ns nd S' d' ns' nd' v M') (T' : Int32) (t : T = T') (t0 : T' ≠ 0) : v = some (.float (eF T' e1 e2 e3)) ∧ ∃ al, CRep M' x al S d ns nd := by
  rcases h with h | h
  · exact absurd (t.symm.trans h.1) t0
  · rw [t] at h
    exact h.2
section PostNo
variable {e1 e2 e3 R : Int32} {f1 f2 f3 Q : UInt32} {T : Int32} {x : Nat} {S : ST} {d ns nd : Nat} {S' : ST} {d' ns' nd' : Nat} {v : Option Value} {M' : MH}
theorem pI.no1 (h : pI T e1 e2 e3 R x S d ns nd S' d' ns' nd' v M') (t : T = 1) : v = some (.int e1) ∧ ∃ al, CRep M' x al S d ns nd := h.no 1 t (by decide)
theorem pI.no2 (h : pI T e1 e2 e3 R x S d ns nd S' d' ns' nd' v M') (t : T = 2) : v = some (.int e2) ∧ ∃ al, CRep M' x al S d ns nd := h.no 2 t (by decide)
theorem pI.no3 (h : pI T e1 e2 e3 R x S d ns nd S' d' ns' nd' v M') (t : T = 3) : v = some (.int e3) ∧ ∃ al, CRep M' x al S d ns nd := h.no 3 t (by decide)
theorem pF.no1 (h : pF T f1 f2 f3 Q x S d ns nd S' d' ns' nd' v M') (t : T = 1) : v = some (.float f1) ∧ ∃ al, CRep M' x al S d ns nd := h.no 1 t (by decide)
theorem pF.no2 (h : pF T f1 f2 f3 Q x S d ns nd S' d' ns' nd' v M') (t : T = 2) : v = some (.float f2) ∧ ∃ al, CRep M' x al S d ns nd := h.no 2 t (by decide)
end PostNo

set_option maxHeartbeats 400000 in
set_option maxRecDepth 100000 in
theorem w_stroke (l : Launch) (D : va_G) (hst : l.stackTraces = false) (M : MH) (x : Nat) (al : Nat → Nat → Nat) (S : ST) (d ns nd : Nat) (hc : CRep M x al S d ns nd) (hk : mOK S d ns nd) (a b c e : Int32) : xW l D yL_stroke wsL_stroke ({ frames := 7, cells := 1, slots := 6, locals := 120 }) 1 6 [.ref x, .int a, .int b, .int c, .int e] M (pI (tStroke S a b c e) (-1000002) (-1000003) 0 (nI (d + 1)) x S d ns nd (nStroke S d a b c e) (d + 1) ns nd) := by
  refine xW_of (cc := cL_stroke) (maxL := 6) (ret := (some .int)) (own := RL) [some (.ref x), some (.int a), some (.int b), some (.int c), some (.int e), none] (by decide) rfl rfl (Nat.le_of_ble_eq_true rfl) rfl rfl rfl ?_
  intro X hXl hXD g r t0 t
  subst hXl
  subst hXD
  refine j_aload_n (pc := 0) g 0 dL_stroke_0 rfl rfl ?_
  refine j_iload_n (pc := 1) g 1 dL_stroke_1 rfl rfl ?_
  refine j_iload_n (pc := 2) g 2 dL_stroke_2 rfl rfl ?_
  refine j_iload_n (pc := 3) g 3 dL_stroke_3 rfl rfl ?_
  refine j_iload (pc := 4) g dL_stroke_4 rfl ?_
  refine j_callTV (pc := 6) (n := 4) g t0 (hc.1.1) rfl (fun _ _ h => h) (k_stroke (jl X) (jD X) hst M x al S d ns nd hc hk.1.1 hk.1.2.1 a b c e) dL_stroke_6 gL_stroke_X8_stroke rfl rfl rfl rfl ⟨rfl, by decide, by decide, by decide +kernel⟩ ⟨Nat.le_of_ble_eq_true rfl, Nat.le_of_ble_eq_true rfl⟩ ⟨Nat.le_of_ble_eq_true rfl, Nat.le_of_ble_eq_true rfl⟩ rfl (Nat.le_of_ble_eq_true rfl) (fun E M1 hE hn => ?_) (fun v M1 hp hn => ?_)
  · rw [jn_same]
    obtain ⟨hE, rfl⟩ := hE
    rcases hE with ⟨t1, rfl⟩ | ⟨t1, rfl⟩ | ⟨t1, rfl⟩
    · refine j_catch (pc := 6) (nm := eIA) g t0 t [] [(0, 9, 15, 19)] 0 9 10 16 rfl (fun z hz => absurd hz (by simp)) rfl (by decide) (by decide +kernel) (by decide) (fun q => ?_)
      refine astore_6_5 (pc := 10) g dL_stroke_10 ?_
      refine j_ldci (pc := 12) g (-1000002) dL_stroke_12 (by decide +kernel) ?_
      exact j_iret (pc := 14) g r rfl rfl (Or.inr ⟨by rw [t1]; decide, by rw [t1]; rfl, al, hc⟩) dL_stroke_14 (Nat.le_of_ble_eq_true rfl) (Nat.le_of_ble_eq_true rfl)
    · refine j_catch (pc := 6) (nm := eIS) g t0 t [(0, 9, 10, 16)] [] 0 9 15 19 rfl (List.forall_mem_cons.mpr ⟨⟨by decide, eIA, by decide +kernel, t0.n3⟩, fun _ h => absurd h List.not_mem_nil⟩) rfl (by decide) (by decide +kernel) (by decide) (fun q => ?_)
      refine astore_6_5 (pc := 15) g dL_stroke_15 ?_
      refine j_ldci (pc := 17) g (-1000003) dL_stroke_17 (by decide +kernel) ?_
      exact j_iret (pc := 19) g r rfl rfl (Or.inr ⟨by rw [t1]; decide, by rw [t1]; rfl, al, hc⟩) dL_stroke_19 (Nat.le_of_ble_eq_true rfl) (Nat.le_of_ble_eq_true rfl)
    · exact absurd t1 (by unfold tStroke; (repeat' split) <;> decide)
  · rw [jn_same]
    obtain ⟨tz, rfl, hR⟩ := hp
    show J X 6 _ _ _ _ [.int (nI (d + 1))] (6 + 3)
    exact j_iret (pc := 9) g r rfl rfl (Or.inl ⟨tz, rfl, al, hR⟩) dL_stroke_9 (Nat.le_of_ble_eq_true rfl) (Nat.le_of_ble_eq_true rfl)

set_option maxHeartbeats 400000 in
set_option maxRecDepth 100000 in
theorem w_sign (l : Launch) (D : va_G) (hst : l.stackTraces = false) (M : MH) (x : Nat) (al : Nat → Nat → Nat) (S : ST) (d ns nd : Nat) (hc : CRep M x al S d ns nd) (hk : mOK S d ns nd) : xW l D yL_sign wsL_sign ({ frames := 7, cells := 2, slots := 10, locals := 117 }) 2 10 [.ref x] M (pI (tSign S) (-1000003) 0 0 (nI ns) x S d ns nd (nSign S d ns) 0 (ns + 1) nd) := by
  refine xW_of (cc := cL_sign) (maxL := 2) (ret := (some .int)) (own := RL) [some (.ref x), none] (by decide) rfl rfl (Nat.le_of_ble_eq_true rfl) rfl rfl rfl ?_
  intro X hXl hXD g r t0 t
  subst hXl
  subst hXD
  refine j_aload_n (pc := 0) g 0 dL_sign_0 rfl rfl ?_
  refine j_callTV (pc := 1) (n := 0) g t0 (hc.1.1) rfl (fun _ _ h => h) (k_sign (jl X) (jD X) hst M x al S d ns nd hc hk.2.2.1.2.2 hk.2.1.2 hk.1.1 hk.1.2.1 hk.2.1.1 ) dL_sign_1 gL_sign_X8_sign rfl rfl rfl rfl ⟨rfl, by decide, by decide, by decide +kernel⟩ ⟨Nat.le_of_ble_eq_true rfl, Nat.le_of_ble_eq_true rfl⟩ ⟨Nat.le_of_ble_eq_true rfl, Nat.le_of_ble_eq_true rfl⟩ rfl (Nat.le_of_ble_eq_true rfl) (fun E M1 hE hn => ?_) (fun v M1 hp hn => ?_)
  · rw [jn_same]
    obtain ⟨hE, rfl⟩ := hE
    rcases hE with ⟨t1, rfl⟩ | ⟨t1, rfl⟩ | ⟨t1, rfl⟩
    · refine j_catch (pc := 1) (nm := eIS) g t0 t [] [] 0 4 5 19 rfl (fun z hz => absurd hz (by simp)) rfl (by decide) (by decide +kernel) (by decide) (fun q => ?_)
      refine astore_n_2_1 (pc := 5) g dL_sign_5 ?_
      refine j_ldci (pc := 6) g (-1000003) dL_sign_6 (by decide +kernel) ?_
      exact j_iret (pc := 8) g r rfl rfl (Or.inr ⟨by rw [t1]; decide, by rw [t1]; rfl, al, hc⟩) dL_sign_8 (Nat.le_of_ble_eq_true rfl) (Nat.le_of_ble_eq_true rfl)
    · exact absurd t1 (by unfold tSign; (repeat' split) <;> decide)
    · exact absurd t1 (by unfold tSign; (repeat' split) <;> decide)
  · rw [jn_same]
    obtain ⟨tz, rfl, al2, hR⟩ := hp
    show J X 2 _ _ _ _ [.int (nI ns)] (1 + 3)
    exact j_iret (pc := 4) g r rfl rfl (Or.inl ⟨tz, rfl, al2, hR⟩) dL_sign_4 (Nat.le_of_ble_eq_true rfl) (Nat.le_of_ble_eq_true rfl)

set_option maxHeartbeats 400000 in
set_option maxRecDepth 100000 in
theorem w_buy (l : Launch) (D : va_G) (hst : l.stackTraces = false) (M : MH) (x : Nat) (al : Nat → Nat → Nat) (S : ST) (d ns nd : Nat) (hc : CRep M x al S d ns nd) (hk : mOK S d ns nd) (its many : Int32) : xW l D yL_buy wsL_buy ({ frames := 7, cells := 1, slots := 6, locals := 119 }) 1 6 [.ref x, .int its, .int many] M (pI (tBuy S its many) (-1000001) (-1000002) (-1000003) (S 6 (ix its) + many) x S d ns nd (nBuy S its many) d ns nd) := by
  refine xW_of (cc := cL_buy) (maxL := 4) (ret := (some .int)) (own := RL) [some (.ref x), some (.int its), some (.int many), none] (by decide) rfl rfl (Nat.le_of_ble_eq_true rfl) rfl rfl rfl ?_
  intro X hXl hXD g r t0 t
  subst hXl
  subst hXD
  refine j_aload_n (pc := 0) g 0 dL_buy_0 rfl rfl ?_
  refine j_iload_n (pc := 1) g 1 dL_buy_1 rfl rfl ?_
  refine j_iload_n (pc := 2) g 2 dL_buy_2 rfl rfl ?_
  refine j_callTV (pc := 3) (n := 2) g t0 (hc.1.1) rfl (fun _ _ h => h) (k_buy (jl X) (jD X) hst M x al S d ns nd hc  its many) dL_buy_3 gL_buy_X8_buy rfl rfl rfl rfl ⟨rfl, by decide, by decide, by decide +kernel⟩ ⟨Nat.le_of_ble_eq_true rfl, Nat.le_of_ble_eq_true rfl⟩ ⟨Nat.le_of_ble_eq_true rfl, Nat.le_of_ble_eq_true rfl⟩ rfl (Nat.le_of_ble_eq_true rfl) (fun E M1 hE hn => ?_) (fun v M1 hp hn => ?_)
  · rw [jn_same]
    obtain ⟨hE, rfl⟩ := hE
    rcases hE with ⟨t1, rfl⟩ | ⟨t1, rfl⟩ | ⟨t1, rfl⟩
    · refine j_catch (pc := 3) (nm := eIO) g t0 t [] [(0, 6, 11, 16), (0, 6, 15, 19)] 0 6 7 30 rfl (fun z hz => absurd hz (by simp)) rfl (by decide) (by decide +kernel) (by decide) (fun q => ?_)
      refine astore_n_4_3 (pc := 7) g dL_buy_7 ?_
      refine j_ldci (pc := 8) g (-1000001) dL_buy_8 (by decide +kernel) ?_
      exact j_iret (pc := 10) g r rfl rfl (Or.inr ⟨by rw [t1]; decide, by rw [t1]; rfl, al, hc⟩) dL_buy_10 (Nat.le_of_ble_eq_true rfl) (Nat.le_of_ble_eq_true rfl)
    · refine j_catch (pc := 3) (nm := eIA) g t0 t [(0, 6, 7, 30)] [(0, 6, 15, 19)] 0 6 11 16 rfl (List.forall_mem_cons.mpr ⟨⟨by decide, eIO, by decide +kernel, t0.n1⟩, fun _ h => absurd h List.not_mem_nil⟩) rfl (by decide) (by decide +kernel) (by decide) (fun q => ?_)
      refine astore_n_4_3 (pc := 11) g dL_buy_11 ?_
      refine j_ldci (pc := 12) g (-1000002) dL_buy_12 (by decide +kernel) ?_
      exact j_iret (pc := 14) g r rfl rfl (Or.inr ⟨by rw [t1]; decide, by rw [t1]; rfl, al, hc⟩) dL_buy_14 (Nat.le_of_ble_eq_true rfl) (Nat.le_of_ble_eq_true rfl)
    · refine j_catch (pc := 3) (nm := eIS) g t0 t [(0, 6, 7, 30), (0, 6, 11, 16)] [] 0 6 15 19 rfl (List.forall_mem_cons.mpr ⟨⟨by decide, eIO, by decide +kernel, t0.n2⟩, List.forall_mem_cons.mpr ⟨⟨by decide, eIA, by decide +kernel, t0.n3⟩, fun _ h => absurd h List.not_mem_nil⟩⟩) rfl (by decide) (by decide +kernel) (by decide) (fun q => ?_)
      refine astore_n_4_3 (pc := 15) g dL_buy_15 ?_
      refine j_ldci (pc := 16) g (-1000003) dL_buy_16 (by decide +kernel) ?_
      exact j_iret (pc := 18) g r rfl rfl (Or.inr ⟨by rw [t1]; decide, by rw [t1]; rfl, al, hc⟩) dL_buy_18 (Nat.le_of_ble_eq_true rfl) (Nat.le_of_ble_eq_true rfl)
  · rw [jn_same]
    obtain ⟨tz, rfl, hR⟩ := hp
    show J X 4 _ _ _ _ [.int (S 6 (ix its) + many)] (3 + 3)
    exact j_iret (pc := 6) g r rfl rfl (Or.inl ⟨tz, rfl, al, hR⟩) dL_buy_6 (Nat.le_of_ble_eq_true rfl) (Nat.le_of_ble_eq_true rfl)

set_option maxHeartbeats 400000 in
set_option maxRecDepth 100000 in
theorem w_rise (l : Launch) (D : va_G) (hst : l.stackTraces = false) (M : MH) (x : Nat) (al : Nat → Nat → Nat) (S : ST) (d ns nd : Nat) (hc : CRep M x al S d ns nd) (hk : mOK S d ns nd) (its b : Int32) : xW l D yL_rise wsL_rise ({ frames := 7, cells := 1, slots := 6, locals := 119 }) 1 6 [.ref x, .int its, .int b] M (pI (tRise its b) (-1000001) (-1000002) 0 (S 7 (ix its)) x S d ns nd (nRise S its b) d ns nd) := by
  refine xW_of (cc := cL_rise) (maxL := 4) (ret := (some .int)) (own := RL) [some (.ref x), some (.int its), some (.int b), none] (by decide) rfl rfl (Nat.le_of_ble_eq_true rfl) rfl rfl rfl ?_
  intro X hXl hXD g r t0 t
  subst hXl
  subst hXD
  refine j_aload_n (pc := 0) g 0 dL_rise_0 rfl rfl ?_
  refine j_iload_n (pc := 1) g 1 dL_rise_1 rfl rfl ?_
  refine j_iload_n (pc := 2) g 2 dL_rise_2 rfl rfl ?_
  refine j_callTV (pc := 3) (n := 2) g t0 (hc.1.1) rfl (fun _ _ h => h) (k_rise (jl X) (jD X) hst M x al S d ns nd hc  its b) dL_rise_3 gL_rise_X8_rise rfl rfl rfl rfl ⟨rfl, by decide, by decide, by decide +kernel⟩ ⟨Nat.le_of_ble_eq_true rfl, Nat.le_of_ble_eq_true rfl⟩ ⟨Nat.le_of_ble_eq_true rfl, Nat.le_of_ble_eq_true rfl⟩ rfl (Nat.le_of_ble_eq_true rfl) (fun E M1 hE hn => ?_) (fun v M1 hp hn => ?_)
  · rw [jn_same]
    obtain ⟨hE, rfl⟩ := hE
    rcases hE with ⟨t1, rfl⟩ | ⟨t1, rfl⟩ | ⟨t1, rfl⟩
    · refine j_catch (pc := 3) (nm := eIO) g t0 t [] [(0, 6, 11, 16)] 0 6 7 30 rfl (fun z hz => absurd hz (by simp)) rfl (by decide) (by decide +kernel) (by decide) (fun q => ?_)
      refine astore_n_4_3 (pc := 7) g dL_rise_7 ?_
      refine j_ldci (pc := 8) g (-1000001) dL_rise_8 (by decide +kernel) ?_
      exact j_iret (pc := 10) g r rfl rfl (Or.inr ⟨by rw [t1]; decide, by rw [t1]; rfl, al, hc⟩) dL_rise_10 (Nat.le_of_ble_eq_true rfl) (Nat.le_of_ble_eq_true rfl)
    · refine j_catch (pc := 3) (nm := eIA) g t0 t [(0, 6, 7, 30)] [] 0 6 11 16 rfl (List.forall_mem_cons.mpr ⟨⟨by decide, eIO, by decide +kernel, t0.n1⟩, fun _ h => absurd h List.not_mem_nil⟩) rfl (by decide) (by decide +kernel) (by decide) (fun q => ?_)
      refine astore_n_4_3 (pc := 11) g dL_rise_11 ?_
      refine j_ldci (pc := 12) g (-1000002) dL_rise_12 (by decide +kernel) ?_
      exact j_iret (pc := 14) g r rfl rfl (Or.inr ⟨by rw [t1]; decide, by rw [t1]; rfl, al, hc⟩) dL_rise_14 (Nat.le_of_ble_eq_true rfl) (Nat.le_of_ble_eq_true rfl)
    · exact absurd t1 (by unfold tRise; (repeat' split) <;> decide)
  · rw [jn_same]
    obtain ⟨tz, rfl, hR⟩ := hp
    show J X 4 _ _ _ _ [.int (S 7 (ix its))] (3 + 3)
    exact j_iret (pc := 6) g r rfl rfl (Or.inl ⟨tz, rfl, al, hR⟩) dL_rise_6 (Nat.le_of_ble_eq_true rfl) (Nat.le_of_ble_eq_true rfl)

set_option maxHeartbeats 400000 in
set_option maxRecDepth 100000 in
theorem w_style (l : Launch) (D : va_G) (hst : l.stackTraces = false) (M : MH) (x : Nat) (al : Nat → Nat → Nat) (S : ST) (d ns nd : Nat) (hc : CRep M x al S d ns nd) (hk : mOK S d ns nd) (its a b c : Int32) : xW l D yL_style wsL_style ({ frames := 7, cells := 1, slots := 6, locals := 121 }) 1 6 [.ref x, .int its, .int a, .int b, .int c] M (pI (tStyle its a b c) (-1000001) (-1000002) 0 (0) x S d ns nd (nStyle S its a b c) d ns nd) := by
  refine xW_of (cc := cL_style) (maxL := 6) (ret := (some .int)) (own := RL) [some (.ref x), some (.int its), some (.int a), some (.int b), some (.int c), none] (by decide) rfl rfl (Nat.le_of_ble_eq_true rfl) rfl rfl rfl ?_
  intro X hXl hXD g r t0 t
  subst hXl
  subst hXD
  refine j_aload_n (pc := 0) g 0 dL_style_0 rfl rfl ?_
  refine j_iload_n (pc := 1) g 1 dL_style_1 rfl rfl ?_
  refine j_iload_n (pc := 2) g 2 dL_style_2 rfl rfl ?_
  refine j_iload_n (pc := 3) g 3 dL_style_3 rfl rfl ?_
  refine j_iload (pc := 4) g dL_style_4 rfl ?_
  refine j_callTV (pc := 6) (n := 4) g t0 (hc.1.1) rfl (fun _ _ h => h) (k_style (jl X) (jD X) hst M x al S d ns nd hc  its a b c) dL_style_6 gL_style_X8_style rfl rfl rfl rfl ⟨rfl, by decide, by decide, by decide +kernel⟩ ⟨Nat.le_of_ble_eq_true rfl, Nat.le_of_ble_eq_true rfl⟩ ⟨Nat.le_of_ble_eq_true rfl, Nat.le_of_ble_eq_true rfl⟩ rfl (Nat.le_of_ble_eq_true rfl) (fun E M1 hE hn => ?_) (fun v M1 hp hn => ?_)
  · rw [jn_same]
    obtain ⟨hE, rfl⟩ := hE
    rcases hE with ⟨t1, rfl⟩ | ⟨t1, rfl⟩ | ⟨t1, rfl⟩
    · refine j_catch (pc := 6) (nm := eIO) g t0 t [] [(0, 10, 16, 16)] 0 10 11 30 rfl (fun z hz => absurd hz (by simp)) rfl (by decide) (by decide +kernel) (by decide) (fun q => ?_)
      refine astore_6_5 (pc := 11) g dL_style_11 ?_
      refine j_ldci (pc := 13) g (-1000001) dL_style_13 (by decide +kernel) ?_
      exact j_iret (pc := 15) g r rfl rfl (Or.inr ⟨by rw [t1]; decide, by rw [t1]; rfl, al, hc⟩) dL_style_15 (Nat.le_of_ble_eq_true rfl) (Nat.le_of_ble_eq_true rfl)
    · refine j_catch (pc := 6) (nm := eIA) g t0 t [(0, 10, 11, 30)] [] 0 10 16 16 rfl (List.forall_mem_cons.mpr ⟨⟨by decide, eIO, by decide +kernel, t0.n1⟩, fun _ h => absurd h List.not_mem_nil⟩) rfl (by decide) (by decide +kernel) (by decide) (fun q => ?_)
      refine astore_6_5 (pc := 16) g dL_style_16 ?_
      refine j_ldci (pc := 18) g (-1000002) dL_style_18 (by decide +kernel) ?_
      exact j_iret (pc := 20) g r rfl rfl (Or.inr ⟨by rw [t1]; decide, by rw [t1]; rfl, al, hc⟩) dL_style_20 (Nat.le_of_ble_eq_true rfl) (Nat.le_of_ble_eq_true rfl)
    · exact absurd t1 (by unfold tStyle; (repeat' split) <;> decide)
  · rw [jn_same]
    obtain ⟨tz, rfl, hR⟩ := hp
    show J X 6 _ _ _ _ [] (6 + 3)
    refine j_iconst (pc := 9) g (0) dL_style_9 (by decide) ?_
    exact j_iret (pc := 10) g r rfl rfl (Or.inl ⟨tz, rfl, al, hR⟩) dL_style_10 (Nat.le_of_ble_eq_true rfl) (Nat.le_of_ble_eq_true rfl)

set_option maxHeartbeats 400000 in
set_option maxRecDepth 100000 in
theorem w_learn (l : Launch) (D : va_G) (hst : l.stackTraces = false) (M : MH) (x : Nat) (al : Nat → Nat → Nat) (S : ST) (d ns nd : Nat) (hc : CRep M x al S d ns nd) (hk : mOK S d ns nd) (w s : Int32) : xW l D yL_learn wsL_learn ({ frames := 7, cells := 1, slots := 6, locals := 119 }) 1 6 [.ref x, .int w, .int s] M (pI (tLearn S w s) (-1000001) (-1000003) 0 (cntL (nLearn S w s) (ix w) 4) x S d ns nd (nLearn S w s) d ns nd) := by
  refine xW_of (cc := cL_learn) (maxL := 4) (ret := (some .int)) (own := RL) [some (.ref x), some (.int w), some (.int s), none] (by decide) rfl rfl (Nat.le_of_ble_eq_true rfl) rfl rfl rfl ?_
  intro X hXl hXD g r t0 t
  subst hXl
  subst hXD
  refine j_aload_n (pc := 0) g 0 dL_learn_0 rfl rfl ?_
  refine j_iload_n (pc := 1) g 1 dL_learn_1 rfl rfl ?_
  refine j_iload_n (pc := 2) g 2 dL_learn_2 rfl rfl ?_
  refine j_callTV (pc := 3) (n := 2) g t0 (hc.1.1) rfl (fun _ _ h => h) (k_learn (jl X) (jD X) hst M x al S d ns nd hc hk.2.2.2.2.1.2 w s) dL_learn_3 gL_learn_X8_learn rfl rfl rfl rfl ⟨rfl, by decide, by decide, by decide +kernel⟩ ⟨Nat.le_of_ble_eq_true rfl, Nat.le_of_ble_eq_true rfl⟩ ⟨Nat.le_of_ble_eq_true rfl, Nat.le_of_ble_eq_true rfl⟩ rfl (Nat.le_of_ble_eq_true rfl) (fun E M1 hE hn => ?_) (fun v M1 hp hn => ?_)
  · rw [jn_same]
    obtain ⟨hE, rfl⟩ := hE
    rcases hE with ⟨t1, rfl⟩ | ⟨t1, rfl⟩ | ⟨t1, rfl⟩
    · refine j_catch (pc := 3) (nm := eIO) g t0 t [] [(0, 6, 11, 19)] 0 6 7 30 rfl (fun z hz => absurd hz (by simp)) rfl (by decide) (by decide +kernel) (by decide) (fun q => ?_)
      refine astore_n_4_3 (pc := 7) g dL_learn_7 ?_
      refine j_ldci (pc := 8) g (-1000001) dL_learn_8 (by decide +kernel) ?_
      exact j_iret (pc := 10) g r rfl rfl (Or.inr ⟨by rw [t1]; decide, by rw [t1]; rfl, al, hc⟩) dL_learn_10 (Nat.le_of_ble_eq_true rfl) (Nat.le_of_ble_eq_true rfl)
    · refine j_catch (pc := 3) (nm := eIS) g t0 t [(0, 6, 7, 30)] [] 0 6 11 19 rfl (List.forall_mem_cons.mpr ⟨⟨by decide, eIO, by decide +kernel, t0.n2⟩, fun _ h => absurd h List.not_mem_nil⟩) rfl (by decide) (by decide +kernel) (by decide) (fun q => ?_)
      refine astore_n_4_3 (pc := 11) g dL_learn_11 ?_
      refine j_ldci (pc := 12) g (-1000003) dL_learn_12 (by decide +kernel) ?_
      exact j_iret (pc := 14) g r rfl rfl (Or.inr ⟨by rw [t1]; decide, by rw [t1]; rfl, al, hc⟩) dL_learn_14 (Nat.le_of_ble_eq_true rfl) (Nat.le_of_ble_eq_true rfl)
    · exact absurd t1 (by unfold tLearn; (repeat' split) <;> decide)
  · rw [jn_same]
    obtain ⟨tz, rfl, hR⟩ := hp
    show J X 4 _ _ _ _ [.int (cntL (nLearn S w s) (ix w) 4)] (3 + 3)
    exact j_iret (pc := 6) g r rfl rfl (Or.inl ⟨tz, rfl, al, hR⟩) dL_learn_6 (Nat.le_of_ble_eq_true rfl) (Nat.le_of_ble_eq_true rfl)

set_option maxHeartbeats 400000 in
set_option maxRecDepth 100000 in
theorem w_pass (l : Launch) (D : va_G) (hst : l.stackTraces = false) (M : MH) (x : Nat) (al : Nat → Nat → Nat) (S : ST) (d ns nd : Nat) (hc : CRep M x al S d ns nd) (hk : mOK S d ns nd) (n : Int32) : xW l D yL_pass wsL_pass ({ frames := 7, cells := 1, slots := 6, locals := 118 }) 1 6 [.ref x, .int n] M (pI (tPass S n) (-1000002) (-1000003) 0 (S 0 0 + n) x S d ns nd (nPass S n) d ns nd) := by
  refine xW_of (cc := cL_pass) (maxL := 3) (ret := (some .int)) (own := RL) [some (.ref x), some (.int n), none] (by decide) rfl rfl (Nat.le_of_ble_eq_true rfl) rfl rfl rfl ?_
  intro X hXl hXD g r t0 t
  subst hXl
  subst hXD
  refine j_aload_n (pc := 0) g 0 dL_pass_0 rfl rfl ?_
  refine j_iload_n (pc := 1) g 1 dL_pass_1 rfl rfl ?_
  refine j_callTV (pc := 2) (n := 1) g t0 (hc.1.1) rfl (fun _ _ h => h) (k_pass (jl X) (jD X) hst M x al S d ns nd hc hk.2.2.2.1 n) dL_pass_2 gL_pass_X8_pass rfl rfl rfl rfl ⟨rfl, by decide, by decide, by decide +kernel⟩ ⟨Nat.le_of_ble_eq_true rfl, Nat.le_of_ble_eq_true rfl⟩ ⟨Nat.le_of_ble_eq_true rfl, Nat.le_of_ble_eq_true rfl⟩ rfl (Nat.le_of_ble_eq_true rfl) (fun E M1 hE hn => ?_) (fun v M1 hp hn => ?_)
  · rw [jn_same]
    obtain ⟨hE, rfl⟩ := hE
    rcases hE with ⟨t1, rfl⟩ | ⟨t1, rfl⟩ | ⟨t1, rfl⟩
    · refine j_catch (pc := 2) (nm := eIA) g t0 t [] [(0, 5, 10, 19)] 0 5 6 16 rfl (fun z hz => absurd hz (by simp)) rfl (by decide) (by decide +kernel) (by decide) (fun q => ?_)
      refine astore_n_3_2 (pc := 6) g dL_pass_6 ?_
      refine j_ldci (pc := 7) g (-1000002) dL_pass_7 (by decide +kernel) ?_
      exact j_iret (pc := 9) g r rfl rfl (Or.inr ⟨by rw [t1]; decide, by rw [t1]; rfl, al, hc⟩) dL_pass_9 (Nat.le_of_ble_eq_true rfl) (Nat.le_of_ble_eq_true rfl)
    · refine j_catch (pc := 2) (nm := eIS) g t0 t [(0, 5, 6, 16)] [] 0 5 10 19 rfl (List.forall_mem_cons.mpr ⟨⟨by decide, eIA, by decide +kernel, t0.n3⟩, fun _ h => absurd h List.not_mem_nil⟩) rfl (by decide) (by decide +kernel) (by decide) (fun q => ?_)
      refine astore_n_3_2 (pc := 10) g dL_pass_10 ?_
      refine j_ldci (pc := 11) g (-1000003) dL_pass_11 (by decide +kernel) ?_
      exact j_iret (pc := 13) g r rfl rfl (Or.inr ⟨by rw [t1]; decide, by rw [t1]; rfl, al, hc⟩) dL_pass_13 (Nat.le_of_ble_eq_true rfl) (Nat.le_of_ble_eq_true rfl)
    · exact absurd t1 (by unfold tPass; (repeat' split) <;> decide)
  · rw [jn_same]
    obtain ⟨tz, rfl, hR⟩ := hp
    show J X 3 _ _ _ _ [.int (S 0 0 + n)] (2 + 3)
    exact j_iret (pc := 5) g r rfl rfl (Or.inl ⟨tz, rfl, al, hR⟩) dL_pass_5 (Nat.le_of_ble_eq_true rfl) (Nat.le_of_ble_eq_true rfl)

set_option maxHeartbeats 400000 in
set_option maxRecDepth 100000 in
theorem w_duel (l : Launch) (D : va_G) (hst : l.stackTraces = false) (M : MH) (x : Nat) (al : Nat → Nat → Nat) (S : ST) (d ns nd : Nat) (hc : CRep M x al S d ns nd) (hk : mOK S d ns nd) (a b j q r9 w : Int32) : xW l D yL_duel wsL_duel ({ frames := 7, cells := 3, slots := 25, locals := 124 }) 3 25 [.ref x, .int a, .int b, .int j, .int q, .int r9, .int w] M (pI (tDuel S a b j q r9 w) (-1000001) (-1000002) (-1000003) (nI nd) x S d ns nd (nDuel S nd a b j q r9 w) d ns (nd + 1)) := by
  refine xW_of (cc := cL_duel) (maxL := 8) (ret := (some .int)) (own := RL) [some (.ref x), some (.int a), some (.int b), some (.int j), some (.int q), some (.int r9), some (.int w), none] (by decide) rfl rfl (Nat.le_of_ble_eq_true rfl) rfl rfl rfl ?_
  intro X hXl hXD g r t0 t
  subst hXl
  subst hXD
  refine j_aload_n (pc := 0) g 0 dL_duel_0 rfl rfl ?_
  refine j_iload_n (pc := 1) g 1 dL_duel_1 rfl rfl ?_
  refine j_iload_n (pc := 2) g 2 dL_duel_2 rfl rfl ?_
  refine j_iload_n (pc := 3) g 3 dL_duel_3 rfl rfl ?_
  refine j_iload (pc := 4) g dL_duel_4 rfl ?_
  refine j_iload (pc := 6) g dL_duel_6 rfl ?_
  refine j_iload (pc := 8) g dL_duel_8 rfl ?_
  refine j_callTV (pc := 10) (n := 6) g t0 (hc.1.1) rfl (fun _ _ h => h) (k_duel (jl X) (jD X) hst M x al S d ns nd hc hk.2.1.1 hk.2.1.2.2.1 hk.2.2.1.1 hk.2.2.1.2.1 (hk.2.2.2.2.2.2.1 nd (Nat.le_refl _)) a b j q r9 w) dL_duel_10 gL_duel_X8_duel rfl rfl rfl rfl ⟨rfl, by decide, by decide, by decide +kernel⟩ ⟨Nat.le_of_ble_eq_true rfl, Nat.le_of_ble_eq_true rfl⟩ ⟨Nat.le_of_ble_eq_true rfl, Nat.le_of_ble_eq_true rfl⟩ rfl (Nat.le_of_ble_eq_true rfl) (fun E M1 hE hn => ?_) (fun v M1 hp hn => ?_)
  · rw [jn_same]
    obtain ⟨hE, rfl⟩ := hE
    rcases hE with ⟨t1, rfl⟩ | ⟨t1, rfl⟩ | ⟨t1, rfl⟩
    · refine j_catch (pc := 10) (nm := eIO) g t0 t [] [(0, 13, 19, 16), (0, 13, 24, 19)] 0 13 14 30 rfl (fun z hz => absurd hz (by simp)) rfl (by decide) (by decide +kernel) (by decide) (fun q => ?_)
      refine astore_8_7 (pc := 14) g dL_duel_14 ?_
      refine j_ldci (pc := 16) g (-1000001) dL_duel_16 (by decide +kernel) ?_
      exact j_iret (pc := 18) g r rfl rfl (Or.inr ⟨by rw [t1]; decide, by rw [t1]; rfl, al, hc⟩) dL_duel_18 (Nat.le_of_ble_eq_true rfl) (Nat.le_of_ble_eq_true rfl)
    · refine j_catch (pc := 10) (nm := eIA) g t0 t [(0, 13, 14, 30)] [(0, 13, 24, 19)] 0 13 19 16 rfl (List.forall_mem_cons.mpr ⟨⟨by decide, eIO, by decide +kernel, t0.n1⟩, fun _ h => absurd h List.not_mem_nil⟩) rfl (by decide) (by decide +kernel) (by decide) (fun q => ?_)
      refine astore_8_7 (pc := 19) g dL_duel_19 ?_
      refine j_ldci (pc := 21) g (-1000002) dL_duel_21 (by decide +kernel) ?_
      exact j_iret (pc := 23) g r rfl rfl (Or.inr ⟨by rw [t1]; decide, by rw [t1]; rfl, al, hc⟩) dL_duel_23 (Nat.le_of_ble_eq_true rfl) (Nat.le_of_ble_eq_true rfl)
    · refine j_catch (pc := 10) (nm := eIS) g t0 t [(0, 13, 14, 30), (0, 13, 19, 16)] [] 0 13 24 19 rfl (List.forall_mem_cons.mpr ⟨⟨by decide, eIO, by decide +kernel, t0.n2⟩, List.forall_mem_cons.mpr ⟨⟨by decide, eIA, by decide +kernel, t0.n3⟩, fun _ h => absurd h List.not_mem_nil⟩⟩) rfl (by decide) (by decide +kernel) (by decide) (fun q => ?_)
      refine astore_8_7 (pc := 24) g dL_duel_24 ?_
      refine j_ldci (pc := 26) g (-1000003) dL_duel_26 (by decide +kernel) ?_
      exact j_iret (pc := 28) g r rfl rfl (Or.inr ⟨by rw [t1]; decide, by rw [t1]; rfl, al, hc⟩) dL_duel_28 (Nat.le_of_ble_eq_true rfl) (Nat.le_of_ble_eq_true rfl)
  · rw [jn_same]
    obtain ⟨tz, rfl, al2, hR⟩ := hp
    show J X 8 _ _ _ _ [.int (nI nd)] (10 + 3)
    exact j_iret (pc := 13) g r rfl rfl (Or.inl ⟨tz, rfl, al2, hR⟩) dL_duel_13 (Nat.le_of_ble_eq_true rfl) (Nat.le_of_ble_eq_true rfl)

set_option maxHeartbeats 400000 in
set_option maxRecDepth 100000 in
theorem w_hand (l : Launch) (D : va_G) (hst : l.stackTraces = false) (M : MH) (x : Nat) (al : Nat → Nat → Nat) (S : ST) (d ns nd : Nat) (hc : CRep M x al S d ns nd) (hk : mOK S d ns nd) (its s : Int32) : xW l D yL_hand wsL_hand ({ frames := 7, cells := 8, slots := 28, locals := 125 }) 8 28 [.ref x, .int its, .int s] M (pI (tHand S its s) (-1000001) (-1000002) (-1000003) (S 9 0 + 1) x S d ns nd (nHand S (ix its) (ix (S 17 (ix its))) (ix (S 22 (ix its))) d s) 0 ns nd) := by
  refine xW_of (cc := cL_hand) (maxL := 4) (ret := (some .int)) (own := RL) [some (.ref x), some (.int its), some (.int s), none] (by decide) rfl rfl (Nat.le_of_ble_eq_true rfl) rfl rfl rfl ?_
  intro X hXl hXD g r t0 t
  subst hXl
  subst hXD
  refine j_aload_n (pc := 0) g 0 dL_hand_0 rfl rfl ?_
  refine j_iload_n (pc := 1) g 1 dL_hand_1 rfl rfl ?_
  refine j_iload_n (pc := 2) g 2 dL_hand_2 rfl rfl ?_
  refine j_callTV (pc := 3) (n := 2) g t0 (hc.1.1) rfl (fun _ _ h => h) (k_hand (jl X) (jD X) hst M x al S d ns nd hc hk.2.2.1.1 hk.2.2.1.2.1 hk.2.2.1.2.2 hk.2.1.2 hk.1.1 hk.1.2.1 hk.1.2.2 (fun i hi => (hk.2.2.2.1 i hi).1) (fun i hi h9 => hk.2.2.2.2.2.2.2 i _ (by have := hk.2.2.1.2.1; omega) h9 (Nat.le_refl _)) its s) dL_hand_3 gL_hand_X8_hand rfl rfl rfl rfl ⟨rfl, by decide, by decide, by decide +kernel⟩ ⟨Nat.le_of_ble_eq_true rfl, Nat.le_of_ble_eq_true rfl⟩ ⟨Nat.le_of_ble_eq_true rfl, Nat.le_of_ble_eq_true rfl⟩ rfl (Nat.le_of_ble_eq_true rfl) (fun E M1 hE hn => ?_) (fun v M1 hp hn => ?_)
  · rw [jn_same]
    obtain ⟨hE, rfl⟩ := hE
    rcases hE with ⟨t1, rfl⟩ | ⟨t1, rfl⟩ | ⟨t1, rfl⟩
    · refine j_catch (pc := 3) (nm := eIO) g t0 t [] [(0, 6, 11, 16), (0, 6, 15, 19)] 0 6 7 30 rfl (fun z hz => absurd hz (by simp)) rfl (by decide) (by decide +kernel) (by decide) (fun q => ?_)
      refine astore_n_4_3 (pc := 7) g dL_hand_7 ?_
      refine j_ldci (pc := 8) g (-1000001) dL_hand_8 (by decide +kernel) ?_
      exact j_iret (pc := 10) g r rfl rfl (Or.inr ⟨by rw [t1]; decide, by rw [t1]; rfl, al, hc⟩) dL_hand_10 (Nat.le_of_ble_eq_true rfl) (Nat.le_of_ble_eq_true rfl)
    · refine j_catch (pc := 3) (nm := eIA) g t0 t [(0, 6, 7, 30)] [(0, 6, 15, 19)] 0 6 11 16 rfl (List.forall_mem_cons.mpr ⟨⟨by decide, eIO, by decide +kernel, t0.n1⟩, fun _ h => absurd h List.not_mem_nil⟩) rfl (by decide) (by decide +kernel) (by decide) (fun q => ?_)
      refine astore_n_4_3 (pc := 11) g dL_hand_11 ?_
      refine j_ldci (pc := 12) g (-1000002) dL_hand_12 (by decide +kernel) ?_
      exact j_iret (pc := 14) g r rfl rfl (Or.inr ⟨by rw [t1]; decide, by rw [t1]; rfl, al, hc⟩) dL_hand_14 (Nat.le_of_ble_eq_true rfl) (Nat.le_of_ble_eq_true rfl)
    · refine j_catch (pc := 3) (nm := eIS) g t0 t [(0, 6, 7, 30), (0, 6, 11, 16)] [] 0 6 15 19 rfl (List.forall_mem_cons.mpr ⟨⟨by decide, eIO, by decide +kernel, t0.n2⟩, List.forall_mem_cons.mpr ⟨⟨by decide, eIA, by decide +kernel, t0.n3⟩, fun _ h => absurd h List.not_mem_nil⟩⟩) rfl (by decide) (by decide +kernel) (by decide) (fun q => ?_)
      refine astore_n_4_3 (pc := 15) g dL_hand_15 ?_
      refine j_ldci (pc := 16) g (-1000003) dL_hand_16 (by decide +kernel) ?_
      exact j_iret (pc := 18) g r rfl rfl (Or.inr ⟨by rw [t1]; decide, by rw [t1]; rfl, al, hc⟩) dL_hand_18 (Nat.le_of_ble_eq_true rfl) (Nat.le_of_ble_eq_true rfl)
  · rw [jn_same]
    obtain ⟨tz, rfl, al2, hR⟩ := hp
    show J X 4 _ _ _ _ [.int (S 9 0 + 1)] (3 + 3)
    exact j_iret (pc := 6) g r rfl rfl (Or.inl ⟨tz, rfl, al2, hR⟩) dL_hand_6 (Nat.le_of_ble_eq_true rfl) (Nat.le_of_ble_eq_true rfl)

set_option maxHeartbeats 400000 in
set_option maxRecDepth 100000 in
theorem w_look (l : Launch) (D : va_G) (hst : l.stackTraces = false) (M : MH) (x : Nat) (al : Nat → Nat → Nat) (S : ST) (d ns nd : Nat) (hc : CRep M x al S d ns nd) (hk : mOK S d ns nd) (its k b : Int32) : xW l D yL_look wsL_look ({ frames := 7, cells := 1, slots := 6, locals := 121 }) 1 6 [.ref x, .int its, .int k, .int b] M (pI (tLook S its k b) (-1000001) 0 0 (if S 25 (wI (ix its) (ix k) b) = 0 then 0 else 1) x S d ns nd (nLook S its k b) d ns nd) := by
  refine xW_of (cc := cL_look) (maxL := 5) (ret := (some .int)) (own := RL) [some (.ref x), some (.int its), some (.int k), some (.int b), none] (by decide) rfl rfl (Nat.le_of_ble_eq_true rfl) rfl rfl rfl ?_
  intro X hXl hXD g r t0 t
  subst hXl
  subst hXD
  refine j_aload_n (pc := 0) g 0 dL_look_0 rfl rfl ?_
  refine j_iload_n (pc := 1) g 1 dL_look_1 rfl rfl ?_
  refine j_iload_n (pc := 2) g 2 dL_look_2 rfl rfl ?_
  refine j_iload_n (pc := 3) g 3 dL_look_3 rfl rfl ?_
  refine j_callTV (pc := 4) (n := 3) g t0 (hc.1.1) rfl (fun _ _ h => h) (k_look (jl X) (jD X) hst M x al S d ns nd hc hk.2.2.1.1 hk.2.2.1.2.1 (fun i hi => (hk.2.2.1.2.2 i hi).1) hk.2.2.2.2.2.1 its k b) dL_look_4 gL_look_X8_look rfl rfl rfl rfl ⟨rfl, by decide, by decide, by decide +kernel⟩ ⟨Nat.le_of_ble_eq_true rfl, Nat.le_of_ble_eq_true rfl⟩ ⟨Nat.le_of_ble_eq_true rfl, Nat.le_of_ble_eq_true rfl⟩ rfl (Nat.le_of_ble_eq_true rfl) (fun E M1 hE hn => ?_) (fun v M1 hp hn => ?_)
  · rw [jn_same]
    obtain ⟨hE, rfl⟩ := hE
    rcases hE with ⟨t1, rfl⟩ | ⟨t1, rfl⟩ | ⟨t1, rfl⟩
    · refine j_catch (pc := 4) (nm := eIO) g t0 t [] [] 0 15 16 30 rfl (fun z hz => absurd hz (by simp)) rfl (by decide) (by decide +kernel) (by decide) (fun q => ?_)
      refine astore_5_4 (pc := 16) g dL_look_16 ?_
      refine j_ldci (pc := 18) g (-1000001) dL_look_18 (by decide +kernel) ?_
      exact j_iret (pc := 20) g r rfl rfl (Or.inr ⟨by rw [t1]; decide, by rw [t1]; rfl, al, hc⟩) dL_look_20 (Nat.le_of_ble_eq_true rfl) (Nat.le_of_ble_eq_true rfl)
    · exact absurd t1 (by unfold tLook; (repeat' split) <;> decide)
    · exact absurd t1 (by unfold tLook; (repeat' split) <;> decide)
  · rw [jn_same]
    obtain ⟨tz, rfl, hR⟩ := hp
    show J X 5 _ _ _ _ [.int (S 25 (wI (ix its) (ix k) b))] (4 + 3)
    refine j_if_eq (pc := 7) g 14 dL_look_7 (by decide) (fun c7 => ?_) (fun c7 => ?_)
    · refine j_iconst (pc := 14) g (0) dL_look_14 (by decide) ?_
      exact j_iret (pc := 15) g r rfl rfl (Or.inl ⟨tz, by first | rw [if_pos c7] | rw [if_neg c7], al, hR⟩) dL_look_15 (Nat.le_of_ble_eq_true rfl) (Nat.le_of_ble_eq_true rfl)
    · refine j_iconst (pc := 10) g (1) dL_look_10 (by decide) ?_
      refine j_goto (pc := 11) g 15 dL_look_11 (by decide) ?_
      exact j_iret (pc := 15) g r rfl rfl (Or.inl ⟨tz, by first | rw [if_pos c7] | rw [if_neg c7], al, hR⟩) dL_look_15 (Nat.le_of_ble_eq_true rfl) (Nat.le_of_ble_eq_true rfl)

set_option maxHeartbeats 400000 in
set_option maxRecDepth 100000 in
theorem w_appeal (l : Launch) (D : va_G) (hst : l.stackTraces = false) (M : MH) (x : Nat) (al : Nat → Nat → Nat) (S : ST) (d ns nd : Nat) (hc : CRep M x al S d ns nd) (hk : mOK S d ns nd) (its w : Int32) : xW l D yL_appeal wsL_appeal ({ frames := 7, cells := 1, slots := 6, locals := 167 }) 1 6 [.ref x, .int its, .int w] M (pI (tAppeal S its w) (-1000001) (-1000003) 0 (wnS (nAppeal S its w) (ix its)) x S d ns nd (nAppeal S its w) d ns nd) := by
  refine xW_of (cc := cL_appeal) (maxL := 4) (ret := (some .int)) (own := RL) [some (.ref x), some (.int its), some (.int w), none] (by decide) rfl rfl (Nat.le_of_ble_eq_true rfl) rfl rfl rfl ?_
  intro X hXl hXD g r t0 t
  subst hXl
  subst hXD
  refine j_aload_n (pc := 0) g 0 dL_appeal_0 rfl rfl ?_
  refine j_iload_n (pc := 1) g 1 dL_appeal_1 rfl rfl ?_
  refine j_iload_n (pc := 2) g 2 dL_appeal_2 rfl rfl ?_
  refine j_callTV (pc := 3) (n := 2) g t0 (hc.1.1) rfl (fun _ _ h => h) (k_appeal (jl X) (jD X) hst M x al S d ns nd hc hk.2.2.1.1 hk.2.2.1.2.1 hk.2.2.1.2.2 hk.2.1.2 its w) dL_appeal_3 gL_appeal_X8_appeal rfl rfl rfl rfl ⟨rfl, by decide, by decide, by decide +kernel⟩ ⟨Nat.le_of_ble_eq_true rfl, Nat.le_of_ble_eq_true rfl⟩ ⟨Nat.le_of_ble_eq_true rfl, Nat.le_of_ble_eq_true rfl⟩ rfl (Nat.le_of_ble_eq_true rfl) (fun E M1 hE hn => ?_) (fun v M1 hp hn => ?_)
  · rw [jn_same]
    obtain ⟨hE, rfl⟩ := hE
    rcases hE with ⟨t1, rfl⟩ | ⟨t1, rfl⟩ | ⟨t1, rfl⟩
    · refine j_catch (pc := 3) (nm := eIO) g t0 t [] [(0, 6, 11, 19)] 0 6 7 30 rfl (fun z hz => absurd hz (by simp)) rfl (by decide) (by decide +kernel) (by decide) (fun q => ?_)
      refine astore_n_4_3 (pc := 7) g dL_appeal_7 ?_
      refine j_ldci (pc := 8) g (-1000001) dL_appeal_8 (by decide +kernel) ?_
      exact j_iret (pc := 10) g r rfl rfl (Or.inr ⟨by rw [t1]; decide, by rw [t1]; rfl, al, hc⟩) dL_appeal_10 (Nat.le_of_ble_eq_true rfl) (Nat.le_of_ble_eq_true rfl)
    · refine j_catch (pc := 3) (nm := eIS) g t0 t [(0, 6, 7, 30)] [] 0 6 11 19 rfl (List.forall_mem_cons.mpr ⟨⟨by decide, eIO, by decide +kernel, t0.n2⟩, fun _ h => absurd h List.not_mem_nil⟩) rfl (by decide) (by decide +kernel) (by decide) (fun q => ?_)
      refine astore_n_4_3 (pc := 11) g dL_appeal_11 ?_
      refine j_ldci (pc := 12) g (-1000003) dL_appeal_12 (by decide +kernel) ?_
      exact j_iret (pc := 14) g r rfl rfl (Or.inr ⟨by rw [t1]; decide, by rw [t1]; rfl, al, hc⟩) dL_appeal_14 (Nat.le_of_ble_eq_true rfl) (Nat.le_of_ble_eq_true rfl)
    · exact absurd t1 (by unfold tAppeal; (repeat' split) <;> decide)
  · rw [jn_same]
    obtain ⟨tz, rfl, hR⟩ := hp
    show J X 4 _ _ _ _ [.int (wnS (nAppeal S its w) (ix its))] (3 + 3)
    exact j_iret (pc := 6) g r rfl rfl (Or.inl ⟨tz, rfl, al, hR⟩) dL_appeal_6 (Nat.le_of_ble_eq_true rfl) (Nat.le_of_ble_eq_true rfl)

set_option maxHeartbeats 400000 in
set_option maxRecDepth 100000 in
theorem w_prompt (l : Launch) (D : va_G) (hst : l.stackTraces = false) (M : MH) (x : Nat) (al : Nat → Nat → Nat) (S : ST) (d ns nd : Nat) (hc : CRep M x al S d ns nd) (hk : mOK S d ns nd) (its k : Int32) : xW l D yL_prompt wsL_prompt ({ frames := 7, cells := 1, slots := 6, locals := 120 }) 1 6 [.ref x, .int its, .int k] M (pI (tPrompt S its k) (-1000001) 0 0 (nI (promptI S (ix its) (ix k))) x S d ns nd (S) d ns nd) := by
  refine xW_of (cc := cL_prompt) (maxL := 4) (ret := (some .int)) (own := RL) [some (.ref x), some (.int its), some (.int k), none] (by decide) rfl rfl (Nat.le_of_ble_eq_true rfl) rfl rfl rfl ?_
  intro X hXl hXD g r t0 t
  subst hXl
  subst hXD
  refine j_aload_n (pc := 0) g 0 dL_prompt_0 rfl rfl ?_
  refine j_iload_n (pc := 1) g 1 dL_prompt_1 rfl rfl ?_
  refine j_iload_n (pc := 2) g 2 dL_prompt_2 rfl rfl ?_
  refine j_callTV (pc := 3) (n := 2) g t0 (hc.1.1) rfl (fun _ _ h => h) (k_prompt (jl X) (jD X) hst M x al S d ns nd hc hk.2.2.1.1 hk.2.2.1.2.1 (fun i hi => (hk.2.2.1.2.2 i hi).1) its k) dL_prompt_3 gL_prompt_X8_prompt rfl rfl rfl rfl ⟨rfl, by decide, by decide, by decide +kernel⟩ ⟨Nat.le_of_ble_eq_true rfl, Nat.le_of_ble_eq_true rfl⟩ ⟨Nat.le_of_ble_eq_true rfl, Nat.le_of_ble_eq_true rfl⟩ rfl (Nat.le_of_ble_eq_true rfl) (fun E M1 hE hn => ?_) (fun v M1 hp hn => ?_)
  · rw [jn_same]
    obtain ⟨hE, rfl⟩ := hE
    rcases hE with ⟨t1, rfl⟩ | ⟨t1, rfl⟩ | ⟨t1, rfl⟩
    · refine j_catch (pc := 3) (nm := eIO) g t0 t [] [] 0 6 7 30 rfl (fun z hz => absurd hz (by simp)) rfl (by decide) (by decide +kernel) (by decide) (fun q => ?_)
      refine astore_n_4_3 (pc := 7) g dL_prompt_7 ?_
      refine j_ldci (pc := 8) g (-1000001) dL_prompt_8 (by decide +kernel) ?_
      exact j_iret (pc := 10) g r rfl rfl (Or.inr ⟨by rw [t1]; decide, by rw [t1]; rfl, al, hc⟩) dL_prompt_10 (Nat.le_of_ble_eq_true rfl) (Nat.le_of_ble_eq_true rfl)
    · exact absurd t1 (by unfold tPrompt; (repeat' split) <;> decide)
    · exact absurd t1 (by unfold tPrompt; (repeat' split) <;> decide)
  · rw [jn_same]
    obtain ⟨tz, rfl, rfl⟩ := hp
    show J X 4 _ _ _ _ [.int (nI (promptI S (ix its) (ix k)))] (3 + 3)
    exact j_iret (pc := 6) g r rfl rfl (Or.inl ⟨tz, rfl, al, hc⟩) dL_prompt_6 (Nat.le_of_ble_eq_true rfl) (Nat.le_of_ble_eq_true rfl)

set_option maxHeartbeats 400000 in
set_option maxRecDepth 100000 in
theorem w_mark (l : Launch) (D : va_G) (hst : l.stackTraces = false) (M : MH) (x : Nat) (al : Nat → Nat → Nat) (S : ST) (d ns nd : Nat) (hc : CRep M x al S d ns nd) (hk : mOK S d ns nd) (gn y : Int32) : xW l D yL_mark wsL_mark ({ frames := 7, cells := 8, slots := 28, locals := 123 }) 8 28 [.ref x, .int gn, .int y] M (pF (tMark S gn y) 3379831824 0 0 (markS S 2 0 d (ix gn) (ix y) (ix (S 4 (ix gn))) 0) x S d ns nd (S) d ns nd) := by
  refine xW_of (cc := cL_mark) (maxL := 4) (ret := (some .float)) (own := RL) [some (.ref x), some (.int gn), some (.int y), none] (by decide) rfl rfl (Nat.le_of_ble_eq_true rfl) rfl rfl rfl ?_
  intro X hXl hXD g r t0 t
  subst hXl
  subst hXD
  refine j_aload_n (pc := 0) g 0 dL_mark_0 rfl rfl ?_
  refine j_iload_n (pc := 1) g 1 dL_mark_1 rfl rfl ?_
  refine j_iload_n (pc := 2) g 2 dL_mark_2 rfl rfl ?_
  refine j_callTV (pc := 3) (n := 2) g t0 (hc.1.1) rfl (fun _ _ h => h) (k_mark (jl X) (jD X) hst M x al S d ns nd hc hk.1.2.1 hk.1.2.2 hk.2.1.1 hk.2.1.2 gn y) dL_mark_3 gL_mark_X8_mark rfl rfl rfl rfl ⟨rfl, by decide, by decide, by decide +kernel⟩ ⟨Nat.le_of_ble_eq_true rfl, Nat.le_of_ble_eq_true rfl⟩ ⟨Nat.le_of_ble_eq_true rfl, Nat.le_of_ble_eq_true rfl⟩ rfl (Nat.le_of_ble_eq_true rfl) (fun E M1 hE hn => ?_) (fun v M1 hp hn => ?_)
  · rw [jn_same]
    obtain ⟨hE, rfl⟩ := hE
    rcases hE with ⟨t1, rfl⟩ | ⟨t1, rfl⟩ | ⟨t1, rfl⟩
    · refine j_catch (pc := 3) (nm := eIO) g t0 t [] [] 0 6 7 30 rfl (fun z hz => absurd hz (by simp)) rfl (by decide) (by decide +kernel) (by decide) (fun q => ?_)
      refine astore_n_4_3 (pc := 7) g dL_mark_7 ?_
      refine j_ldcf (pc := 8) g 3379831824 dL_mark_8 (by decide +kernel) ?_
      exact j_fret (pc := 10) g r rfl  (Or.inr ⟨by rw [t1]; decide, by rw [t1]; rfl, al, hc⟩) dL_mark_10 (Nat.le_of_ble_eq_true rfl) (Nat.le_of_ble_eq_true rfl)
    · exact absurd t1 (by unfold tMark; (repeat' split) <;> decide)
    · exact absurd t1 (by unfold tMark; (repeat' split) <;> decide)
  · rw [jn_same]
    obtain ⟨tz, rfl, hR⟩ := hp
    show J X 4 _ _ _ _ [.float (markS S 2 0 d (ix gn) (ix y) (ix (S 4 (ix gn))) 0)] (3 + 3)
    exact j_fret (pc := 6) g r rfl  (Or.inl ⟨tz, rfl, al, hc.st hR sf.rf⟩) dL_mark_6 (Nat.le_of_ble_eq_true rfl) (Nat.le_of_ble_eq_true rfl)

set_option maxHeartbeats 400000 in
set_option maxRecDepth 100000 in
theorem w_part (l : Launch) (D : va_G) (hst : l.stackTraces = false) (M : MH) (x : Nat) (al : Nat → Nat → Nat) (S : ST) (d ns nd : Nat) (hc : CRep M x al S d ns nd) (hk : mOK S d ns nd) (gn k w : Int32) : xW l D yL_part wsL_part ({ frames := 7, cells := 2, slots := 9, locals := 121 }) 2 9 [.ref x, .int gn, .int k, .int w] M (pF (tPart S gn k w) 3379831824 3379831840 0 (vPart S gn k w) x S d ns nd (S) d ns nd) := by
  refine xW_of (cc := cL_part) (maxL := 5) (ret := (some .float)) (own := RL) [some (.ref x), some (.int gn), some (.int k), some (.int w), none] (by decide) rfl rfl (Nat.le_of_ble_eq_true rfl) rfl rfl rfl ?_
  intro X hXl hXD g r t0 t
  subst hXl
  subst hXD
  refine j_aload_n (pc := 0) g 0 dL_part_0 rfl rfl ?_
  refine j_iload_n (pc := 1) g 1 dL_part_1 rfl rfl ?_
  refine j_iload_n (pc := 2) g 2 dL_part_2 rfl rfl ?_
  refine j_iload_n (pc := 3) g 3 dL_part_3 rfl rfl ?_
  refine j_callTV (pc := 4) (n := 3) g t0 (hc.1.1) rfl (fun _ _ h => h) (k_part (jl X) (jD X) hst M x al S d ns nd hc hk.1.2.1 hk.1.2.2 hk.2.1.1 hk.2.1.2 hk.1.1 gn k w) dL_part_4 gL_part_X8_part rfl rfl rfl rfl ⟨rfl, by decide, by decide, by decide +kernel⟩ ⟨Nat.le_of_ble_eq_true rfl, Nat.le_of_ble_eq_true rfl⟩ ⟨Nat.le_of_ble_eq_true rfl, Nat.le_of_ble_eq_true rfl⟩ rfl (Nat.le_of_ble_eq_true rfl) (fun E M1 hE hn => ?_) (fun v M1 hp hn => ?_)
  · rw [jn_same]
    obtain ⟨hE, hpr⟩ := hE
    rcases hE with ⟨t1, rfl⟩ | ⟨t1, rfl⟩ | ⟨t1, rfl⟩
    · refine j_catch (pc := 4) (nm := eIO) g t0 t [] [(0, 7, 13, 16)] 0 7 8 30 rfl (fun z hz => absurd hz (by simp)) rfl (by decide) (by decide +kernel) (by decide) (fun q => ?_)
      refine astore_5_4 (pc := 8) g dL_part_8 ?_
      refine j_ldcf (pc := 10) g 3379831824 dL_part_10 (by decide +kernel) ?_
      exact j_fret (pc := 12) g r rfl  (Or.inr ⟨by rw [t1]; decide, by rw [t1]; rfl, al, hc.st hpr sf.rf⟩) dL_part_12 (Nat.le_of_ble_eq_true rfl) (Nat.le_of_ble_eq_true rfl)
    · refine j_catch (pc := 4) (nm := eIA) g t0 t [(0, 7, 8, 30)] [] 0 7 13 16 rfl (List.forall_mem_cons.mpr ⟨⟨by decide, eIO, by decide +kernel, t0.n1⟩, fun _ h => absurd h List.not_mem_nil⟩) rfl (by decide) (by decide +kernel) (by decide) (fun q => ?_)
      refine astore_5_4 (pc := 13) g dL_part_13 ?_
      refine j_ldcf (pc := 15) g 3379831840 dL_part_15 (by decide +kernel) ?_
      exact j_fret (pc := 17) g r rfl  (Or.inr ⟨by rw [t1]; decide, by rw [t1]; rfl, al, hc.st hpr sf.rf⟩) dL_part_17 (Nat.le_of_ble_eq_true rfl) (Nat.le_of_ble_eq_true rfl)
    · exact absurd t1 (by unfold tPart; (repeat' split) <;> decide)
  · rw [jn_same]
    obtain ⟨tz, rfl, hR⟩ := hp
    show J X 5 _ _ _ _ [.float (vPart S gn k w)] (4 + 3)
    exact j_fret (pc := 7) g r rfl  (Or.inl ⟨tz, rfl, al, hc.st hR sf.rf⟩) dL_part_7 (Nat.le_of_ble_eq_true rfl) (Nat.le_of_ble_eq_true rfl)

set_option maxHeartbeats 400000 in
set_option maxRecDepth 100000 in
theorem w_marked (l : Launch) (D : va_G) (hst : l.stackTraces = false) (M : MH) (x : Nat) (al : Nat → Nat → Nat) (S : ST) (d ns nd : Nat) (hc : CRep M x al S d ns nd) (hk : mOK S d ns nd) (its k b : Int32) : xW l D yL_marked wsL_marked ({ frames := 7, cells := 1, slots := 6, locals := 121 }) 1 6 [.ref x, .int its, .int k, .int b] M (pF (tMarked S its k b) 3379831824 0 0 (allS S (ix its) (wI (ix its) (ix k) b)) x S d ns nd (S) d ns nd) := by
  refine xW_of (cc := cL_marked) (maxL := 5) (ret := (some .float)) (own := RL) [some (.ref x), some (.int its), some (.int k), some (.int b), none] (by decide) rfl rfl (Nat.le_of_ble_eq_true rfl) rfl rfl rfl ?_
  intro X hXl hXD g r t0 t
  subst hXl
  subst hXD
  refine j_aload_n (pc := 0) g 0 dL_marked_0 rfl rfl ?_
  refine j_iload_n (pc := 1) g 1 dL_marked_1 rfl rfl ?_
  refine j_iload_n (pc := 2) g 2 dL_marked_2 rfl rfl ?_
  refine j_iload_n (pc := 3) g 3 dL_marked_3 rfl rfl ?_
  refine j_callTV (pc := 4) (n := 3) g t0 (hc.1.1) rfl (fun _ _ h => h) (k_marked (jl X) (jD X) hst M x al S d ns nd hc hk.2.2.1.1 hk.2.2.1.2.1 hk.2.2.1.2.2 hk.2.1.2 its k b) dL_marked_4 gL_marked_X8_marked rfl rfl rfl rfl ⟨rfl, by decide, by decide, by decide +kernel⟩ ⟨Nat.le_of_ble_eq_true rfl, Nat.le_of_ble_eq_true rfl⟩ ⟨Nat.le_of_ble_eq_true rfl, Nat.le_of_ble_eq_true rfl⟩ rfl (Nat.le_of_ble_eq_true rfl) (fun E M1 hE hn => ?_) (fun v M1 hp hn => ?_)
  · rw [jn_same]
    obtain ⟨hE, rfl⟩ := hE
    rcases hE with ⟨t1, rfl⟩ | ⟨t1, rfl⟩ | ⟨t1, rfl⟩
    · refine j_catch (pc := 4) (nm := eIO) g t0 t [] [] 0 7 8 30 rfl (fun z hz => absurd hz (by simp)) rfl (by decide) (by decide +kernel) (by decide) (fun q => ?_)
      refine astore_5_4 (pc := 8) g dL_marked_8 ?_
      refine j_ldcf (pc := 10) g 3379831824 dL_marked_10 (by decide +kernel) ?_
      exact j_fret (pc := 12) g r rfl  (Or.inr ⟨by rw [t1]; decide, by rw [t1]; rfl, al, hc⟩) dL_marked_12 (Nat.le_of_ble_eq_true rfl) (Nat.le_of_ble_eq_true rfl)
    · exact absurd t1 (by unfold tMarked; (repeat' split) <;> decide)
    · exact absurd t1 (by unfold tMarked; (repeat' split) <;> decide)
  · rw [jn_same]
    obtain ⟨tz, rfl, rfl⟩ := hp
    show J X 5 _ _ _ _ [.float (allS S (ix its) (wI (ix its) (ix k) b))] (4 + 3)
    exact j_fret (pc := 7) g r rfl  (Or.inl ⟨tz, rfl, al, hc⟩) dL_marked_7 (Nat.le_of_ble_eq_true rfl) (Nat.le_of_ble_eq_true rfl)

set_option maxHeartbeats 400000 in
set_option maxRecDepth 100000 in
theorem w_of (l : Launch) (D : va_G) (hst : l.stackTraces = false) (M : MH) (x : Nat) (al : Nat → Nat → Nat) (S : ST) (d ns nd : Nat) (hc : CRep M x al S d ns nd) (hk : mOK S d ns nd) (its w : Int32) : xW l D yL_of wsL_of ({ frames := 7, cells := 1, slots := 6, locals := 168 }) 1 6 [.ref x, .int its, .int w] M (pI (tOf S its w) (-1000001) (-1000002) 0 (vOf S (ix its) w) x S d ns nd (S) d ns nd) := by
  refine xW_of (cc := cL_of) (maxL := 4) (ret := (some .int)) (own := RL) [some (.ref x), some (.int its), some (.int w), none] (by decide) rfl rfl (Nat.le_of_ble_eq_true rfl) rfl rfl rfl ?_
  intro X hXl hXD g r t0 t
  subst hXl
  subst hXD
  refine j_aload_n (pc := 0) g 0 dL_of_0 rfl rfl ?_
  refine j_iload_n (pc := 1) g 1 dL_of_1 rfl rfl ?_
  refine j_iload_n (pc := 2) g 2 dL_of_2 rfl rfl ?_
  refine j_callTV (pc := 3) (n := 2) g t0 (hc.1.1) rfl (fun _ _ h => h) (k_of (jl X) (jD X) hst M x al S d ns nd hc hk.2.2.1.1 hk.2.2.1.2.1 hk.2.2.1.2.2 hk.2.1.2 its w) dL_of_3 gL_of_X8_of rfl rfl rfl rfl ⟨rfl, by decide, by decide, by decide +kernel⟩ ⟨Nat.le_of_ble_eq_true rfl, Nat.le_of_ble_eq_true rfl⟩ ⟨Nat.le_of_ble_eq_true rfl, Nat.le_of_ble_eq_true rfl⟩ rfl (Nat.le_of_ble_eq_true rfl) (fun E M1 hE hn => ?_) (fun v M1 hp hn => ?_)
  · rw [jn_same]
    obtain ⟨hE, rfl⟩ := hE
    rcases hE with ⟨t1, rfl⟩ | ⟨t1, rfl⟩ | ⟨t1, rfl⟩
    · refine j_catch (pc := 3) (nm := eIO) g t0 t [] [(0, 6, 11, 16)] 0 6 7 30 rfl (fun z hz => absurd hz (by simp)) rfl (by decide) (by decide +kernel) (by decide) (fun q => ?_)
      refine astore_n_4_3 (pc := 7) g dL_of_7 ?_
      refine j_ldci (pc := 8) g (-1000001) dL_of_8 (by decide +kernel) ?_
      exact j_iret (pc := 10) g r rfl rfl (Or.inr ⟨by rw [t1]; decide, by rw [t1]; rfl, al, hc⟩) dL_of_10 (Nat.le_of_ble_eq_true rfl) (Nat.le_of_ble_eq_true rfl)
    · refine j_catch (pc := 3) (nm := eIA) g t0 t [(0, 6, 7, 30)] [] 0 6 11 16 rfl (List.forall_mem_cons.mpr ⟨⟨by decide, eIO, by decide +kernel, t0.n1⟩, fun _ h => absurd h List.not_mem_nil⟩) rfl (by decide) (by decide +kernel) (by decide) (fun q => ?_)
      refine astore_n_4_3 (pc := 11) g dL_of_11 ?_
      refine j_ldci (pc := 12) g (-1000002) dL_of_12 (by decide +kernel) ?_
      exact j_iret (pc := 14) g r rfl rfl (Or.inr ⟨by rw [t1]; decide, by rw [t1]; rfl, al, hc⟩) dL_of_14 (Nat.le_of_ble_eq_true rfl) (Nat.le_of_ble_eq_true rfl)
    · exact absurd t1 (by unfold tOf; (repeat' split) <;> decide)
  · rw [jn_same]
    obtain ⟨tz, rfl, rfl⟩ := hp
    show J X 4 _ _ _ _ [.int (vOf S (ix its) w)] (3 + 3)
    exact j_iret (pc := 6) g r rfl rfl (Or.inl ⟨tz, rfl, al, hc⟩) dL_of_6 (Nat.le_of_ble_eq_true rfl) (Nat.le_of_ble_eq_true rfl)

set_option maxHeartbeats 400000 in
set_option maxRecDepth 100000 in
theorem w_paper (l : Launch) (D : va_G) (hst : l.stackTraces = false) (M : MH) (x : Nat) (al : Nat → Nat → Nat) (S : ST) (d ns nd : Nat) (hc : CRep M x al S d ns nd) (hk : mOK S d ns nd) (its w : Int32) : xW l D yL_paper wsL_paper ({ frames := 7, cells := 1, slots := 6, locals := 119 }) 1 6 [.ref x, .int its, .int w] M (pI (tPaper its w) (-1000001) (-1000002) 0 (vPaper S its w) x S d ns nd (S) d ns nd) := by
  refine xW_of (cc := cL_paper) (maxL := 4) (ret := (some .int)) (own := RL) [some (.ref x), some (.int its), some (.int w), none] (by decide) rfl rfl (Nat.le_of_ble_eq_true rfl) rfl rfl rfl ?_
  intro X hXl hXD g r t0 t
  subst hXl
  subst hXD
  refine j_aload_n (pc := 0) g 0 dL_paper_0 rfl rfl ?_
  refine j_iload_n (pc := 1) g 1 dL_paper_1 rfl rfl ?_
  refine j_iload_n (pc := 2) g 2 dL_paper_2 rfl rfl ?_
  refine j_callTV (pc := 3) (n := 2) g t0 (hc.1.1) rfl (fun _ _ h => h) (k_paper (jl X) (jD X) hst M x al S d ns nd hc  its w) dL_paper_3 gL_paper_X8_paper rfl rfl rfl rfl ⟨rfl, by decide, by decide, by decide +kernel⟩ ⟨Nat.le_of_ble_eq_true rfl, Nat.le_of_ble_eq_true rfl⟩ ⟨Nat.le_of_ble_eq_true rfl, Nat.le_of_ble_eq_true rfl⟩ rfl (Nat.le_of_ble_eq_true rfl) (fun E M1 hE hn => ?_) (fun v M1 hp hn => ?_)
  · rw [jn_same]
    obtain ⟨hE, rfl⟩ := hE
    rcases hE with ⟨t1, rfl⟩ | ⟨t1, rfl⟩ | ⟨t1, rfl⟩
    · refine j_catch (pc := 3) (nm := eIO) g t0 t [] [(0, 6, 11, 16)] 0 6 7 30 rfl (fun z hz => absurd hz (by simp)) rfl (by decide) (by decide +kernel) (by decide) (fun q => ?_)
      refine astore_n_4_3 (pc := 7) g dL_paper_7 ?_
      refine j_ldci (pc := 8) g (-1000001) dL_paper_8 (by decide +kernel) ?_
      exact j_iret (pc := 10) g r rfl rfl (Or.inr ⟨by rw [t1]; decide, by rw [t1]; rfl, al, hc⟩) dL_paper_10 (Nat.le_of_ble_eq_true rfl) (Nat.le_of_ble_eq_true rfl)
    · refine j_catch (pc := 3) (nm := eIA) g t0 t [(0, 6, 7, 30)] [] 0 6 11 16 rfl (List.forall_mem_cons.mpr ⟨⟨by decide, eIO, by decide +kernel, t0.n1⟩, fun _ h => absurd h List.not_mem_nil⟩) rfl (by decide) (by decide +kernel) (by decide) (fun q => ?_)
      refine astore_n_4_3 (pc := 11) g dL_paper_11 ?_
      refine j_ldci (pc := 12) g (-1000002) dL_paper_12 (by decide +kernel) ?_
      exact j_iret (pc := 14) g r rfl rfl (Or.inr ⟨by rw [t1]; decide, by rw [t1]; rfl, al, hc⟩) dL_paper_14 (Nat.le_of_ble_eq_true rfl) (Nat.le_of_ble_eq_true rfl)
    · exact absurd t1 (by unfold tPaper; (repeat' split) <;> decide)
  · rw [jn_same]
    obtain ⟨tz, rfl, rfl⟩ := hp
    show J X 4 _ _ _ _ [.int (vPaper S its w)] (3 + 3)
    exact j_iret (pc := 6) g r rfl rfl (Or.inl ⟨tz, rfl, al, hc⟩) dL_paper_6 (Nat.le_of_ble_eq_true rfl) (Nat.le_of_ble_eq_true rfl)

set_option maxHeartbeats 400000 in
set_option maxRecDepth 100000 in
theorem w_won (l : Launch) (D : va_G) (hst : l.stackTraces = false) (M : MH) (x : Nat) (al : Nat → Nat → Nat) (S : ST) (d ns nd : Nat) (hc : CRep M x al S d ns nd) (hk : mOK S d ns nd) (w : Int32) : xW l D yL_won wsL_won ({ frames := 7, cells := 1, slots := 6, locals := 167 }) 1 6 [.ref x, .int w] M (pI (tWon w) (-1000001) 0 0 (cntW S w nd) x S d ns nd (S) d ns nd) := by
  refine xW_of (cc := cL_won) (maxL := 3) (ret := (some .int)) (own := RL) [some (.ref x), some (.int w), none] (by decide) rfl rfl (Nat.le_of_ble_eq_true rfl) rfl rfl rfl ?_
  intro X hXl hXD g r t0 t
  subst hXl
  subst hXD
  refine j_aload_n (pc := 0) g 0 dL_won_0 rfl rfl ?_
  refine j_iload_n (pc := 1) g 1 dL_won_1 rfl rfl ?_
  refine j_callTV (pc := 2) (n := 1) g t0 (hc.1.1) rfl (fun _ _ h => h) (k_won (jl X) (jD X) hst M x al S d ns nd hc hk.2.2.1.1 hk.2.2.1.2.1 hk.2.2.1.2.2 hk.2.1.2 w) dL_won_2 gL_won_X8_won rfl rfl rfl rfl ⟨rfl, by decide, by decide, by decide +kernel⟩ ⟨Nat.le_of_ble_eq_true rfl, Nat.le_of_ble_eq_true rfl⟩ ⟨Nat.le_of_ble_eq_true rfl, Nat.le_of_ble_eq_true rfl⟩ rfl (Nat.le_of_ble_eq_true rfl) (fun E M1 hE hn => ?_) (fun v M1 hp hn => ?_)
  · rw [jn_same]
    obtain ⟨hE, rfl⟩ := hE
    rcases hE with ⟨t1, rfl⟩ | ⟨t1, rfl⟩ | ⟨t1, rfl⟩
    · refine j_catch (pc := 2) (nm := eIO) g t0 t [] [] 0 5 6 30 rfl (fun z hz => absurd hz (by simp)) rfl (by decide) (by decide +kernel) (by decide) (fun q => ?_)
      refine astore_n_3_2 (pc := 6) g dL_won_6 ?_
      refine j_ldci (pc := 7) g (-1000001) dL_won_7 (by decide +kernel) ?_
      exact j_iret (pc := 9) g r rfl rfl (Or.inr ⟨by rw [t1]; decide, by rw [t1]; rfl, al, hc⟩) dL_won_9 (Nat.le_of_ble_eq_true rfl) (Nat.le_of_ble_eq_true rfl)
    · exact absurd t1 (by unfold tWon; (repeat' split) <;> decide)
    · exact absurd t1 (by unfold tWon; (repeat' split) <;> decide)
  · rw [jn_same]
    obtain ⟨tz, rfl, rfl⟩ := hp
    show J X 3 _ _ _ _ [.int (cntW S w nd)] (2 + 3)
    exact j_iret (pc := 5) g r rfl rfl (Or.inl ⟨tz, rfl, al, hc⟩) dL_won_5 (Nat.le_of_ble_eq_true rfl) (Nat.le_of_ble_eq_true rfl)
