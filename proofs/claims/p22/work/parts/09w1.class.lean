/-! ===== the class's constructor: the picture as it grows ===== -/
def dvX8 : List Value := [.null, .null, .null, .null, .null, .null, .int 0, .int 0, .int 0, .int 0]
theorem dfX8 : ∀ j, j < 10 → defaultValue (tyX8 j) = vp_V dvX8 j := fun j hj => match j, hj with
  | 0, _ => rfl | 1, _ => rfl | 2, _ => rfl | 3, _ => rfl | 4, _ => rfl | 5, _ => rfl | 6, _ => rfl | 7, _ => rfl | 8, _ => rfl | 9, _ => rfl
  | n + 10, h => absurd h (by omega)
/-- the state at the start -/
def S0 : ST := fun k _ => if k = 11 then -1 else 0
def cIni (M : MH) (x s0 s1 s2 s3 s4 dr da : Nat) (g1 g2 g3 g4 : Nat → Nat) (n1 n2 n3 : Nat) : Prop :=
  (M x = some (oB 8 [.ref s0, .ref s1, .ref s2, .ref s3, .ref s4, .ref dr, .int 0, .int 0, .int 0, .int 0]) ∧ M s0 = some (aR 5 6 fun _ => none) ∧ M s4 = some (aR 0 12 fun _ => none) ∧ M dr = some (oB 5 [.ref da, .int 0]) ∧ M da = some (aR 4 8 fun _ => none)) ∧
  (M s1 = some (aR 2 3 (rowF g1 n1)) ∧ (∀ i, i < n1 → M (g1 i) = some (oB 2 dvX2)) ∧ inj g1 n1) ∧
  (M s2 = some (aR 6 4 (rowF g2 n2)) ∧ (∀ i, i < n2 → M (g2 i) = some (oB 6 dvX6)) ∧ inj g2 n2) ∧
  (M s3 = some (aR 1 4 (rowF g3 n3)) ∧ (∀ i, i < n3 → M (g3 i) = some (oB 1 [.ref (g4 i)]) ∧ ∃ f, M (g4 i) = some (aI 4 f) ∧ ∀ y, y < 4 → f y = -1) ∧ inj g4 n3)
def upg (g : Nat → Nat) (n q : Nat) : Nat → Nat := fun i => if i = n then q else g i
theorem upg_s {g : Nat → Nat} {n q : Nat} : upg g n q n = q := if_pos rfl
theorem upg_o {g : Nat → Nat} {n q i : Nat} (h : i ≠ n) : upg g n q i = g i := if_neg h
theorem xT_ofI {l : Launch} {D : va_G} {y : MethodName} {ws ws' : List Cond} {rm : Room} {mc ms : Nat} {As : List Value} {M0 : MH} {Post : Option Value → MH → Prop} {Exc : String → MH → Prop} {cc : ByteArray} {maxL : Nat} {ret : Option FieldType} {own : String} (hst : l.stackTraces = false) (vs : List (Option Value)) (hy : plainName y.cls = true) (hyn : y.name = "<init>") (hw : ws = Cond.code y cc maxL ret :: ws') (ho : y.cls = own) (hle : (lg_sl As).length ≤ maxL) (hvs : lvl 0 vs = lv_args 0 As) (hlen : vs.length = maxL) (h1 : lv1 vs = true)
    (body : ∀ X : JC, jl X = l → jD X = D → jG X cc own ws maxL rm → jR X ret Post mc ms → jN X → jT X Exc mc ms → J X maxL 0 0 M0 vs [] 0) : xT l D y ws rm mc ms As M0 Post Exc := by
  intro h0
  refine vx_ofW (cc := cc) (maxL := maxL) (ret := ret) hy hw ?_
  intro p e s m args below meth c s₁ B hml hex hv
  obtain ⟨rfl, hsz, hH, hK, hTb, hZ⟩ := hv
  subst hsz
  have hown : s.vm.findClass own = some m.cls := by rw [← ho]; exact findClass_of_methodNamed B.named
  have hb := body (p, l, e, (headSpec ws rm).room, s, m, As.toArray, below, meth, c, D, M0, vx_MQ below (xQ D M0 s.heap.size Post) (xX D M0 s.heap.size Exc) As.toArray s mc ms (xA M0 s.heap.size)) rfl rfl
    ⟨B.exec, B.bytes, hml, hown, atoms_spec (ws := ws) B.pre, hK, B.notSynchronized, rfl⟩ ⟨B.returns, fun _ _ _ _ _ h => vx_ret h⟩ ((name_of_methodNamed B.named B.method).1.trans hyn) ⟨hst, hex, hTb, hZ, Post, rfl⟩
  rw [lg_entry_eq]
  have hl := lv_entry As (n := maxL) hle
  rw [← hvs] at hl
  have hH0 : xH D (xA M0 s.heap.size) M0 s s.heap := by
    obtain ⟨L, f, a1, a2, a3, a4⟩ := hH
    refine ⟨L, f, a1, a2, a3, a4.1, fun k q hk => Or.inl ?_⟩
    have hx2 : q ∈ va_pl L f := List.mem_of_getElem? hk
    obtain ⟨a, ha, rfl⟩ := List.mem_map.mp hx2
    exact (a1 a).mp ha
  exact hb s.heap [] _ hH0 va_S.rf hl ⟨hlen, h1⟩
section Ini
variable {M : MH} {x s0 s1 s2 s3 s4 dr da n1 n2 n3 q : Nat} {g1 g2 g3 g4 : Nat → Nat}
theorem cIni.pap (h : cIni M x s0 s1 s2 s3 s4 dr da g1 g2 g3 g4 n1 n2 n3) (hq : M q = none) : cIni (xu (xu M q (oB 2 dvX2)) s1 (aR 2 3 (va_up (rowF g1 n1) n1 (some q)))) x s0 s1 s2 s3 s4 dr da (upg g1 n1 q) g2 g3 g4 (n1 + 1) n2 n3 := by
  obtain ⟨⟨a1, a2, a3, a4, a5⟩, ⟨b1, b2, b3⟩, ⟨c1, c2, c3⟩, ⟨d1, d2, d3⟩⟩ := h
  have hs : xu M q (oB 2 dvX2) s1 = some (aR 2 3 (rowF g1 n1)) := xu_k hq b1
  have hp : pr [303] M (xu (xu M q (oB 2 dvX2)) s1 (aR 2 3 (va_up (rowF g1 n1) n1 (some q)))) := (pr.rf.nw hq).wr hs (by show 303 ∈ [303]; decide)
  refine ⟨⟨hp _ _ a1 (by show 8 ∉ [303]; decide), hp _ _ a2 (by show 606 ∉ [303]; decide), hp _ _ a3 (by show 112 ∉ [303]; decide), hp _ _ a4 (by show 5 ∉ [303]; decide), hp _ _ a5 (by show 508 ∉ [303]; decide)⟩, ⟨?_, fun i hi => ?_, ?_⟩, ⟨hp _ _ c1 (by show 704 ∉ [303]; decide), fun i hi => hp _ _ (c2 i hi) (by show 6 ∉ [303]; decide), c3⟩, ⟨hp _ _ d1 (by show 204 ∉ [303]; decide), fun i hi => ⟨hp _ _ (d2 i hi).1 (by show 1 ∉ [303]; decide), ?_⟩, d3⟩⟩
  · rw [xu_s, rowF_up (g' := upg g1 n1 q) upg_s (fun i hi => upg_o (by omega))]
  · by_cases hin : i = n1
    · rw [hin, upg_s, xu_n (fun z => by rw [z, b1] at hq; exact absurd hq (by simp)), xu_s]
    · rw [upg_o hin]
      exact hp _ _ (b2 i (by omega)) (by show 2 ∉ [303]; decide)
  · exact inj_add (q := q) b3 upg_s (fun i hi => upg_o (by omega)) (fun i hi z => by
      have h9 := b2 i hi
      rw [z, hq] at h9
      exact absurd h9 (by simp))
  · obtain ⟨f, h1, h2⟩ := (d2 i hi).2
    exact ⟨f, hp _ _ h1 (by show 1104 ∉ [303]; decide), h2⟩
theorem cIni.sty (h : cIni M x s0 s1 s2 s3 s4 dr da g1 g2 g3 g4 n1 n2 n3) (hq : M q = none) : cIni (xu (xu M q (oB 6 dvX6)) s2 (aR 6 4 (va_up (rowF g2 n2) n2 (some q)))) x s0 s1 s2 s3 s4 dr da g1 (upg g2 n2 q) g3 g4 n1 (n2 + 1) n3 := by
  obtain ⟨⟨a1, a2, a3, a4, a5⟩, ⟨b1, b2, b3⟩, ⟨c1, c2, c3⟩, ⟨d1, d2, d3⟩⟩ := h
  have hs : xu M q (oB 6 dvX6) s2 = some (aR 6 4 (rowF g2 n2)) := xu_k hq c1
  have hp : pr [704] M (xu (xu M q (oB 6 dvX6)) s2 (aR 6 4 (va_up (rowF g2 n2) n2 (some q)))) := (pr.rf.nw hq).wr hs (by show 704 ∈ [704]; decide)
  refine ⟨⟨hp _ _ a1 (by show 8 ∉ [704]; decide), hp _ _ a2 (by show 606 ∉ [704]; decide), hp _ _ a3 (by show 112 ∉ [704]; decide), hp _ _ a4 (by show 5 ∉ [704]; decide), hp _ _ a5 (by show 508 ∉ [704]; decide)⟩, ⟨hp _ _ b1 (by show 303 ∉ [704]; decide), fun i hi => hp _ _ (b2 i hi) (by show 2 ∉ [704]; decide), b3⟩, ⟨?_, fun i hi => ?_, ?_⟩, ⟨hp _ _ d1 (by show 204 ∉ [704]; decide), fun i hi => ⟨hp _ _ (d2 i hi).1 (by show 1 ∉ [704]; decide), ?_⟩, d3⟩⟩
  · rw [xu_s, rowF_up (g' := upg g2 n2 q) upg_s (fun i hi => upg_o (by omega))]
  · by_cases hin : i = n2
    · rw [hin, upg_s, xu_n (fun z => by rw [z, c1] at hq; exact absurd hq (by simp)), xu_s]
    · rw [upg_o hin]
      exact hp _ _ (c2 i (by omega)) (by show 6 ∉ [704]; decide)
  · exact inj_add (q := q) c3 upg_s (fun i hi => upg_o (by omega)) (fun i hi z => by
      have h9 := c2 i hi
      rw [z, hq] at h9
      exact absurd h9 (by simp))
  · obtain ⟨f, h1, h2⟩ := (d2 i hi).2
    exact ⟨f, hp _ _ h1 (by show 1104 ∉ [704]; decide), h2⟩
theorem cIni.jud {a : Nat} {f : Nat → Int32} (h : cIni M x s0 s1 s2 s3 s4 dr da g1 g2 g3 g4 n1 n2 n3) (hq : M q = none) (ha : xu M q (oB 1 dvX1) a = none) (hf : ∀ y, y < 4 → f y = -1) : cIni (xu (xu (xu (xu M q (oB 1 dvX1)) a (aI 4 f)) q (oB 1 [.ref a])) s3 (aR 1 4 (va_up (rowF g3 n3) n3 (some q)))) x s0 s1 s2 s3 s4 dr da g1 g2 (upg g3 n3 q) (upg g4 n3 a) n1 n2 (n3 + 1) := by
  obtain ⟨⟨a1, a2, a3, a4, a5⟩, ⟨b1, b2, b3⟩, ⟨c1, c2, c3⟩, ⟨d1, d2, d3⟩⟩ := h
  have ha1 := xu_none ha
  have hsq : s3 ≠ q := fun z => by rw [← z, d1] at hq; exact absurd hq (by simp)
  have hsa : s3 ≠ a := fun z => by rw [← z, d1] at ha1; exact absurd ha1.1 (by simp)
  have up : ∀ {p : Nat} {e : va_E}, M p = some e → p ≠ s3 → xu (xu (xu (xu M q (oB 1 dvX1)) a (aI 4 f)) q (oB 1 [.ref a])) s3 (aR 1 4 (va_up (rowF g3 n3) n3 (some q))) p = some e := fun {p e} hp hne => by
    have h1 : p ≠ q := fun z => by rw [z, hq] at hp; exact absurd hp (by simp)
    have h2 : p ≠ a := fun z => by rw [z, ha1.1] at hp; exact absurd hp (by simp)
    rw [xu_n hne, xu_n h1, xu_n h2, xu_n h1]
    exact hp
  have hp : pr [204] M (xu (xu (xu (xu M q (oB 1 dvX1)) a (aI 4 f)) q (oB 1 [.ref a])) s3 (aR 1 4 (va_up (rowF g3 n3) n3 (some q)))) := fun p e he hk => up he (kd_ne he d1 (fun z => hk (by rw [z]; show 204 ∈ [204]; decide)))
  refine ⟨⟨hp _ _ a1 (by show 8 ∉ [204]; decide), hp _ _ a2 (by show 606 ∉ [204]; decide), hp _ _ a3 (by show 112 ∉ [204]; decide), hp _ _ a4 (by show 5 ∉ [204]; decide), hp _ _ a5 (by show 508 ∉ [204]; decide)⟩, ⟨hp _ _ b1 (by show 303 ∉ [204]; decide), fun i hi => hp _ _ (b2 i hi) (by show 2 ∉ [204]; decide), b3⟩, ⟨hp _ _ c1 (by show 704 ∉ [204]; decide), fun i hi => hp _ _ (c2 i hi) (by show 6 ∉ [204]; decide), c3⟩, ⟨?_, fun i hi => ?_, ?_⟩⟩
  · rw [xu_s, rowF_up (g' := upg g3 n3 q) upg_s (fun i hi => upg_o (by omega))]
  · by_cases hin : i = n3
    · rw [hin, upg_s, upg_s]
      refine ⟨by rw [xu_n hsq.symm, xu_s], f, by rw [xu_n hsa.symm, xu_n ha1.2, xu_s], hf⟩
    · rw [upg_o hin, upg_o hin]
      obtain ⟨f2, h1, h2⟩ := (d2 i (by omega)).2
      exact ⟨hp _ _ (d2 i (by omega)).1 (by show 1 ∉ [204]; decide), f2, hp _ _ h1 (by show 1104 ∉ [204]; decide), h2⟩
  · exact inj_add (q := a) d3 upg_s (fun i hi => upg_o (by omega)) (fun i hi z => by
      obtain ⟨f2, h1, h2⟩ := (d2 i hi).2
      rw [z, ha1.1] at h1
      exact absurd h1 (by simp))
theorem cIni.rep (h : cIni M x s0 s1 s2 s3 s4 dr da g1 g2 g3 g4 3 4 4) : ∃ al, CRep M x al S0 0 0 0 := by
  obtain ⟨⟨a1, a2, a3, a4, a5⟩, ⟨b1, b2, b3⟩, ⟨c1, c2, c3⟩, ⟨d1, d2, d3⟩⟩ := h
  refine ⟨fun k i => match k with
    | 0 => (match i with | 0 => s0 | 1 => s1 | 2 => s2 | 3 => s3 | _ => s4)
    | 1 => g1 i | 2 => g2 i | 3 => g3 i | 4 => g4 i | 5 => dr | 6 => da | _ => 0, ?_⟩
  refine ⟨⟨a1, ?_, b1, c1, d1, ?_⟩, ⟨fun i hi => b2 i hi, b3⟩, ⟨fun i hi => c2 i hi, c3⟩, ⟨fun i hi => ⟨(d2 i hi).1, ?_⟩, d3⟩, ⟨fun g hg => absurd hg (by omega), ⟨a4, _, a5, fun i hi => absurd hi (by omega)⟩, fun i j hi hj _ => by omega, fun i j hi hj _ => by omega⟩, ⟨fun i hi => absurd hi (by omega), fun i j hi _ _ => absurd hi (by omega), fun i j hi _ _ => absurd hi (by omega)⟩, ⟨fun i k hi _ => absurd hi (by omega), fun i k l m hi => absurd hi (by omega)⟩⟩
  · rw [rowF_0]
    exact a2
  · rw [rowF_0]
    exact a3
  · obtain ⟨f, h1, h2⟩ := (d2 i hi).2
    exact ⟨f, h1, fun y hy => h2 y hy⟩
end Ini
theorem new_s {M : MH} {q : Nat} {e : va_E} (_ : M q = none) : xu M q e q = some e := xu_s M q e
theorem put_s {M : MH} {x : Nat} {e e' : va_E} (_ : M x = some e) : xu M x e' x = some e' := xu_s M x e'
