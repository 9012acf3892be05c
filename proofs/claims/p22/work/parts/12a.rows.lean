/-! ===== the law's calls: a method of the class that may throw, inside one that catches ===== -/
/-- no exception of one kind is one of another, as far as the handlers ask -/
def xN (U : State) : Prop := va_Nc eIA eIO U ∧ va_Nc eIS eIO U ∧ va_Nc eIS eIA U
theorem xN.moved {u U : State} (hvm : u.vm.Alike U.vm) (h : xN u) : xN U := ⟨va_Nc.moved hvm h.1, va_Nc.moved hvm h.2.1, va_Nc.moved hvm h.2.2⟩
theorem xTb.same {u U : State} (hvm : u.vm = U.vm) (h : xTb u) : xTb U := ⟨fun q hq => (h.1 q hq).imp fun _ h1 => vk_R.same hvm.symm h1, fun w hw => va_Nw.same (xTw_ot w hw) hvm (h.2 w hw)⟩
theorem xZ.moved {A : Nat → Prop} {u U : State} {H : Heap} (hvm : u.vm.Alike U.vm) (h : xZ A u H) : xZ A U H := ⟨vx_Zq.moved hvm h.1, vx_Zq.moved hvm h.2⟩
theorem xZ.kept {A : Nat → Prop} {U : State} {H H1 : Heap} (h : xZ A U H) (hq : ∀ a : Nat, a < H.size → ¬ A a → H1[a]? = H[a]?) : xZ A U H1 := ⟨vx_Zq.kept h.1 hq, vx_Zq.kept h.2 hq⟩
theorem xZ.narrow {A B : Nat → Prop} {U : State} {H : Heap} (h : xZ A U H) (hAB : ∀ q, B q → A q) : xZ B U H := ⟨vx_Zq.narrow h.1 hAB, vx_Zq.narrow h.2 hAB⟩
theorem xPT_blind {D : va_G} {As : List Value} {Mc : MH} {h0 : Nat} : FrameBlind (xPT D As Mc h0) := by
  intro a U fr mk q
  obtain ⟨q0, q1, q2, q3, q4, q5⟩ := q
  exact ⟨q0, q1, xH.moved (u := U) (U := U.calling fr mk a) (Vm.Alike.refl U.vm) q2, xK.moved (u := U) (U := U.calling fr mk a) (Vm.Alike.refl U.vm) q3, xTb.same (u := U) (U := U.calling fr mk a) rfl q4, xZ.moved (u := U) (U := U.calling fr mk a) (Vm.Alike.refl U.vm) q5⟩
theorem xPT_at {D : va_G} {As : List Value} {M Mc M0 : MH} {s U : State} {H : Heap} {locs : List Loc} (hH : xH D (xA M0 s.heap.size) M s H) (hK : xK D s) (hT : xTb s) (hZ : xZ (xA M0 s.heap.size) s s.heap) (hS : va_S (xA M0 s.heap.size) s.heap H locs) (hc : ∀ a e, Mc a = some e → M a = some e) (hU : U.heap = H) (hW : s.WarmedH U.vm) : xPT D As Mc H.size As.toArray U := by
  obtain ⟨a1, a2, a3, a4⟩ := xP_at (As := As) hH hK hc hU hW
  refine ⟨a1, a2, a3, a4, hT.warm hW, ?_⟩
  rw [hU]
  refine ((hZ.kept hS.2.1).narrow (fun q z => ?_)).moved hW.alike
  rcases z with z | z
  · cases hm : Mc q with
    | none => exact absurd hm z
    | some e => exact hH.inA (by rw [hc q e hm]; simp)
  · exact Or.inr (Nat.le_trans hS.1 z)
def xPW (D : va_G) (As : List Value) (M0 : MH) (h0 : Nat) : Array Value → State → Prop := va_Pc As (fun U => (U.heap.size = h0 ∧ xH D (fun _ => True) M0 U U.heap ∧ xK D U ∧ xTb U ∧ xZ (xA M0 h0) U U.heap) ∧ xN U)
theorem xPW_blind {D : va_G} {As : List Value} {Mc : MH} {h0 : Nat} : FrameBlind (xPW D As Mc h0) := by
  intro a U fr mk q
  obtain ⟨q0, q1, q2⟩ := q
  have h := xPT_blind a U fr mk (show xPT D As Mc h0 a U from ⟨q0, q1⟩)
  exact ⟨q0, h.2, xN.moved (u := U) (U := U.calling fr mk a) (Vm.Alike.refl U.vm) q2⟩
/-- the contract of a method that catches what its callees throw -/
def xW (l : Launch) (D : va_G) (y : MethodName) (ws : List Cond) (rm : Room) (mc ms : Nat) (As : List Value) (M0 : MH) (Post : Option Value → MH → Prop) : Prop := ∀ h0 : Nat, Met l y ws rm (xPW D As M0 h0) (xQ D M0 h0 Post) mc ms (xA M0 h0)
def jE0 : JC → Prop
  | (p, l, e, R, s, m, args, below, meth, c, D, M0, Q) => xTb s ∧ xZ (xA M0 s.heap.size) s s.heap ∧ xN s
def jE : JC → List (Nat × Nat × Nat × Nat) → Prop
  | (p, l, e, R, s, m, args, below, meth, c, D, M0, Q), hh => c.exceptionTable.toList = tableOf hh
theorem xW_of {l : Launch} {D : va_G} {y : MethodName} {ws ws' : List Cond} {rm : Room} {mc ms : Nat} {As : List Value} {M0 : MH} {Post : Option Value → MH → Prop} {cc : ByteArray} {maxL : Nat} {ret : Option FieldType} {own : String} {hh : List (Nat × Nat × Nat × Nat)} (vs : List (Option Value)) (hy : plainName y.cls = true) (hw : ws = Cond.codeWith y cc maxL ret hh :: ws') (ho : y.cls = own) (hle : (lg_sl As).length ≤ maxL) (hvs : lvl 0 vs = lv_args 0 As) (hlen : vs.length = maxL) (h1 : lv1 vs = true)
    (body : ∀ X : JC, jl X = l → jD X = D → jG X cc own ws maxL rm → jR X ret Post mc ms → jE0 X → jE X hh → J X maxL 0 0 M0 vs [] 0) : xW l D y ws rm mc ms As M0 Post := by
  intro h0
  refine va_MetW (cc := cc) (maxL := maxL) (ret := ret) hy hw ?_
  intro p e s m args below meth c s₁ B hml hv
  obtain ⟨rfl, ⟨hsz, hH, hK, hTb, hZ⟩, hN⟩ := hv
  subst hsz
  have hown : s.vm.findClass own = some m.cls := by rw [← ho]; exact findClass_of_methodNamed B.named
  have hts := atoms_spec (ws := ws) B.pre
  have htab := vx_table (x := y) B (hts _ (by rw [hw]; exact List.mem_cons_self))
  have hb := body (p, l, e, (headSpec ws rm).room, s, m, As.toArray, below, meth, c, D, M0, MQ below (xQ D M0 s.heap.size Post) As.toArray s mc ms (xA M0 s.heap.size)) rfl rfl
    ⟨B.exec, B.bytes, hml, hown, hts, hK, B.notSynchronized, rfl⟩ ⟨B.returns, fun _ _ _ _ _ h => h⟩ ⟨hTb, hZ, hN⟩ htab
  rw [lg_entry_eq]
  have hl := lv_entry As (n := maxL) hle
  rw [← hvs] at hl
  have hH0 : xH D (xA M0 s.heap.size) M0 s s.heap := by
    obtain ⟨L, f, a1, a2, a3, a4⟩ := hH
    refine ⟨L, f, a1, a2, a3, a4.1, fun k q hk => Or.inl ?_⟩
    have hx2 : q ∈ va_pl L f := List.mem_of_getElem? hk
    obtain ⟨a, ha, rfl⟩ := List.mem_map.mp hx2
    exact (a1 a).mp ha
  exact hb s.heap [] _ hH0 va_S.rf hl ⟨hlen, h1⟩
/-- an exception of class E lies over the frame -/
def jX : JC → Nat → Nat → Nat → MH → List (Option Value) → List Value → Nat → String → Prop
  | (p, l, e, R, s, m, args, below, meth, c, D, M0, Q), nL, cells, slots, M, vs, st, pc, E =>
    ∀ (H : Heap) (locs : List Loc) (ls : Array Slot) (q : Nat) (ce : Cell), xH D (xA M0 s.heap.size) M s H → va_S (xA M0 s.heap.size) s.heap H locs → lv_has ls nL (lvl 0 vs) → (vs.length = nL ∧ lv1 vs = true) → H[q]? = some ce → ce.vm = .none → s.vm.findClass E = some ce.cls → vx_W p l e R s m args below meth c H locs cells slots Q (F0 m pc ls st) q
def jNc : JC → String → String → Prop
  | (p, l, e, R, s, m, args, below, meth, c, D, M0, Q), E, n => va_Nc E n s
theorem jE0.n1 {X : JC} (h : jE0 X) : jNc X eIA eIO := by
  obtain ⟨p, l, e, R, s, m, args, below, meth, c, D, M0, Q⟩ := X
  exact h.2.2.1
theorem jE0.n2 {X : JC} (h : jE0 X) : jNc X eIS eIO := by
  obtain ⟨p, l, e, R, s, m, args, below, meth, c, D, M0, Q⟩ := X
  exact h.2.2.2.1
theorem jE0.n3 {X : JC} (h : jE0 X) : jNc X eIS eIA := by
  obtain ⟨p, l, e, R, s, m, args, below, meth, c, D, M0, Q⟩ := X
  exact h.2.2.2.2
theorem x_hnew {D : va_G} {A : Nat → Prop} {M Mc M1 : MH} {s : State} {H H1 : Heap} (hH : xH D A M s H) (h1 : xH D (xA Mc H.size) M1 s H1) : ∀ q, M q ≠ none → Mc q = none → M1 q = none := by
  intro q hq hc
  cases h : M1 q with
  | none => rfl
  | some e =>
    rcases h1.inA (a := q) (by rw [h]; simp) with z | z
    · exact absurd hc z
    · cases hm : M q with
      | none => exact absurd hm hq
      | some e2 =>
        have := hH.lt hm
        have z' : H.size ≤ q := z
        omega
theorem x_backT {p : Program} {l : Launch} {e : Env} {R : Room} {s : State} {m : MethodId} {args : Array Value} {below : List Frame} {meth : Method} {c : Code} {D : va_G} {A : Nat → Prop} {Mc M : MH} {Q : State → Prop} {H : Heap} {locs : List Loc} {cells slots mc ms pc : Nat} {ls : Array Slot} {st0 rest : List Value} {a : Array Value} {Post : Option Value → MH → Prop} {Exc : String → MH → Prop} (hr : vx_Run p l e R s m args below meth c H locs cells slots mc ms (F0 m pc ls st0) rest (xQ D Mc H.size Post a) (xX D Mc H.size Exc) (xA Mc H.size)) (hH : xH D A M s H) (hc : ∀ a e, Mc a = some e → M a = some e) (hA : ∀ q, s.heap.size ≤ q → A q) (hS : va_S A s.heap H locs)
    (kx : ∀ (E : String) (M1 : MH) (H1 : Heap) (locs1 : List Loc) (q : Nat) (ce : Cell), Exc E M1 → xH D (xA Mc H.size) M1 s H1 → (∀ q : Nat, q < H.size → ¬ xA Mc H.size q → H1[q]? = H[q]?) → va_S A s.heap H1 locs1 → H1[q]? = some ce → ce.vm = .none → s.vm.findClass E = some ce.cls → vx_W p l e R s m args below meth c H1 locs1 (cells + mc) (slots + ms) Q (F0 m pc ls rest) q)
    (kk : ∀ (v : Option Value) (M1 : MH) (H1 : Heap) (locs1 : List Loc), Post v M1 → xH D (xA Mc H.size) M1 s H1 → (∀ q : Nat, q < H.size → ¬ xA Mc H.size q → H1[q]? = H[q]?) → va_S A s.heap H1 locs1 → W p l e R s m args below meth c H1 locs1 (cells + mc) (slots + ms) Q (F0 m (pc + 3) ls (v.toList ++ rest))) : W p l e R s m args below meth c H locs cells slots Q (F0 m pc ls st0) := by
  intro T hT X
  have hf : ∀ q, xA Mc H.size q → A q := by
    intro q z
    rcases z with z | z
    · cases hm : Mc q with
      | none => exact absurd hm z
      | some e9 => exact hH.inA (by rw [hc q e9 hm]; simp)
    · exact hA q (Nat.le_trans hS.1 z)
  have back : ∀ {st₀ t T' : State} {L : List Loc} {M1 : MH}, st₀.heap = H → Stand p l e R s m args below meth c T' (locs ++ L) (cells + mc) (slots + ms) → (∀ q ∈ L, xA Mc H.size q.base) → T'.heap = t.heap → T'.vm = t.vm → xH D (xA Mc H.size) M1 t t.heap → va_F (xA Mc H.size) st₀ t → xH D (xA Mc H.size) M1 s T'.heap ∧ (∀ q : Nat, q < H.size → ¬ xA Mc H.size q → T'.heap[q]? = H[q]?) ∧ va_S A s.heap T'.heap (locs ++ L) := by
    intro st₀ t T' L M1 h0 X' hL e1 e2 hb ⟨hz, hk⟩
    rw [h0] at hz hk
    have hvm : s.vm.Alike t.vm := by rw [← e2]; exact X'.warmed.alike
    refine ⟨by rw [e1]; exact hb.moved hvm.symm, fun q h1 h2 => by rw [e1]; exact hk q h1 h2, Nat.le_trans hS.1 (by rw [e1]; exact hz), fun q h1 h2 => by rw [e1, hk q (Nat.lt_of_lt_of_le h1 hS.1) (fun z => h2 (hf q z))]; exact hS.2.1 q h1 h2, fun q hq => ?_⟩
    rcases List.mem_append.mp hq with h | h
    · exact hS.2.2 q h
    · exact hf _ (hL q h)
  rcases hr T hT X with ⟨v, st₀, t, T', L, h0, X', hL, e1, e2, ⟨⟨v2, M1, hv, hp, hb, hkk⟩, hF⟩, st⟩ | ⟨q, st₀, t, T', L, E, ce, h0, X', hL, e1, e2, ⟨⟨M1, hp, hb, hkk⟩, hF⟩, hce, hcv, hcl, st⟩
  · have hv2 : v = v2 := by injection hv
    subst hv2
    obtain ⟨k1, k2, k3⟩ := back h0 X' hL e1 e2 hb hF
    obtain ⟨t2, a1, b1⟩ := kk v M1 T'.heap (locs ++ L) hp k1 k2 k3 T' rfl X'
    exact ⟨t2, st t2 a1, b1⟩
  · obtain ⟨k1, k2, k3⟩ := back h0 X' hL e1 e2 hb hF
    obtain ⟨t2, a1, b1⟩ := kx E M1 T'.heap (locs ++ L) q ce hp k1 k2 k3 (by rw [e1]; exact hce) hcv hcl T' rfl X'
    exact ⟨t2, st.trans a1, b1⟩
section LawRows
variable {X : JC} {cc : ByteArray} {own : String} {Ts : List Cond} {nL cells slots pc : Nat} {rm : Room} {M : MH} {vs : List (Option Value)} {st : List Value} {hh : List (Nat × Nat × Nat × Nat)}
/-- caught by a row of the table; the rows ahead name other classes -/
theorem j_catch (g : jG X cc own Ts nL rm) (t0 : jE0 X) (t : jE X hh) {E nm : String} (pre suf : List (Nat × Nat × Nat × Nat)) (a b h ct : Nat) (hsplit : hh = pre ++ (a, b, h, ct) :: suf) (hpass : ∀ z ∈ pre, z.2.2.2 ≠ 0 ∧ ∃ n, Cond.classLink own z.2.2.2 n ∈ Ts ∧ jNc X E n) (hcov : covers ⟨a, b, h, ct⟩ pc = true) (h0 : ct ≠ 0) (hlink : Cond.classLink own ct nm ∈ Ts) (hcast : Cond.castable E nm ∈ xTw) (kk : ∀ q : Nat, J X nL cells slots M vs [.ref q] h) : jX X nL cells slots M vs st pc E := by
  obtain ⟨p, l, e, R, s, m, args, below, meth, c, D, M0, Q⟩ := X
  obtain ⟨hx, hb, hml, hown, hts, hKK, hlk, hR⟩ := g
  obtain ⟨hTb, hZ, hN⟩ := t0
  have hex : c.exceptionTable.toList = tableOf hh := t
  intro H locs ls q ce hH hS hl hq h1 h2 h3
  refine vx_catch hown (tableOf pre) ⟨a, b, h, ct⟩ (tableOf suf) (by rw [hex, hsplit]; simp [tableOf]) (fun z hz => ?_) hcov h0 (hts _ hlink) (va_Nw.use (xTw_ot _ hcast) (hTb.2 _ hcast)) h1 h2 h3 (kk q H locs ls hH hS hl hq)
  obtain ⟨y, hy, rfl⟩ := List.mem_map.mp hz
  obtain ⟨e0, n, e1, e2⟩ := hpass y hy
  exact Or.inr ⟨e0, n, hts _ e1, e2⟩
/-- a method that may throw, over its own cells -/
theorem j_callTV (g : jG X cc own Ts nL rm) (t0 : jE0 X) {y : MethodName} {ws ws' : List Cond} {bytes : ByteArray} {maxL : Nat} {ret : Option FieldType} {rm1 : Room} {mc ms idx n : Nat} {As : List Value} {Post : Option Value → MH → Prop} {Exc : String → MH → Prop} {rest : List Value} {b ci N : Nat} {C : String} {T : u_T} {fs : List Value} (hbk : M b = some (.inr (ci, fs))) (hcl : vwCl[ci]? = some (C, T, N)) {Mc : MH} (hsub : ∀ a e, Mc a = some e → M a = some e) (hc : xT (jl X) (jD X) y ws rm1 mc ms (.ref b :: As) Mc Post Exc) (hd : decode cc pc = .ok (.invokevirtual idx, 3)) (hG : GoodIn Ts (wsV own idx C y ws)) (hw : ws = Cond.code y bytes maxL ret :: ws') (hn : As.length = n) (hrc : rm1.cells = mc) (hrs : rm1.slots = ms) (hdd : y.cls = C ∧ y.cls ≠ "java/lang/invoke/MethodHandle" ∧ y.cls ≠ "java/lang/invoke/VarHandle" ∧ (parseMethodDescriptor y.desc).map (fun d => d.parameters.length) = some n) (hR1 : rm1.frames + 1 ≤ rm.frames ∧ 8 + (maxL + 11) + rm1.locals ≤ rm.locals) (hroom : cells + mc ≤ rm.cells ∧ slots + ms ≤ rm.slots) (hst : st = As.reverse ++ .ref b :: rest) (hcat : (rest.map fun v => v.category).sum ≤ 8)
    (kx : ∀ (E : String) (M1 : MH), Exc E M1 → (∀ q, M q ≠ none → Mc q = none → M1 q = none) → jX X nL (cells + mc) (slots + ms) (jn M Mc M1) vs rest pc E)
    (kk : ∀ (v : Option Value) (M1 : MH), Post v M1 → (∀ q, M q ≠ none → Mc q = none → M1 q = none) → J X nL (cells + mc) (slots + ms) (jn M Mc M1) vs (v.toList ++ rest) (pc + 3)) : J X nL cells slots M vs st pc := by
  obtain ⟨p, l, e, R, s, m, args, below, meth, c, D, M0, Q⟩ := X
  obtain ⟨hx, hb, hml, hown, hts, hKK, hlk, hR⟩ := g
  obtain ⟨hTb, hZ, hN⟩ := t0
  have hK := hKK.1
  intro H locs ls hH hS hl hq
  subst hst
  have hA0 : ∀ q, s.heap.size ≤ q → xA M0 s.heap.size q := fun q h => Or.inr h
  have hrec : ∃ cell : Cell, H[b]? = some cell ∧ cell.vm.isStatics = false ∧ s.vm.findClass C = some cell.cls := by
    obtain ⟨w, hw9, hP9, -⟩ := hH.at hbk
    have hw8 : w = .inr (ci, fs) := hw9
    subst hw8
    exact va_recv hK hP9 (q := (C, T, N)) hcl (q0 := 0) rfl
  refine x_backT (vx_runV (As := As) (rest := rest) ⟨hx, hb, hml, hown, hts⟩ (hc H.size) (cwV n hts hG hw hrc hrs hdd (by rw [hR]; exact hR1)) ⟨xPT_blind, hrec, fun U hU hW => xPT_at hH hKK hTb hZ hS hsub hU hW⟩ rfl hn hl.1 rfl (lv_room hcat) hd (by rw [hR]; exact hroom)) hH hsub hA0 hS (fun E M1 H1 locs1 q ce hp hH1 hk hS1 h1 h2 h3 => ?_) (fun v M1 H1 locs1 hp hH1 hk hS1 => ?_)
  · exact kx E M1 hp (x_hnew hH hH1) H1 locs1 ls q ce (hH.join hsub (fun q h => hA0 q (Nat.le_trans hS.1 h)) hk hH1) hS1 hl hq h1 h2 h3
  · exact kk v M1 hp (x_hnew hH hH1) H1 locs1 ls (hH.join hsub (fun q h => hA0 q (Nat.le_trans hS.1 h)) hk hH1) hS1 hl hq
/-- a method that throws nothing, over its own cells, and what is new is new for the caller too -/
theorem j_callVG (g : jG X cc own Ts nL rm) {y : MethodName} {ws ws' : List Cond} {bytes : ByteArray} {maxL : Nat} {ret : Option FieldType} {rm1 : Room} {mc ms idx n : Nat} {As : List Value} {Post : Option Value → MH → Prop} {rest : List Value} {b ci N : Nat} {C : String} {T : u_T} {fs : List Value} (hbk : M b = some (.inr (ci, fs))) (hcl : vwCl[ci]? = some (C, T, N)) {Mc : MH} (hsub : ∀ a e, Mc a = some e → M a = some e) (hc : xC (jl X) (jD X) y ws rm1 mc ms (.ref b :: As) Mc Post) (hd : decode cc pc = .ok (.invokevirtual idx, 3)) (hG : GoodIn Ts (wsV own idx C y ws)) (hw : ws = Cond.code y bytes maxL ret :: ws') (hn : As.length = n) (hrc : rm1.cells = mc) (hrs : rm1.slots = ms) (hdd : y.cls = C ∧ y.cls ≠ "java/lang/invoke/MethodHandle" ∧ y.cls ≠ "java/lang/invoke/VarHandle" ∧ (parseMethodDescriptor y.desc).map (fun d => d.parameters.length) = some n) (hR1 : rm1.frames + 1 ≤ rm.frames ∧ 8 + (maxL + 11) + rm1.locals ≤ rm.locals) (hroom : cells + mc ≤ rm.cells ∧ slots + ms ≤ rm.slots) (hst : st = As.reverse ++ .ref b :: rest) (hcat : (rest.map fun v => v.category).sum ≤ 8)
    (kk : ∀ (v : Option Value) (M1 : MH), Post v M1 → (∀ q, M q ≠ none → Mc q = none → M1 q = none) → J X nL (cells + mc) (slots + ms) (jn M Mc M1) vs (v.toList ++ rest) (pc + 3)) : J X nL cells slots M vs st pc := by
  obtain ⟨p, l, e, R, s, m, args, below, meth, c, D, M0, Q⟩ := X
  obtain ⟨hx, hb, hml, hown, hts, hKK, hlk, hR⟩ := g
  have hK := hKK.1
  intro H locs ls hH hS hl hq
  subst hst
  have hA0 : ∀ q, s.heap.size ≤ q → xA M0 s.heap.size q := fun q h => Or.inr h
  have hrec : ∃ cell : Cell, H[b]? = some cell ∧ cell.vm.isStatics = false ∧ s.vm.findClass C = some cell.cls := by
    obtain ⟨w, hw9, hP9, -⟩ := hH.at hbk
    have hw8 : w = .inr (ci, fs) := hw9
    subst hw8
    exact va_recv hK hP9 (q := (C, T, N)) hcl (q0 := 0) rfl
  refine x_back (va_runV (As := As) (rest := rest) ⟨hx, hb, hml, hown, hts⟩ (hc H.size) (cwV n hts hG hw hrc hrs hdd (by rw [hR]; exact hR1)) ⟨xP_blind, hrec, fun U hU hW => xP_at hH hKK hsub hU hW⟩ rfl hn hl.1 rfl (lv_room hcat) hd (by rw [hR]; exact hroom)) hH hsub hA0 hS (fun v M1 H1 locs1 hp hH1 hk hf hS1 => ?_)
  exact kk v M1 hp (x_hnew hH hH1) H1 locs1 ls (hH.join hsub (fun q h => hA0 q (Nat.le_trans hS.1 h)) hk hH1) hS1 hl hq
/-- a static method that catches, over all cells -/
theorem j_callSW (g : jG X cc own Ts nL rm) (t0 : jE0 X) {y : MethodName} {ws ws' : List Cond} {bytes : ByteArray} {maxL : Nat} {ret : Option FieldType} {rm1 : Room} {mc ms idx n : Nat} {As : List Value} {Post : Option Value → MH → Prop} {rest : List Value} (hc : xW (jl X) (jD X) y ws rm1 mc ms As M Post) (hd : decode cc pc = .ok (.invokestatic idx, 3)) (hG : GoodIn Ts (va_wsS own idx y ws)) (hw : ws = Cond.codeWith y bytes maxL ret hh :: ws') (hn : As.length = n) (hrc : rm1.cells = mc) (hrs : rm1.slots = ms) (hdd : y.cls ≠ "java/lang/invoke/MethodHandle" ∧ y.cls ≠ "java/lang/invoke/VarHandle" ∧ (parseMethodDescriptor y.desc).map (fun d => d.parameters.length) = some n) (hR1 : rm1.frames + 1 ≤ rm.frames ∧ 8 + (maxL + 11) + rm1.locals ≤ rm.locals) (hroom : cells + mc ≤ rm.cells ∧ slots + ms ≤ rm.slots) (hst : st = As.reverse ++ rest) (hcat : (rest.map fun v => v.category).sum ≤ 8)
    (kk : ∀ (v : Option Value) (M1 : MH), Post v M1 → J X nL (cells + mc) (slots + ms) M1 vs (v.toList ++ rest) (pc + 3)) : J X nL cells slots M vs st pc := by
  obtain ⟨p, l, e, R, s, m, args, below, meth, c, D, M0, Q⟩ := X
  obtain ⟨hx, hb, hml, hown, hts, hKK, hlk, hR⟩ := g
  obtain ⟨hTb, hZ, hN⟩ := t0
  have hK := hKK.1
  intro H locs ls hH hS hl hq
  subst hst
  have hA0 : ∀ q, s.heap.size ≤ q → xA M0 s.heap.size q := fun q h => Or.inr h
  refine x_back (vx_runSW (As := As) (rest := rest) ⟨hx, hb, hml, hown, hts⟩ (hc H.size) (vx_cwSW n hts hG hw hrc hrs hdd (by rw [hR]; exact hR1)) ⟨xPW_blind, fun U hU hW => ⟨rfl, (xPT_at (As := As) hH hKK hTb hZ hS (fun _ _ h => h) hU hW).2, hN.moved hW.alike⟩⟩ rfl hn hl.1 rfl (lv_room hcat) hd (by rw [hR]; exact hroom)) hH (fun _ _ h => h) hA0 hS (fun v M1 H1 locs1 hp hH1 hk hf hS1 => ?_)
  exact kk v M1 hp H1 locs1 ls (hH1.weaken hf) hS1 hl hq
/-- a constructor that might have thrown but throws nothing, over all cells -/
theorem j_callIT (g : jG X cc own Ts nL rm) (t0 : jE0 X) {y : MethodName} {ws ws' : List Cond} {bytes : ByteArray} {maxL : Nat} {rm1 : Room} {mc ms idx n : Nat} {As : List Value} {Post : Option Value → MH → Prop} {rest : List Value} {b : Nat} (hini : Cond.initialized y.cls ∈ Ts) (hmlk : Cond.methodLink own idx y ∈ Ts) (hinm : Cond.instanceMethod y ∈ Ts) (hy1 : y.name = "<init>") (hc : xT (jl X) (jD X) y ws rm1 mc ms (.ref b :: As) M Post (fun _ _ => False)) (hd : decode cc pc = .ok (.invokespecial idx, 3)) (hG : GoodIn Ts ws) (hw : ws = Cond.code y bytes maxL none :: ws') (hn : As.length = n) (hrc : rm1.cells = mc) (hrs : rm1.slots = ms) (hdd : y.cls ≠ "java/lang/invoke/MethodHandle" ∧ y.cls ≠ "java/lang/invoke/VarHandle" ∧ (parseMethodDescriptor y.desc).map (fun d => d.parameters.length) = some n) (hR1 : rm1.frames + 1 ≤ rm.frames ∧ 8 + (maxL + 11) + rm1.locals ≤ rm.locals) (hroom : cells + mc ≤ rm.cells ∧ slots + ms ≤ rm.slots) (hst : st = As.reverse ++ .ref b :: rest) (hcat : (rest.map fun v => v.category).sum ≤ 8)
    (kk : ∀ (v : Option Value) (M1 : MH), Post v M1 → J X nL (cells + mc) (slots + ms) M1 vs (v.toList ++ rest) (pc + 3)) : J X nL cells slots M vs st pc := by
  obtain ⟨p, l, e, R, s, m, args, below, meth, c, D, M0, Q⟩ := X
  obtain ⟨hx, hb, hml, hown, hts, hKK, hlk, hR⟩ := g
  obtain ⟨hTb, hZ, hN⟩ := t0
  have hK := hKK.1
  intro H locs ls hH hS hl hq
  subst hst
  have hA0 : ∀ q, s.heap.size ≤ q → xA M0 s.heap.size q := fun q h => Or.inr h
  have hM : Met l y ws rm1 (xPT D (.ref b :: As) M H.size) (xQ D M H.size Post) mc ms (xA M H.size) := by
    intro p e ha hc9 hk s m args below hf happ hpre hkk
    obtain ⟨k, o, h1, h2, h3, hQ⟩ := hc H.size p e ha hc9 hk s m args below hf happ hpre hkk
    refine ⟨k, o, h1, h2, h3, ?_⟩
    rcases hQ with ⟨a1, a2⟩ | ⟨q, -, E, ce, L, ⟨⟨_, h, _⟩, _⟩, _⟩
    · exact ⟨a1, a2⟩
    · exact h.elim
  refine x_back (va_runI (As := As) (rest := rest) ⟨hx, hb, hml, hown, hts⟩ hM (cwI n hts hG hw hrc hrs (hts _ hini) (hts _ hmlk) (hts _ hinm) hy1 hdd (by rw [hR]; exact hR1)) ⟨xPT_blind, fun U hU hW => xPT_at hH hKK hTb hZ hS (fun _ _ h => h) hU hW⟩ rfl hn hl.1 rfl (lv_room hcat) hd (by rw [hR]; exact hroom)) hH (fun _ _ h => h) hA0 hS (fun v M1 H1 locs1 hp hH1 hk hf hS1 => ?_)
  exact kk v M1 hp H1 locs1 ls (hH1.weaken hf) hS1 hl hq
/-- a constructor over its own cells, and what is new is new for the caller too -/
theorem j_callIG (g : jG X cc own Ts nL rm) {y : MethodName} {ws ws' : List Cond} {bytes : ByteArray} {maxL : Nat} {rm1 : Room} {mc ms idx n : Nat} {As : List Value} {Post : Option Value → MH → Prop} {rest : List Value} {b : Nat} {Mc : MH} (hsub : ∀ a e, Mc a = some e → M a = some e) (hini : Cond.initialized y.cls ∈ Ts) (hmlk : Cond.methodLink own idx y ∈ Ts) (hinm : Cond.instanceMethod y ∈ Ts) (hy1 : y.name = "<init>") (hc : xC (jl X) (jD X) y ws rm1 mc ms (.ref b :: As) Mc Post) (hd : decode cc pc = .ok (.invokespecial idx, 3)) (hG : GoodIn Ts ws) (hw : ws = Cond.code y bytes maxL none :: ws') (hn : As.length = n) (hrc : rm1.cells = mc) (hrs : rm1.slots = ms) (hdd : y.cls ≠ "java/lang/invoke/MethodHandle" ∧ y.cls ≠ "java/lang/invoke/VarHandle" ∧ (parseMethodDescriptor y.desc).map (fun d => d.parameters.length) = some n) (hR1 : rm1.frames + 1 ≤ rm.frames ∧ 8 + (maxL + 11) + rm1.locals ≤ rm.locals) (hroom : cells + mc ≤ rm.cells ∧ slots + ms ≤ rm.slots) (hst : st = As.reverse ++ .ref b :: rest) (hcat : (rest.map fun v => v.category).sum ≤ 8)
    (kk : ∀ (v : Option Value) (M1 : MH), Post v M1 → (∀ q, M q ≠ none → Mc q = none → M1 q = none) → J X nL (cells + mc) (slots + ms) (jn M Mc M1) vs (v.toList ++ rest) (pc + 3)) : J X nL cells slots M vs st pc := by
  obtain ⟨p, l, e, R, s, m, args, below, meth, c, D, M0, Q⟩ := X
  obtain ⟨hx, hb, hml, hown, hts, hKK, hlk, hR⟩ := g
  have hK := hKK.1
  intro H locs ls hH hS hl hq
  subst hst
  have hA0 : ∀ q, s.heap.size ≤ q → xA M0 s.heap.size q := fun q h => Or.inr h
  refine x_back (va_runI (As := As) (rest := rest) ⟨hx, hb, hml, hown, hts⟩ (hc H.size) (cwI n hts hG hw hrc hrs (hts _ hini) (hts _ hmlk) (hts _ hinm) hy1 hdd (by rw [hR]; exact hR1)) ⟨xP_blind, fun U hU hW => xP_at hH hKK hsub hU hW⟩ rfl hn hl.1 rfl (lv_room hcat) hd (by rw [hR]; exact hroom)) hH hsub hA0 hS (fun v M1 H1 locs1 hp hH1 hk hf hS1 => ?_)
  exact kk v M1 hp (x_hnew hH hH1) H1 locs1 ls (hH.join hsub (fun q h => hA0 q (Nat.le_trans hS.1 h)) hk hH1) hS1 hl hq
/-- fewer locals are known -/
theorem j_loc (vs' : List (Option Value)) (h : ∀ i v, lvg vs' i = some v → lvg vs i = some v) (hlen : vs'.length = vs.length) (h1 : lv1 vs' = true) (k : J X nL cells slots M vs' st pc) : J X nL cells slots M vs st pc := by
  obtain ⟨p, l, e, R, s, m, args, below, meth, c, D, M0, Q⟩ := X
  intro H locs ls hH hS hl hq
  refine k H locs ls hH hS ⟨hl.1, hl.2.1, fun q hq2 => hl.2.2 q ?_⟩ ⟨hlen.trans hq.1, h1⟩
  obtain ⟨-, h2⟩ := lvl_of _ _ _ hq2
  rw [Nat.sub_zero] at h2
  have := lvl_mem vs 0 q.1 q.2 (h _ _ h2)
  rw [Nat.zero_add] at this
  exact this
/-- more room is left than is asked -/
theorem j_room (cells' slots' : Nat) (hc : cells ≤ cells') (hs : slots ≤ slots') (k : J X nL cells' slots' M vs st pc) : J X nL cells slots M vs st pc := by
  obtain ⟨p, l, e, R, s, m, args, below, meth, c, D, M0, Q⟩ := X
  intro H locs ls hH hS hl hq
  exact W.widen hc hs (k H locs ls hH hS hl hq)
end LawRows
/-! ===== the law's own rows ===== -/
def jS : JC → Nat → Nat → (Nat → Int32) → Prop
  | (p, l, e, R, s, m, args, below, meth, c, D, M0, Q), b, L, xs => va_X b L xs s s.heap ∧ b < s.heap.size ∧ ¬ xA M0 s.heap.size b
section LawRows2
variable {X : JC} {cc : ByteArray} {own : String} {Ts : List Cond} {nL cells slots pc : Nat} {rm : Room} {M : MH} {vs : List (Option Value)} {st : List Value}
theorem j_sld (g : jG X cc own Ts nL rm) {b L : Nat} {xs : Nat → Int32} (sc : jS X b L xs) {i : Int32} (hd : decode cc pc = .ok (.iaload, 1)) (j : Nat) (hi : i = nI j) (hj : j < L) (hL : L < 2 ^ 31) (kk : J X nL cells slots M vs (.int (xs j) :: st) (pc + 1)) : J X nL cells slots M vs (.int i :: .ref b :: st) pc := by
  obtain ⟨p, l, e, R, s, m, args, below, meth, c, D, M0, Q⟩ := X
  obtain ⟨hx, hb, hml, hown, hts, hKK, hlk, hR⟩ := g
  obtain ⟨hX, hbl, hbA⟩ := sc
  intro H locs ls hH hS hl hq
  subst hi
  refine va_sld hx hb hX hbl hbA hS (vp_in_nI hj hL) hd ?_
  rw [nI_clamp (Nat.lt_trans hj hL)]
  exact kk H locs ls hH hS hl hq
theorem j_slen (g : jG X cc own Ts nL rm) {b L : Nat} {xs : Nat → Int32} (sc : jS X b L xs) (hd : decode cc pc = .ok (.arraylength, 1)) (kk : J X nL cells slots M vs (.int (nI L) :: st) (pc + 1)) : J X nL cells slots M vs (.ref b :: st) pc := by
  obtain ⟨p, l, e, R, s, m, args, below, meth, c, D, M0, Q⟩ := X
  obtain ⟨hx, hb, hml, hown, hts, hKK, hlk, hR⟩ := g
  obtain ⟨hX, hbl, hbA⟩ := sc
  intro H locs ls hH hS hl hq
  exact va_slen hx hb hX hbl hbA hS hd (kk H locs ls hH hS hl hq)
end LawRows2
theorem sf28 {S : ST} {v : Int32} : sf [28] S (su S 28 0 v) := sf.rf.su (by decide)
/-! ===== rows of p22's law ===== -/
/-- the contract of a method without a table, that calls such as catch -/
theorem xV_of {l : Launch} {D : va_G} {y : MethodName} {ws ws' : List Cond} {rm : Room} {mc ms : Nat} {As : List Value} {M0 : MH} {Post : Option Value → MH → Prop} {cc : ByteArray} {maxL : Nat} {ret : Option FieldType} {own : String} (vs : List (Option Value)) (hy : plainName y.cls = true) (hw : ws = Cond.code y cc maxL ret :: ws') (ho : y.cls = own) (hle : (lg_sl As).length ≤ maxL) (hvs : lvl 0 vs = lv_args 0 As) (hlen : vs.length = maxL) (h1 : lv1 vs = true)
    (body : ∀ X : JC, jl X = l → jD X = D → jG X cc own ws maxL rm → jR X ret Post mc ms → jE0 X → J X maxL 0 0 M0 vs [] 0) : xW l D y ws rm mc ms As M0 Post := by
  intro h0
  refine Met.ofW (cc := cc) (maxL := maxL) (ret := ret) hy hw ?_
  intro p e s m args below meth c s₁ B hml hv
  obtain ⟨rfl, ⟨hsz, hH, hK, hTb, hZ⟩, hN⟩ := hv
  subst hsz
  have hown : s.vm.findClass own = some m.cls := by rw [← ho]; exact findClass_of_methodNamed B.named
  have hb := body (p, l, e, (headSpec ws rm).room, s, m, As.toArray, below, meth, c, D, M0, MQ below (xQ D M0 s.heap.size Post) As.toArray s mc ms (xA M0 s.heap.size)) rfl rfl
    ⟨B.exec, B.bytes, hml, hown, atoms_spec (ws := ws) B.pre, hK, B.notSynchronized, rfl⟩ ⟨B.returns, fun _ _ _ _ _ h => h⟩ ⟨hTb, hZ, hN⟩
  rw [lg_entry_eq]
  have hl := lv_entry As (n := maxL) hle
  rw [← hvs] at hl
  have hH0 : xH D (xA M0 s.heap.size) M0 s s.heap := by
    obtain ⟨L, f, a1, a2, a3, a4⟩ := hH
    refine ⟨L, f, a1, a2, a3, a4.1, fun k q hk => Or.inl ?_⟩
    have hx2 : q ∈ va_pl L f := List.mem_of_getElem? hk
    obtain ⟨a, ha, rfl⟩ := List.mem_map.mp hx2
    exact (a1 a).mp ha
  exact hb s.heap [] _ hH0 va_S.rf hl ⟨hlen, h1⟩
section LawRows3
variable {X : JC} {cc : ByteArray} {own : String} {Ts : List Cond} {nL cells slots pc : Nat} {rm : Room} {M : MH} {vs : List (Option Value)} {st : List Value}
/-- a static method without a table, over all cells -/
theorem j_callSV (g : jG X cc own Ts nL rm) (t0 : jE0 X) {y : MethodName} {ws ws' : List Cond} {bytes : ByteArray} {maxL : Nat} {ret : Option FieldType} {rm1 : Room} {mc ms idx n : Nat} {As : List Value} {Post : Option Value → MH → Prop} {rest : List Value} (hc : xW (jl X) (jD X) y ws rm1 mc ms As M Post) (hd : decode cc pc = .ok (.invokestatic idx, 3)) (hG : GoodIn Ts (va_wsS own idx y ws)) (hw : ws = Cond.code y bytes maxL ret :: ws') (hn : As.length = n) (hrc : rm1.cells = mc) (hrs : rm1.slots = ms) (hdd : y.cls ≠ "java/lang/invoke/MethodHandle" ∧ y.cls ≠ "java/lang/invoke/VarHandle" ∧ (parseMethodDescriptor y.desc).map (fun d => d.parameters.length) = some n) (hR1 : rm1.frames + 1 ≤ rm.frames ∧ 8 + (maxL + 11) + rm1.locals ≤ rm.locals) (hroom : cells + mc ≤ rm.cells ∧ slots + ms ≤ rm.slots) (hst : st = As.reverse ++ rest) (hcat : (rest.map fun v => v.category).sum ≤ 8)
    (kk : ∀ (v : Option Value) (M1 : MH), Post v M1 → J X nL (cells + mc) (slots + ms) M1 vs (v.toList ++ rest) (pc + 3)) : J X nL cells slots M vs st pc := by
  obtain ⟨p, l, e, R, s, m, args, below, meth, c, D, M0, Q⟩ := X
  obtain ⟨hx, hb, hml, hown, hts, hKK, hlk, hR⟩ := g
  obtain ⟨hTb, hZ, hN⟩ := t0
  have hK := hKK.1
  intro H locs ls hH hS hl hq
  subst hst
  have hA0 : ∀ q, s.heap.size ≤ q → xA M0 s.heap.size q := fun q h => Or.inr h
  refine x_back (va_runS (As := As) (rest := rest) ⟨hx, hb, hml, hown, hts⟩ (hc H.size) (va_cwS n hts hG hw hrc hrs hdd (by rw [hR]; exact hR1)) ⟨xPW_blind, fun U hU hW => ⟨rfl, (xPT_at (As := As) hH hKK hTb hZ hS (fun _ _ h => h) hU hW).2, hN.moved hW.alike⟩⟩ rfl hn hl.1 rfl (lv_room hcat) hd (by rw [hR]; exact hroom)) hH (fun _ _ h => h) hA0 hS (fun v M1 H1 locs1 hp hH1 hk hf hS1 => ?_)
  exact kk v M1 hp H1 locs1 ls (hH1.weaken hf) hS1 hl hq
/-- a static method that catches, over its own cells -/
theorem j_callSWF (g : jG X cc own Ts nL rm) (t0 : jE0 X) {hh : List (Nat × Nat × Nat × Nat)} {y : MethodName} {ws ws' : List Cond} {bytes : ByteArray} {maxL : Nat} {ret : Option FieldType} {rm1 : Room} {mc ms idx n : Nat} {As : List Value} {Post : Option Value → MH → Prop} {rest : List Value} {Mc : MH} (hsub : ∀ a e, Mc a = some e → M a = some e) (hc : xW (jl X) (jD X) y ws rm1 mc ms As Mc Post) (hd : decode cc pc = .ok (.invokestatic idx, 3)) (hG : GoodIn Ts (va_wsS own idx y ws)) (hw : ws = Cond.codeWith y bytes maxL ret hh :: ws') (hn : As.length = n) (hrc : rm1.cells = mc) (hrs : rm1.slots = ms) (hdd : y.cls ≠ "java/lang/invoke/MethodHandle" ∧ y.cls ≠ "java/lang/invoke/VarHandle" ∧ (parseMethodDescriptor y.desc).map (fun d => d.parameters.length) = some n) (hR1 : rm1.frames + 1 ≤ rm.frames ∧ 8 + (maxL + 11) + rm1.locals ≤ rm.locals) (hroom : cells + mc ≤ rm.cells ∧ slots + ms ≤ rm.slots) (hst : st = As.reverse ++ rest) (hcat : (rest.map fun v => v.category).sum ≤ 8)
    (kk : ∀ (v : Option Value) (M1 : MH), Post v M1 → (∀ q, M q ≠ none → Mc q = none → M1 q = none) → J X nL (cells + mc) (slots + ms) (jn M Mc M1) vs (v.toList ++ rest) (pc + 3)) : J X nL cells slots M vs st pc := by
  obtain ⟨p, l, e, R, s, m, args, below, meth, c, D, M0, Q⟩ := X
  obtain ⟨hx, hb, hml, hown, hts, hKK, hlk, hR⟩ := g
  obtain ⟨hTb, hZ, hN⟩ := t0
  have hK := hKK.1
  intro H locs ls hH hS hl hq
  subst hst
  have hA0 : ∀ q, s.heap.size ≤ q → xA M0 s.heap.size q := fun q h => Or.inr h
  refine x_back (vx_runSW (As := As) (rest := rest) ⟨hx, hb, hml, hown, hts⟩ (hc H.size) (vx_cwSW n hts hG hw hrc hrs hdd (by rw [hR]; exact hR1)) ⟨xPW_blind, fun U hU hW => ⟨rfl, (xPT_at (As := As) hH hKK hTb hZ hS hsub hU hW).2, hN.moved hW.alike⟩⟩ rfl hn hl.1 rfl (lv_room hcat) hd (by rw [hR]; exact hroom)) hH hsub hA0 hS (fun v M1 H1 locs1 hp hH1 hk hf hS1 => ?_)
  exact kk v M1 hp (x_hnew hH hH1) H1 locs1 ls (hH.join hsub (fun q h => hA0 q (Nat.le_trans hS.1 h)) hk hH1) hS1 hl hq
theorem j_ishr (g : jG X cc own Ts nL rm) {x y : Int32} (hd : decode cc pc = .ok (.ishr, 1)) (k : J X nL cells slots M vs (.int (x >>> (y &&& 31)) :: st) (pc + 1)) : J X nL cells slots M vs (.int y :: .int x :: st) pc := by
  obtain ⟨p, l, e, R, s, m, args, below, meth, c, D, M0, Q⟩ := X
  obtain ⟨hx, hb, hml, hown, hts, hKK, hlk, hR⟩ := g
  intro H locs ls hH hS hl hq
  exact lv_ishr hx hb hd (k H locs ls hH hS hl hq)
theorem j_ldci (g : jG X cc own Ts nL rm) {idx : Nat} (v : Int32) (hd : decode cc pc = .ok (.ldc idx, 2)) (hw : Cond.constant own idx v ∈ Ts) (k : J X nL cells slots M vs (.int v :: st) (pc + 2)) : J X nL cells slots M vs st pc := by
  obtain ⟨p, l, e, R, s, m, args, below, meth, c, D, M0, Q⟩ := X
  obtain ⟨hx, hb, hml, hown, hts, hKK, hlk, hR⟩ := g
  intro H locs ls hH hS hl hq
  exact lv_ldc hx hb hown (hts _ hw) hd (k H locs ls hH hS hl hq)
end LawRows3
/-! the cells of the law: the class's, and five rows of ints -/
def rl (j : Nat) : Nat := match j with
  | 0 => 5 | 1 => 6 | 2 => 9 | 3 => 16 | _ => 64
abbrev RW : Type := Nat → Nat → Int32
def LR (M Mx : MH) (ra : Nat → Nat) (R : ST) : Prop := (∀ q e, Mx q = some e → M q = some e) ∧ (∀ j, j < 5 → M (ra j) = some (aI (rl j) (R j))) ∧ (∀ j, j < 5 → Mx (ra j) = none)
theorem jn_1 {M Mc M1 : MH} {q : Nat} {e : va_E} (h : M1 q = some e) : jn M Mc M1 q = some e := by
  unfold jn
  rw [h]
theorem jn_o {M Mc M1 : MH} {q : Nat} (h1 : M1 q = none) (h2 : Mc q = none) : jn M Mc M1 q = M q := by
  unfold jn
  rw [h1, h2]
theorem rl_inj : ∀ i, i < 5 → ∀ j, j < 5 → rl i = rl j → i = j := by decide
theorem LR.ne {M Mx : MH} {ra : Nat → Nat} {R : ST} (h : LR M Mx ra R) {i j : Nat} (hi : i < 5) (hj : j < 5) (hij : i ≠ j) : ra i ≠ ra j := fun z => by
  have h1 := h.2.1 i hi
  rw [z, h.2.1 j hj] at h1
  have h2 : rl j = rl i := by
    have h3 := Option.some.inj h1
    have h4 := Sum.inl.inj h3
    exact congrArg (fun q => q.2.1) h4
  exact hij (rl_inj i hi j hj h2.symm)
theorem LR.call {M Mx M1 : MH} {ra : Nat → Nat} {R : ST} (h : LR M Mx ra R) (hn : ∀ q, M q ≠ none → Mx q = none → M1 q = none) : LR (jn M Mx M1) M1 ra R := by
  have hq : ∀ j, j < 5 → M1 (ra j) = none := fun j hj => hn _ (by rw [h.2.1 j hj]; simp) (h.2.2 j hj)
  exact ⟨fun q e he => jn_1 he, fun j hj => by rw [jn_o (hq j hj) (h.2.2 j hj)]; exact h.2.1 j hj, hq⟩
theorem LR.put {M Mx : MH} {ra : Nat → Nat} {R : ST} (h : LR M Mx ra R) {j k : Nat} (hj : j < 5) (v : Int32) : LR (xu M (ra j) (aI (rl j) (upd (R j) k v))) Mx ra (su R j k v) := by
  refine ⟨fun q e he => ?_, fun i hi => ?_, h.2.2⟩
  · rw [xu_n (fun z => by rw [z, h.2.2 j hj] at he; exact absurd he (by simp))]
    exact h.1 q e he
  · by_cases hij : i = j
    · subst hij
      rw [xu_s, su_a]
    · rw [xu_n (h.ne hi hj hij), su_o hij]
      exact h.2.1 i hi
section LawRows4
variable {X : JC} {cc : ByteArray} {own : String} {Ts : List Cond} {nL cells slots pc : Nat} {rm : Room} {M Mx : MH} {vs : List (Option Value)} {st : List Value} {ra : Nat → Nat} {R : ST}
theorem rl_le (j : Nat) : rl j ≤ 64 := by
  unfold rl
  split <;> decide
/-- a place of a row is read -/
theorem j_rd (g : jG X cc own Ts nL rm) (hr : LR M Mx ra R) (j : Nat) (hj : j < 5) (k : Nat) {i : Int32} (v : Int32) (hd : decode cc pc = .ok (.iaload, 1)) (hi : i = nI k) (hk : k < rl j) (hv : R j k = v) (kk : J X nL cells slots M vs (.int v :: st) (pc + 1)) : J X nL cells slots M vs (.int i :: .ref (ra j) :: st) pc := by
  have hl := rl_le j
  subst hi
  refine j_iald g hd (hr.2.1 j hj) (vp_in_nI hk (by omega)) ?_
  rw [nI_clamp (by omega), hv]
  exact kk
/-- a place of a row is written -/
theorem j_wr (g : jG X cc own Ts nL rm) (hr : LR M Mx ra R) (j : Nat) (hj : j < 5) (k : Nat) {i v : Int32} (hd : decode cc pc = .ok (.iastore, 1)) (hi : i = nI k) (hk : k < rl j) (kk : ∀ M2, LR M2 Mx ra (su R j k v) → J X nL cells slots M2 vs st (pc + 1)) : J X nL cells slots M vs (.int v :: .int i :: .ref (ra j) :: st) pc := by
  have hl := rl_le j
  subst hi
  refine j_iast g hd (hr.2.1 j hj) (vp_in_nI hk (by omega)) ?_
  rw [nI_clamp (by omega)]
  exact kk _ (hr.put hj v)
/-- a catching method over the class's cells alone -/
theorem j_cW (g : jG X cc own Ts nL rm) (t0 : jE0 X) (hr : LR M Mx ra R) {hh : List (Nat × Nat × Nat × Nat)} {y : MethodName} {ws ws' : List Cond} {bytes : ByteArray} {maxL : Nat} {ret : Option FieldType} {rm1 : Room} {mc ms idx n : Nat} {As : List Value} {Post : Option Value → MH → Prop} {rest : List Value} (hc : xW (jl X) (jD X) y ws rm1 mc ms As Mx Post) (hd : decode cc pc = .ok (.invokestatic idx, 3)) (hG : GoodIn Ts (va_wsS own idx y ws)) (hw : ws = Cond.codeWith y bytes maxL ret hh :: ws') (hn : As.length = n) (hrc : rm1.cells = mc) (hrs : rm1.slots = ms) (hdd : y.cls ≠ "java/lang/invoke/MethodHandle" ∧ y.cls ≠ "java/lang/invoke/VarHandle" ∧ (parseMethodDescriptor y.desc).map (fun d => d.parameters.length) = some n) (hR1 : rm1.frames + 1 ≤ rm.frames ∧ 8 + (maxL + 11) + rm1.locals ≤ rm.locals) (hroom : cells + mc ≤ rm.cells ∧ slots + ms ≤ rm.slots) (hst : st = As.reverse ++ rest) (hcat : (rest.map fun v => v.category).sum ≤ 8)
    (kk : ∀ (v : Option Value) (M1 M2 : MH), Post v M1 → LR M2 M1 ra R → J X nL (cells + mc) (slots + ms) M2 vs (v.toList ++ rest) (pc + 3)) : J X nL cells slots M vs st pc :=
  j_callSWF g t0 hr.1 hc hd hG hw hn hrc hrs hdd hR1 hroom hst hcat (fun v M1 hp hnn => kk v M1 _ hp (hr.call hnn))
end LawRows4
/-! the script in a method of its own -/
def xPS (D : va_G) (As : List Value) (b L : Nat) (xs : Nat → Int32) (h0 : Nat) : Array Value → State → Prop := va_Pc As (fun U => (U.heap.size = h0 ∧ xH D (fun _ => True) (fun _ => none) U U.heap ∧ xK D U) ∧ va_X b L xs U U.heap ∧ b < h0)
def xS (l : Launch) (D : va_G) (y : MethodName) (ws : List Cond) (rm : Room) (mc ms : Nat) (As : List Value) (b L : Nat) (xs : Nat → Int32) (Post : Option Value → MH → Prop) : Prop := ∀ h0 : Nat, Met l y ws rm (xPS D As b L xs h0) (xQ D (fun _ => none) h0 Post) mc ms (xA (fun _ => none) h0)
theorem xS_of {l : Launch} {D : va_G} {y : MethodName} {ws ws' : List Cond} {rm : Room} {mc ms : Nat} {As : List Value} {b L : Nat} {xs : Nat → Int32} {Post : Option Value → MH → Prop} {cc : ByteArray} {maxL : Nat} {ret : Option FieldType} {own : String} (vs : List (Option Value)) (hy : plainName y.cls = true) (hw : ws = Cond.code y cc maxL ret :: ws') (ho : y.cls = own) (hle : (lg_sl As).length ≤ maxL) (hvs : lvl 0 vs = lv_args 0 As) (hlen : vs.length = maxL) (h1 : lv1 vs = true)
    (body : ∀ X : JC, jl X = l → jD X = D → jG X cc own ws maxL rm → jR X ret Post mc ms → jS X b L xs → J X maxL 0 0 (fun _ => none) vs [] 0) : xS l D y ws rm mc ms As b L xs Post := by
  intro h0
  refine Met.ofW (cc := cc) (maxL := maxL) (ret := ret) hy hw ?_
  intro p e s m args below meth c s₁ B hml hv
  obtain ⟨rfl, ⟨hsz, hH, hK⟩, hX, hbl⟩ := hv
  subst hsz
  have hown : s.vm.findClass own = some m.cls := by rw [← ho]; exact findClass_of_methodNamed B.named
  have hb := body (p, l, e, (headSpec ws rm).room, s, m, As.toArray, below, meth, c, D, (fun _ => none), MQ below (xQ D (fun _ => none) s.heap.size Post) As.toArray s mc ms (xA (fun _ => none) s.heap.size)) rfl rfl
    ⟨B.exec, B.bytes, hml, hown, atoms_spec (ws := ws) B.pre, hK, B.notSynchronized, rfl⟩ ⟨B.returns, fun _ _ _ _ _ h => h⟩ ⟨hX, hbl, fun z => z.elim (fun z => z rfl) (fun z => absurd z (Nat.not_le.mpr hbl))⟩
  rw [lg_entry_eq]
  have hl := lv_entry As (n := maxL) hle
  rw [← hvs] at hl
  have hH0 : xH D (xA (fun _ => none) s.heap.size) (fun _ => none) s s.heap := by
    obtain ⟨L, f, a1, a2, a3, a4⟩ := hH
    refine ⟨L, f, a1, a2, a3, a4.1, fun k q hk => Or.inl ?_⟩
    have hx2 : q ∈ va_pl L f := List.mem_of_getElem? hk
    obtain ⟨a, ha, rfl⟩ := List.mem_map.mp hx2
    exact (a1 a).mp ha
  exact hb s.heap [] _ hH0 va_S.rf hl ⟨hlen, h1⟩
theorem xPS_blind {D : va_G} {As : List Value} {b L : Nat} {xs : Nat → Int32} {h0 : Nat} : FrameBlind (xPS D As b L xs h0) := by
  intro a U fr mk q
  obtain ⟨q0, ⟨q1, q2, q3⟩, q4, q5⟩ := q
  exact ⟨q0, ⟨q1, xH.moved (u := U) (U := U.calling fr mk a) (Vm.Alike.refl U.vm) q2, xK.moved (u := U) (U := U.calling fr mk a) (Vm.Alike.refl U.vm) q3⟩, va_X.moved (u := U) (U := U.calling fr mk a) (Vm.Alike.refl U.vm) q4, q5⟩
theorem j_callX {X : JC} {cc : ByteArray} {own : String} {Ts : List Cond} {nL cells slots pc : Nat} {rm : Room} {M : MH} {vs : List (Option Value)} {st : List Value} (g : jG X cc own Ts nL rm) {b L : Nat} {xs : Nat → Int32} (sc : jS X b L xs) {y : MethodName} {ws ws' : List Cond} {bytes : ByteArray} {maxL : Nat} {ret : Option FieldType} {rm1 : Room} {mc ms idx n : Nat} {As : List Value} {Post : Option Value → Prop} {rest : List Value} (hc : xS (jl X) (jD X) y ws rm1 mc ms As b L xs (fun v M' => Post v ∧ M' = fun _ => none)) (hd : decode cc pc = .ok (.invokestatic idx, 3)) (hG : GoodIn Ts (va_wsS own idx y ws)) (hw : ws = Cond.code y bytes maxL ret :: ws') (hn : As.length = n) (hrc : rm1.cells = mc) (hrs : rm1.slots = ms) (hdd : y.cls ≠ "java/lang/invoke/MethodHandle" ∧ y.cls ≠ "java/lang/invoke/VarHandle" ∧ (parseMethodDescriptor y.desc).map (fun d => d.parameters.length) = some n) (hR1 : rm1.frames + 1 ≤ rm.frames ∧ 8 + (maxL + 11) + rm1.locals ≤ rm.locals) (hroom : cells + mc ≤ rm.cells ∧ slots + ms ≤ rm.slots) (hst : st = As.reverse ++ rest) (hcat : (rest.map fun v => v.category).sum ≤ 8)
    (kk : ∀ (v : Option Value), Post v → J X nL (cells + mc) (slots + ms) M vs (v.toList ++ rest) (pc + 3)) : J X nL cells slots M vs st pc := by
  obtain ⟨p, l, e, R, s, m, args, below, meth, c, D, M0, Q⟩ := X
  obtain ⟨hx, hb, hml, hown, hts, hKK, hlk, hR⟩ := g
  obtain ⟨hX, hbl, hbA⟩ := sc
  have hK := hKK.1
  intro H locs ls hH hS hl hq
  subst hst
  have hA0 : ∀ q, s.heap.size ≤ q → xA M0 s.heap.size q := fun q h => Or.inr h
  have hsub : ∀ a e, (fun _ => none : MH) a = some e → M a = some e := fun _ _ h => absurd h (by simp)
  have hX2 : va_X b L xs s H := hX.kept (hS.2.1 b hbl hbA)
  refine x_back (va_runS (As := As) (rest := rest) ⟨hx, hb, hml, hown, hts⟩ (hc H.size) (va_cwS n hts hG hw hrc hrs hdd (by rw [hR]; exact hR1)) ⟨xPS_blind, fun U hU hW => by
    obtain ⟨a1, a2, a3, a4⟩ := xP_at (As := As) hH hKK hsub hU hW
    exact ⟨a1, ⟨a2, a3, a4⟩, by rw [hU]; exact hX2.moved hW.alike, Nat.lt_of_lt_of_le hbl hS.1⟩⟩ rfl hn hl.1 rfl (lv_room hcat) hd (by rw [hR]; exact hroom)) hH hsub hA0 hS (fun v M1 H1 locs1 hp hH1 hk hf hS1 => ?_)
  obtain ⟨hp, rfl⟩ := hp
  have hj := hH.join hsub (fun q h => hA0 q (Nat.le_trans hS.1 h)) hk hH1
  have ej : jn M (fun _ => none) (fun _ => none) = M := by
    funext q
    rfl
  rw [ej] at hj
  exact kk v hp H1 locs1 ls hj hS1 hl hq
/-! ===== marks that the law compares are no NaN ===== -/
section Marks
variable {S : ST} {d ns nd : Nat}
theorem fl_mark {gn y : Int32} (h : mOK S d ns nd) (t : tMark S gn y = 0) : fl (markS S 2 0 d (ix gn) (ix y) (ix (S 4 (ix gn))) 0) 188 := by
  obtain ⟨⟨h1, h2⟩, -⟩ := t_a (by decide) t
  obtain ⟨-, hg⟩ := isSi_ix h.2.1.1 h.2.1.2.2.1 h1
  obtain ⟨-, hy⟩ := iN_ix (n := 3) (by omega) h2
  have hsg := h.2.1.2.2.2 _ hg
  have i4 := hsg.i4
  exact markS_fl h.2.1.2.1 (by omega) (by unfold rg; decide) i4.2.2 i4.2.1 (fun i hi => ⟨by rw [Nat.zero_add]; exact h.1.2.2 i (by omega), hsg.2 i (by omega)⟩)
theorem fl_part {gn k w : Int32} (h : mOK S d ns nd) (t : tPart S gn k w = 0) : fl (vPart S gn k w) 167 := by
  obtain ⟨⟨h1, h2, h3⟩, -⟩ := t_a (by decide) t
  obtain ⟨-, hg⟩ := isSi_ix h.2.1.1 h.2.1.2.2.1 h1
  have h8 := h.1.2.1
  rw [h.1.1] at h2
  obtain ⟨hk, hkd⟩ := iN_ix1 (by omega) h2
  have hsg := h.2.1.2.2.2 _ hg
  have i4 := hsg.i4
  rw [hk, i4.1] at h3
  have hk4 : ix k < ix (S 4 (ix gn)) := (nI_ltI (by omega) (by omega)).mp h3
  have a := h.1.2.2 (ix k) hkd
  have b := hsg.2 (ix k) hk4
  unfold vPart
  split
  · exact fl_m (nearS_fl a b (by unfold rg; decide)) (by decide)
  · split
    · exact slopeS_fl a b
    · exact fl_m (ord_fl _ _) (by decide)
theorem fl_marked {its k o : Int32} (h : mOK S d ns nd) (t : tMarked S its k o = 0) : fl (allS S (ix its) (wI (ix its) (ix k) o)) 190 := by
  obtain ⟨hh, -⟩ := t_a (by decide) t
  obtain ⟨a1, a2, b1, b2, h3⟩ := isHa_at h hh
  rw [show wI (ix its) (ix k) o = 10 * ix its + (2 * ix k + ofI o) by unfold wI; omega]
  exact allS_fl (h.2.2.1.2.2 _ a2) h.2.1.2 h3
end Marks
