/-! ===== methods that throw ===== -/
abbrev eIA : String := "java/lang/IllegalArgumentException"
abbrev eIS : String := "java/lang/IllegalStateException"
abbrev eIO : String := "java/lang/IndexOutOfBoundsException"
abbrev eNs : List String := ["java/lang/RuntimeException", "java/lang/Exception"]
def xStrs : List (Nat × String) := [(53, "a place is out of range"), (58, "both places are the same"), (66, "the draft is full"), (81, "the draft has not 1 to 6 strokes"), (90, "there are all signs"), (98, "no such paper"), (101, "sheets is out of range"), (106, "there would be too many sheets"), (108, "rise is out of range"), (120, "no such style"), (122, "a weight is out of range"), (137, "no such judge or style"), (145, "the judge knows it"), (155, "days is out of range"), (157, "the day would be too late"), (167, "no such writer"), (169, "no such judge or paper"), (171, "both writers are the same"), (173, "rounds or draw is out of range"), (178, "there are no signs, or all duels"), (190, "no such duel"), (192, "seal is out of range"), (209, "the duel has all rounds"), (214, "the draft is empty, or there is no sheet"), (238, "no such duel, or not handed in"), (247, "no such duel or judge"), (255, "it goes on, was appealed, or it is its judge"), (261, "no such duel or round"), (263, "no such sign or style"), (275, "no such sign or stroke"), (284, "what is out of range")]
def xTw : List Cond := [.declares (Bundle.initS "java/lang/RuntimeException"), .declares (Bundle.initS "java/lang/Exception"), .declares (Bundle.initS Bundle.tN), .castable eIA eIA, .castable eIS eIS, .castable eIO eIO, .methodLinkNest RX8 39 yX5_init "InkRing", .methodLinkNest RX8 44 yX2_init "InkRing", .methodLinkNest RX8 45 yX6_init "InkRing"]
theorem xTw_ot : ∀ w ∈ xTw, w.onTables = true := by decide +kernel
/-- the texts' places, and the words of a throw that don't keep -/
def xTb (U : State) : Prop := (∀ q ∈ xStrs, ∃ sa, vk_R RX8 q.1 q.2 sa U) ∧ ∀ w ∈ xTw, va_Nw w U
theorem xTb.warm {s U : State} (hW : s.WarmedH U.vm) (h : xTb s) : xTb U := by
  refine ⟨fun q hq => ?_, fun w hw => ?_⟩
  · obtain ⟨sa, h1⟩ := h.1 q hq
    exact ⟨sa, vk_R.warm hW h1⟩
  · have h1 := h.2 w hw
    simp only [xTw, List.mem_cons, List.not_mem_nil, or_false] at hw
    rcases hw with rfl | rfl | rfl | rfl | rfl | rfl | rfl | rfl | rfl
    · exact va_Nw.warmD hW h1
    · exact va_Nw.warmD hW h1
    · exact va_Nw.warmD hW h1
    · exact va_Nw.warmC hW h1
    · exact va_Nw.warmC hW h1
    · exact va_Nw.warmC hW h1
    · exact va_Nw.warmM hW h1
    · exact va_Nw.warmM hW h1
    · exact va_Nw.warmM hW h1
/-- what lies in Throwable's two fields -/
def xZ (A : Nat → Prop) (U : State) (H : Heap) : Prop := vx_Zq Bundle.tN "UNASSIGNED_STACK" Bundle.steD A U H ∧ vx_Zq Bundle.tN "SUPPRESSED_SENTINEL" Bundle.listD A U H
def xPT (D : va_G) (As : List Value) (M0 : MH) (h0 : Nat) : Array Value → State → Prop := va_Pc As (fun U => U.heap.size = h0 ∧ xH D (fun _ => True) M0 U U.heap ∧ xK D U ∧ xTb U ∧ xZ (xA M0 h0) U U.heap)
def xX (D : va_G) (M0 : MH) (h0 : Nat) (Exc : String → MH → Prop) : String → State → State → Prop := fun E st t => (∃ M' : MH, Exc E M' ∧ xH D (xA M0 h0) M' t t.heap ∧ xK D t) ∧ va_F (xA M0 h0) st t
/-- the contract of a method that may throw -/
def xT (l : Launch) (D : va_G) (y : MethodName) (ws : List Cond) (rm : Room) (mc ms : Nat) (As : List Value) (M0 : MH) (Post : Option Value → MH → Prop) (Exc : String → MH → Prop) : Prop := ∀ h0 : Nat, vx_Met l y ws rm (xPT D As M0 h0) (xQ D M0 h0 Post) (xX D M0 h0 Exc) mc ms (xA M0 h0)
def jT : JC → (String → MH → Prop) → Nat → Nat → Prop
  | (p, l, e, R, s, m, args, below, meth, c, D, M0, Q), Exc, mc, ms => l.stackTraces = false ∧ (∀ x ∈ c.exceptionTable.toList, False) ∧ xTb s ∧ xZ (xA M0 s.heap.size) s s.heap ∧ ∃ Post, Q = vx_MQ below (xQ D M0 s.heap.size Post) (xX D M0 s.heap.size Exc) args s mc ms (xA M0 s.heap.size)
theorem xT_of {l : Launch} {D : va_G} {y : MethodName} {ws ws' : List Cond} {rm : Room} {mc ms : Nat} {As : List Value} {M0 : MH} {Post : Option Value → MH → Prop} {Exc : String → MH → Prop} {cc : ByteArray} {maxL : Nat} {ret : Option FieldType} {own : String} (hst : l.stackTraces = false) (vs : List (Option Value)) (hy : plainName y.cls = true) (hw : ws = Cond.code y cc maxL ret :: ws') (ho : y.cls = own) (hle : (lg_sl As).length ≤ maxL) (hvs : lvl 0 vs = lv_args 0 As) (hlen : vs.length = maxL) (h1 : lv1 vs = true)
    (body : ∀ X : JC, jl X = l → jD X = D → jG X cc own ws maxL rm → jR X ret Post mc ms → jT X Exc mc ms → J X maxL 0 0 M0 vs [] 0) : xT l D y ws rm mc ms As M0 Post Exc := by
  intro h0
  refine vx_ofW (cc := cc) (maxL := maxL) (ret := ret) hy hw ?_
  intro p e s m args below meth c s₁ B hml hex hv
  obtain ⟨rfl, hsz, hH, hK, hTb, hZ⟩ := hv
  subst hsz
  have hown : s.vm.findClass own = some m.cls := by rw [← ho]; exact findClass_of_methodNamed B.named
  have hb := body (p, l, e, (headSpec ws rm).room, s, m, As.toArray, below, meth, c, D, M0, vx_MQ below (xQ D M0 s.heap.size Post) (xX D M0 s.heap.size Exc) As.toArray s mc ms (xA M0 s.heap.size)) rfl rfl
    ⟨B.exec, B.bytes, hml, hown, atoms_spec (ws := ws) B.pre, hK, B.notSynchronized, rfl⟩ ⟨B.returns, fun _ _ _ _ _ h => vx_ret h⟩ ⟨hst, hex, hTb, hZ, Post, rfl⟩
  rw [lg_entry_eq]
  have hl := lv_entry As (n := maxL) hle
  rw [← hvs] at hl
  have hH0 : xH D (xA M0 s.heap.size) M0 s s.heap := by
    obtain ⟨L, f, a1, a2, a3, a4⟩ := hH
    refine ⟨L, f, a1, a2, a3, a4.1, fun k q hk => Or.inl ?_⟩
    have hx2 : q ∈ va_pl L f := List.mem_of_getElem? hk
    obtain ⟨a, ha, rfl⟩ := List.mem_map.mp hx2
    exact (a1 a).mp ha
  exact hb s.heap [] _ hH0 va_S.rf hl ⟨hlen, h1⟩
theorem xH.grown {D : va_G} {A : Nat → Prop} {M : MH} {s : State} {H H1 : Heap} (h : xH D A M s H) (hq : ∀ q : Nat, q < H.size → H1[q]? = H[q]?) : xH D A M s H1 := by
  obtain ⟨L, f, a1, a2, a3, a4⟩ := h
  exact ⟨L, f, a1, a2, a3.kept (fun k q hk => hq _ (a3 k q hk).lt), a4⟩
def xTwB (own : String) (ic : Nat) (E : String) : Bool := ((vx_atS own ic E eNs).filter (fun w => !goodWord w)).all (fun w => decide (w ∈ xTw))
section ThrowRow
variable {X : JC} {cc : ByteArray} {own : String} {Ts : List Cond} {nL cells slots pc : Nat} {rm : Room} {M : MH} {vs : List (Option Value)} {st : List Value} {Exc : String → MH → Prop} {mc ms : Nat}
theorem j_throwS (g : jG X cc own Ts nL rm) (t : jT X Exc mc ms) {ik is ic : Nat} (E tx : String) (d0 : decode cc pc = .ok (.new ik, 3)) (d3 : decode cc (pc + 3) = .ok (.dup, 1)) (d4 : decode cc (pc + 4) = .ok (.ldc is, 2)) (d6 : decode cc (pc + 6) = .ok (.invokespecial ic, 3)) (d9 : decode cc (pc + 9) = .ok (.athrow, 1))
    (ho : own = RX8) (hs : (is, tx) ∈ xStrs) (hE : Bundle.fit E = true) (hk : Cond.classLink own ik E ∈ Ts) (hini : Cond.initialized E ∈ Ts) (hat : ∀ w ∈ (vx_atS own ic E eNs).filter goodWord, w ∈ Ts) (hbad : xTwB own ic E = true) (hgood : ∀ w ∈ Cond.classLink own ik E :: Cond.initialized E :: vx_atS own ic E eNs, vx_ot w = true)
    (hfr : 6 ≤ rm.frames) (hlo : (st.map fun v => v.category).sum + 82 ≤ rm.locals) (hc : cells + 1 ≤ mc) (hsl : slots + 6 ≤ ms) (hmc : mc ≤ rm.cells) (hms : ms ≤ rm.slots) (hp : Exc E M) : J X nL cells slots M vs st pc := by
  obtain ⟨p, l, e, R, s, m, args, below, meth, c, D, M0, Q⟩ := X
  obtain ⟨hx, hb, hml, hown, hts, hKK, hlk, hR⟩ := g
  obtain ⟨hl0, hex, hTb, hZ, Post, hQ⟩ := t
  subst hQ
  intro H locs ls hH hS hl hq
  obtain ⟨sa, hsa⟩ := hTb.1 _ hs
  subst ho
  have hall : ∀ w ∈ vx_atS RX8 ic E eNs, w.before args s = true := by
    intro w hw
    by_cases hg : goodWord w = true
    · exact hts _ (hat w (List.mem_filter.mpr ⟨hw, hg⟩))
    · have h1 := List.all_eq_true.mp hbad w (List.mem_filter.mpr ⟨hw, by simpa using hg⟩)
      have h2 := of_decide_eq_true h1
      exact va_Nw.use (xTw_ot w h2) (hTb.2 w h2)
  exact vx_throwS (A := xA M0 s.heap.size) hx hb hl0 hown hE (by decide) (hts _ hk) (hts _ hini) hsa hall hgood hZ.1 hZ.2 hS (hl.1.trans hml.symm) d0 d3 d4 d6 d9 (fun x hx9 => (hex x hx9).elim)
    (by rw [hR]; exact hfr) (by rw [hR]; exact hlo) (by rw [hR]; omega) (by rw [hR]; omega) hlk
    (fun t hA h1 h2 => ⟨⟨M, hp, (hH.grown h2).moved hA, hKK.moved hA⟩, Nat.le_trans hS.1 h1, fun q h3 h4 => by rw [h2 q (Nat.lt_of_lt_of_le h3 hS.1)]; exact hS.2.1 q h3 h4⟩) hS.2.2 hc hsl
theorem j_throwSW (g : jG X cc own Ts nL rm) (t : jT X Exc mc ms) {ik is ic : Nat} (E tx : String) (d0 : decode cc pc = .ok (.new ik, 3)) (d3 : decode cc (pc + 3) = .ok (.dup, 1)) (d4 : decode cc (pc + 4) = .ok (.ldc_w is, 3)) (d6 : decode cc (pc + 7) = .ok (.invokespecial ic, 3)) (d9 : decode cc (pc + 10) = .ok (.athrow, 1))
    (ho : own = RX8) (hs : (is, tx) ∈ xStrs) (hE : Bundle.fit E = true) (hk : Cond.classLink own ik E ∈ Ts) (hini : Cond.initialized E ∈ Ts) (hat : ∀ w ∈ (vx_atS own ic E eNs).filter goodWord, w ∈ Ts) (hbad : xTwB own ic E = true) (hgood : ∀ w ∈ Cond.classLink own ik E :: Cond.initialized E :: vx_atS own ic E eNs, vx_ot w = true)
    (hfr : 6 ≤ rm.frames) (hlo : (st.map fun v => v.category).sum + 82 ≤ rm.locals) (hc : cells + 1 ≤ mc) (hsl : slots + 6 ≤ ms) (hmc : mc ≤ rm.cells) (hms : ms ≤ rm.slots) (hp : Exc E M) : J X nL cells slots M vs st pc := by
  obtain ⟨p, l, e, R, s, m, args, below, meth, c, D, M0, Q⟩ := X
  obtain ⟨hx, hb, hml, hown, hts, hKK, hlk, hR⟩ := g
  obtain ⟨hl0, hex, hTb, hZ, Post, hQ⟩ := t
  subst hQ
  intro H locs ls hH hS hl hq
  obtain ⟨sa, hsa⟩ := hTb.1 _ hs
  subst ho
  have hall : ∀ w ∈ vx_atS RX8 ic E eNs, w.before args s = true := by
    intro w hw
    by_cases hg : goodWord w = true
    · exact hts _ (hat w (List.mem_filter.mpr ⟨hw, hg⟩))
    · have h1 := List.all_eq_true.mp hbad w (List.mem_filter.mpr ⟨hw, by simpa using hg⟩)
      have h2 := of_decide_eq_true h1
      exact va_Nw.use (xTw_ot w h2) (hTb.2 w h2)
  exact vx_throwSW (A := xA M0 s.heap.size) hx hb hl0 hown hE (by decide) (hts _ hk) (hts _ hini) hsa hall hgood hZ.1 hZ.2 hS (hl.1.trans hml.symm) d0 d3 d4 d6 d9 (fun x hx9 => (hex x hx9).elim)
    (by rw [hR]; exact hfr) (by rw [hR]; exact hlo) (by rw [hR]; omega) (by rw [hR]; omega) hlk
    (fun t hA h1 h2 => ⟨⟨M, hp, (hH.grown h2).moved hA, hKK.moved hA⟩, Nat.le_trans hS.1 h1, fun q h3 h4 => by rw [h2 q (Nat.lt_of_lt_of_le h3 hS.1)]; exact hS.2.1 q h3 h4⟩) hS.2.2 hc hsl
/-- a nest mate's private constructor -/
theorem j_callIN (g : jG X cc own Ts nL rm) (t : jT X Exc mc ms) (host : String) {y : MethodName} {ws ws' : List Cond} {bytes : ByteArray} {maxL : Nat} {rm1 : Room} {mc1 ms1 idx n : Nat} {As : List Value} {Post : Option Value → MH → Prop} {rest : List Value} {b : Nat} (hlk9 : Cond.methodLinkNest own idx y host ∈ xTw) (hini : Cond.initialized y.cls ∈ Ts) (hinm : Cond.instanceMethod y ∈ Ts) (hy1 : y.name = "<init>") (hc : xC (jl X) (jD X) y ws rm1 mc1 ms1 (.ref b :: As) M Post) (hd : decode cc pc = .ok (.invokespecial idx, 3)) (hG : GoodIn Ts ws) (hw : ws = Cond.code y bytes maxL none :: ws') (hn : As.length = n) (hrc : rm1.cells = mc1) (hrs : rm1.slots = ms1) (hdd : y.cls ≠ "java/lang/invoke/MethodHandle" ∧ y.cls ≠ "java/lang/invoke/VarHandle" ∧ (parseMethodDescriptor y.desc).map (fun d => d.parameters.length) = some n) (hR1 : rm1.frames + 1 ≤ rm.frames ∧ 8 + (maxL + 11) + rm1.locals ≤ rm.locals) (hroom : cells + mc1 ≤ rm.cells ∧ slots + ms1 ≤ rm.slots) (hst : st = As.reverse ++ .ref b :: rest) (hcat : (rest.map fun v => v.category).sum ≤ 8) (kk : ∀ (v : Option Value) (M1 : MH), Post v M1 → J X nL (cells + mc1) (slots + ms1) M1 vs (v.toList ++ rest) (pc + 3)) : J X nL cells slots M vs st pc := by
  obtain ⟨p, l, e, R, s, m, args, below, meth, c, D, M0, Q⟩ := X
  obtain ⟨hx, hb, hml, hown, hts, hKK, hlk, hR⟩ := g
  obtain ⟨-, -, hTb, -⟩ := t
  have hK := hKK.1
  intro H locs ls hH hS hl hq
  subst hst
  have hA0 : ∀ q, s.heap.size ≤ q → xA M0 s.heap.size q := fun q h => Or.inr h
  refine x_back (va_runIN (As := As) (rest := rest) ⟨hx, hb, hml, hown, hts⟩ (hc H.size) ⟨va_cnB n hts hG hw hrc hrs (hTb.2 _ hlk9) (hts _ hini) hdd (by rw [hR]; exact hR1), hy1, hts _ hinm⟩ ⟨xP_blind, fun U hU hW => xP_at hH hKK (fun _ _ h => h) hU hW⟩ rfl hn hl.1 rfl (lv_room hcat) hd (by rw [hR]; exact hroom)) hH (fun _ _ h => h) hA0 hS (fun v M1 H1 locs1 hp hH1 hk hf hS1 => ?_)
  exact kk v M1 hp H1 locs1 ls (hH1.weaken hf) hS1 hl hq
end ThrowRow
