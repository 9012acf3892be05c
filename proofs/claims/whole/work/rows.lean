section
-- ===== PART A: goes FIRST, ahead of the names: the tables' words, and 'selects' of the private methods out of them =====
/-- a private method of a class that the tables say can be made, by its rows of tables_1 -/
def lw_okq (q : MethodName × Nat) : Prop := (q.1.cls ≠ "java/lang/invoke/MethodHandle" ∧ q.1.cls ≠ "java/lang/invoke/VarHandle") ∧ Cond.instantiable q.1.cls q.2 ∈ tables_1 ∧ Cond.privateMethod q.1 ∈ tables_1 ∧ Cond.instanceMethod q.1 ∈ tables_1
theorem lw_p0 : lw_okq (⟨"java/lang/Throwable", "fillInStackTrace", "(I)Ljava/lang/Throwable;"⟩, 6) := ⟨⟨by decide +kernel, by decide +kernel⟩, List.mem_of_getElem? (i := 191) (by decide +kernel), List.mem_of_getElem? (i := 189) (by decide +kernel), List.mem_of_getElem? (i := 190) (by decide +kernel)⟩
theorem lw_p1 : lw_okq (⟨"InkRing", "paperAt", "(I)LInkRing$Paper;"⟩, 10) := ⟨⟨by decide +kernel, by decide +kernel⟩, List.mem_of_getElem? (i := 19) (by decide +kernel), List.mem_of_getElem? (i := 278) (by decide +kernel), List.mem_of_getElem? (i := 279) (by decide +kernel)⟩
theorem lw_p2 : lw_okq (⟨"InkRing", "styleAt", "(I)LInkRing$Style;"⟩, 10) := ⟨⟨by decide +kernel, by decide +kernel⟩, List.mem_of_getElem? (i := 19) (by decide +kernel), List.mem_of_getElem? (i := 315) (by decide +kernel), List.mem_of_getElem? (i := 316) (by decide +kernel)⟩
theorem lw_p3 : lw_okq (⟨"InkRing", "judgeAt", "(I)LInkRing$Judge;"⟩, 10) := ⟨⟨by decide +kernel, by decide +kernel⟩, List.mem_of_getElem? (i := 19) (by decide +kernel), List.mem_of_getElem? (i := 328) (by decide +kernel), List.mem_of_getElem? (i := 329) (by decide +kernel)⟩
theorem lw_p4 : lw_okq (⟨"InkRing", "duelAt", "(I)LInkRing$Duel;"⟩, 10) := ⟨⟨by decide +kernel, by decide +kernel⟩, List.mem_of_getElem? (i := 19) (by decide +kernel), List.mem_of_getElem? (i := 436) (by decide +kernel), List.mem_of_getElem? (i := 437) (by decide +kernel)⟩
theorem lw_p5 : lw_okq (⟨"InkRing", "signAt", "(I)LInkRing$Strokes;"⟩, 10) := ⟨⟨by decide +kernel, by decide +kernel⟩, List.mem_of_getElem? (i := 19) (by decide +kernel), List.mem_of_getElem? (i := 446) (by decide +kernel), List.mem_of_getElem? (i := 447) (by decide +kernel)⟩
theorem lw_p6 : lw_okq (⟨"InkRing$Stroke", "squaredWay", "()I"⟩, 4) := ⟨⟨by decide +kernel, by decide +kernel⟩, List.mem_of_getElem? (i := 238) (by decide +kernel), List.mem_of_getElem? (i := 494) (by decide +kernel), List.mem_of_getElem? (i := 495) (by decide +kernel)⟩
theorem lw_p7 : lw_okq (⟨"InkRing", "winnerOf", "(LInkRing$Duel;)I"⟩, 10) := ⟨⟨by decide +kernel, by decide +kernel⟩, List.mem_of_getElem? (i := 19) (by decide +kernel), List.mem_of_getElem? (i := 554) (by decide +kernel), List.mem_of_getElem? (i := 555) (by decide +kernel)⟩
theorem lw_p8 : lw_okq (⟨"InkRing", "roundGoesTo", "(LInkRing$Duel;I)I"⟩, 10) := ⟨⟨by decide +kernel, by decide +kernel⟩, List.mem_of_getElem? (i := 19) (by decide +kernel), List.mem_of_getElem? (i := 558) (by decide +kernel), List.mem_of_getElem? (i := 559) (by decide +kernel)⟩
theorem lw_p9 : lw_okq (⟨"InkRing", "judgedMark", "(LInkRing$Duel;LInkRing$Writing;)F"⟩, 10) := ⟨⟨by decide +kernel, by decide +kernel⟩, List.mem_of_getElem? (i := 19) (by decide +kernel), List.mem_of_getElem? (i := 562) (by decide +kernel), List.mem_of_getElem? (i := 563) (by decide +kernel)⟩
theorem lw_p10 : lw_okq (⟨"InkRing", "markByJudge", "(LInkRing$Judge;ILInkRing$Writing;)F"⟩, 10) := ⟨⟨by decide +kernel, by decide +kernel⟩, List.mem_of_getElem? (i := 19) (by decide +kernel), List.mem_of_getElem? (i := 566) (by decide +kernel), List.mem_of_getElem? (i := 567) (by decide +kernel)⟩
theorem lw_p11 : lw_okq (⟨"InkRing", "countRounds", "(LInkRing$Duel;I)I"⟩, 10) := ⟨⟨by decide +kernel, by decide +kernel⟩, List.mem_of_getElem? (i := 19) (by decide +kernel), List.mem_of_getElem? (i := 619) (by decide +kernel), List.mem_of_getElem? (i := 620) (by decide +kernel)⟩
theorem lw_p12 : lw_okq (⟨"InkRingModel", "goes", "(ZZZ)Z"⟩, 29) := ⟨⟨by decide +kernel, by decide +kernel⟩, List.mem_of_getElem? (i := 637) (by decide +kernel), List.mem_of_getElem? (i := 743) (by decide +kernel), List.mem_of_getElem? (i := 744) (by decide +kernel)⟩
theorem lw_p13 : lw_okq (⟨"InkRingModel", "isDuel", "(I)Z"⟩, 29) := ⟨⟨by decide +kernel, by decide +kernel⟩, List.mem_of_getElem? (i := 637) (by decide +kernel), List.mem_of_getElem? (i := 786) (by decide +kernel), List.mem_of_getElem? (i := 787) (by decide +kernel)⟩
theorem lw_p14 : lw_okq (⟨"InkRingModel", "isOver", "(I)Z"⟩, 29) := ⟨⟨by decide +kernel, by decide +kernel⟩, List.mem_of_getElem? (i := 637) (by decide +kernel), List.mem_of_getElem? (i := 790) (by decide +kernel), List.mem_of_getElem? (i := 791) (by decide +kernel)⟩
theorem lw_p15 : lw_okq (⟨"InkRingModel", "isHanded", "(IIZ)Z"⟩, 29) := ⟨⟨by decide +kernel, by decide +kernel⟩, List.mem_of_getElem? (i := 637) (by decide +kernel), List.mem_of_getElem? (i := 798) (by decide +kernel), List.mem_of_getElem? (i := 799) (by decide +kernel)⟩
def lw_privs_1 : List (MethodName × Nat) := [(⟨"java/lang/Throwable", "fillInStackTrace", "(I)Ljava/lang/Throwable;"⟩, 6), (⟨"InkRing", "paperAt", "(I)LInkRing$Paper;"⟩, 10), (⟨"InkRing", "styleAt", "(I)LInkRing$Style;"⟩, 10), (⟨"InkRing", "judgeAt", "(I)LInkRing$Judge;"⟩, 10), (⟨"InkRing", "duelAt", "(I)LInkRing$Duel;"⟩, 10), (⟨"InkRing", "signAt", "(I)LInkRing$Strokes;"⟩, 10), (⟨"InkRing$Stroke", "squaredWay", "()I"⟩, 4), (⟨"InkRing", "winnerOf", "(LInkRing$Duel;)I"⟩, 10), (⟨"InkRing", "roundGoesTo", "(LInkRing$Duel;I)I"⟩, 10), (⟨"InkRing", "judgedMark", "(LInkRing$Duel;LInkRing$Writing;)F"⟩, 10), (⟨"InkRing", "markByJudge", "(LInkRing$Judge;ILInkRing$Writing;)F"⟩, 10), (⟨"InkRing", "countRounds", "(LInkRing$Duel;I)I"⟩, 10), (⟨"InkRingModel", "goes", "(ZZZ)Z"⟩, 29), (⟨"InkRingModel", "isDuel", "(I)Z"⟩, 29), (⟨"InkRingModel", "isOver", "(I)Z"⟩, 29), (⟨"InkRingModel", "isHanded", "(IIZ)Z"⟩, 29)]
theorem lw_r1 : ∀ q ∈ lw_privs_1, lw_okq q := List.forall_mem_cons.mpr ⟨lw_p0, List.forall_mem_cons.mpr ⟨lw_p1, List.forall_mem_cons.mpr ⟨lw_p2, List.forall_mem_cons.mpr ⟨lw_p3, List.forall_mem_cons.mpr ⟨lw_p4, List.forall_mem_cons.mpr ⟨lw_p5, List.forall_mem_cons.mpr ⟨lw_p6, List.forall_mem_cons.mpr ⟨lw_p7, List.forall_mem_cons.mpr ⟨lw_p8, List.forall_mem_cons.mpr ⟨lw_p9, List.forall_mem_cons.mpr ⟨lw_p10, List.forall_mem_cons.mpr ⟨lw_p11, List.forall_mem_cons.mpr ⟨lw_p12, List.forall_mem_cons.mpr ⟨lw_p13, List.forall_mem_cons.mpr ⟨lw_p14, List.forall_mem_cons.mpr ⟨lw_p15, fun _ h => absurd h List.not_mem_nil⟩⟩⟩⟩⟩⟩⟩⟩⟩⟩⟩⟩⟩⟩⟩⟩
theorem lw_p16 : lw_okq (⟨"InkRingModel", "winner", "(I)I"⟩, 29) := ⟨⟨by decide +kernel, by decide +kernel⟩, List.mem_of_getElem? (i := 637) (by decide +kernel), List.mem_of_getElem? (i := 809) (by decide +kernel), List.mem_of_getElem? (i := 810) (by decide +kernel)⟩
theorem lw_p17 : lw_okq (⟨"InkRingModel", "roundsTo", "(II)I"⟩, 29) := ⟨⟨by decide +kernel, by decide +kernel⟩, List.mem_of_getElem? (i := 637) (by decide +kernel), List.mem_of_getElem? (i := 813) (by decide +kernel), List.mem_of_getElem? (i := 814) (by decide +kernel)⟩
theorem lw_p18 : lw_okq (⟨"InkRingModel", "roundTo", "(II)I"⟩, 29) := ⟨⟨by decide +kernel, by decide +kernel⟩, List.mem_of_getElem? (i := 637) (by decide +kernel), List.mem_of_getElem? (i := 817) (by decide +kernel), List.mem_of_getElem? (i := 818) (by decide +kernel)⟩
theorem lw_p19 : lw_okq (⟨"InkRingModel", "byAll", "(II)F"⟩, 29) := ⟨⟨by decide +kernel, by decide +kernel⟩, List.mem_of_getElem? (i := 637) (by decide +kernel), List.mem_of_getElem? (i := 821) (by decide +kernel), List.mem_of_getElem? (i := 822) (by decide +kernel)⟩
theorem lw_p20 : lw_okq (⟨"InkRingModel", "byJudge", "(III)F"⟩, 29) := ⟨⟨by decide +kernel, by decide +kernel⟩, List.mem_of_getElem? (i := 637) (by decide +kernel), List.mem_of_getElem? (i := 825) (by decide +kernel), List.mem_of_getElem? (i := 826) (by decide +kernel)⟩
theorem lw_p21 : lw_okq (⟨"InkRingModel", "promptOf", "(II)I"⟩, 29) := ⟨⟨by decide +kernel, by decide +kernel⟩, List.mem_of_getElem? (i := 637) (by decide +kernel), List.mem_of_getElem? (i := 829) (by decide +kernel), List.mem_of_getElem? (i := 830) (by decide +kernel)⟩
theorem lw_p22 : lw_okq (⟨"InkRingModel", "markOf", "([IIIIII)F"⟩, 29) := ⟨⟨by decide +kernel, by decide +kernel⟩, List.mem_of_getElem? (i := 637) (by decide +kernel), List.mem_of_getElem? (i := 833) (by decide +kernel), List.mem_of_getElem? (i := 834) (by decide +kernel)⟩
theorem lw_p23 : lw_okq (⟨"InkRingModel", "isSign", "(I)Z"⟩, 29) := ⟨⟨by decide +kernel, by decide +kernel⟩, List.mem_of_getElem? (i := 637) (by decide +kernel), List.mem_of_getElem? (i := 863) (by decide +kernel), List.mem_of_getElem? (i := 864) (by decide +kernel)⟩
def lw_privs_2 : List (MethodName × Nat) := [(⟨"InkRingModel", "winner", "(I)I"⟩, 29), (⟨"InkRingModel", "roundsTo", "(II)I"⟩, 29), (⟨"InkRingModel", "roundTo", "(II)I"⟩, 29), (⟨"InkRingModel", "byAll", "(II)F"⟩, 29), (⟨"InkRingModel", "byJudge", "(III)F"⟩, 29), (⟨"InkRingModel", "promptOf", "(II)I"⟩, 29), (⟨"InkRingModel", "markOf", "([IIIIII)F"⟩, 29), (⟨"InkRingModel", "isSign", "(I)Z"⟩, 29)]
theorem lw_r2 : ∀ q ∈ lw_privs_2, lw_okq q := List.forall_mem_cons.mpr ⟨lw_p16, List.forall_mem_cons.mpr ⟨lw_p17, List.forall_mem_cons.mpr ⟨lw_p18, List.forall_mem_cons.mpr ⟨lw_p19, List.forall_mem_cons.mpr ⟨lw_p20, List.forall_mem_cons.mpr ⟨lw_p21, List.forall_mem_cons.mpr ⟨lw_p22, List.forall_mem_cons.mpr ⟨lw_p23, fun _ h => absurd h List.not_mem_nil⟩⟩⟩⟩⟩⟩⟩⟩
def lw_privs : List (MethodName × Nat) := lw_privs_1 ++ (lw_privs_2)
def lw_tbl : List Cond := k2_sels lw_privs ++ tables_1
theorem lw_privs_ok : ∀ q ∈ lw_privs, lw_okq q := by
  show ∀ q ∈ lw_privs_1 ++ (lw_privs_2), lw_okq q
  exact List.forall_mem_append.mpr ⟨lw_r1, lw_r2⟩
/-- the streams that the claim lets the run draw from -/
abbrev lw_cs : List Choice := [Jvm.Choice.named "NaN.bits"]
theorem lw_bits : nanBits ∈ lw_cs := by first | decide | exact List.mem_cons_self | simp [lw_cs, nanBits]
-- ===== end of PART A; then your names; then what follows =====
end
section
/-! ===== BEGIN words of one list among another's, by their places ===== -/
theorem goodIn_r {big : List Cond} (ws : List Cond) (ps : List Nat) (hp : ws = ps.filterMap (fun i => big[i]?)) (h : ws.all goodWord = true) : GoodIn big ws := by
  intro w hw
  have h1 := List.all_eq_true.mp h w hw
  rw [hp] at hw
  obtain ⟨i, -, hi⟩ := List.mem_filterMap.mp hw
  have hm : w ∈ big := by first | exact List.mem_of_getElem? hi | exact List.getElem?_mem hi
  exact ⟨hm, good_of_word h1⟩
theorem goodIn_app {big a b : List Cond} (ha : GoodIn big a) (hb : GoodIn big b) : GoodIn big (a ++ b) := fun w h => (List.mem_append.mp h).elim (ha w) (hb w)
theorem goodIn_ca {big a b : List Cond} {c : Cond} (ha : GoodIn big (c :: a)) (hb : GoodIn big b) : GoodIn big (c :: (a ++ b)) := fun w h => (List.mem_cons.mp h).elim (fun e => ha w (List.mem_cons.mpr (Or.inl e))) (fun h => (List.mem_append.mp h).elim (fun h => ha w (List.mem_cons.mpr (Or.inr h))) (hb w))
theorem goodIn_sub {big ws : List Cond} (hm : ∀ w ∈ ws, w ∈ big) (h : ws.all goodWord = true) : GoodIn big ws := fun w hw => ⟨hm w hw, good_of_word (List.all_eq_true.mp h w hw)⟩
/-! ===== END ===== -/

/-! ===== BEGIN exceptions that leave a method, and their catching by the caller (launches without stack traces) ===== -/
section VXA
/-! The laws vx_back, vx_callV, vx_callS, vx_callSW, vx_throw0, vx_throwS follow proofs of the library, with one case more: JvmDerived/Free/Laws.lean (Back.of_free), Shelf42/LK1.lean (callV, callS), Shelf/KitTraced.lean (throwNew0V, throwNewS). -/
/-- where a method has thrown q: the class by its name, the cell, what was written, the world -/
def vx_T (XC : String → State → State → Prop) (st : State) (q : Addr) (t : State) (mc ms : Nat) (free : Addr → Prop) : Prop :=
  ∃ (E : String) (ce : Cell) (L : List Loc), XC E st t ∧ t.heap[q]? = some ce ∧ ce.vm = .none ∧ st.vm.findClass E = some ce.cls ∧ st.WarmedH t.vm ∧ st.sameButNew ({ t with vm := st.vm } : State) L mc ms ∧ ∀ z ∈ L, free z.base
def vx_Q (Qc : Array Value → State → Outcome → State → Prop) (XC : String → State → State → Prop) (mc ms : Nat) (free : Addr → Prop) : Array Value → State → Outcome → State → Prop := fun a st o t =>
  (Qc a st o t ∧ ∃ L, FrameEnd st o t L mc ms ∧ ∀ q ∈ L, free q.base) ∨ ∃ q, o = .threw q ∧ vx_T XC st q t mc ms free
/-- a callee that returns or throws -/
def vx_Met (l : Launch) (y : MethodName) (ws : List Cond) (rm : Room) (Pc : Array Value → State → Prop) (Qc : Array Value → State → Outcome → State → Prop) (XC : String → State → State → Prop) (mc ms : Nat) (free : Addr → Prop) : Prop :=
  MetFree l y (headSpec ws rm) Pc (fun _ _ _ _ _ => True) (vx_Q Qc XC mc ms free)
def vx_Post (XC : String → State → State → Prop) (mc ms : Nat) (free : Addr → Prop) : Pt → Array Value → Addr → Pt → Prop := fun A a q B =>
  ∃ (g : JFrame) (mk : MethodId) (t : State) (L : List Loc) (E : String) (ce : Cell), B.U.heap = t.heap ∧ B.U.vm = t.vm ∧ XC E (A.U.calling g mk a) t ∧ t.heap[q]? = some ce ∧ ce.vm = .none ∧ A.U.vm.findClass E = some ce.cls ∧ B.locs = A.locs ++ L ∧ (∀ z ∈ L, free z.base) ∧ B.cells = A.cells + mc ∧ B.slots = A.slots + ms
def vx_Back (l : Launch) (R : Room) (p : Program) (e : Env) (below : List Frame) (s : State) (sargs : Array Value) (y : MethodName) (len W9 : Nat)
    (Pre : Pt → Array Value → Prop) (Post : Pt → Array Value → Option Value → Pt → Prop) (PostX : Pt → Array Value → Addr → Pt → Prop) : Prop :=
  ∀ (m : MethodId) (meth : Method) (c : Code) (A : Pt) (g : JFrame) (ig : Instr) (mk : MethodId) (a : Array Value),
    Stand p l e R s m sargs below meth c A.U A.locs A.cells A.slots → g.method = m → g.locals.size = c.maxLocals → decode c.code g.pc = .ok (ig, len) →
    2 * g.monitorRoom + (g.stack.map fun v => v.category).sum ≤ W9 → A.U.methodNamed? y = some mk → Pre A a →
    (∃ (v : Option Value) (B : Pt), Stand p l e R s m sargs below meth c B.U B.locs B.cells B.slots ∧ Post A a v B ∧
      Steps p.tables e below (doInvoke e (A.U.setTop g) [] mk a).1 (B.U.setTop { g with pc := g.pc + len, stack := v.toList ++ g.stack })) ∨
    (∃ (q : Addr) (B : Pt), Stand p l e R s m sargs below meth c B.U B.locs B.cells B.slots ∧ PostX A a q B ∧
      Steps p.tables e below (doInvoke e (A.U.setTop g) [] mk a).1 ((B.U.setTop g).pushFrame (.throwing q)))
section Payer
variable {l : Launch} {R : Room} {p : Program} {e : Env} {below : List Frame} {s : State} {sargs : Array Value} {y : MethodName} {len W9 : Nat}
theorem vx_back {ws : List Cond} {rm : Room} {Pc : Array Value → State → Prop} {Qc : Array Value → State → Outcome → State → Prop} {XC : String → State → State → Prop} {mc ms : Nat} {free : Addr → Prop} {bytes : ByteArray} {maxL : Nat} {ret : Option FieldType}
    (hM : vx_Met l y ws rm Pc Qc XC mc ms free) (hblind : FrameBlind Pc) (hrc : rm.cells = mc) (hrs : rm.slots = ms)
    (hframes : rm.frames + 1 ≤ R.frames) (hlocals : W9 + (maxL + 11) + rm.locals ≤ R.locals)
    (hws : ∀ w ∈ ws, ∀ a' U, s.WarmedH U.vm → w.before a' U = true) (hcode : Cond.code y bytes maxL ret ∈ ws) (hinit : ∀ a' U, s.WarmedH U.vm → (Cond.initialized y.cls).before a' U = true) :
    vx_Back l R p e below s sargs y len W9 (PreOf R mc ms Pc) (PostOf Qc mc ms free) (vx_Post XC mc ms free) := by
  intro m meth c A g ig mk a X hg hsize hdg hW hn hp
  have h1 : (headSpec ws rm).pre.before a A.U = true := atoms_intro fun w hw => hws w hw _ _ X.warmed
  have h2 : (Cond.code y bytes maxL ret).before a A.U = true := hws _ hcode _ _ X.warmed
  have h3 : (Cond.initialized y.cls).before a A.U = true := hinit _ _ X.warmed
  have h4 : A.cells + (headSpec ws rm).room.cells ≤ R.cells := by rw [show (headSpec ws rm).room.cells = mc from hrc]; exact hp.1
  have h5 : A.slots + (headSpec ws rm).room.slots ≤ R.slots := by rw [show (headSpec ws rm).room.slots = ms from hrs]; exact hp.2.1
  have hPc : Pc a (A.U.calling g mk a) := hblind _ _ _ _ hp.2.2
  obtain ⟨U, Ls, c0, s0⟩ := A
  dsimp only [Pt.U, Pt.locs, Pt.cells, Pt.slots] at h1 h2 h3 h4 h5 X hn hPc ⊢
  obtain ⟨methY, cY, hmY, hcY, -, hlY, -, -, -, -⟩ := Cond.code_spec hn h2
  obtain ⟨kY, hkY, -⟩ := className_of_methodNamed hn
  have hinitY : kY.init = .initialized := Cond.initialized_spec (findClass_of_methodNamed hn) hkY h3
  have h : At U g.method c below := by rw [hg]; exact X.here
  have hlocals9 : W9 + (maxL + 11) + (headSpec ws rm).room.locals ≤ R.locals := hlocals
  have happ : (headSpec ws rm).appliesLoose y e.platform (U.calling g mk a) = true :=
    Spec.appliesLoose_calling (g := g) h hdg hn hkY hinitY
      (X.room_calling (g := g) (R' := (headSpec ws rm).room) hsize hmY hcY hframes (by rw [hlY]; omega) h4 h5) h1
  obtain ⟨mid, hmid⟩ := h.above
  have hfr : (U.setTop g).frames = (.java g :: mid) ++ below := by rw [State.frames_setTop' g h.top, hmid]; rfl
  obtain ⟨o, s₂, hsteps, -, hend, hq⟩ := Steps.callFree hM p X.admits X.cas X.clock (acts := []) hfr happ hPc trivial
  have hq' : vx_Q Qc XC mc ms free a (U.calling g mk a) o s₂ := hq
  rw [State.frames_setTop' g h.top] at hend
  obtain ⟨g₀, hg0⟩ := Option.isSome_iff_exists.mp h.top
  obtain ⟨r, hr⟩ := State.topJava?_eq_some.mp hg0
  have hr' : (({ U with heap := s₂.heap, slotsUsed := s₂.slotsUsed } : State).setVm s₂.vm).frames = .java g₀ :: r := hr
  rcases hq' with ⟨hqc, L, hfe, hL⟩ | ⟨q, rfl, E, ce, L, hx, hce, hcv, hcl, hW₂, hsm, hL⟩
  · obtain ⟨⟨v, rfl⟩, hW₂, e2, q2, q3, q4, q5, q6⟩ := id hfe
    have e3 : s₂ = ({ (U.calling g mk a).setFrames s₂.frames with heap := s₂.heap, slotsUsed := s₂.slotsUsed } : State).setVm s₂.vm := by
      have : s₂ = ({ s₂ with vm := (U.calling g mk a).vm } : State).setVm s₂.vm := rfl
      rw [e2] at this
      exact this
    obtain ⟨c₂, i₂, len₂, hc₂, hd₂, hf₂⟩ := hend
    have hW' : U.WarmedH s₂.vm := hW₂
    have hcc : c₂ = c := by
      have h1 : s₂.code? g.method = U.code? g.method := by
        rw [State.code?_eq, State.code?_eq, hW'.alike.method?]
      exact Option.some.inj (hc₂.symm.trans (h1.trans h.code))
    subst hcc
    have hlen : len₂ = len := by rw [hdg] at hd₂; cases hd₂; rfl
    subst hlen
    have hs₂ : s₂ = (({ U with heap := s₂.heap, slotsUsed := s₂.slotsUsed } : State).setVm s₂.vm).setTop { g with pc := g.pc + len₂, stack := v.toList ++ g.stack } := by
      refine e3.trans ?_
      rw [hf₂, State.calling_eq h.top, State.setFrames_setFrames, State.setTop_of_frames _ hr', hr]
      rfl
    have hsame : U.sameButNew ({ U with heap := s₂.heap, slotsUsed := s₂.slotsUsed } : State) L mc ms := by
      refine ⟨?_, q2, q3, q4, q5, q6⟩
      obtain ⟨t, ht, -⟩ := State.frames_cons hr
      show ({ U with heap := s₂.heap, slotsUsed := s₂.slotsUsed } : State) = { U.setFrames U.frames with heap := s₂.heap, slotsUsed := s₂.slotsUsed }
      rw [State.setFrames_self ht]
    subst hg
    refine Or.inl ⟨v, ⟨(({ U with heap := s₂.heap, slotsUsed := s₂.slotsUsed } : State).setVm s₂.vm), Ls ++ L, c0 + mc, s0 + ms⟩,
      ⟨X.admits, X.cas, X.clock, X.frames, X.room, X.hears, X.method, X.code, (X.here.setHeapUsed s₂.heap s₂.slotsUsed).setVm hW'.alike, X.tail, State.WarmedH.trans X.warmed hW', X.limits, X.bytes, X.same.trans (hsame.setVm s.vm)⟩,
      ⟨g, mk, s₂, L, rfl, rfl, hqc, rfl, hL, rfl, rfl⟩, ?_⟩
    show Steps p.tables e below _ ((({ U with heap := s₂.heap, slotsUsed := s₂.slotsUsed } : State).setVm s₂.vm).setTop { g with pc := g.pc + len₂, stack := v.toList ++ g.stack })
    rw [← hs₂]
    exact hsteps
  · obtain ⟨e2, q2, q3, q4, q5, q6⟩ := id hsm
    have e3 : s₂ = ({ (U.calling g mk a).setFrames s₂.frames with heap := s₂.heap, slotsUsed := s₂.slotsUsed } : State).setVm s₂.vm := by
      have : s₂ = ({ s₂ with vm := (U.calling g mk a).vm } : State).setVm s₂.vm := rfl
      rw [e2] at this
      exact this
    have hf₂ : s₂.frames = .throwing q :: .java g :: U.frames.tail := hend
    have hW' : U.WarmedH s₂.vm := hW₂
    have hs₂ : s₂ = ((({ U with heap := s₂.heap, slotsUsed := s₂.slotsUsed } : State).setVm s₂.vm).setTop g).pushFrame (.throwing q) := by
      refine e3.trans ?_
      rw [hf₂, State.calling_eq h.top, State.setFrames_setFrames, State.pushFrame, State.frames_setTop _ hr', State.setTop_of_frames _ hr', State.setFrames_setFrames, hr]
      rfl
    have hsame : U.sameButNew ({ U with heap := s₂.heap, slotsUsed := s₂.slotsUsed } : State) L mc ms := by
      refine ⟨?_, q2, q3, q4, q5, q6⟩
      obtain ⟨t, ht, -⟩ := State.frames_cons hr
      show ({ U with heap := s₂.heap, slotsUsed := s₂.slotsUsed } : State) = { U.setFrames U.frames with heap := s₂.heap, slotsUsed := s₂.slotsUsed }
      rw [State.setFrames_self ht]
    subst hg
    refine Or.inr ⟨q, ⟨(({ U with heap := s₂.heap, slotsUsed := s₂.slotsUsed } : State).setVm s₂.vm), Ls ++ L, c0 + mc, s0 + ms⟩,
      ⟨X.admits, X.cas, X.clock, X.frames, X.room, X.hears, X.method, X.code, (X.here.setHeapUsed s₂.heap s₂.slotsUsed).setVm hW'.alike, X.tail, State.WarmedH.trans X.warmed hW', X.limits, X.bytes, X.same.trans (hsame.setVm s.vm)⟩,
      ⟨g, mk, s₂, L, E, ce, rfl, rfl, hx, hce, hcv, hcl, rfl, hL, rfl, rfl⟩, ?_⟩
    show Steps p.tables e below _ (((({ U with heap := s₂.heap, slotsUsed := s₂.slotsUsed } : State).setVm s₂.vm).setTop g).pushFrame (.throwing q))
    rw [← hs₂]
    exact hsteps
end Payer
section Calls
variable {p : Program} {l : Launch} {e : Env} {R : Room} {s : State} {m : MethodId} {args : Array Value} {below : List Frame} {meth : Method} {c : Code} {T : State} {locs : List Loc} {cells slots : Nat}
theorem vx_callV (X : Stand p l e R s m args below meth c T locs cells slots) (hexec : p.tables.exec = Jvm.exec) {own C : String} {index : Nat} {y : MethodName} {bytes : ByteArray} {maxL : Nat} {ret : Option FieldType}
    (hown : s.vm.findClass own = some m.cls) (hlink : (Cond.methodLink own index y).before args s = true) (hinst : (Cond.instanceMethod y).before args s = true) (hsel : (Cond.selects C y y).before args s = true)
    (hcode : (Cond.code y bytes maxL ret).before args s = true) (hy : y.cls ≠ "java/lang/invoke/MethodHandle" ∧ y.cls ≠ "java/lang/invoke/VarHandle")
    {W9 : Nat} {Pre : Pt → Array Value → Prop} {Post : Pt → Array Value → Option Value → Pt → Prop} {PostX : Pt → Array Value → Addr → Pt → Prop} (hK : vx_Back l R p e below s args y 3 W9 Pre Post PostX)
    {b : Addr} {cellB : Cell} (hcell : T.heap[b]? = some cellB) (hobj : cellB.vm.isStatics = false) (hcls : s.vm.findClass C = some cellB.cls)
    {g : JFrame} (hg : g.method = m) (hsize : g.locals.size = c.maxLocals) {argsL rest : List Value} (hlen : ∀ sig, parseMethodDescriptor y.desc = some sig → argsL.length = sig.parameters.length)
    (hstack : g.stack = argsL.reverse ++ .ref b :: rest) (hW : 2 * g.monitorRoom + (rest.map fun v => v.category).sum ≤ W9) (hdg : decode c.code g.pc = .ok (.invokevirtual index, 3))
    (hpre : ∀ vm₁, s.WarmedH vm₁ → Pre ⟨T.setVm vm₁, locs, cells, slots⟩ (Value.ref b :: argsL).toArray) :
    (∃ (v : Option Value) (vm₁ : Vm) (B : Pt), s.WarmedH vm₁ ∧ Stand p l e R s m args below meth c B.U B.locs B.cells B.slots ∧ Post ⟨T.setVm vm₁, locs, cells, slots⟩ (Value.ref b :: argsL).toArray v B ∧
      ∀ target, Steps p.tables e below (B.U.setTop { g with pc := g.pc + 3, stack := v.toList ++ rest }) target → Steps p.tables e below (T.setTop g) target) ∨
    (∃ (q : Addr) (vm₁ : Vm) (B : Pt), s.WarmedH vm₁ ∧ Stand p l e R s m args below meth c B.U B.locs B.cells B.slots ∧ PostX ⟨T.setVm vm₁, locs, cells, slots⟩ (Value.ref b :: argsL).toArray q B ∧
      Steps p.tables e below (T.setTop g) ((B.U.setTop { g with stack := rest }).pushFrame (.throwing q))) := by
  obtain ⟨mk, methM, hnamed, hmethM, hstM, habM⟩ := Cond.instanceMethod_spec hinst
  obtain ⟨methM', cM, hmethM', -, -, -, -, -, -, hsigM⟩ := Cond.code_spec hnamed hcode
  cases hmethM.symm.trans hmethM'
  obtain ⟨c2, r2, m2, q1, q2, q3, q4, kP, hkP, hkPi⟩ := Cond.selects_spec hsel
  cases hcls.symm.trans q1
  cases (State.methodFound?_of_named hnamed hy).symm.trans q2
  cases hnamed.symm.trans q3
  have hselP : selectMethod e.platform s.vm cellB.cls mk = .method mk := by rw [Launch.admits_selectMethod X.admits]; exact q4
  obtain ⟨vm₁, X₁, hstep₁⟩ := X.invokevirtual hexec hown hlink hnamed hmethM hstM hkP hkPi hy (a := b) (cell := cellB) hcell
    (fun z h => by rw [h] at hobj; cases hobj) hselP hmethM habM hkP hkPi (g := g) hg (argsL := argsL) (rest := rest) (hlen _ hsigM) hstack hdg
  rcases hK m meth c ⟨T.setVm vm₁, locs, cells, slots⟩ { g with stack := rest } (.invokevirtual index) mk (Value.ref b :: argsL).toArray X₁ hg hsize hdg hW (X₁.named hnamed) (hpre vm₁ X₁.warmed) with ⟨v, B, X', hpost, hsteps⟩ | ⟨q, B, X', hpost, hsteps⟩
  · exact Or.inl ⟨v, vm₁, B, X₁.warmed, X', hpost, fun target h => hstep₁ _ fun acts => by rw [doInvoke_state]; exact hsteps.trans h⟩
  · exact Or.inr ⟨q, vm₁, B, X₁.warmed, X', hpost, hstep₁ _ fun acts => by rw [doInvoke_state]; exact hsteps⟩
theorem vx_callS (X : Stand p l e R s m args below meth c T locs cells slots) (hexec : p.tables.exec = Jvm.exec) {own : String} {index : Nat} {y : MethodName} {bytes : ByteArray} {maxL : Nat} {ret : Option FieldType}
    (hown : s.vm.findClass own = some m.cls) (hlink : (Cond.methodLink own index y).before args s = true) (hstat : (Cond.static y).before args s = true) (hinit : (Cond.initialized y.cls).before args s = true)
    (hcode : (Cond.code y bytes maxL ret).before args s = true) (hy : y.cls ≠ "java/lang/invoke/MethodHandle" ∧ y.cls ≠ "java/lang/invoke/VarHandle")
    {W9 : Nat} {Pre : Pt → Array Value → Prop} {Post : Pt → Array Value → Option Value → Pt → Prop} {PostX : Pt → Array Value → Addr → Pt → Prop} (hK : vx_Back l R p e below s args y 3 W9 Pre Post PostX)
    {g : JFrame} (hg : g.method = m) (hsize : g.locals.size = c.maxLocals) {argsL rest : List Value} (hlen : ∀ sig, parseMethodDescriptor y.desc = some sig → argsL.length = sig.parameters.length)
    (hstack : g.stack = argsL.reverse ++ rest) (hW : 2 * g.monitorRoom + (rest.map fun v => v.category).sum ≤ W9) (hdg : decode c.code g.pc = .ok (.invokestatic index, 3))
    (hpre : ∀ vm₁, s.WarmedH vm₁ → Pre ⟨T.setVm vm₁, locs, cells, slots⟩ argsL.toArray) :
    (∃ (v : Option Value) (vm₁ : Vm) (B : Pt), s.WarmedH vm₁ ∧ Stand p l e R s m args below meth c B.U B.locs B.cells B.slots ∧ Post ⟨T.setVm vm₁, locs, cells, slots⟩ argsL.toArray v B ∧
      ∀ target, Steps p.tables e below (B.U.setTop { g with pc := g.pc + 3, stack := v.toList ++ rest }) target → Steps p.tables e below (T.setTop g) target) ∨
    (∃ (q : Addr) (vm₁ : Vm) (B : Pt), s.WarmedH vm₁ ∧ Stand p l e R s m args below meth c B.U B.locs B.cells B.slots ∧ PostX ⟨T.setVm vm₁, locs, cells, slots⟩ argsL.toArray q B ∧
      Steps p.tables e below (T.setTop g) ((B.U.setTop { g with stack := rest }).pushFrame (.throwing q))) := by
  obtain ⟨mk, hnamed⟩ := Cond.code_named hcode
  obtain ⟨methM, cM, hmethM, -, -, -, -, -, -, hsigM⟩ := Cond.code_spec hnamed hcode
  have hstatic : methM.isStatic = true := Cond.static_spec hnamed hmethM hstat
  obtain ⟨kP, hkP, -⟩ := className_of_methodNamed hnamed
  have hinitP : kP.init = .initialized := Cond.initialized_spec (findClass_of_methodNamed hnamed) hkP hinit
  obtain ⟨vm₁, X₁, hstep₁⟩ := X.invokestatic hexec hown hlink hnamed hmethM hstatic hkP hinitP hy (g := g) hg (argsL := argsL) (rest := rest) (hlen _ hsigM) hstack hdg
  rcases hK m meth c ⟨T.setVm vm₁, locs, cells, slots⟩ { g with stack := rest } (.invokestatic index) mk argsL.toArray X₁ hg hsize hdg hW (X₁.named hnamed) (hpre vm₁ X₁.warmed) with ⟨v, B, X', hpost, hsteps⟩ | ⟨q, B, X', hpost, hsteps⟩
  · exact Or.inl ⟨v, vm₁, B, X₁.warmed, X', hpost, fun target h => hstep₁ _ fun acts => by rw [doInvoke_state]; exact hsteps.trans h⟩
  · exact Or.inr ⟨q, vm₁, B, X₁.warmed, X', hpost, hstep₁ _ fun acts => by rw [doInvoke_state]; exact hsteps⟩
end Calls
theorem vx_cls {s : State} {T : State} {vm₁ : Vm} {E : String} {k : ClassId} (hW : s.WarmedH vm₁) (h : (T.setVm vm₁).vm.findClass E = some k) : s.vm.findClass E = some k := by
  have h1 : vm₁.findClass E = some k := h
  rw [hW.alike.findClass] at h1
  exact h1
/-- the method's frame g, with q thrown over it -/
def vx_W (p : Program) (l : Launch) (e : Env) (R : Room) (s : State) (m : MethodId) (args : Array Value) (below : List Frame) (meth : Method) (c : Code) (H : Heap) (locs : List Loc) (cells slots : Nat) (Q : State → Prop) (g : JFrame) (q : Addr) : Prop :=
  ∀ T : State, T.heap = H → Stand p l e R s m args below meth c T locs cells slots → ∃ t, Steps p.tables e below ((T.setTop g).pushFrame (.throwing q)) t ∧ Q t
def vx_Run (p : Program) (l : Launch) (e : Env) (R : Room) (s : State) (m : MethodId) (args : Array Value) (below : List Frame) (meth : Method) (c : Code) (H : Heap) (locs : List Loc) (cells slots mc ms : Nat) (g : JFrame) (rest : List Value) (Qa : State → Outcome → State → Prop) (XC : String → State → State → Prop) (free : Addr → Prop) : Prop :=
  ∀ T : State, T.heap = H → Stand p l e R s m args below meth c T locs cells slots →
    (∃ (v : Option Value) (st₀ t T' : State) (L : List Loc), st₀.heap = H ∧ Stand p l e R s m args below meth c T' (locs ++ L) (cells + mc) (slots + ms) ∧ (∀ q ∈ L, free q.base) ∧ T'.heap = t.heap ∧ T'.vm = t.vm ∧ Qa st₀ (.returned v) t ∧
      Goes p e below T g T' { g with pc := g.pc + 3, stack := v.toList ++ rest }) ∨
    (∃ (q : Addr) (st₀ t T' : State) (L : List Loc) (E : String) (ce : Cell), st₀.heap = H ∧ Stand p l e R s m args below meth c T' (locs ++ L) (cells + mc) (slots + ms) ∧ (∀ z ∈ L, free z.base) ∧ T'.heap = t.heap ∧ T'.vm = t.vm ∧ XC E st₀ t ∧ t.heap[q]? = some ce ∧ ce.vm = .none ∧ s.vm.findClass E = some ce.cls ∧
      Steps p.tables e below (T.setTop g) ((T'.setTop { g with stack := rest }).pushFrame (.throwing q)))
def vx_X {S : Type} (px : S → Prop) (B : String → S → State → Prop) (A : Nat → Prop) : String → State → State → Prop := fun E st t => ∃ u : S, px u ∧ B E u t ∧ va_F A st t
section Runs
variable {p : Program} {l : Launch} {e : Env} {R : Room} {s : State} {m : MethodId} {args : Array Value} {below : List Frame} {meth : Method} {c : Code} {H : Heap} {locs : List Loc} {cells slots : Nat}
variable {y : MethodName} {bytes cc : ByteArray} {maxL nL mc ms n index : Nat} {ret : Option FieldType} {ws : List Cond} {rm : Room} {Pc : Array Value → State → Prop} {Qc : Array Value → State → Outcome → State → Prop} {XC : String → State → State → Prop} {free : Addr → Prop} {Ts : List Cond} {own C : String} {b : Addr} {As rest : List Value} {g : JFrame}
theorem vx_callBack (cb : CallB R s args own index y bytes maxL ret ws rm mc ms n) (hM : vx_Met l y ws rm Pc Qc XC mc ms free) (hbl : FrameBlind Pc) : vx_Back l R p e below s args y 3 8 (PreOf R mc ms Pc) (PostOf Qc mc ms free) (vx_Post XC mc ms free) := by
  obtain ⟨hrc, hrs, hfr, hlo, hws, hcw, -, hini, -⟩ := cb
  exact vx_back (bytes := bytes) (maxL := maxL) (ret := ret) hM hbl hrc hrs hfr hlo hws hcw (fun a' U hW => word_at hW (Or.inl (by first | rfl | simp [Cond.onTables, Cond.keeps, Cond.steady])) hini)
theorem vx_runV (S : CallFix p m c cc nL s args Ts own) (hM : vx_Met l y ws rm Pc Qc XC mc ms free) (cw : CallW R s args own C index y bytes maxL ret ws rm mc ms n) (hp : PreV s H C b Pc As)
    (hg : g.method = m) (hn : As.length = n) (hsize : g.locals.size = nL) (hstack : g.stack = As.reverse ++ .ref b :: rest) (hW : 2 * g.monitorRoom + (rest.map fun v => v.category).sum ≤ 8) (hdg : decode cc g.pc = .ok (.invokevirtual index, 3)) (hf : cells + mc ≤ R.cells ∧ slots + ms ≤ R.slots) :
    vx_Run p l e R s m args below meth c H locs cells slots mc ms g rest (Qc (Value.ref b :: As).toArray) XC free := by
  have hK : vx_Back l R p e below s args y 3 8 (PreOf R mc ms Pc) (PostOf Qc mc ms free) (vx_Post XC mc ms free) := vx_callBack cw.1 hM hp.1
  obtain ⟨⟨-, -, -, -, -, -, hcode, -, hy, hlen, hl⟩, hin, hse⟩ := cw
  obtain ⟨hx, hb, hml, ho, -⟩ := S
  obtain ⟨-, ⟨cellB, hcB, hoB, hclB⟩, hPc⟩ := hp
  intro T hT X
  rcases vx_callV X hx (C := C) (bytes := bytes) (maxL := maxL) (ret := ret) ho hl hin hse hcode hy hK (by rw [hT]; exact hcB) hoB hclB hg (hsize.trans hml.symm) (argsL := As) (rest := rest) (fun sig h => hn.trans (hlen sig h)) hstack hW (by rw [hb]; exact hdg)
    (fun vm₁ hW₁ => ⟨hf.1, hf.2, hPc (T.setVm vm₁) hT hW₁⟩) with ⟨v, vm₁, ⟨U', l2, c2, s2⟩, hW₁, X', ⟨g', mk, t, L, e1, e2, hq, h1, hL, h2, h3⟩, st⟩ | ⟨q, vm₁, ⟨U', l2, c2, s2⟩, hW₁, X', ⟨g', mk, t, L, E, ce, e1, e2, hq, hce, hcv, hcl, h1, hL, h2, h3⟩, st⟩
  · dsimp only [Pt.U, Pt.locs, Pt.cells, Pt.slots] at X' e1 e2 h1 h2 h3 st
    subst h1; subst h2; subst h3
    exact Or.inl ⟨v, (T.setVm vm₁).calling g' mk (Value.ref b :: As).toArray, t, U', L, hT, X', hL, e1, e2, hq, st⟩
  · dsimp only [Pt.U, Pt.locs, Pt.cells, Pt.slots] at X' e1 e2 h1 h2 h3 st hcl
    subst h1; subst h2; subst h3
    exact Or.inr ⟨q, (T.setVm vm₁).calling g' mk (Value.ref b :: As).toArray, t, U', L, E, ce, hT, X', hL, e1, e2, hq, hce, hcv, vx_cls hW₁ hcl, st⟩
theorem vx_runS (S : CallFix p m c cc nL s args Ts own) (hM : vx_Met l y ws rm Pc Qc XC mc ms free) (cw : CallB R s args own index y bytes maxL ret ws rm mc ms n ∧ (Cond.static y).before args s = true) (hp : PreS s H Pc As)
    (hg : g.method = m) (hn : As.length = n) (hsize : g.locals.size = nL) (hstack : g.stack = As.reverse ++ rest) (hW : 2 * g.monitorRoom + (rest.map fun v => v.category).sum ≤ 8) (hdg : decode cc g.pc = .ok (.invokestatic index, 3)) (hf : cells + mc ≤ R.cells ∧ slots + ms ≤ R.slots) :
    vx_Run p l e R s m args below meth c H locs cells slots mc ms g rest (Qc As.toArray) XC free := by
  have hK : vx_Back l R p e below s args y 3 8 (PreOf R mc ms Pc) (PostOf Qc mc ms free) (vx_Post XC mc ms free) := vx_callBack cw.1 hM hp.1
  obtain ⟨⟨-, -, -, -, -, -, hcode, hini, hy, hlen, hl⟩, hstt⟩ := cw
  obtain ⟨hx, hb, hml, ho, -⟩ := S
  intro T hT X
  rcases vx_callS X hx (bytes := bytes) (maxL := maxL) (ret := ret) ho hl hstt hini hcode hy hK hg (hsize.trans hml.symm) (argsL := As) (rest := rest) (fun sig h => hn.trans (hlen sig h)) hstack hW (by rw [hb]; exact hdg)
    (fun vm₁ hW₁ => ⟨hf.1, hf.2, hp.2 (T.setVm vm₁) hT hW₁⟩) with ⟨v, vm₁, ⟨U', l2, c2, s2⟩, hW₁, X', ⟨g', mk, t, L, e1, e2, hq, h1, hL, h2, h3⟩, st⟩ | ⟨q, vm₁, ⟨U', l2, c2, s2⟩, hW₁, X', ⟨g', mk, t, L, E, ce, e1, e2, hq, hce, hcv, hcl, h1, hL, h2, h3⟩, st⟩
  · dsimp only [Pt.U, Pt.locs, Pt.cells, Pt.slots] at X' e1 e2 h1 h2 h3 st
    subst h1; subst h2; subst h3
    exact Or.inl ⟨v, (T.setVm vm₁).calling g' mk As.toArray, t, U', L, hT, X', hL, e1, e2, hq, st⟩
  · dsimp only [Pt.U, Pt.locs, Pt.cells, Pt.slots] at X' e1 e2 h1 h2 h3 st hcl
    subst h1; subst h2; subst h3
    exact Or.inr ⟨q, (T.setVm vm₁).calling g' mk As.toArray, t, U', L, E, ce, hT, X', hL, e1, e2, hq, hce, hcv, vx_cls hW₁ hcl, st⟩
end Runs
section Rows
variable {p : Program} {l : Launch} {e : Env} {R : Room} {s : State} {m : MethodId} {args : Array Value} {below : List Frame} {meth : Method} {c : Code} {H : Heap} {locs : List Loc} {cells slots : Nat} {Q : State → Prop}
variable {mc ms : Nat} {free : Addr → Prop} {A0 A1 : Nat → Prop} {H0 : Heap} {a : Array Value} {pc : Nat} {ls : Array Slot} {st0 rest : List Value}
theorem vx_keep {st₀ t T' : State} {L : List Loc} (h0 : st₀.heap = H) (e1 : T'.heap = t.heap) (hS : va_S A0 H0 H locs) (hA : ∀ q, q < H.size → A1 q → A0 q) (hf : ∀ q, free q → A0 q) (hL : ∀ q ∈ L, free q.base) (hF : va_F A1 st₀ t) :
    H.size ≤ T'.heap.size ∧ (∀ q : Nat, q < H.size → ¬ A1 q → T'.heap[q]? = H[q]?) ∧ va_S A0 H0 T'.heap (locs ++ L) := by
  obtain ⟨hz, hk⟩ := hF
  rw [h0] at hz hk
  exact ⟨by rw [e1]; exact hz, fun q h1 h2 => by rw [e1]; exact hk q h1 h2,
    ⟨Nat.le_trans hS.1 (by rw [e1]; exact hz), fun q h1 h2 => by rw [e1, hk q (Nat.lt_of_lt_of_le h1 hS.1) (fun z => h2 (hA q (Nat.lt_of_lt_of_le h1 hS.1) z))]; exact hS.2.1 q h1 h2, fun q hq => by
      rcases List.mem_append.mp hq with h | h
      · exact hS.2.2 q h
      · exact hf _ (hL q h)⟩⟩
theorem vx_calli {S SX : Type} {post : Int32 → S → Prop} {px : SX → Prop} {B : S → State → Prop} {BX : String → SX → State → Prop} {AX : Nat → Prop} (hr : vx_Run p l e R s m args below meth c H locs cells slots mc ms (F0 m pc ls st0) rest (va_Qi post B A1 a) (vx_X px BX AX) free) (hS : va_S A0 H0 H locs) (hA : ∀ q, q < H.size → A1 q → A0 q) (hf : ∀ q, free q → A0 q) (hAX : ∀ q, q < H.size → AX q → A0 q)
    (kx : ∀ (E : String) (ce : Cell) (q9 : Addr) (u : SX) (t : State) (H1 : Heap) (locs1 : List Loc), t.heap = H1 → s.vm.Alike t.vm → px u → BX E u t → H.size ≤ H1.size → (∀ q : Nat, q < H.size → ¬ AX q → H1[q]? = H[q]?) → va_S A0 H0 H1 locs1 → H1[q9]? = some ce → ce.vm = .none → s.vm.findClass E = some ce.cls → vx_W p l e R s m args below meth c H1 locs1 (cells + mc) (slots + ms) Q (F0 m pc ls rest) q9)
    (kk : ∀ (r : Int32) (u : S) (t : State) (H1 : Heap) (locs1 : List Loc), t.heap = H1 → s.vm.Alike t.vm → post r u → B u t → H.size ≤ H1.size → (∀ q : Nat, q < H.size → ¬ A1 q → H1[q]? = H[q]?) → va_S A0 H0 H1 locs1 → W p l e R s m args below meth c H1 locs1 (cells + mc) (slots + ms) Q (F0 m (pc + 3) ls (.int r :: rest))) : W p l e R s m args below meth c H locs cells slots Q (F0 m pc ls st0) := by
  intro T hT X
  rcases hr T hT X with ⟨v, st₀, t, T', L, h0, X', hL, e1, e2, ⟨⟨r, u, hv, hp, hb⟩, hF⟩, st⟩ | ⟨q, st₀, t, T', L, E, ce, h0, X', hL, e1, e2, ⟨u, hp, hb, hF⟩, hce, hcv, hcl, st⟩
  · cases hv
    obtain ⟨k1, k2, k3⟩ := vx_keep h0 e1 hS hA hf hL hF
    obtain ⟨t2, a1, b1⟩ := kk r u t T'.heap (locs ++ L) e1.symm (by rw [← e2]; exact X'.warmed.alike) hp hb k1 k2 k3 T' rfl X'
    exact ⟨t2, st t2 a1, b1⟩
  · obtain ⟨k1, k2, k3⟩ := vx_keep h0 e1 hS hAX hf hL hF
    obtain ⟨t2, a1, b1⟩ := kx E ce q u t T'.heap (locs ++ L) e1.symm (by rw [← e2]; exact X'.warmed.alike) hp hb k1 k2 k3 (by rw [e1]; exact hce) hcv hcl T' rfl X'
    exact ⟨t2, st.trans a1, b1⟩
theorem vx_calll {S SX : Type} {post : Int64 → S → Prop} {px : SX → Prop} {B : S → State → Prop} {BX : String → SX → State → Prop} {AX : Nat → Prop} (hr : vx_Run p l e R s m args below meth c H locs cells slots mc ms (F0 m pc ls st0) rest (va_Ql post B A1 a) (vx_X px BX AX) free) (hS : va_S A0 H0 H locs) (hA : ∀ q, q < H.size → A1 q → A0 q) (hf : ∀ q, free q → A0 q) (hAX : ∀ q, q < H.size → AX q → A0 q)
    (kx : ∀ (E : String) (ce : Cell) (q9 : Addr) (u : SX) (t : State) (H1 : Heap) (locs1 : List Loc), t.heap = H1 → s.vm.Alike t.vm → px u → BX E u t → H.size ≤ H1.size → (∀ q : Nat, q < H.size → ¬ AX q → H1[q]? = H[q]?) → va_S A0 H0 H1 locs1 → H1[q9]? = some ce → ce.vm = .none → s.vm.findClass E = some ce.cls → vx_W p l e R s m args below meth c H1 locs1 (cells + mc) (slots + ms) Q (F0 m pc ls rest) q9)
    (kk : ∀ (r : Int64) (u : S) (t : State) (H1 : Heap) (locs1 : List Loc), t.heap = H1 → s.vm.Alike t.vm → post r u → B u t → H.size ≤ H1.size → (∀ q : Nat, q < H.size → ¬ A1 q → H1[q]? = H[q]?) → va_S A0 H0 H1 locs1 → W p l e R s m args below meth c H1 locs1 (cells + mc) (slots + ms) Q (F0 m (pc + 3) ls (.long r :: rest))) : W p l e R s m args below meth c H locs cells slots Q (F0 m pc ls st0) := by
  intro T hT X
  rcases hr T hT X with ⟨v, st₀, t, T', L, h0, X', hL, e1, e2, ⟨⟨r, u, hv, hp, hb⟩, hF⟩, st⟩ | ⟨q, st₀, t, T', L, E, ce, h0, X', hL, e1, e2, ⟨u, hp, hb, hF⟩, hce, hcv, hcl, st⟩
  · cases hv
    obtain ⟨k1, k2, k3⟩ := vx_keep h0 e1 hS hA hf hL hF
    obtain ⟨t2, a1, b1⟩ := kk r u t T'.heap (locs ++ L) e1.symm (by rw [← e2]; exact X'.warmed.alike) hp hb k1 k2 k3 T' rfl X'
    exact ⟨t2, st t2 a1, b1⟩
  · obtain ⟨k1, k2, k3⟩ := vx_keep h0 e1 hS hAX hf hL hF
    obtain ⟨t2, a1, b1⟩ := kx E ce q u t T'.heap (locs ++ L) e1.symm (by rw [← e2]; exact X'.warmed.alike) hp hb k1 k2 k3 (by rw [e1]; exact hce) hcv hcl T' rfl X'
    exact ⟨t2, st.trans a1, b1⟩
theorem vx_callf {S SX : Type} {post : UInt32 → S → Prop} {px : SX → Prop} {B : S → State → Prop} {BX : String → SX → State → Prop} {AX : Nat → Prop} (hr : vx_Run p l e R s m args below meth c H locs cells slots mc ms (F0 m pc ls st0) rest (va_Qf post B A1 a) (vx_X px BX AX) free) (hS : va_S A0 H0 H locs) (hA : ∀ q, q < H.size → A1 q → A0 q) (hf : ∀ q, free q → A0 q) (hAX : ∀ q, q < H.size → AX q → A0 q)
    (kx : ∀ (E : String) (ce : Cell) (q9 : Addr) (u : SX) (t : State) (H1 : Heap) (locs1 : List Loc), t.heap = H1 → s.vm.Alike t.vm → px u → BX E u t → H.size ≤ H1.size → (∀ q : Nat, q < H.size → ¬ AX q → H1[q]? = H[q]?) → va_S A0 H0 H1 locs1 → H1[q9]? = some ce → ce.vm = .none → s.vm.findClass E = some ce.cls → vx_W p l e R s m args below meth c H1 locs1 (cells + mc) (slots + ms) Q (F0 m pc ls rest) q9)
    (kk : ∀ (r : UInt32) (u : S) (t : State) (H1 : Heap) (locs1 : List Loc), t.heap = H1 → s.vm.Alike t.vm → post r u → B u t → H.size ≤ H1.size → (∀ q : Nat, q < H.size → ¬ A1 q → H1[q]? = H[q]?) → va_S A0 H0 H1 locs1 → W p l e R s m args below meth c H1 locs1 (cells + mc) (slots + ms) Q (F0 m (pc + 3) ls (.float r :: rest))) : W p l e R s m args below meth c H locs cells slots Q (F0 m pc ls st0) := by
  intro T hT X
  rcases hr T hT X with ⟨v, st₀, t, T', L, h0, X', hL, e1, e2, ⟨⟨r, u, hv, hp, hb⟩, hF⟩, st⟩ | ⟨q, st₀, t, T', L, E, ce, h0, X', hL, e1, e2, ⟨u, hp, hb, hF⟩, hce, hcv, hcl, st⟩
  · cases hv
    obtain ⟨k1, k2, k3⟩ := vx_keep h0 e1 hS hA hf hL hF
    obtain ⟨t2, a1, b1⟩ := kk r u t T'.heap (locs ++ L) e1.symm (by rw [← e2]; exact X'.warmed.alike) hp hb k1 k2 k3 T' rfl X'
    exact ⟨t2, st t2 a1, b1⟩
  · obtain ⟨k1, k2, k3⟩ := vx_keep h0 e1 hS hAX hf hL hF
    obtain ⟨t2, a1, b1⟩ := kx E ce q u t T'.heap (locs ++ L) e1.symm (by rw [← e2]; exact X'.warmed.alike) hp hb k1 k2 k3 (by rw [e1]; exact hce) hcv hcl T' rfl X'
    exact ⟨t2, st.trans a1, b1⟩
theorem vx_calld {S SX : Type} {post : UInt64 → S → Prop} {px : SX → Prop} {B : S → State → Prop} {BX : String → SX → State → Prop} {AX : Nat → Prop} (hr : vx_Run p l e R s m args below meth c H locs cells slots mc ms (F0 m pc ls st0) rest (va_Qd post B A1 a) (vx_X px BX AX) free) (hS : va_S A0 H0 H locs) (hA : ∀ q, q < H.size → A1 q → A0 q) (hf : ∀ q, free q → A0 q) (hAX : ∀ q, q < H.size → AX q → A0 q)
    (kx : ∀ (E : String) (ce : Cell) (q9 : Addr) (u : SX) (t : State) (H1 : Heap) (locs1 : List Loc), t.heap = H1 → s.vm.Alike t.vm → px u → BX E u t → H.size ≤ H1.size → (∀ q : Nat, q < H.size → ¬ AX q → H1[q]? = H[q]?) → va_S A0 H0 H1 locs1 → H1[q9]? = some ce → ce.vm = .none → s.vm.findClass E = some ce.cls → vx_W p l e R s m args below meth c H1 locs1 (cells + mc) (slots + ms) Q (F0 m pc ls rest) q9)
    (kk : ∀ (r : UInt64) (u : S) (t : State) (H1 : Heap) (locs1 : List Loc), t.heap = H1 → s.vm.Alike t.vm → post r u → B u t → H.size ≤ H1.size → (∀ q : Nat, q < H.size → ¬ A1 q → H1[q]? = H[q]?) → va_S A0 H0 H1 locs1 → W p l e R s m args below meth c H1 locs1 (cells + mc) (slots + ms) Q (F0 m (pc + 3) ls (.double r :: rest))) : W p l e R s m args below meth c H locs cells slots Q (F0 m pc ls st0) := by
  intro T hT X
  rcases hr T hT X with ⟨v, st₀, t, T', L, h0, X', hL, e1, e2, ⟨⟨r, u, hv, hp, hb⟩, hF⟩, st⟩ | ⟨q, st₀, t, T', L, E, ce, h0, X', hL, e1, e2, ⟨u, hp, hb, hF⟩, hce, hcv, hcl, st⟩
  · cases hv
    obtain ⟨k1, k2, k3⟩ := vx_keep h0 e1 hS hA hf hL hF
    obtain ⟨t2, a1, b1⟩ := kk r u t T'.heap (locs ++ L) e1.symm (by rw [← e2]; exact X'.warmed.alike) hp hb k1 k2 k3 T' rfl X'
    exact ⟨t2, st t2 a1, b1⟩
  · obtain ⟨k1, k2, k3⟩ := vx_keep h0 e1 hS hAX hf hL hF
    obtain ⟨t2, a1, b1⟩ := kx E ce q u t T'.heap (locs ++ L) e1.symm (by rw [← e2]; exact X'.warmed.alike) hp hb k1 k2 k3 (by rw [e1]; exact hce) hcv hcl T' rfl X'
    exact ⟨t2, st.trans a1, b1⟩
theorem vx_callv {S SX : Type} {post : S → Prop} {px : SX → Prop} {B : S → State → Prop} {BX : String → SX → State → Prop} {AX : Nat → Prop} (hr : vx_Run p l e R s m args below meth c H locs cells slots mc ms (F0 m pc ls st0) rest (va_Qv post B A1 a) (vx_X px BX AX) free) (hS : va_S A0 H0 H locs) (hA : ∀ q, q < H.size → A1 q → A0 q) (hf : ∀ q, free q → A0 q) (hAX : ∀ q, q < H.size → AX q → A0 q)
    (kx : ∀ (E : String) (ce : Cell) (q9 : Addr) (u : SX) (t : State) (H1 : Heap) (locs1 : List Loc), t.heap = H1 → s.vm.Alike t.vm → px u → BX E u t → H.size ≤ H1.size → (∀ q : Nat, q < H.size → ¬ AX q → H1[q]? = H[q]?) → va_S A0 H0 H1 locs1 → H1[q9]? = some ce → ce.vm = .none → s.vm.findClass E = some ce.cls → vx_W p l e R s m args below meth c H1 locs1 (cells + mc) (slots + ms) Q (F0 m pc ls rest) q9)
    (kk : ∀ (u : S) (t : State) (H1 : Heap) (locs1 : List Loc), t.heap = H1 → s.vm.Alike t.vm → post u → B u t → H.size ≤ H1.size → (∀ q : Nat, q < H.size → ¬ A1 q → H1[q]? = H[q]?) → va_S A0 H0 H1 locs1 → W p l e R s m args below meth c H1 locs1 (cells + mc) (slots + ms) Q (F0 m (pc + 3) ls (rest))) : W p l e R s m args below meth c H locs cells slots Q (F0 m pc ls st0) := by
  intro T hT X
  rcases hr T hT X with ⟨v, st₀, t, T', L, h0, X', hL, e1, e2, ⟨⟨u, hv, hp, hb⟩, hF⟩, st⟩ | ⟨q, st₀, t, T', L, E, ce, h0, X', hL, e1, e2, ⟨u, hp, hb, hF⟩, hce, hcv, hcl, st⟩
  · cases hv
    obtain ⟨k1, k2, k3⟩ := vx_keep h0 e1 hS hA hf hL hF
    obtain ⟨t2, a1, b1⟩ := kk u t T'.heap (locs ++ L) e1.symm (by rw [← e2]; exact X'.warmed.alike) hp hb k1 k2 k3 T' rfl X'
    exact ⟨t2, st t2 a1, b1⟩
  · obtain ⟨k1, k2, k3⟩ := vx_keep h0 e1 hS hAX hf hL hF
    obtain ⟨t2, a1, b1⟩ := kx E ce q u t T'.heap (locs ++ L) e1.symm (by rw [← e2]; exact X'.warmed.alike) hp hb k1 k2 k3 (by rw [e1]; exact hce) hcv hcl T' rfl X'
    exact ⟨t2, st.trans a1, b1⟩
/-- caught by the row x of this method's table; the rows ahead don't take it -/
theorem vx_catch {own name : String} {E : String} {ce : Cell} {q : Addr} (hown : s.vm.findClass own = some m.cls) (pre : List ExceptionTableEntry) (x : ExceptionTableEntry) (suf : List ExceptionTableEntry) (hsplit : c.exceptionTable.toList = pre ++ x :: suf)
    (hpass : ∀ z ∈ pre, covers z pc = false ∨ (z.catchType ≠ 0 ∧ ∃ nm : String, (Cond.classLink own z.catchType nm).before args s = true ∧ va_Nc E nm s)) (hx : covers x pc = true) (h0 : x.catchType ≠ 0)
    (hlink : (Cond.classLink own x.catchType name).before args s = true) (hcast : (Cond.castable E name).before args s = true) (hcell : H[q]? = some ce) (hv : ce.vm = .none) (hcl : s.vm.findClass E = some ce.cls)
    (kk : W p l e R s m args below meth c H locs cells slots Q (F0 m x.handlerPc ls [.ref q])) : vx_W p l e R s m args below meth c H locs cells slots Q (F0 m pc ls rest) q := by
  intro T hT X
  have hpl : e.platform.magicAccessors = ({} : Platform).magicAccessors := by rw [X.admits.platform]
  obtain ⟨c3, c4, hc3, hc4, hasg⟩ := Cond.castable_spec hcast
  cases Option.some.inj (hc3.symm.trans hcl)
  obtain ⟨c5, hc5, hcl5⟩ := Cond.classLink_spec hown hlink e.platform hpl
  cases Option.some.inj (hc4.symm.trans hc5)
  obtain ⟨vm', X', st⟩ := X.thenCaughtThrough q (g := F0 m pc ls rest) rfl (Steps.refl _) (by rw [hT]; exact hcell) (by rw [hv]; rfl) (by obtain ⟨k9, h9, -⟩ := Vm.findClass_spec hcl; exact ⟨k9, h9⟩) pre x suf hsplit
    (fun z hz => by
      rcases hpass z hz with h | ⟨hz0, nm, hl1, hn1⟩
      · exact Or.inl h
      · obtain ⟨c6, hc6, hcl6⟩ := Cond.classLink_spec hown hl1 e.platform hpl
        obtain ⟨a8, b8, h1, h2, h3⟩ := hn1
        cases Option.some.inj (h1.symm.trans hcl)
        cases Option.some.inj (h2.symm.trans hc6)
        exact Or.inr ⟨hz0, _, hcl6, h3⟩) hx (Or.inr ⟨h0, c4, hcl5, hasg⟩)
  obtain ⟨t, a1, b1⟩ := kk (T.setVm vm') hT X'
  exact ⟨t, st.trans a1, b1⟩
end Rows
section Ends
variable {p : Program} {l : Launch} {e : Env} {R : Room} {s : State} {m : MethodId} {args : Array Value} {below : List Frame} {meth : Method} {c : Code} {H : Heap} {locs : List Loc} {cells slots : Nat} {Q : State → Prop}
variable {mc ms : Nat} {free : Addr → Prop} {A0 A1 : Nat → Prop} {H0 : Heap} {a : Array Value} {ls : Array Slot} {st0 rest : List Value}
variable {Qc : Array Value → State → Outcome → State → Prop} {XC : String → State → State → Prop}
/-- what a body that may throw owes at its end -/
def vx_MQ (below : List Frame) (Qc : Array Value → State → Outcome → State → Prop) (XC : String → State → State → Prop) (a : Array Value) (s : State) (mc ms : Nat) (free : Addr → Prop) : State → Prop := fun t =>
  ∃ o, t.status = .running ∧ Ended t below o ∧ vx_Q Qc XC mc ms free a s o t
theorem vx_ret {g : JFrame} {mc ms : Nat} (k : W p l e R s m args below meth c H locs cells slots (MQ below Qc args s mc ms free) g) : W p l e R s m args below meth c H locs cells slots (vx_MQ below Qc XC args s mc ms free) g := by
  intro T hT X
  obtain ⟨t, a1, o, b1, b2, b3, b4⟩ := k T hT X
  exact ⟨t, a1, o, b1, b2, Or.inl ⟨b3, b4⟩⟩
/-- not caught here: it goes on to the caller -/
theorem vx_widen {g : JFrame} {q : Addr} {k n : Nat} (h1 : cells ≤ k) (h2 : slots ≤ n) (kk : vx_W p l e R s m args below meth c H locs k n Q g q) : vx_W p l e R s m args below meth c H locs cells slots Q g q := fun T hT X => kk T hT (stand_widen X h1 h2)
theorem vx_out {pc : Nat} {E : String} {ce : Cell} {q : Addr} {mc ms : Nat} (hout : ∀ x ∈ c.exceptionTable.toList, covers x pc = false) (hlocks : meth.locks = false) (hcell : H[q]? = some ce) (hv : ce.vm = .none) (hcl : s.vm.findClass E = some ce.cls)
    (hx : ∀ t : State, t.heap = H → s.vm.Alike t.vm → XC E s t) (hf : ∀ z ∈ locs, free z.base) (hc : cells ≤ mc) (hs : slots ≤ ms) :
    vx_W p l e R s m args below meth c H locs cells slots (vx_MQ below Qc XC args s mc ms free) (F0 m pc ls rest) q := by
  intro T hT X
  obtain ⟨st1, hrun, hend, hW, hsm⟩ := X.leaveThrown q (g := F0 m pc ls rest) rfl rfl rfl hout hlocks
  have hcell9 : (T.setFrames (.throwing q :: below)).heap[q]? = some ce := by
    show T.heap[q]? = some ce
    rw [hT]; exact hcell
  exact ⟨_, st1, .threw q, hrun, hend, Or.inr ⟨q, rfl, E, ce, locs, hx _ hT hW.alike, hcell9, hv, hcl, hW, hsm.mono hc hs, hf⟩⟩
theorem vx_frame {U : State} {k n : Nat} (h : s.sameButNew ({ U with vm := s.vm } : State) locs k n) : s.heap.size ≤ U.heap.size ∧ ∀ q : Nat, q < s.heap.size → (∀ z ∈ locs, z.base ≠ q) → U.heap[q]? = s.heap[q]? := by
  obtain ⟨-, h2, -, -, -, h6⟩ := h
  refine ⟨h2, fun q hq hz => ?_⟩
  obtain ⟨c9, e1, e2, e3, e4⟩ := h6 q _ (Array.getElem?_eq_getElem hq)
  have hs : c9.slots = (s.heap[q]).slots := Array.ext_getElem? fun i => e4 i fun hm => hz _ hm rfl
  have h9 : c9 = s.heap[q] := by
    rw [hs] at e2
    exact e2
  have e5 : U.heap[q]? = some c9 := e1
  rw [e5, h9, Array.getElem?_eq_getElem hq]
/-- the words of a throw but the four that speak of the heap -/
def vx_no (w : Cond) : Bool := decide (w ≠ .isRef (.static Bundle.tN "UNASSIGNED_STACK" Bundle.steD)) && decide (w ≠ .isRef (.static Bundle.tN "SUPPRESSED_SENTINEL" Bundle.listD)) && decide (w ≠ .laysStatic Bundle.tN "UNASSIGNED_STACK" Bundle.steD) && decide (w ≠ .laysStatic Bundle.tN "SUPPRESSED_SENTINEL" Bundle.listD)
def vx_at0 (own : String) (ic : Nat) (X : String) (names : List String) : List Cond := (Bundle.ownAtoms0 own ic X names).filter vx_no
def vx_atS (own : String) (ic : Nat) (X : String) (names : List String) : List Cond := (Bundle.ownAtoms own ic X names).filter vx_no
/-- a word that the tables alone decide, or a good one -/
def vx_ot (w : Cond) : Bool := w.onTables || goodWord w
theorem vx_ot_at {args a' : Array Value} {s U : State} {w : Cond} (hW : s.WarmedH U.vm) (hvm : s.vm = U.vm) (hg : vx_ot w = true) (h : w.before args s = true) : w.before a' U = true := by
  simp only [vx_ot, Bool.or_eq_true] at hg
  rcases hg with hg | hg
  · exact va_tabs hg hvm h
  · exact word_at hW (good_of_word hg) h
/-- a list's words: the good ones out of the method's own list, the others by premises of their own -/
theorem vx_hat {args : Array Value} {s : State} {L B : List Cond} (h1 : ∀ w ∈ L.filter goodWord, w.before args s = true) (h2 : ∀ w ∈ L.filter (fun w => !goodWord w), w ∈ B) (h3 : ∀ w ∈ B, w.before args s = true) : ∀ w ∈ L, w.before args s = true := by
  intro w hw
  by_cases g : goodWord w = true
  · exact h1 w (List.mem_filter.mpr ⟨hw, g⟩)
  · refine h3 w (h2 w (List.mem_filter.mpr ⟨hw, ?_⟩))
    show (!goodWord w) = true
    cases hgw : goodWord w
    · rfl
    · exact absurd hgw g
theorem vx_c {args : Array Value} {s : State} {w : Cond} {B : List Cond} (h : w.before args s = true) (t : ∀ w ∈ B, w.before args s = true) : ∀ w' ∈ w :: B, w'.before args s = true := fun w' h' => (List.mem_cons.mp h').elim (fun e => by rw [e]; exact h) (t w')
theorem vx_n {args : Array Value} {s : State} : ∀ w ∈ ([] : List Cond), w.before args s = true := fun _ h => nomatch h
theorem vx_own {args : Array Value} {s : State} {L : List Cond} (h1 : ∀ w ∈ L.filter vx_no, w.before args s = true)
    (hU : (Cond.isRef (.static Bundle.tN "UNASSIGNED_STACK" Bundle.steD)).before args s = true) (hN : (Cond.isRef (.static Bundle.tN "SUPPRESSED_SENTINEL" Bundle.listD)).before args s = true)
    (lU : (Cond.laysStatic Bundle.tN "UNASSIGNED_STACK" Bundle.steD).before args s = true) (lN : (Cond.laysStatic Bundle.tN "SUPPRESSED_SENTINEL" Bundle.listD).before args s = true) : ∀ w ∈ L, w.before args s = true := by
  intro w hw
  by_cases e1 : w = .isRef (.static Bundle.tN "UNASSIGNED_STACK" Bundle.steD)
  · rw [e1]; exact hU
  · by_cases e2 : w = .isRef (.static Bundle.tN "SUPPRESSED_SENTINEL" Bundle.listD)
    · rw [e2]; exact hN
    · by_cases e3 : w = .laysStatic Bundle.tN "UNASSIGNED_STACK" Bundle.steD
      · rw [e3]; exact lU
      · by_cases e4 : w = .laysStatic Bundle.tN "SUPPRESSED_SENTINEL" Bundle.listD
        · rw [e4]; exact lN
        · exact h1 w (List.mem_filter.mpr ⟨hw, by unfold vx_no; rw [decide_eq_true e1, decide_eq_true e2, decide_eq_true e3, decide_eq_true e4]; rfl⟩)
/-- where a static field lies, its class's statics cell in H -/
def vx_L (C n d : String) (A : Nat → Prop) (U : State) (H : Heap) : Prop := ∃ (c : ClassId) (k : Class) (i : Nat) (f : Field) (a : Nat) (cell : Cell), U.vm.findClass C = some c ∧ U.fieldFound? C n d = some (c, k, i, f) ∧ f.isStatic = true ∧ k.statics = some a ∧ H[a]? = some cell ∧ cell.vm.isStatics = true ∧ cell.cls = c ∧ f.slot < cell.slots.size ∧ k.staticTypes[f.slot]? = some f.type ∧ ¬ A a
theorem vx_L.moved {C n d : String} {A : Nat → Prop} {u U : State} {H : Heap} (hvm : u.vm.Alike U.vm) (h : vx_L C n d A u H) : vx_L C n d A U H := by
  obtain ⟨c, k, i, f, a, cell, h1, h2, h3, h4, h5, h6, h7, h8, h9, h10⟩ := h
  obtain ⟨k', hi', he⟩ := State.fieldFound?_setVm hvm h2
  exact ⟨c, k', i, f, a, cell, by rw [hvm.findClass]; exact h1, hi', h3, by rw [he]; exact h4, h5, h6, h7, h8, by rw [he]; exact h9, h10⟩
theorem vx_L.kept {C n d : String} {A : Nat → Prop} {U : State} {H H1 : Heap} (h : vx_L C n d A U H) (hq : ∀ a : Nat, a < H.size → ¬ A a → H1[a]? = H[a]?) : vx_L C n d A U H1 := by
  obtain ⟨c, k, i, f, a, cell, h1, h2, h3, h4, h5, h6, h7, h8, h9, h10⟩ := h
  exact ⟨c, k, i, f, a, cell, h1, h2, h3, h4, by rw [hq a (Array.getElem?_eq_some_iff.mp h5).1 h10]; exact h5, h6, h7, h8, h9, h10⟩
theorem vx_L.narrow {C n d : String} {A B : Nat → Prop} {U : State} {H : Heap} (h : vx_L C n d A U H) (hAB : ∀ q, B q → A q) : vx_L C n d B U H := by
  obtain ⟨c, k, i, f, a, cell, h1, h2, h3, h4, h5, h6, h7, h8, h9, h10⟩ := h
  exact ⟨c, k, i, f, a, cell, h1, h2, h3, h4, h5, h6, h7, h8, h9, fun z => h10 (hAB _ z)⟩
theorem vx_L.word {C n d : String} {A : Nat → Prop} {s : State} {args : Array Value} (h : vx_L C n d A s s.heap) : (Cond.laysStatic C n d).before args s = true := by
  obtain ⟨c, k, i, f, a, cell, h1, h2, h3, h4, h5, h6, h7, h8, h9, -⟩ := h
  show (Cond.laysStatic C n d).holds args s none s [] = true
  exact Cond.laysStatic_of h1 h2 h3 h4 h5 h6 h7 h8 h9
/-- .. and what it holds: null or some reference -/
def vx_Zq (C n d : String) (A : Nat → Prop) (U : State) (H : Heap) : Prop := va_Zq C n d A U H ∧ vx_L C n d A U H
theorem vx_Zq.moved {C n d : String} {A : Nat → Prop} {u U : State} {H : Heap} (hvm : u.vm.Alike U.vm) (h : vx_Zq C n d A u H) : vx_Zq C n d A U H := ⟨va_Zq.moved hvm h.1, vx_L.moved hvm h.2⟩
theorem vx_Zq.kept {C n d : String} {A : Nat → Prop} {U : State} {H H1 : Heap} (h : vx_Zq C n d A U H) (hq : ∀ a : Nat, a < H.size → ¬ A a → H1[a]? = H[a]?) : vx_Zq C n d A U H1 := ⟨va_Zq.kept h.1 hq, vx_L.kept h.2 hq⟩
theorem vx_Zq.narrow {C n d : String} {A B : Nat → Prop} {U : State} {H : Heap} (h : vx_Zq C n d A U H) (hAB : ∀ q, B q → A q) : vx_Zq C n d B U H := ⟨va_Zq.narrow h.1 hAB, vx_L.narrow h.2 hAB⟩
theorem vx_Zqof {args : Array Value} {s : State} {C n d : String} {A : Nat → Prop} (hl : (Cond.laysStatic C n d).before args s = true) (hini : (Cond.initialized C).before args s = true) (h : (Cond.isRef (.static C n d)).before args s = true) (hA : ∀ a : Nat, a < s.heap.size → ¬ A a) : vx_Zq C n d A s s.heap := by
  refine ⟨va_Zqof hl hini h hA, ?_⟩
  obtain ⟨c, k, i, f, a, cell, h1, h2, h3, h4, h5, h6, h7, h8, h9⟩ := Cond.laysStatic_spec hl
  exact ⟨c, k, i, f, a, cell, h1, h2, h3, h4, h5, h6, h7, h8, h9, hA a (Array.getElem?_eq_some_iff.mp h5).1⟩
theorem vx_isRef {C n d : String} {v : Value} {A : Nat → Prop} {s : State} {args : Array Value} (h : va_Z C n d v A s s.heap) (hv : v.isRef = true) : (Cond.isRef (.static C n d)).before args s = true := by
  obtain ⟨cf, kf, fi, f, a, cell, h1, h2, h3, h4, h5, h6, h7, -⟩ := h
  have he : (Term.static C n d).eval args s none [] s = some v := by
    simp [Term.eval, State.fieldNamed?, h1, h2, h4, h5, h6, h7]
  simp only [Cond.before, Cond.holds, Cond.value, he]
  cases v <;> simp_all [Value.isRef]
theorem vx_isRefq {C n d : String} {A : Nat → Prop} {s : State} {args : Array Value} (h : va_Zq C n d A s s.heap) : (Cond.isRef (.static C n d)).before args s = true := by
  rcases h with h | ⟨t, h⟩
  · exact vx_isRef h rfl
  · exact vx_isRef h rfl
/-- the same frame, seen from here: as if the method were called anew in this heap -/
theorem vx_rebase {T : State} (X : Stand p l e R s m args below meth c T locs cells slots) {R' : Room} (hf : R'.frames ≤ R.frames) (hl : R'.locals ≤ R.locals) (hc : cells + R'.cells ≤ R.cells) (hs : slots + R'.slots ≤ R.slots) :
    Stand p l e R' ((T.setVm s.vm).setFrames (.invoking m args :: below)) m args below meth c T [] 0 0 := by
  have htop : (T.setVm s.vm).topJava?.isSome := X.here.top
  have hF : ((T.setVm s.vm).setFrames (.invoking m args :: below)).frames = .invoking m args :: below := State.frames_setFrames _ (State.cur_lt_of_top htop)
  obtain ⟨g₀, hg0⟩ := Option.isSome_iff_exists.mp htop
  obtain ⟨r, hr⟩ := State.topJava?_eq_some.mp hg0
  have hl9 : e.platform.stackLimits (T.setVm s.vm).me = e.platform.stackLimits s.me := X.limits
  have hb9 : (T.setVm s.vm).me.stackBytes = s.me.stackBytes := X.bytes
  refine ⟨X.admits, X.cas, X.clock, hF, ?_, X.hears, X.method, X.code, X.here, X.tail, X.warmed, ?_, ?_, ?_⟩
  · have h := X.room
    have hU : ((T.setVm s.vm).setFrames (.invoking m args :: below)).localsInUse = s.localsInUse := by
      rw [State.localsInUse_invoking hF (meth := meth) (c := c) X.method X.code, State.localsInUse_invoking X.frames X.method X.code]
    simp only [State.hasRoom, Bool.and_eq_true, decide_eq_true_eq] at h ⊢
    obtain ⟨⟨⟨⟨h1, h2, h3, h4, h5, h6⟩, h7⟩, h8⟩, h9⟩ := h
    rw [X.frames, List.length_cons] at h2 h3
    have q1 := X.heapSize
    have q2 := X.used
    simp only [hF, hU, List.length_cons, State.stackLimits_setFrames, State.stackBytes_setFrames, hl9, hb9]
    refine ⟨⟨⟨⟨by omega, by omega, by omega, by omega, by omega, h6⟩, ?_⟩, ?_⟩, X.book⟩
    · show T.heap.size + R'.cells ≤ e.platform.maxCells
      omega
    · show T.slotsUsed + R'.slots ≤ e.platform.maxSlots
      omega
  · rw [State.stackLimits_setFrames]; rfl
  · rw [State.stackBytes_setFrames]; rfl
  · refine ⟨?_, Nat.le_refl _, Nat.le_refl _, ?_, ?_, fun a c9 h9 => ⟨c9, h9, rfl, rfl, fun _ _ => rfl⟩⟩
    · obtain ⟨t, ht, -⟩ := State.frames_cons hr
      show T.setVm s.vm = { ((T.setVm s.vm).setFrames (.invoking m args :: below)).setFrames (T.setVm s.vm).frames with heap := T.heap, slotsUsed := T.slotsUsed }
      rw [State.setFrames_setFrames, State.setFrames_self ht]
      rfl
    · show T.slotsUsed = T.slotsUsed + ((T.heap.toList.drop T.heap.size).map (·.slots.size)).sum
      rw [List.drop_eq_nil_of_le (Nat.le_of_eq Array.length_toList)]
      rfl
    · show ((T.heap.toList.drop T.heap.size).map (·.slots.size)).sum ≤ 0
      rw [List.drop_eq_nil_of_le (Nat.le_of_eq Array.length_toList)]
      exact Nat.le_refl _
/-- 'throw new E()': new; dup; invokespecial; athrow -/
theorem vx_throw0 {cc : ByteArray} {pc : Nat} (hexec : p.tables.exec = Jvm.exec) (hb : c.code = cc) (hl : l.stackTraces = false) {own cls : String} {names : List String} {ik ic mc ms : Nat} {A : Nat → Prop}
    (hown : s.vm.findClass own = some m.cls) (hcls : Bundle.fit cls = true) (hnames : ∀ n ∈ names, Bundle.fit n = true)
    (hk : (Cond.classLink own ik cls).before args s = true) (hini : (Cond.initialized cls).before args s = true) (hat : ∀ w ∈ vx_at0 own ic cls names, w.before args s = true)
    (hgood : ∀ w ∈ Cond.classLink own ik cls :: Cond.initialized cls :: vx_at0 own ic cls names, vx_ot w = true)
    (hU : vx_Zq Bundle.tN "UNASSIGNED_STACK" Bundle.steD A s s.heap) (hN : vx_Zq Bundle.tN "SUPPRESSED_SENTINEL" Bundle.listD A s s.heap) (hS : va_S A s.heap H locs) (hsize : ls.size = c.maxLocals)
    (d0 : decode cc pc = .ok (.new ik, 3)) (d3 : decode cc (pc + 3) = .ok (.dup, 1)) (d4 : decode cc (pc + 4) = .ok (.invokespecial ic, 3)) (d7 : decode cc (pc + 7) = .ok (.athrow, 1))
    (hout : ∀ x ∈ c.exceptionTable.toList, covers x (pc + 7) = false)
    (hRframes : names.length + 3 < R.frames) (hRlocals : (rest.map fun v => v.category).sum + (13 * (names.length + 1) + 42) ≤ R.locals) (hRcells : cells + 1 ≤ R.cells) (hRslots : slots + 6 ≤ R.slots) (hlocks : meth.locks = false)
    (hx : ∀ t : State, s.vm.Alike t.vm → H.size ≤ t.heap.size → (∀ q : Nat, q < H.size → t.heap[q]? = H[q]?) → XC cls s t)
    (hf : ∀ z ∈ locs, free z.base) (hc : cells + 1 ≤ mc) (hs : slots + 6 ≤ ms) :
    W p l e R s m args below meth c H locs cells slots (vx_MQ below Qc XC args s mc ms free) (F0 m pc ls rest) := by
  intro T hT X
  have htr : e.platform.stackTraces = false := (show e.platform.stackTraces = l.stackTraces by rw [X.admits.platform]).trans hl
  have Y := vx_rebase X (R' := { frames := R.frames, locals := R.locals, cells := 1, slots := 6 }) (Nat.le_refl _) (Nat.le_refl _) hRcells hRslots
  obtain ⟨s', hA⟩ : ∃ z, z = (T.setVm s.vm).setFrames (.invoking m args :: below) := ⟨_, rfl⟩
  rw [← hA] at Y
  have hvm : s'.vm = s.vm := by rw [hA]; rfl
  have hhp : s'.heap = H := by rw [hA]; exact hT
  have hW0 : s.WarmedH s'.vm := by rw [hvm]; exact State.WarmedH.refl s
  have hat' : ∀ w ∈ vx_at0 own ic cls names, w.before args s' = true := fun w hw => vx_ot_at hW0 hvm.symm (hgood w (List.mem_cons_of_mem _ (List.mem_cons_of_mem _ hw))) (hat w hw)
  have hk' : (Cond.classLink own ik cls).before args s' = true := vx_ot_at hW0 hvm.symm (hgood _ List.mem_cons_self) hk
  have hini' : (Cond.initialized cls).before args s' = true := vx_ot_at hW0 hvm.symm (hgood _ (List.mem_cons_of_mem _ List.mem_cons_self)) hini
  have hU' : vx_Zq Bundle.tN "UNASSIGNED_STACK" Bundle.steD A s' s'.heap := by rw [hhp]; exact vx_Zq.moved hW0.alike (hU.kept hS.2.1)
  have hN' : vx_Zq Bundle.tN "SUPPRESSED_SENTINEL" Bundle.listD A s' s'.heap := by rw [hhp]; exact vx_Zq.moved hW0.alike (hN.kept hS.2.1)
  have h : ∀ w ∈ Bundle.ownAtoms0 own ic cls names, w.before args s' = true := vx_own hat' (vx_isRefq hU'.1) (vx_isRefq hN'.1) hU'.2.word hN'.2.word
  have hown' : s'.vm.findClass own = some m.cls := by rw [hvm]; exact hown
  have hins : (Cond.instantiable cls 6).before args s' = true := h _ (by simp [Bundle.ownAtoms0])
  obtain ⟨vm₁, cX, kX, hfX, hkX, -, -, X₁, st1⟩ := Y.newCold hexec (own := own) (C := cls) (index := ik) (n := 6) hown' hk' hins hini'
    (g := F0 m pc ls rest) rfl (by rw [hb]; exact d0) (Nat.le_refl _) (Nat.le_refl _)
  generalize hT1 : (T.setVm vm₁).pushCell { cls := cX, slots := kX.instanceTypes.map defaultValue, vm := .none } = T1 at X₁ st1
  have hcat : (Value.ref T.heap.size).category = 1 := rfl
  have hcellA : T1.heap[T.heap.size]? = some (freshCell cX kX) := by rw [← hT1]; exact State.heap_pushCell_size _ _
  have d3' : decode c.code (pc + 3) = .ok (.dup, 1) := by rw [hb]; exact d3
  obtain ⟨U, hsteps, hrun, hend, hW, hsame, ce, hce, hO⟩ := X₁.ctorThrow0 hexec htr (own := own) (cls := cls) (names := names) (ic := ic) hown' hcls hnames h (fun x hx => nomatch hx) hfX hkX hcellA (by rw [hhp, hT]; exact Nat.le_refl _)
    (g := { method := m, pc := pc + 4, locals := ls, stack := .ref T.heap.size :: .ref T.heap.size :: rest, locked := none }) rfl hsize rfl rfl (rest := rest) rfl
    (by rw [hb]; exact d4) (by rw [hb]; exact d7) hout hRframes (by simp only [List.map_cons, List.sum_cons, hcat]; omega) hlocks
  obtain ⟨f1, f2⟩ := vx_frame hsame
  rw [hhp] at f1 f2
  have hWs : s.WarmedH U.vm := State.WarmedH.trans hW0 hW
  have hcl : s.vm.findClass cls = some ce.cls := by
    have h9 := hO.cls
    rw [hvm] at h9
    exact h9
  have hall : s.sameButNew ({ U with vm := s.vm } : State) locs mc ms := by
    subst hA
    obtain ⟨e1, e2⟩ := hsame
    rw [State.setFrames_setFrames] at e1
    have h2 : (T.setVm s.vm).sameButNew ({ U with vm := s.vm } : State) [] (0 + 1) (0 + 6) := ⟨e1, e2⟩
    have h3 := X.same.trans h2
    rw [List.append_nil] at h3
    exact h3.mono hc hs
  refine ⟨U, ?_, .threw T.heap.size, hrun, hend, Or.inr ⟨T.heap.size, rfl, cls, ce, locs, hx U hWs.alike f1 (fun q hq => f2 q hq (fun z hz => nomatch hz)), hce, hO.vm, hcl, hWs, hall, hf⟩⟩
  refine st1 _ ?_
  show Steps p.tables e below (T1.setTop { method := m, pc := pc + 3, locals := ls, stack := .ref T.heap.size :: rest, locked := none }) _
  jvm_step X₁.here [X₁.here.top, hexec, d3', Value.category]
  exact hsteps
/-- 'throw new E("text")': new; dup; ldc; invokespecial; athrow -/
theorem vx_throwS {cc : ByteArray} {pc : Nat} (hexec : p.tables.exec = Jvm.exec) (hb : c.code = cc) (hl : l.stackTraces = false) {own cls text : String} {names : List String} {ik is ic mc ms sa : Nat} {A : Nat → Prop}
    (hown : s.vm.findClass own = some m.cls) (hcls : Bundle.fit cls = true) (hnames : ∀ n ∈ names, Bundle.fit n = true)
    (hk : (Cond.classLink own ik cls).before args s = true) (hini : (Cond.initialized cls).before args s = true) (hstr : vk_R own is text sa s) (hat : ∀ w ∈ vx_atS own ic cls names, w.before args s = true)
    (hgood : ∀ w ∈ Cond.classLink own ik cls :: Cond.initialized cls :: vx_atS own ic cls names, vx_ot w = true)
    (hU : vx_Zq Bundle.tN "UNASSIGNED_STACK" Bundle.steD A s s.heap) (hN : vx_Zq Bundle.tN "SUPPRESSED_SENTINEL" Bundle.listD A s s.heap) (hS : va_S A s.heap H locs) (hsize : ls.size = c.maxLocals)
    (d0 : decode cc pc = .ok (.new ik, 3)) (d3 : decode cc (pc + 3) = .ok (.dup, 1)) (d4 : decode cc (pc + 4) = .ok (.ldc is, 2)) (d6 : decode cc (pc + 6) = .ok (.invokespecial ic, 3)) (d9 : decode cc (pc + 9) = .ok (.athrow, 1))
    (hout : ∀ x ∈ c.exceptionTable.toList, covers x (pc + 9) = false)
    (hRframes : names.length + 3 < R.frames) (hRlocals : (rest.map fun v => v.category).sum + (13 * (names.length + 1) + 43) ≤ R.locals) (hRcells : cells + 1 ≤ R.cells) (hRslots : slots + 6 ≤ R.slots) (hlocks : meth.locks = false)
    (hx : ∀ t : State, s.vm.Alike t.vm → H.size ≤ t.heap.size → (∀ q : Nat, q < H.size → t.heap[q]? = H[q]?) → XC cls s t)
    (hf : ∀ z ∈ locs, free z.base) (hc : cells + 1 ≤ mc) (hs : slots + 6 ≤ ms) :
    W p l e R s m args below meth c H locs cells slots (vx_MQ below Qc XC args s mc ms free) (F0 m pc ls rest) := by
  intro T hT X
  have htr : e.platform.stackTraces = false := (show e.platform.stackTraces = l.stackTraces by rw [X.admits.platform]).trans hl
  have Y := vx_rebase X (R' := { frames := R.frames, locals := R.locals, cells := 1, slots := 6 }) (Nat.le_refl _) (Nat.le_refl _) hRcells hRslots
  obtain ⟨s', hA⟩ : ∃ z, z = (T.setVm s.vm).setFrames (.invoking m args :: below) := ⟨_, rfl⟩
  rw [← hA] at Y
  have hvm : s'.vm = s.vm := by rw [hA]; rfl
  have hhp : s'.heap = H := by rw [hA]; exact hT
  have hW0 : s.WarmedH s'.vm := by rw [hvm]; exact State.WarmedH.refl s
  have hat' : ∀ w ∈ vx_atS own ic cls names, w.before args s' = true := fun w hw => vx_ot_at hW0 hvm.symm (hgood w (List.mem_cons_of_mem _ (List.mem_cons_of_mem _ hw))) (hat w hw)
  have hk' : (Cond.classLink own ik cls).before args s' = true := vx_ot_at hW0 hvm.symm (hgood _ List.mem_cons_self) hk
  have hini' : (Cond.initialized cls).before args s' = true := vx_ot_at hW0 hvm.symm (hgood _ (List.mem_cons_of_mem _ List.mem_cons_self)) hini
  have hU' : vx_Zq Bundle.tN "UNASSIGNED_STACK" Bundle.steD A s' s'.heap := by rw [hhp]; exact vx_Zq.moved hW0.alike (hU.kept hS.2.1)
  have hN' : vx_Zq Bundle.tN "SUPPRESSED_SENTINEL" Bundle.listD A s' s'.heap := by rw [hhp]; exact vx_Zq.moved hW0.alike (hN.kept hS.2.1)
  have h : ∀ w ∈ Bundle.ownAtoms own ic cls names, w.before args s' = true := vx_own hat' (vx_isRefq hU'.1) (vx_isRefq hN'.1) hU'.2.word hN'.2.word
  have hown' : s'.vm.findClass own = some m.cls := by rw [hvm]; exact hown
  have hins : (Cond.instantiable cls 6).before args s' = true := h _ (by simp [Bundle.ownAtoms])
  obtain ⟨vm₁, cX, kX, hfX, hkX, -, -, X₁, st1⟩ := Y.newCold hexec (own := own) (C := cls) (index := ik) (n := 6) hown' hk' hins hini'
    (g := F0 m pc ls rest) rfl (by rw [hb]; exact d0) (Nat.le_refl _) (Nat.le_refl _)
  generalize hT1 : (T.setVm vm₁).pushCell { cls := cX, slots := kX.instanceTypes.map defaultValue, vm := .none } = T1 at X₁ st1
  have hcat : (Value.ref T.heap.size).category = 1 := rfl
  have hcellA : T1.heap[T.heap.size]? = some (freshCell cX kX) := by rw [← hT1]; exact State.heap_pushCell_size _ _
  have d3' : decode c.code (pc + 3) = .ok (.dup, 1) := by rw [hb]; exact d3
  have d4' : decode c.code (pc + 4) = .ok (.ldc is, 2) := by rw [hb]; exact d4
  have hstr' : vk_R own is text sa s' := vk_R.warm hW0 hstr
  obtain ⟨U, hsteps, hrun, hend, hW, hsame, ce, hce, hO⟩ := X₁.ctorThrowS hexec htr (own := own) (cls := cls) (names := names) (ic := ic) hown' hcls hnames h (fun x hx => nomatch hx) hfX hkX hcellA (by rw [hhp, hT]; exact Nat.le_refl _) (msg := .ref sa) rfl
    (g := { method := m, pc := pc + 6, locals := ls, stack := .ref sa :: .ref T.heap.size :: .ref T.heap.size :: rest, locked := none }) rfl hsize rfl rfl (rest := rest) rfl
    (by rw [hb]; exact d6) (by rw [hb]; exact d9) hout hRframes (by simp only [List.map_cons, List.sum_cons, hcat]; omega) hlocks
  obtain ⟨f1, f2⟩ := vx_frame hsame
  rw [hhp] at f1 f2
  have hWs : s.WarmedH U.vm := State.WarmedH.trans hW0 hW
  have hcl : s.vm.findClass cls = some ce.cls := by
    have h9 := hO.cls
    rw [hvm] at h9
    exact h9
  have hall : s.sameButNew ({ U with vm := s.vm } : State) locs mc ms := by
    subst hA
    obtain ⟨e1, e2⟩ := hsame
    rw [State.setFrames_setFrames] at e1
    have h2 : (T.setVm s.vm).sameButNew ({ U with vm := s.vm } : State) [] (0 + 1) (0 + 6) := ⟨e1, e2⟩
    have h3 := X.same.trans h2
    rw [List.append_nil] at h3
    exact h3.mono hc hs
  refine ⟨U, ?_, .threw T.heap.size, hrun, hend, Or.inr ⟨T.heap.size, rfl, cls, ce, locs, hx U hWs.alike f1 (fun q hq => f2 q hq (fun z hz => nomatch hz)), hce, hO.vm, hcl, hWs, hall, hf⟩⟩
  refine st1 _ ?_
  show Steps p.tables e below (T1.setTop { method := m, pc := pc + 3, locals := ls, stack := .ref T.heap.size :: rest, locked := none }) _
  jvm_step X₁.here [X₁.here.top, hexec, d3', Value.category]
  exact X₁.ldcString hexec (own := own) (text := text) (index := is) (a := sa) hown' hstr'.1 hstr'.2
    (g := { method := m, pc := pc + 4, locals := ls, stack := .ref T.heap.size :: .ref T.heap.size :: rest, locked := none }) rfl d4' _ hsteps
/-- 'throw new E("text")', the text by a wide index -/
theorem vx_throwSW {cc : ByteArray} {pc : Nat} (hexec : p.tables.exec = Jvm.exec) (hb : c.code = cc) (hl : l.stackTraces = false) {own cls text : String} {names : List String} {ik is ic mc ms sa : Nat} {A : Nat → Prop}
    (hown : s.vm.findClass own = some m.cls) (hcls : Bundle.fit cls = true) (hnames : ∀ n ∈ names, Bundle.fit n = true)
    (hk : (Cond.classLink own ik cls).before args s = true) (hini : (Cond.initialized cls).before args s = true) (hstr : vk_R own is text sa s) (hat : ∀ w ∈ vx_atS own ic cls names, w.before args s = true)
    (hgood : ∀ w ∈ Cond.classLink own ik cls :: Cond.initialized cls :: vx_atS own ic cls names, vx_ot w = true)
    (hU : vx_Zq Bundle.tN "UNASSIGNED_STACK" Bundle.steD A s s.heap) (hN : vx_Zq Bundle.tN "SUPPRESSED_SENTINEL" Bundle.listD A s s.heap) (hS : va_S A s.heap H locs) (hsize : ls.size = c.maxLocals)
    (d0 : decode cc pc = .ok (.new ik, 3)) (d3 : decode cc (pc + 3) = .ok (.dup, 1)) (d4 : decode cc (pc + 4) = .ok (.ldc_w is, 3)) (d7 : decode cc (pc + 7) = .ok (.invokespecial ic, 3)) (d10 : decode cc (pc + 10) = .ok (.athrow, 1))
    (hout : ∀ x ∈ c.exceptionTable.toList, covers x (pc + 10) = false)
    (hRframes : names.length + 3 < R.frames) (hRlocals : (rest.map fun v => v.category).sum + (13 * (names.length + 1) + 43) ≤ R.locals) (hRcells : cells + 1 ≤ R.cells) (hRslots : slots + 6 ≤ R.slots) (hlocks : meth.locks = false)
    (hx : ∀ t : State, s.vm.Alike t.vm → H.size ≤ t.heap.size → (∀ q : Nat, q < H.size → t.heap[q]? = H[q]?) → XC cls s t)
    (hf : ∀ z ∈ locs, free z.base) (hc : cells + 1 ≤ mc) (hs : slots + 6 ≤ ms) :
    W p l e R s m args below meth c H locs cells slots (vx_MQ below Qc XC args s mc ms free) (F0 m pc ls rest) := by
  intro T hT X
  have htr : e.platform.stackTraces = false := (show e.platform.stackTraces = l.stackTraces by rw [X.admits.platform]).trans hl
  have Y := vx_rebase X (R' := { frames := R.frames, locals := R.locals, cells := 1, slots := 6 }) (Nat.le_refl _) (Nat.le_refl _) hRcells hRslots
  obtain ⟨s', hA⟩ : ∃ z, z = (T.setVm s.vm).setFrames (.invoking m args :: below) := ⟨_, rfl⟩
  rw [← hA] at Y
  have hvm : s'.vm = s.vm := by rw [hA]; rfl
  have hhp : s'.heap = H := by rw [hA]; exact hT
  have hW0 : s.WarmedH s'.vm := by rw [hvm]; exact State.WarmedH.refl s
  have hat' : ∀ w ∈ vx_atS own ic cls names, w.before args s' = true := fun w hw => vx_ot_at hW0 hvm.symm (hgood w (List.mem_cons_of_mem _ (List.mem_cons_of_mem _ hw))) (hat w hw)
  have hk' : (Cond.classLink own ik cls).before args s' = true := vx_ot_at hW0 hvm.symm (hgood _ List.mem_cons_self) hk
  have hini' : (Cond.initialized cls).before args s' = true := vx_ot_at hW0 hvm.symm (hgood _ (List.mem_cons_of_mem _ List.mem_cons_self)) hini
  have hU' : vx_Zq Bundle.tN "UNASSIGNED_STACK" Bundle.steD A s' s'.heap := by rw [hhp]; exact vx_Zq.moved hW0.alike (hU.kept hS.2.1)
  have hN' : vx_Zq Bundle.tN "SUPPRESSED_SENTINEL" Bundle.listD A s' s'.heap := by rw [hhp]; exact vx_Zq.moved hW0.alike (hN.kept hS.2.1)
  have h : ∀ w ∈ Bundle.ownAtoms own ic cls names, w.before args s' = true := vx_own hat' (vx_isRefq hU'.1) (vx_isRefq hN'.1) hU'.2.word hN'.2.word
  have hown' : s'.vm.findClass own = some m.cls := by rw [hvm]; exact hown
  have hins : (Cond.instantiable cls 6).before args s' = true := h _ (by simp [Bundle.ownAtoms])
  obtain ⟨vm₁, cX, kX, hfX, hkX, -, -, X₁, st1⟩ := Y.newCold hexec (own := own) (C := cls) (index := ik) (n := 6) hown' hk' hins hini'
    (g := F0 m pc ls rest) rfl (by rw [hb]; exact d0) (Nat.le_refl _) (Nat.le_refl _)
  generalize hT1 : (T.setVm vm₁).pushCell { cls := cX, slots := kX.instanceTypes.map defaultValue, vm := .none } = T1 at X₁ st1
  have hcat : (Value.ref T.heap.size).category = 1 := rfl
  have hcellA : T1.heap[T.heap.size]? = some (freshCell cX kX) := by rw [← hT1]; exact State.heap_pushCell_size _ _
  have d3' : decode c.code (pc + 3) = .ok (.dup, 1) := by rw [hb]; exact d3
  have d4' : decode c.code (pc + 4) = .ok (.ldc_w is, 3) := by rw [hb]; exact d4
  have hstr' : vk_R own is text sa s' := vk_R.warm hW0 hstr
  obtain ⟨U, hsteps, hrun, hend, hW, hsame, ce, hce, hO⟩ := X₁.ctorThrowS hexec htr (own := own) (cls := cls) (names := names) (ic := ic) hown' hcls hnames h (fun x hx => nomatch hx) hfX hkX hcellA (by rw [hhp, hT]; exact Nat.le_refl _) (msg := .ref sa) rfl
    (g := { method := m, pc := pc + 7, locals := ls, stack := .ref sa :: .ref T.heap.size :: .ref T.heap.size :: rest, locked := none }) rfl hsize rfl rfl (rest := rest) rfl
    (by rw [hb]; exact d7) (by rw [hb]; exact d10) hout hRframes (by simp only [List.map_cons, List.sum_cons, hcat]; omega) hlocks
  obtain ⟨f1, f2⟩ := vx_frame hsame
  rw [hhp] at f1 f2
  have hWs : s.WarmedH U.vm := State.WarmedH.trans hW0 hW
  have hcl : s.vm.findClass cls = some ce.cls := by
    have h9 := hO.cls
    rw [hvm] at h9
    exact h9
  have hall : s.sameButNew ({ U with vm := s.vm } : State) locs mc ms := by
    subst hA
    obtain ⟨e1, e2⟩ := hsame
    rw [State.setFrames_setFrames] at e1
    have h2 : (T.setVm s.vm).sameButNew ({ U with vm := s.vm } : State) [] (0 + 1) (0 + 6) := ⟨e1, e2⟩
    have h3 := X.same.trans h2
    rw [List.append_nil] at h3
    exact h3.mono hc hs
  refine ⟨U, ?_, .threw T.heap.size, hrun, hend, Or.inr ⟨T.heap.size, rfl, cls, ce, locs, hx U hWs.alike f1 (fun q hq => f2 q hq (fun z hz => nomatch hz)), hce, hO.vm, hcl, hWs, hall, hf⟩⟩
  refine st1 _ ?_
  show Steps p.tables e below (T1.setTop { method := m, pc := pc + 3, locals := ls, stack := .ref T.heap.size :: rest, locked := none }) _
  jvm_step X₁.here [X₁.here.top, hexec, d3', Value.category]
  exact X₁.ldcStringW hexec (own := own) (text := text) (index := is) (a := sa) hown' hstr'.1 hstr'.2
    (g := { method := m, pc := pc + 4, locals := ls, stack := .ref T.heap.size :: .ref T.heap.size :: rest, locked := none }) rfl d4' _ hsteps
end Ends
section Bodies
variable {l : Launch}
theorem vx_ofW {y : MethodName} {ws ws' : List Cond} {rm : Room} {Pc : Array Value → State → Prop} {Qc : Array Value → State → Outcome → State → Prop} {XC : String → State → State → Prop} {mc ms : Nat} {free : Addr → Prop} {cc : ByteArray} {maxL : Nat} {ret : Option FieldType}
    (hy : plainName y.cls = true) (hw : ws = Cond.code y cc maxL ret :: ws')
    (body : ∀ p e s m args below meth c s₁, BodyLoose p l y (headSpec ws rm) cc maxL ret e s m args below meth c s₁ → c.maxLocals = maxL → (∀ x ∈ c.exceptionTable.toList, False) → Pc args s →
      W p l e (headSpec ws rm).room s m args below meth c s.heap [] 0 0 (vx_MQ below Qc XC args s mc ms free) (entryFrame m args maxL)) : vx_Met l y ws rm Pc Qc XC mc ms free := by
  refine MetFree.of_bodyS (code := cc) (maxLocals := maxL) (ret := ret) hy ?_ ?_
  · intro args s m h hn
    obtain ⟨meth, c, h1, h2, h3, h4, h5, h6, -, -⟩ := Cond.code_spec hn (atoms_spec (ws := ws) h _ (by rw [hw]; exact List.mem_cons_self))
    exact ⟨meth, c, h1, h2, h3, h4, h5, h6⟩
  · intro p e s m args below meth c s₁ B hml hP _
    have hh0 : s₁.heap = s.heap := by rw [B.state]; rfl
    have ht : ∀ x ∈ c.exceptionTable.toList, False := by
      obtain ⟨meth9, c9, h1, h2, -, -, -, -, h7, -⟩ := Cond.code_spec B.named (atoms_spec (ws := ws) B.pre _ (by rw [hw]; exact List.mem_cons_self))
      cases Option.some.inj (h1.symm.trans B.method)
      cases Option.some.inj (h2.symm.trans (Stand.of_body B).code)
      intro x hx
      rw [Array.isEmpty_iff.mp h7] at hx
      cases hx
    obtain ⟨t, a1, o, b1, b2, b3⟩ := body p e s m args below meth c s₁ B hml ht hP s₁ hh0 (Stand.of_body B)
    exact ⟨t, o, a1, b1, b2, b3⟩
/-- the table of a body with handlers -/
theorem vx_table {p : Program} {x y : MethodName} {S : Spec} {cc bytes : ByteArray} {maxL maxL' : Nat} {ret ret' : Option FieldType} {e : Env} {s s₁ : State} {m : MethodId} {args : Array Value} {below : List Frame} {meth : Method} {c : Code} {hh : List (Nat × Nat × Nat × Nat)}
    (B : BodyLoose p l y S cc maxL ret e s m args below meth c s₁) (h : (Cond.codeWith y bytes maxL' ret' hh).before args s = true) : c.exceptionTable.toList = tableOf hh := by
  obtain ⟨m9, meth9, c9, hn9, h1, h2, -, -, h6, -⟩ := Cond.codeWith_spec h
  cases Option.some.inj (hn9.symm.trans B.named)
  cases Option.some.inj (h1.symm.trans B.method)
  cases Option.some.inj (h2.symm.trans (Stand.of_body B).code)
  rw [← h6, table_eq]
end Bodies
end VXA
/-! ===== END ===== -/
/-! ===== BEGIN a static call of a method with an exception table ===== -/
section VXS
variable {p : Program} {l : Launch} {e : Env} {R : Room} {s : State} {m : MethodId} {args : Array Value} {below : List Frame} {meth : Method} {c : Code} {T : State} {H : Heap} {locs : List Loc} {cells slots : Nat}
abbrev vx_CSW (R : Room) (s : State) (args : Array Value) (own : String) (index : Nat) (y : MethodName) (bytes : ByteArray) (maxL : Nat) (ret : Option FieldType) (hh : List (Nat × Nat × Nat × Nat)) (ws : List Cond) (rm : Room) (mc ms n : Nat) : Prop :=
  (rm.cells = mc ∧ rm.slots = ms ∧ rm.frames + 1 ≤ R.frames ∧ 8 + (maxL + 11) + rm.locals ≤ R.locals ∧ (∀ w ∈ ws, ∀ (a' : Array Value) (U : State), s.WarmedH U.vm → w.before a' U = true) ∧ Cond.codeWith y bytes maxL ret hh ∈ ws) ∧
  (Cond.codeWith y bytes maxL ret hh).before args s = true ∧ (Cond.initialized y.cls).before args s = true ∧ (y.cls ≠ "java/lang/invoke/MethodHandle" ∧ y.cls ≠ "java/lang/invoke/VarHandle") ∧
  (∀ sig, parseMethodDescriptor y.desc = some sig → n = sig.parameters.length) ∧ (Cond.methodLink own index y).before args s = true ∧ (Cond.static y).before args s = true
theorem vx_cwSW {own : String} {index maxL mc ms : Nat} {y : MethodName} {bytes : ByteArray} {ret : Option FieldType} {hh : List (Nat × Nat × Nat × Nat)} {Ts ws ws' : List Cond} {rm : Room} (n : Nat) (ht : ∀ w ∈ Ts, w.before args s = true) (hT : GoodIn Ts (va_wsS own index y ws)) (hw : ws = Cond.codeWith y bytes maxL ret hh :: ws') (hrc : rm.cells = mc) (hrs : rm.slots = ms)
    (hd : y.cls ≠ "java/lang/invoke/MethodHandle" ∧ y.cls ≠ "java/lang/invoke/VarHandle" ∧ (parseMethodDescriptor y.desc).map (fun d => d.parameters.length) = some n) (hR : rm.frames + 1 ≤ R.frames ∧ 8 + (maxL + 11) + rm.locals ≤ R.locals) :
    vx_CSW R s args own index y bytes maxL ret hh ws rm mc ms n := by
  have ok : ∀ w ∈ va_wsS own index y ws, w.before args s = true := fun w h => ht w (hT w h).1
  have hG : GoodIn Ts ws := fun w h => hT w (by unfold va_wsS; exact List.mem_append_right _ h)
  have hc : Cond.codeWith y bytes maxL ret hh ∈ ws := by rw [hw]; exact List.mem_cons_self
  refine ⟨⟨hrc, hrs, hR.1, hR.2, pay_in ht hG, hc⟩, ht _ (hG _ hc).1, ok _ (by simp [va_wsS]), ⟨hd.1, hd.2.1⟩, fun sig h => ?_, ok _ (by simp [va_wsS]), ok _ (by simp [va_wsS])⟩
  have h2 := hd.2.2
  rw [h] at h2
  exact (Option.some.inj h2).symm
theorem vx_callSW (X : Stand p l e R s m args below meth c T locs cells slots) (hexec : p.tables.exec = Jvm.exec) {own : String} {index : Nat} {y : MethodName} {bytes : ByteArray} {maxL : Nat} {ret : Option FieldType} {hh : List (Nat × Nat × Nat × Nat)}
    (hown : s.vm.findClass own = some m.cls) (hlink : (Cond.methodLink own index y).before args s = true) (hstat : (Cond.static y).before args s = true) (hinit : (Cond.initialized y.cls).before args s = true)
    (hcode : (Cond.codeWith y bytes maxL ret hh).before args s = true) (hy : y.cls ≠ "java/lang/invoke/MethodHandle" ∧ y.cls ≠ "java/lang/invoke/VarHandle")
    {W9 : Nat} {Pre : Pt → Array Value → Prop} {Post : Pt → Array Value → Option Value → Pt → Prop} (hK : Back l R p e below s args y 3 W9 Pre Post)
    {g : JFrame} (hg : g.method = m) (hsize : g.locals.size = c.maxLocals) {argsL rest : List Value} (hlen : ∀ sig, parseMethodDescriptor y.desc = some sig → argsL.length = sig.parameters.length)
    (hstack : g.stack = argsL.reverse ++ rest) (hW : 2 * g.monitorRoom + (rest.map fun v => v.category).sum ≤ W9) (hdg : decode c.code g.pc = .ok (.invokestatic index, 3))
    (hpre : ∀ vm₁, s.WarmedH vm₁ → Pre ⟨T.setVm vm₁, locs, cells, slots⟩ argsL.toArray) :
    ∃ (v : Option Value) (vm₁ : Vm) (B : Pt), s.WarmedH vm₁ ∧ Stand p l e R s m args below meth c B.U B.locs B.cells B.slots ∧ Post ⟨T.setVm vm₁, locs, cells, slots⟩ argsL.toArray v B ∧
      ∀ target, Steps p.tables e below (B.U.setTop { g with pc := g.pc + 3, stack := v.toList ++ rest }) target → Steps p.tables e below (T.setTop g) target := by
  obtain ⟨mk, methM, cM, hnamed, hmethM, -, -, -, -, -, -, hsigM⟩ := Cond.codeWith_spec hcode
  have hstatic : methM.isStatic = true := Cond.static_spec hnamed hmethM hstat
  obtain ⟨kP, hkP, -⟩ := className_of_methodNamed hnamed
  have hinitP : kP.init = .initialized := Cond.initialized_spec (findClass_of_methodNamed hnamed) hkP hinit
  obtain ⟨vm₁, X₁, hstep₁⟩ := X.invokestatic hexec hown hlink hnamed hmethM hstatic hkP hinitP hy (g := g) hg (argsL := argsL) (rest := rest) (hlen _ hsigM) hstack hdg
  obtain ⟨v, B, X', hpost, hsteps⟩ := hK m meth c ⟨T.setVm vm₁, locs, cells, slots⟩ { g with stack := rest } (.invokestatic index) mk argsL.toArray X₁ hg hsize hdg hW (X₁.named hnamed) (hpre vm₁ X₁.warmed)
  exact ⟨v, vm₁, B, X₁.warmed, X', hpost, fun target h => hstep₁ _ fun acts => by rw [doInvoke_state]; exact hsteps.trans h⟩
theorem vx_runSW {y : MethodName} {bytes cc : ByteArray} {maxL nL mc ms n index : Nat} {ret : Option FieldType} {hh : List (Nat × Nat × Nat × Nat)} {ws : List Cond} {rm : Room} {Pc : Array Value → State → Prop} {Qc : Array Value → State → Outcome → State → Prop} {free : Addr → Prop} {Ts : List Cond} {own : String} {As rest : List Value} {g : JFrame}
    (S : CallFix p m c cc nL s args Ts own) (hM : Met l y ws rm Pc Qc mc ms free) (cw : vx_CSW R s args own index y bytes maxL ret hh ws rm mc ms n) (hp : PreS s H Pc As)
    (hg : g.method = m) (hn : As.length = n) (hsize : g.locals.size = nL) (hstack : g.stack = As.reverse ++ rest) (hW : 2 * g.monitorRoom + (rest.map fun v => v.category).sum ≤ 8) (hdg : decode cc g.pc = .ok (.invokestatic index, 3)) (hf : cells + mc ≤ R.cells ∧ slots + ms ≤ R.slots) :
    va_Run p l e R s m args below meth c H locs cells slots mc ms g rest (Qc As.toArray) (free) := by
  obtain ⟨⟨hrc, hrs, hfr, hlo, hws, hcw⟩, hcode, hini, hy, hlen, hl, hstt⟩ := cw
  have hK : Back l R p e below s args y 3 8 (PreOf R mc ms Pc) (PostOf Qc mc ms free) := va_backW (hh := hh) (bytes := bytes) (maxL := maxL) (ret := ret) hM hp.1 hrc hrs hfr hlo hws hcw (fun a' U hW => word_at hW (Or.inl (by first | rfl | simp [Cond.onTables, Cond.keeps, Cond.steady])) hini)
  obtain ⟨hx, hb, hml, ho, -⟩ := S
  intro T hT X
  obtain ⟨v, vm₁, ⟨U', l2, c2, s2⟩, hW₁, X', ⟨g', mk, t, L, e1, e2, hq, h1, hL, h2, h3⟩, st⟩ := vx_callSW X hx (hh := hh) (bytes := bytes) (maxL := maxL) (ret := ret) ho hl hstt hini hcode hy hK hg (hsize.trans hml.symm) (argsL := As) (rest := rest) (fun sig h => hn.trans (hlen sig h)) hstack hW (by rw [hb]; exact hdg)
    (fun vm₁ hW₁ => ⟨hf.1, hf.2, hp.2 (T.setVm vm₁) hT hW₁⟩)
  dsimp only [Pt.U, Pt.locs, Pt.cells, Pt.slots] at X' e1 e2 h1 h2 h3 st
  subst h1; subst h2; subst h3
  exact ⟨v, (T.setVm vm₁).calling g' mk As.toArray, t, U', L, hT, X', hL, e1, e2, hq, st⟩
/-- not caught here, past rows that name other classes: it goes on to the caller -/
theorem vx_outP {p : Program} {l : Launch} {e : Env} {R : Room} {s : State} {m : MethodId} {args : Array Value} {below : List Frame} {meth : Method} {c : Code} {H : Heap} {locs : List Loc} {cells slots : Nat} {free : Addr → Prop} {ls : Array Slot} {rest : List Value} {Qc : Array Value → State → Outcome → State → Prop} {XC : String → State → State → Prop}
    {pc : Nat} {own E : String} {ce : Cell} {q : Addr} {mc ms : Nat} (hown : s.vm.findClass own = some m.cls) (hlocks : meth.locks = false)
    (hpass : ∀ z ∈ c.exceptionTable.toList, covers z pc = false ∨ (z.catchType ≠ 0 ∧ ∃ nm : String, (Cond.classLink own z.catchType nm).before args s = true ∧ va_Nc E nm s)) (hcell : H[q]? = some ce) (hv : ce.vm = .none) (hcl : s.vm.findClass E = some ce.cls)
    (hx : ∀ t : State, t.heap = H → s.vm.Alike t.vm → XC E s t) (hf : ∀ z ∈ locs, free z.base) (hc : cells ≤ mc) (hs : slots ≤ ms) :
    vx_W p l e R s m args below meth c H locs cells slots (vx_MQ below Qc XC args s mc ms free) (F0 m pc ls rest) q := by
  intro T hT X
  have hpl : e.platform.magicAccessors = ({} : Platform).magicAccessors := by rw [X.admits.platform]
  obtain ⟨vm', hW', X', st⟩ := X.outThrough hlocks q (g := F0 m pc ls rest) rfl rfl rfl (cell := ce) (by rw [hT]; exact hcell) (by rw [hv]; rfl)
    (by obtain ⟨k9, h9, -⟩ := Vm.findClass_spec hcl; exact ⟨k9, h9⟩) (fun z hz => by
      rcases hpass z hz with h | ⟨hz0, nm, hl1, hn1⟩
      · exact Or.inl h
      · obtain ⟨c6, hc6, hcl6⟩ := Cond.classLink_spec hown hl1 e.platform hpl
        obtain ⟨a8, b8, h1, h2, h3⟩ := hn1
        cases Option.some.inj (h1.symm.trans hcl)
        cases Option.some.inj (h2.symm.trans hc6)
        exact Or.inr ⟨hz0, _, hcl6, h3⟩)
  obtain ⟨g₀, hfr⟩ := X'.frames_eq
  have hcell9 : ((T.setVm vm').setFrames (.throwing q :: below)).heap[q]? = some ce := by
    show T.heap[q]? = some ce
    rw [hT]; exact hcell
  have hend : Ended ((T.setVm vm').setFrames (.throwing q :: below)) below (.threw q) := State.frames_setFrames _ (State.cur_lt_of_frames hfr)
  refine ⟨(T.setVm vm').setFrames (.throwing q :: below), ?_, .threw q, X'.here.running, hend, Or.inr ⟨q, rfl, E, ce, locs, hx _ hT (X'.ends _).1.alike, hcell9, hv, hcl, (X'.ends _).1, (X'.ends _).2.mono hc hs, hf⟩⟩
  rw [X.pushThrowing_eq]
  exact st
/-- a thing of a world lies in the heap -/
theorem vx_lt {D : va_G} {cl : List vw_C} {ws : va_W} {H1 : Heap} (h : va_P D cl ws H1) {k : Nat} {q : Nat × va_E} (hk : ws[k]? = some q) : q.1 < H1.size := (h k q hk).lt
end VXS
/-! ===== END ===== -/
/-! ===== BEGIN methods with a table of their own: called by a name, returning or throwing ===== -/
section VXH
/-! vx_backW, vx_callVX, vx_callSX, vx_callVW, vx_runVW, vx_runVX, vx_runSX, vx_ofWH follow the same proofs as their sisters above (Free/Laws.lean, Shelf42/LK1.lean); vx_outP calls Shelf42/NT130.lean (outThrough). -/
section
variable {l : Launch} {R : Room} {p : Program} {e : Env} {below : List Frame} {s : State} {sargs : Array Value} {y : MethodName} {len W9 : Nat}
theorem vx_backW {ws : List Cond} {rm : Room} {Pc : Array Value → State → Prop} {Qc : Array Value → State → Outcome → State → Prop} {XC : String → State → State → Prop} {mc ms : Nat} {free : Addr → Prop} {bytes : ByteArray} {maxL : Nat} {ret : Option FieldType} {hh : List (Nat × Nat × Nat × Nat)}
    (hM : vx_Met l y ws rm Pc Qc XC mc ms free) (hblind : FrameBlind Pc) (hrc : rm.cells = mc) (hrs : rm.slots = ms)
    (hframes : rm.frames + 1 ≤ R.frames) (hlocals : W9 + (maxL + 11) + rm.locals ≤ R.locals)
    (hws : ∀ w ∈ ws, ∀ a' U, s.WarmedH U.vm → w.before a' U = true) (hcode : Cond.codeWith y bytes maxL ret hh ∈ ws) (hinit : ∀ a' U, s.WarmedH U.vm → (Cond.initialized y.cls).before a' U = true) :
    vx_Back l R p e below s sargs y len W9 (PreOf R mc ms Pc) (PostOf Qc mc ms free) (vx_Post XC mc ms free) := by
  intro m meth c A g ig mk a X hg hsize hdg hW hn hp
  have h1 : (headSpec ws rm).pre.before a A.U = true := atoms_intro fun w hw => hws w hw _ _ X.warmed
  have h2 : (Cond.codeWith y bytes maxL ret hh).before a A.U = true := hws _ hcode _ _ X.warmed
  have h3 : (Cond.initialized y.cls).before a A.U = true := hinit _ _ X.warmed
  have h4 : A.cells + (headSpec ws rm).room.cells ≤ R.cells := by rw [show (headSpec ws rm).room.cells = mc from hrc]; exact hp.1
  have h5 : A.slots + (headSpec ws rm).room.slots ≤ R.slots := by rw [show (headSpec ws rm).room.slots = ms from hrs]; exact hp.2.1
  have hPc : Pc a (A.U.calling g mk a) := hblind _ _ _ _ hp.2.2
  obtain ⟨U, Ls, c0, s0⟩ := A
  dsimp only [Pt.U, Pt.locs, Pt.cells, Pt.slots] at h1 h2 h3 h4 h5 X hn hPc ⊢
  obtain ⟨m9, methY, cY, hn9, hmY, hcY, -, hlY, -⟩ := Cond.codeWith_spec h2
  cases Option.some.inj (hn9.symm.trans hn)
  obtain ⟨kY, hkY, -⟩ := className_of_methodNamed hn
  have hinitY : kY.init = .initialized := Cond.initialized_spec (findClass_of_methodNamed hn) hkY h3
  have h : At U g.method c below := by rw [hg]; exact X.here
  have hlocals9 : W9 + (maxL + 11) + (headSpec ws rm).room.locals ≤ R.locals := hlocals
  have happ : (headSpec ws rm).appliesLoose y e.platform (U.calling g mk a) = true :=
    Spec.appliesLoose_calling (g := g) h hdg hn hkY hinitY
      (X.room_calling (g := g) (R' := (headSpec ws rm).room) hsize hmY hcY hframes (by rw [hlY]; omega) h4 h5) h1
  obtain ⟨mid, hmid⟩ := h.above
  have hfr : (U.setTop g).frames = (.java g :: mid) ++ below := by rw [State.frames_setTop' g h.top, hmid]; rfl
  obtain ⟨o, s₂, hsteps, -, hend, hq⟩ := Steps.callFree hM p X.admits X.cas X.clock (acts := []) hfr happ hPc trivial
  have hq' : vx_Q Qc XC mc ms free a (U.calling g mk a) o s₂ := hq
  rw [State.frames_setTop' g h.top] at hend
  obtain ⟨g₀, hg0⟩ := Option.isSome_iff_exists.mp h.top
  obtain ⟨r, hr⟩ := State.topJava?_eq_some.mp hg0
  have hr' : (({ U with heap := s₂.heap, slotsUsed := s₂.slotsUsed } : State).setVm s₂.vm).frames = .java g₀ :: r := hr
  rcases hq' with ⟨hqc, L, hfe, hL⟩ | ⟨q, rfl, E, ce, L, hx, hce, hcv, hcl, hW₂, hsm, hL⟩
  · obtain ⟨⟨v, rfl⟩, hW₂, e2, q2, q3, q4, q5, q6⟩ := id hfe
    have e3 : s₂ = ({ (U.calling g mk a).setFrames s₂.frames with heap := s₂.heap, slotsUsed := s₂.slotsUsed } : State).setVm s₂.vm := by
      have : s₂ = ({ s₂ with vm := (U.calling g mk a).vm } : State).setVm s₂.vm := rfl
      rw [e2] at this
      exact this
    obtain ⟨c₂, i₂, len₂, hc₂, hd₂, hf₂⟩ := hend
    have hW' : U.WarmedH s₂.vm := hW₂
    have hcc : c₂ = c := by
      have h1 : s₂.code? g.method = U.code? g.method := by
        rw [State.code?_eq, State.code?_eq, hW'.alike.method?]
      exact Option.some.inj (hc₂.symm.trans (h1.trans h.code))
    subst hcc
    have hlen : len₂ = len := by rw [hdg] at hd₂; cases hd₂; rfl
    subst hlen
    have hs₂ : s₂ = (({ U with heap := s₂.heap, slotsUsed := s₂.slotsUsed } : State).setVm s₂.vm).setTop { g with pc := g.pc + len₂, stack := v.toList ++ g.stack } := by
      refine e3.trans ?_
      rw [hf₂, State.calling_eq h.top, State.setFrames_setFrames, State.setTop_of_frames _ hr', hr]
      rfl
    have hsame : U.sameButNew ({ U with heap := s₂.heap, slotsUsed := s₂.slotsUsed } : State) L mc ms := by
      refine ⟨?_, q2, q3, q4, q5, q6⟩
      obtain ⟨t, ht, -⟩ := State.frames_cons hr
      show ({ U with heap := s₂.heap, slotsUsed := s₂.slotsUsed } : State) = { U.setFrames U.frames with heap := s₂.heap, slotsUsed := s₂.slotsUsed }
      rw [State.setFrames_self ht]
    subst hg
    refine Or.inl ⟨v, ⟨(({ U with heap := s₂.heap, slotsUsed := s₂.slotsUsed } : State).setVm s₂.vm), Ls ++ L, c0 + mc, s0 + ms⟩,
      ⟨X.admits, X.cas, X.clock, X.frames, X.room, X.hears, X.method, X.code, (X.here.setHeapUsed s₂.heap s₂.slotsUsed).setVm hW'.alike, X.tail, State.WarmedH.trans X.warmed hW', X.limits, X.bytes, X.same.trans (hsame.setVm s.vm)⟩,
      ⟨g, mk, s₂, L, rfl, rfl, hqc, rfl, hL, rfl, rfl⟩, ?_⟩
    show Steps p.tables e below _ ((({ U with heap := s₂.heap, slotsUsed := s₂.slotsUsed } : State).setVm s₂.vm).setTop { g with pc := g.pc + len₂, stack := v.toList ++ g.stack })
    rw [← hs₂]
    exact hsteps
  · obtain ⟨e2, q2, q3, q4, q5, q6⟩ := id hsm
    have e3 : s₂ = ({ (U.calling g mk a).setFrames s₂.frames with heap := s₂.heap, slotsUsed := s₂.slotsUsed } : State).setVm s₂.vm := by
      have : s₂ = ({ s₂ with vm := (U.calling g mk a).vm } : State).setVm s₂.vm := rfl
      rw [e2] at this
      exact this
    have hf₂ : s₂.frames = .throwing q :: .java g :: U.frames.tail := hend
    have hW' : U.WarmedH s₂.vm := hW₂
    have hs₂ : s₂ = ((({ U with heap := s₂.heap, slotsUsed := s₂.slotsUsed } : State).setVm s₂.vm).setTop g).pushFrame (.throwing q) := by
      refine e3.trans ?_
      rw [hf₂, State.calling_eq h.top, State.setFrames_setFrames, State.pushFrame, State.frames_setTop _ hr', State.setTop_of_frames _ hr', State.setFrames_setFrames, hr]
      rfl
    have hsame : U.sameButNew ({ U with heap := s₂.heap, slotsUsed := s₂.slotsUsed } : State) L mc ms := by
      refine ⟨?_, q2, q3, q4, q5, q6⟩
      obtain ⟨t, ht, -⟩ := State.frames_cons hr
      show ({ U with heap := s₂.heap, slotsUsed := s₂.slotsUsed } : State) = { U.setFrames U.frames with heap := s₂.heap, slotsUsed := s₂.slotsUsed }
      rw [State.setFrames_self ht]
    subst hg
    refine Or.inr ⟨q, ⟨(({ U with heap := s₂.heap, slotsUsed := s₂.slotsUsed } : State).setVm s₂.vm), Ls ++ L, c0 + mc, s0 + ms⟩,
      ⟨X.admits, X.cas, X.clock, X.frames, X.room, X.hears, X.method, X.code, (X.here.setHeapUsed s₂.heap s₂.slotsUsed).setVm hW'.alike, X.tail, State.WarmedH.trans X.warmed hW', X.limits, X.bytes, X.same.trans (hsame.setVm s.vm)⟩,
      ⟨g, mk, s₂, L, E, ce, rfl, rfl, hx, hce, hcv, hcl, rfl, hL, rfl, rfl⟩, ?_⟩
    show Steps p.tables e below _ (((({ U with heap := s₂.heap, slotsUsed := s₂.slotsUsed } : State).setVm s₂.vm).setTop g).pushFrame (.throwing q))
    rw [← hs₂]
    exact hsteps
end
variable {p : Program} {l : Launch} {e : Env} {R : Room} {s : State} {m : MethodId} {args : Array Value} {below : List Frame} {meth : Method} {c : Code} {T : State} {H : Heap} {locs : List Loc} {cells slots : Nat}
theorem vx_callVX (X : Stand p l e R s m args below meth c T locs cells slots) (hexec : p.tables.exec = Jvm.exec) {own C : String} {index : Nat} {y : MethodName} {bytes : ByteArray} {maxL : Nat} {ret : Option FieldType} {hh : List (Nat × Nat × Nat × Nat)}
    (hown : s.vm.findClass own = some m.cls) (hlink : (Cond.methodLink own index y).before args s = true) (hinst : (Cond.instanceMethod y).before args s = true) (hsel : (Cond.selects C y y).before args s = true)
    (hcode : (Cond.codeWith y bytes maxL ret hh).before args s = true) (hy : y.cls ≠ "java/lang/invoke/MethodHandle" ∧ y.cls ≠ "java/lang/invoke/VarHandle")
    {W9 : Nat} {Pre : Pt → Array Value → Prop} {Post : Pt → Array Value → Option Value → Pt → Prop} {PostX : Pt → Array Value → Addr → Pt → Prop} (hK : vx_Back l R p e below s args y 3 W9 Pre Post PostX)
    {b : Addr} {cellB : Cell} (hcell : T.heap[b]? = some cellB) (hobj : cellB.vm.isStatics = false) (hcls : s.vm.findClass C = some cellB.cls)
    {g : JFrame} (hg : g.method = m) (hsize : g.locals.size = c.maxLocals) {argsL rest : List Value} (hlen : ∀ sig, parseMethodDescriptor y.desc = some sig → argsL.length = sig.parameters.length)
    (hstack : g.stack = argsL.reverse ++ .ref b :: rest) (hW : 2 * g.monitorRoom + (rest.map fun v => v.category).sum ≤ W9) (hdg : decode c.code g.pc = .ok (.invokevirtual index, 3))
    (hpre : ∀ vm₁, s.WarmedH vm₁ → Pre ⟨T.setVm vm₁, locs, cells, slots⟩ (Value.ref b :: argsL).toArray) :
    (∃ (v : Option Value) (vm₁ : Vm) (B : Pt), s.WarmedH vm₁ ∧ Stand p l e R s m args below meth c B.U B.locs B.cells B.slots ∧ Post ⟨T.setVm vm₁, locs, cells, slots⟩ (Value.ref b :: argsL).toArray v B ∧
      ∀ target, Steps p.tables e below (B.U.setTop { g with pc := g.pc + 3, stack := v.toList ++ rest }) target → Steps p.tables e below (T.setTop g) target) ∨
    (∃ (q : Addr) (vm₁ : Vm) (B : Pt), s.WarmedH vm₁ ∧ Stand p l e R s m args below meth c B.U B.locs B.cells B.slots ∧ PostX ⟨T.setVm vm₁, locs, cells, slots⟩ (Value.ref b :: argsL).toArray q B ∧
      Steps p.tables e below (T.setTop g) ((B.U.setTop { g with stack := rest }).pushFrame (.throwing q))) := by
  obtain ⟨mk, methM, hnamed, hmethM, hstM, habM⟩ := Cond.instanceMethod_spec hinst
  obtain ⟨m8, methM', cM, hn8, hmethM', -, -, -, -, -, -, hsigM⟩ := Cond.codeWith_spec hcode
  cases Option.some.inj (hn8.symm.trans hnamed)
  cases hmethM.symm.trans hmethM'
  obtain ⟨c2, r2, m2, q1, q2, q3, q4, kP, hkP, hkPi⟩ := Cond.selects_spec hsel
  cases hcls.symm.trans q1
  cases (State.methodFound?_of_named hnamed hy).symm.trans q2
  cases hnamed.symm.trans q3
  have hselP : selectMethod e.platform s.vm cellB.cls mk = .method mk := by rw [Launch.admits_selectMethod X.admits]; exact q4
  obtain ⟨vm₁, X₁, hstep₁⟩ := X.invokevirtual hexec hown hlink hnamed hmethM hstM hkP hkPi hy (a := b) (cell := cellB) hcell
    (fun z h => by rw [h] at hobj; cases hobj) hselP hmethM habM hkP hkPi (g := g) hg (argsL := argsL) (rest := rest) (hlen _ hsigM) hstack hdg
  rcases hK m meth c ⟨T.setVm vm₁, locs, cells, slots⟩ { g with stack := rest } (.invokevirtual index) mk (Value.ref b :: argsL).toArray X₁ hg hsize hdg hW (X₁.named hnamed) (hpre vm₁ X₁.warmed) with ⟨v, B, X', hpost, hsteps⟩ | ⟨q, B, X', hpost, hsteps⟩
  · exact Or.inl ⟨v, vm₁, B, X₁.warmed, X', hpost, fun target h => hstep₁ _ fun acts => by rw [doInvoke_state]; exact hsteps.trans h⟩
  · exact Or.inr ⟨q, vm₁, B, X₁.warmed, X', hpost, hstep₁ _ fun acts => by rw [doInvoke_state]; exact hsteps⟩
theorem vx_callSX (X : Stand p l e R s m args below meth c T locs cells slots) (hexec : p.tables.exec = Jvm.exec) {own : String} {index : Nat} {y : MethodName} {bytes : ByteArray} {maxL : Nat} {ret : Option FieldType} {hh : List (Nat × Nat × Nat × Nat)}
    (hown : s.vm.findClass own = some m.cls) (hlink : (Cond.methodLink own index y).before args s = true) (hstat : (Cond.static y).before args s = true) (hinit : (Cond.initialized y.cls).before args s = true)
    (hcode : (Cond.codeWith y bytes maxL ret hh).before args s = true) (hy : y.cls ≠ "java/lang/invoke/MethodHandle" ∧ y.cls ≠ "java/lang/invoke/VarHandle")
    {W9 : Nat} {Pre : Pt → Array Value → Prop} {Post : Pt → Array Value → Option Value → Pt → Prop} {PostX : Pt → Array Value → Addr → Pt → Prop} (hK : vx_Back l R p e below s args y 3 W9 Pre Post PostX)
    {g : JFrame} (hg : g.method = m) (hsize : g.locals.size = c.maxLocals) {argsL rest : List Value} (hlen : ∀ sig, parseMethodDescriptor y.desc = some sig → argsL.length = sig.parameters.length)
    (hstack : g.stack = argsL.reverse ++ rest) (hW : 2 * g.monitorRoom + (rest.map fun v => v.category).sum ≤ W9) (hdg : decode c.code g.pc = .ok (.invokestatic index, 3))
    (hpre : ∀ vm₁, s.WarmedH vm₁ → Pre ⟨T.setVm vm₁, locs, cells, slots⟩ argsL.toArray) :
    (∃ (v : Option Value) (vm₁ : Vm) (B : Pt), s.WarmedH vm₁ ∧ Stand p l e R s m args below meth c B.U B.locs B.cells B.slots ∧ Post ⟨T.setVm vm₁, locs, cells, slots⟩ argsL.toArray v B ∧
      ∀ target, Steps p.tables e below (B.U.setTop { g with pc := g.pc + 3, stack := v.toList ++ rest }) target → Steps p.tables e below (T.setTop g) target) ∨
    (∃ (q : Addr) (vm₁ : Vm) (B : Pt), s.WarmedH vm₁ ∧ Stand p l e R s m args below meth c B.U B.locs B.cells B.slots ∧ PostX ⟨T.setVm vm₁, locs, cells, slots⟩ argsL.toArray q B ∧
      Steps p.tables e below (T.setTop g) ((B.U.setTop { g with stack := rest }).pushFrame (.throwing q))) := by
  obtain ⟨mk, methM, cM, hnamed, hmethM, -, -, -, -, -, -, hsigM⟩ := Cond.codeWith_spec hcode
  have hstatic : methM.isStatic = true := Cond.static_spec hnamed hmethM hstat
  obtain ⟨kP, hkP, -⟩ := className_of_methodNamed hnamed
  have hinitP : kP.init = .initialized := Cond.initialized_spec (findClass_of_methodNamed hnamed) hkP hinit
  obtain ⟨vm₁, X₁, hstep₁⟩ := X.invokestatic hexec hown hlink hnamed hmethM hstatic hkP hinitP hy (g := g) hg (argsL := argsL) (rest := rest) (hlen _ hsigM) hstack hdg
  rcases hK m meth c ⟨T.setVm vm₁, locs, cells, slots⟩ { g with stack := rest } (.invokestatic index) mk argsL.toArray X₁ hg hsize hdg hW (X₁.named hnamed) (hpre vm₁ X₁.warmed) with ⟨v, B, X', hpost, hsteps⟩ | ⟨q, B, X', hpost, hsteps⟩
  · exact Or.inl ⟨v, vm₁, B, X₁.warmed, X', hpost, fun target h => hstep₁ _ fun acts => by rw [doInvoke_state]; exact hsteps.trans h⟩
  · exact Or.inr ⟨q, vm₁, B, X₁.warmed, X', hpost, hstep₁ _ fun acts => by rw [doInvoke_state]; exact hsteps⟩
theorem vx_callVW (X : Stand p l e R s m args below meth c T locs cells slots) (hexec : p.tables.exec = Jvm.exec) {own C : String} {index : Nat} {y : MethodName} {bytes : ByteArray} {maxL : Nat} {ret : Option FieldType} {hh : List (Nat × Nat × Nat × Nat)}
    (hown : s.vm.findClass own = some m.cls) (hlink : (Cond.methodLink own index y).before args s = true) (hinst : (Cond.instanceMethod y).before args s = true) (hsel : (Cond.selects C y y).before args s = true)
    (hcode : (Cond.codeWith y bytes maxL ret hh).before args s = true) (hy : y.cls ≠ "java/lang/invoke/MethodHandle" ∧ y.cls ≠ "java/lang/invoke/VarHandle")
    {W9 : Nat} {Pre : Pt → Array Value → Prop} {Post : Pt → Array Value → Option Value → Pt → Prop} (hK : Back l R p e below s args y 3 W9 Pre Post)
    {b : Addr} {cellB : Cell} (hcell : T.heap[b]? = some cellB) (hobj : cellB.vm.isStatics = false) (hcls : s.vm.findClass C = some cellB.cls)
    {g : JFrame} (hg : g.method = m) (hsize : g.locals.size = c.maxLocals) {argsL rest : List Value} (hlen : ∀ sig, parseMethodDescriptor y.desc = some sig → argsL.length = sig.parameters.length)
    (hstack : g.stack = argsL.reverse ++ .ref b :: rest) (hW : 2 * g.monitorRoom + (rest.map fun v => v.category).sum ≤ W9) (hdg : decode c.code g.pc = .ok (.invokevirtual index, 3))
    (hpre : ∀ vm₁, s.WarmedH vm₁ → Pre ⟨T.setVm vm₁, locs, cells, slots⟩ (Value.ref b :: argsL).toArray) :
    ∃ (v : Option Value) (vm₁ : Vm) (B : Pt), s.WarmedH vm₁ ∧ Stand p l e R s m args below meth c B.U B.locs B.cells B.slots ∧ Post ⟨T.setVm vm₁, locs, cells, slots⟩ (Value.ref b :: argsL).toArray v B ∧
      ∀ target, Steps p.tables e below (B.U.setTop { g with pc := g.pc + 3, stack := v.toList ++ rest }) target → Steps p.tables e below (T.setTop g) target := by
  obtain ⟨mk, methM, hnamed, hmethM, hstM, habM⟩ := Cond.instanceMethod_spec hinst
  obtain ⟨m8, methM', cM, hn8, hmethM', -, -, -, -, -, -, hsigM⟩ := Cond.codeWith_spec hcode
  cases Option.some.inj (hn8.symm.trans hnamed)
  cases hmethM.symm.trans hmethM'
  obtain ⟨c2, r2, m2, q1, q2, q3, q4, kP, hkP, hkPi⟩ := Cond.selects_spec hsel
  cases hcls.symm.trans q1
  cases (State.methodFound?_of_named hnamed hy).symm.trans q2
  cases hnamed.symm.trans q3
  have hselP : selectMethod e.platform s.vm cellB.cls mk = .method mk := by rw [Launch.admits_selectMethod X.admits]; exact q4
  obtain ⟨vm₁, X₁, hstep₁⟩ := X.invokevirtual hexec hown hlink hnamed hmethM hstM hkP hkPi hy (a := b) (cell := cellB) hcell
    (fun z h => by rw [h] at hobj; cases hobj) hselP hmethM habM hkP hkPi (g := g) hg (argsL := argsL) (rest := rest) (hlen _ hsigM) hstack hdg
  obtain ⟨v, B, X', hpost, hsteps⟩ := hK m meth c ⟨T.setVm vm₁, locs, cells, slots⟩ { g with stack := rest } (.invokevirtual index) mk (Value.ref b :: argsL).toArray X₁ hg hsize hdg hW (X₁.named hnamed) (hpre vm₁ X₁.warmed)
  exact ⟨v, vm₁, B, X₁.warmed, X', hpost, fun target h => hstep₁ _ fun acts => by rw [doInvoke_state]; exact hsteps.trans h⟩
abbrev vx_CVW (R : Room) (s : State) (args : Array Value) (own C : String) (index : Nat) (y : MethodName) (bytes : ByteArray) (maxL : Nat) (ret : Option FieldType) (hh : List (Nat × Nat × Nat × Nat)) (ws : List Cond) (rm : Room) (mc ms n : Nat) : Prop :=
  (rm.cells = mc ∧ rm.slots = ms ∧ rm.frames + 1 ≤ R.frames ∧ 8 + (maxL + 11) + rm.locals ≤ R.locals ∧ (∀ w ∈ ws, ∀ (a' : Array Value) (U : State), s.WarmedH U.vm → w.before a' U = true) ∧ Cond.codeWith y bytes maxL ret hh ∈ ws) ∧
  (Cond.codeWith y bytes maxL ret hh).before args s = true ∧ (Cond.initialized y.cls).before args s = true ∧ (y.cls ≠ "java/lang/invoke/MethodHandle" ∧ y.cls ≠ "java/lang/invoke/VarHandle") ∧
  (∀ sig, parseMethodDescriptor y.desc = some sig → n = sig.parameters.length) ∧ (Cond.methodLink own index y).before args s = true ∧ (Cond.instanceMethod y).before args s = true ∧ (Cond.selects C y y).before args s = true
theorem vx_cwVW {own C : String} {index maxL mc ms : Nat} {y : MethodName} {bytes : ByteArray} {ret : Option FieldType} {hh : List (Nat × Nat × Nat × Nat)} {Ts ws ws' : List Cond} {rm : Room} (n : Nat) (ht : ∀ w ∈ Ts, w.before args s = true) (hT : GoodIn Ts (wsV own index C y ws)) (hw : ws = Cond.codeWith y bytes maxL ret hh :: ws') (hrc : rm.cells = mc) (hrs : rm.slots = ms)
    (hd : y.cls = C ∧ y.cls ≠ "java/lang/invoke/MethodHandle" ∧ y.cls ≠ "java/lang/invoke/VarHandle" ∧ (parseMethodDescriptor y.desc).map (fun d => d.parameters.length) = some n) (hR : rm.frames + 1 ≤ R.frames ∧ 8 + (maxL + 11) + rm.locals ≤ R.locals) :
    vx_CVW R s args own C index y bytes maxL ret hh ws rm mc ms n := by
  obtain ⟨hC, hd⟩ := hd
  subst hC
  have ok : ∀ w ∈ wsV own index y.cls y ws, w.before args s = true := fun w h => ht w (hT w h).1
  have hG : GoodIn Ts ws := fun w h => hT w (by unfold wsV; exact List.mem_append_right _ h)
  have hc : Cond.codeWith y bytes maxL ret hh ∈ ws := by rw [hw]; exact List.mem_cons_self
  refine ⟨⟨hrc, hrs, hR.1, hR.2, pay_in ht hG, hc⟩, ht _ (hG _ hc).1, ok _ (by simp [wsV]), ⟨hd.1, hd.2.1⟩, fun sig h => ?_, ok _ (by simp [wsV]), ok _ (by simp [wsV]), ok _ (by simp [wsV])⟩
  have h2 := hd.2.2
  rw [h] at h2
  exact (Option.some.inj h2).symm
theorem vx_runVW {y : MethodName} {bytes cc : ByteArray} {maxL nL mc ms n index : Nat} {ret : Option FieldType} {hh : List (Nat × Nat × Nat × Nat)} {ws : List Cond} {rm : Room} {Pc : Array Value → State → Prop} {Qc : Array Value → State → Outcome → State → Prop} {free : Addr → Prop} {Ts : List Cond} {own C : String} {b : Addr} {As rest : List Value} {g : JFrame}
    (S : CallFix p m c cc nL s args Ts own) (hM : Met l y ws rm Pc Qc mc ms free) (cw : vx_CVW R s args own C index y bytes maxL ret hh ws rm mc ms n) (hp : PreV s H C b Pc As)
    (hg : g.method = m) (hn : As.length = n) (hsize : g.locals.size = nL) (hstack : g.stack = As.reverse ++ .ref b :: rest) (hW : 2 * g.monitorRoom + (rest.map fun v => v.category).sum ≤ 8) (hdg : decode cc g.pc = .ok (.invokevirtual index, 3)) (hf : cells + mc ≤ R.cells ∧ slots + ms ≤ R.slots) :
    va_Run p l e R s m args below meth c H locs cells slots mc ms g rest (Qc (Value.ref b :: As).toArray) free := by
  obtain ⟨⟨hrc, hrs, hfr, hlo, hws, hcw⟩, hcode, hini, hy, hlen, hl, hin, hse⟩ := cw
  have hK : Back l R p e below s args y 3 8 (PreOf R mc ms Pc) (PostOf Qc mc ms free) := va_backW (hh := hh) (bytes := bytes) (maxL := maxL) (ret := ret) hM hp.1 hrc hrs hfr hlo hws hcw (fun a' U hW => word_at hW (Or.inl (by first | rfl | simp [Cond.onTables, Cond.keeps, Cond.steady])) hini)
  obtain ⟨hx, hb, hml, ho, -⟩ := S
  obtain ⟨-, ⟨cellB, hcB, hoB, hclB⟩, hPc⟩ := hp
  intro T hT X
  obtain ⟨v, vm₁, ⟨U', l2, c2, s2⟩, hW₁, X', ⟨g', mk, t, L, e1, e2, hq, h1, hL, h2, h3⟩, st⟩ := vx_callVW X hx (C := C) (hh := hh) (bytes := bytes) (maxL := maxL) (ret := ret) ho hl hin hse hcode hy hK (by rw [hT]; exact hcB) hoB hclB hg (hsize.trans hml.symm) (argsL := As) (rest := rest) (fun sig h => hn.trans (hlen sig h)) hstack hW (by rw [hb]; exact hdg)
    (fun vm₁ hW₁ => ⟨hf.1, hf.2, hPc (T.setVm vm₁) hT hW₁⟩)
  dsimp only [Pt.U, Pt.locs, Pt.cells, Pt.slots] at X' e1 e2 h1 h2 h3 st
  subst h1; subst h2; subst h3
  exact ⟨v, (T.setVm vm₁).calling g' mk (Value.ref b :: As).toArray, t, U', L, hT, X', hL, e1, e2, hq, st⟩
section
variable {y : MethodName} {bytes cc : ByteArray} {maxL nL mc ms n index : Nat} {ret : Option FieldType} {ws : List Cond} {rm : Room} {Pc : Array Value → State → Prop} {Qc : Array Value → State → Outcome → State → Prop} {XC : String → State → State → Prop} {free : Addr → Prop} {Ts : List Cond} {own C : String} {b : Addr} {As rest : List Value} {g : JFrame}
theorem vx_runVX {hh : List (Nat × Nat × Nat × Nat)} (S : CallFix p m c cc nL s args Ts own) (hM : vx_Met l y ws rm Pc Qc XC mc ms free) (cw : vx_CVW R s args own C index y bytes maxL ret hh ws rm mc ms n) (hp : PreV s H C b Pc As)
    (hg : g.method = m) (hn : As.length = n) (hsize : g.locals.size = nL) (hstack : g.stack = As.reverse ++ .ref b :: rest) (hW : 2 * g.monitorRoom + (rest.map fun v => v.category).sum ≤ 8) (hdg : decode cc g.pc = .ok (.invokevirtual index, 3)) (hf : cells + mc ≤ R.cells ∧ slots + ms ≤ R.slots) :
    vx_Run p l e R s m args below meth c H locs cells slots mc ms g rest (Qc (Value.ref b :: As).toArray) XC free := by
  obtain ⟨⟨hrc, hrs, hfr, hlo, hws, hcw⟩, hcode, hini, hy, hlen, hl, hin, hse⟩ := cw
  have hK : vx_Back l R p e below s args y 3 8 (PreOf R mc ms Pc) (PostOf Qc mc ms free) (vx_Post XC mc ms free) := vx_backW (hh := hh) (bytes := bytes) (maxL := maxL) (ret := ret) hM hp.1 hrc hrs hfr hlo hws hcw (fun a' U hW => word_at hW (Or.inl (by first | rfl | simp [Cond.onTables, Cond.keeps, Cond.steady])) hini)
  obtain ⟨hx, hb, hml, ho, -⟩ := S
  obtain ⟨-, ⟨cellB, hcB, hoB, hclB⟩, hPc⟩ := hp
  intro T hT X
  rcases vx_callVX X hx (C := C) (hh := hh) (bytes := bytes) (maxL := maxL) (ret := ret) ho hl hin hse hcode hy hK (by rw [hT]; exact hcB) hoB hclB hg (hsize.trans hml.symm) (argsL := As) (rest := rest) (fun sig h => hn.trans (hlen sig h)) hstack hW (by rw [hb]; exact hdg)
    (fun vm₁ hW₁ => ⟨hf.1, hf.2, hPc (T.setVm vm₁) hT hW₁⟩) with ⟨v, vm₁, ⟨U', l2, c2, s2⟩, hW₁, X', ⟨g', mk, t, L, e1, e2, hq, h1, hL, h2, h3⟩, st⟩ | ⟨q, vm₁, ⟨U', l2, c2, s2⟩, hW₁, X', ⟨g', mk, t, L, E, ce, e1, e2, hq, hce, hcv, hcl, h1, hL, h2, h3⟩, st⟩
  · dsimp only [Pt.U, Pt.locs, Pt.cells, Pt.slots] at X' e1 e2 h1 h2 h3 st
    subst h1; subst h2; subst h3
    exact Or.inl ⟨v, (T.setVm vm₁).calling g' mk (Value.ref b :: As).toArray, t, U', L, hT, X', hL, e1, e2, hq, st⟩
  · dsimp only [Pt.U, Pt.locs, Pt.cells, Pt.slots] at X' e1 e2 h1 h2 h3 st hcl
    subst h1; subst h2; subst h3
    exact Or.inr ⟨q, (T.setVm vm₁).calling g' mk (Value.ref b :: As).toArray, t, U', L, E, ce, hT, X', hL, e1, e2, hq, hce, hcv, vx_cls hW₁ hcl, st⟩
theorem vx_runSX {hh : List (Nat × Nat × Nat × Nat)} (S : CallFix p m c cc nL s args Ts own) (hM : vx_Met l y ws rm Pc Qc XC mc ms free) (cw : vx_CSW R s args own index y bytes maxL ret hh ws rm mc ms n) (hp : PreS s H Pc As)
    (hg : g.method = m) (hn : As.length = n) (hsize : g.locals.size = nL) (hstack : g.stack = As.reverse ++ rest) (hW : 2 * g.monitorRoom + (rest.map fun v => v.category).sum ≤ 8) (hdg : decode cc g.pc = .ok (.invokestatic index, 3)) (hf : cells + mc ≤ R.cells ∧ slots + ms ≤ R.slots) :
    vx_Run p l e R s m args below meth c H locs cells slots mc ms g rest (Qc As.toArray) XC free := by
  obtain ⟨⟨hrc, hrs, hfr, hlo, hws, hcw⟩, hcode, hini, hy, hlen, hl, hstt⟩ := cw
  have hK : vx_Back l R p e below s args y 3 8 (PreOf R mc ms Pc) (PostOf Qc mc ms free) (vx_Post XC mc ms free) := vx_backW (hh := hh) (bytes := bytes) (maxL := maxL) (ret := ret) hM hp.1 hrc hrs hfr hlo hws hcw (fun a' U hW => word_at hW (Or.inl (by first | rfl | simp [Cond.onTables, Cond.keeps, Cond.steady])) hini)
  obtain ⟨hx, hb, hml, ho, -⟩ := S
  intro T hT X
  rcases vx_callSX X hx (hh := hh) (bytes := bytes) (maxL := maxL) (ret := ret) ho hl hstt hini hcode hy hK hg (hsize.trans hml.symm) (argsL := As) (rest := rest) (fun sig h => hn.trans (hlen sig h)) hstack hW (by rw [hb]; exact hdg)
    (fun vm₁ hW₁ => ⟨hf.1, hf.2, hp.2 (T.setVm vm₁) hT hW₁⟩) with ⟨v, vm₁, ⟨U', l2, c2, s2⟩, hW₁, X', ⟨g', mk, t, L, e1, e2, hq, h1, hL, h2, h3⟩, st⟩ | ⟨q, vm₁, ⟨U', l2, c2, s2⟩, hW₁, X', ⟨g', mk, t, L, E, ce, e1, e2, hq, hce, hcv, hcl, h1, hL, h2, h3⟩, st⟩
  · dsimp only [Pt.U, Pt.locs, Pt.cells, Pt.slots] at X' e1 e2 h1 h2 h3 st
    subst h1; subst h2; subst h3
    exact Or.inl ⟨v, (T.setVm vm₁).calling g' mk As.toArray, t, U', L, hT, X', hL, e1, e2, hq, st⟩
  · dsimp only [Pt.U, Pt.locs, Pt.cells, Pt.slots] at X' e1 e2 h1 h2 h3 st hcl
    subst h1; subst h2; subst h3
    exact Or.inr ⟨q, (T.setVm vm₁).calling g' mk As.toArray, t, U', L, E, ce, hT, X', hL, e1, e2, hq, hce, hcv, vx_cls hW₁ hcl, st⟩
end
end VXH
theorem vx_ofWH {l : Launch} {y : MethodName} {ws ws' : List Cond} {rm : Room} {Pc : Array Value → State → Prop} {Qc : Array Value → State → Outcome → State → Prop} {XC : String → State → State → Prop} {mc ms : Nat} {free : Addr → Prop} {cc : ByteArray} {maxL : Nat} {ret : Option FieldType} {hh : List (Nat × Nat × Nat × Nat)}
    (hy : plainName y.cls = true) (hw : ws = Cond.codeWith y cc maxL ret hh :: ws')
    (body : ∀ p e s m args below meth c s₁, BodyLoose p l y (headSpec ws rm) cc maxL ret e s m args below meth c s₁ → c.maxLocals = maxL → Pc args s →
      W p l e (headSpec ws rm).room s m args below meth c s.heap [] 0 0 (vx_MQ below Qc XC args s mc ms free) (entryFrame m args maxL)) : vx_Met l y ws rm Pc Qc XC mc ms free := by
  refine MetFree.of_bodyS (code := cc) (maxLocals := maxL) (ret := ret) hy ?_ ?_
  · intro args s m h hn
    obtain ⟨m9, meth, c, hn9, h1, h2, h3, h4, -, h5, h6, -⟩ := Cond.codeWith_spec (atoms_spec (ws := ws) h _ (by rw [hw]; exact List.mem_cons_self))
    cases hn.symm.trans hn9
    exact ⟨meth, c, h1, h2, h3, h4, h5, h6⟩
  · intro p e s m args below meth c s₁ B hml hP _
    have hh0 : s₁.heap = s.heap := by rw [B.state]; rfl
    obtain ⟨t, a1, o, b1, b2, b3⟩ := body p e s m args below meth c s₁ B hml hP s₁ hh0 (Stand.of_body B)
    exact ⟨t, o, a1, b1, b2, b3⟩
/-! ===== END ===== -/

/-! ===== BEGIN printed: names, fields, word lists, decode rows ===== -/
end
section
def RX0 : String := "InkRing$Duel"
def TX0 : u_T := fun k => match k with
  | 0 => ("InkRing$Duel", "one", "I", true)
  | 1 => ("InkRing$Duel", "other", "I", true)
  | 2 => ("InkRing$Duel", "judge", "I", true)
  | 3 => ("InkRing$Duel", "paper", "I", true)
  | 4 => ("InkRing$Duel", "day", "I", true)
  | 5 => ("InkRing$Duel", "rounds", "I", true)
  | 6 => ("InkRing$Duel", "prompts", "[I", true)
  | 7 => ("InkRing$Duel", "writings", "[LInkRing$Writing;", true)
  | 8 => ("InkRing$Duel", "handedIn", "I", false)
  | _ => ("InkRing$Duel", "secondJudge", "I", false)
def tyX0 : Nat → FieldType := fun k => match k with
  | 0 => .int
  | 1 => .int
  | 2 => .int
  | 3 => .int
  | 4 => .int
  | 5 => .int
  | 6 => .array .int
  | 7 => .array (.object "InkRing$Writing")
  | 8 => .int
  | _ => .int
abbrev wsX00 : List Cond := u_ws RX0 TX0 10
theorem nmX0 : ∀ a, a < 10 → ∀ b, b < 10 → a ≠ b → (TX0 a).2.1 ≠ (TX0 b).2.1 := by decide +kernel
theorem tyX0_ok : ∀ k, k < 10 → parseFieldDescriptor (TX0 k).2.2.1 = some (tyX0 k) := by decide +kernel
abbrev cX0_init : ByteArray := prog_2_method_1_code
def yX0_init : MethodName := ⟨RX0, "<init>", "(IIIIII)V"⟩
abbrev cX0_drawPrompts : ByteArray := prog_2_method_2_code
def yX0_drawPrompts : MethodName := ⟨RX0, "drawPrompts", "(II)V"⟩
abbrev cX0_promptAt : ByteArray := prog_2_method_3_code
def yX0_promptAt : MethodName := ⟨RX0, "promptAt", "(I)I"⟩
abbrev cX0_isOver : ByteArray := prog_2_method_4_code
def yX0_isOver : MethodName := ⟨RX0, "isOver", "()Z"⟩
abbrev cX0_nextWriter : ByteArray := prog_2_method_5_code
def yX0_nextWriter : MethodName := ⟨RX0, "nextWriter", "()I"⟩
abbrev cX0_add : ByteArray := prog_2_method_6_code
def yX0_add : MethodName := ⟨RX0, "add", "(LInkRing$Writing;)V"⟩
abbrev cX0_writingAt : ByteArray := prog_2_method_7_code
def yX0_writingAt : MethodName := ⟨RX0, "writingAt", "(IZ)LInkRing$Writing;"⟩
def RX1 : String := "InkRing$Judge"
def TX1 : u_T := fun k => match k with
  | _ => ("InkRing$Judge", "learnedOn", "[I", true)
def tyX1 : Nat → FieldType := fun k => match k with
  | _ => .array .int
abbrev wsX10 : List Cond := u_ws RX1 TX1 1
theorem nmX1 : ∀ a, a < 1 → ∀ b, b < 1 → a ≠ b → (TX1 a).2.1 ≠ (TX1 b).2.1 := by decide +kernel
theorem tyX1_ok : ∀ k, k < 1 → parseFieldDescriptor (TX1 k).2.2.1 = some (tyX1 k) := by decide +kernel
abbrev cX1_init : ByteArray := prog_3_method_1_code
def yX1_init : MethodName := ⟨RX1, "<init>", "()V"⟩
abbrev cX1_knowsOn : ByteArray := prog_3_method_2_code
def yX1_knowsOn : MethodName := ⟨RX1, "knowsOn", "(II)Z"⟩
abbrev cX1_takeUp : ByteArray := prog_3_method_3_code
def yX1_takeUp : MethodName := ⟨RX1, "takeUp", "(II)V"⟩
abbrev cX1_countKnown : ByteArray := prog_3_method_4_code
def yX1_countKnown : MethodName := ⟨RX1, "countKnown", "()I"⟩
def RX2 : String := "InkRing$Paper"
def TX2 : u_T := fun k => match k with
  | 0 => ("InkRing$Paper", "sheets", "I", false)
  | 1 => ("InkRing$Paper", "damp", "I", false)
  | _ => ("InkRing$Paper", "dailyRise", "I", false)
def tyX2 : Nat → FieldType := fun k => match k with
  | 0 => .int
  | 1 => .int
  | _ => .int
abbrev wsX20 : List Cond := u_ws RX2 TX2 3
theorem nmX2 : ∀ a, a < 3 → ∀ b, b < 3 → a ≠ b → (TX2 a).2.1 ≠ (TX2 b).2.1 := by decide +kernel
theorem tyX2_ok : ∀ k, k < 3 → parseFieldDescriptor (TX2 k).2.2.1 = some (tyX2 k) := by decide +kernel
abbrev cX2_init : ByteArray := prog_4_method_1_code
def yX2_init : MethodName := ⟨RX2, "<init>", "()V"⟩
abbrev cX2_age : ByteArray := prog_4_method_2_code
def yX2_age : MethodName := ⟨RX2, "age", "(I)V"⟩
def RX3 : String := "InkRing$Parts"
def TX3 : u_T := fun k => match k with
  | 0 => ("InkRing$Parts", "nearness", "F", true)
  | 1 => ("InkRing$Parts", "slope", "F", true)
  | _ => ("InkRing$Parts", "order", "F", true)
def tyX3 : Nat → FieldType := fun k => match k with
  | 0 => .float
  | 1 => .float
  | _ => .float
abbrev wsX30 : List Cond := u_ws RX3 TX3 3
theorem nmX3 : ∀ a, a < 3 → ∀ b, b < 3 → a ≠ b → (TX3 a).2.1 ≠ (TX3 b).2.1 := by decide +kernel
theorem tyX3_ok : ∀ k, k < 3 → parseFieldDescriptor (TX3 k).2.2.1 = some (tyX3 k) := by decide +kernel
abbrev cX3_init : ByteArray := prog_5_method_1_code
def yX3_init : MethodName := ⟨RX3, "<init>", "(FFF)V"⟩
abbrev cX3_between : ByteArray := prog_5_method_2_code
def yX3_between : MethodName := ⟨RX3, "between", "(LInkRing$Strokes;LInkRing$Strokes;II)LInkRing$Parts;"⟩
abbrev cX3_markBy : ByteArray := prog_5_method_3_code
def yX3_markBy : MethodName := ⟨RX3, "markBy", "(LInkRing$Style;)F"⟩
def RX4 : String := "InkRing$Stroke"
def TX4 : u_T := fun k => match k with
  | 0 => ("InkRing$Stroke", "x", "I", true)
  | 1 => ("InkRing$Stroke", "y", "I", true)
  | 2 => ("InkRing$Stroke", "endX", "I", true)
  | _ => ("InkRing$Stroke", "endY", "I", true)
def tyX4 : Nat → FieldType := fun k => match k with
  | 0 => .int
  | 1 => .int
  | 2 => .int
  | _ => .int
abbrev wsX40 : List Cond := u_ws RX4 TX4 4
theorem nmX4 : ∀ a, a < 4 → ∀ b, b < 4 → a ≠ b → (TX4 a).2.1 ≠ (TX4 b).2.1 := by decide +kernel
theorem tyX4_ok : ∀ k, k < 4 → parseFieldDescriptor (TX4 k).2.2.1 = some (tyX4 k) := by decide +kernel
abbrev cX4_init : ByteArray := prog_6_method_1_code
def yX4_init : MethodName := ⟨RX4, "<init>", "(IIII)V"⟩
abbrev cX4_nearnessTo : ByteArray := prog_6_method_2_code
def yX4_nearnessTo : MethodName := ⟨RX4, "nearnessTo", "(LInkRing$Stroke;I)F"⟩
abbrev cX4_slopeTo : ByteArray := prog_6_method_3_code
def yX4_slopeTo : MethodName := ⟨RX4, "slopeTo", "(LInkRing$Stroke;)F"⟩
abbrev cX4_squaredWay : ByteArray := prog_6_method_4_code
def yX4_squaredWay : MethodName := ⟨RX4, "squaredWay", "()I"⟩
def RX5 : String := "InkRing$Strokes"
def TX5 : u_T := fun k => match k with
  | 0 => ("InkRing$Strokes", "row", "[LInkRing$Stroke;", true)
  | _ => ("InkRing$Strokes", "count", "I", false)
def tyX5 : Nat → FieldType := fun k => match k with
  | 0 => .array (.object "InkRing$Stroke")
  | _ => .int
abbrev wsX50 : List Cond := u_ws RX5 TX5 2
theorem nmX5 : ∀ a, a < 2 → ∀ b, b < 2 → a ≠ b → (TX5 a).2.1 ≠ (TX5 b).2.1 := by decide +kernel
theorem tyX5_ok : ∀ k, k < 2 → parseFieldDescriptor (TX5 k).2.2.1 = some (tyX5 k) := by decide +kernel
abbrev cX5_init : ByteArray := prog_7_method_1_code
def yX5_init : MethodName := ⟨RX5, "<init>", "()V"⟩
abbrev cX5_add : ByteArray := prog_7_method_2_code
def yX5_add : MethodName := ⟨RX5, "add", "(LInkRing$Stroke;)V"⟩
abbrev cX5_empty : ByteArray := prog_7_method_3_code
def yX5_empty : MethodName := ⟨RX5, "empty", "()V"⟩
abbrev cX5_at : ByteArray := prog_7_method_4_code
def yX5_at : MethodName := ⟨RX5, "at", "(I)LInkRing$Stroke;"⟩
def RX6 : String := "InkRing$Style"
def TX6 : u_T := fun k => match k with
  | 0 => ("InkRing$Style", "nearness", "I", false)
  | 1 => ("InkRing$Style", "slope", "I", false)
  | _ => ("InkRing$Style", "order", "I", false)
def tyX6 : Nat → FieldType := fun k => match k with
  | 0 => .int
  | 1 => .int
  | _ => .int
abbrev wsX60 : List Cond := u_ws RX6 TX6 3
theorem nmX6 : ∀ a, a < 3 → ∀ b, b < 3 → a ≠ b → (TX6 a).2.1 ≠ (TX6 b).2.1 := by decide +kernel
theorem tyX6_ok : ∀ k, k < 3 → parseFieldDescriptor (TX6 k).2.2.1 = some (tyX6 k) := by decide +kernel
abbrev cX6_init : ByteArray := prog_8_method_1_code
def yX6_init : MethodName := ⟨RX6, "<init>", "()V"⟩
def RX7 : String := "InkRing$Writing"
def TX7 : u_T := fun k => match k with
  | 0 => ("InkRing$Writing", "parts", "[LInkRing$Parts;", true)
  | 1 => ("InkRing$Writing", "modelStrokes", "I", true)
  | 2 => ("InkRing$Writing", "forged", "Z", true)
  | _ => ("InkRing$Writing", "found", "Z", false)
def tyX7 : Nat → FieldType := fun k => match k with
  | 0 => .array (.object "InkRing$Parts")
  | 1 => .int
  | 2 => .boolean
  | _ => .boolean
abbrev wsX70 : List Cond := u_ws RX7 TX7 4
theorem nmX7 : ∀ a, a < 4 → ∀ b, b < 4 → a ≠ b → (TX7 a).2.1 ≠ (TX7 b).2.1 := by decide +kernel
theorem tyX7_ok : ∀ k, k < 4 → parseFieldDescriptor (TX7 k).2.2.1 = some (tyX7 k) := by decide +kernel
abbrev cX7_init : ByteArray := prog_9_method_1_code
def yX7_init : MethodName := ⟨RX7, "<init>", "(LInkRing$Strokes;LInkRing$Strokes;IZ)V"⟩
abbrev cX7_markBy : ByteArray := prog_9_method_2_code
def yX7_markBy : MethodName := ⟨RX7, "markBy", "(LInkRing$Style;)F"⟩
def RX8 : String := "InkRing"
def TX8 : u_T := fun k => match k with
  | 0 => ("InkRing", "signs", "[LInkRing$Strokes;", true)
  | 1 => ("InkRing", "papers", "[LInkRing$Paper;", true)
  | 2 => ("InkRing", "styles", "[LInkRing$Style;", true)
  | 3 => ("InkRing", "judges", "[LInkRing$Judge;", true)
  | 4 => ("InkRing", "duels", "[LInkRing$Duel;", true)
  | 5 => ("InkRing", "draft", "LInkRing$Strokes;", false)
  | 6 => ("InkRing", "signCount", "I", false)
  | 7 => ("InkRing", "duelCount", "I", false)
  | 8 => ("InkRing", "sheetsTaken", "I", false)
  | _ => ("InkRing", "day", "I", false)
def tyX8 : Nat → FieldType := fun k => match k with
  | 0 => .array (.object "InkRing$Strokes")
  | 1 => .array (.object "InkRing$Paper")
  | 2 => .array (.object "InkRing$Style")
  | 3 => .array (.object "InkRing$Judge")
  | 4 => .array (.object "InkRing$Duel")
  | 5 => .object "InkRing$Strokes"
  | 6 => .int
  | 7 => .int
  | 8 => .int
  | _ => .int
abbrev wsX80 : List Cond := u_ws RX8 TX8 10
theorem nmX8 : ∀ a, a < 10 → ∀ b, b < 10 → a ≠ b → (TX8 a).2.1 ≠ (TX8 b).2.1 := by decide +kernel
theorem tyX8_ok : ∀ k, k < 10 → parseFieldDescriptor (TX8 k).2.2.1 = some (tyX8 k) := by decide +kernel
abbrev cX8_init : ByteArray := prog_1_method_1_code
def yX8_init : MethodName := ⟨RX8, "<init>", "()V"⟩
abbrev cX8_stroke : ByteArray := prog_1_method_2_code
def yX8_stroke : MethodName := ⟨RX8, "stroke", "(IIII)I"⟩
abbrev cX8_clear : ByteArray := prog_1_method_3_code
def yX8_clear : MethodName := ⟨RX8, "clear", "()I"⟩
abbrev cX8_sign : ByteArray := prog_1_method_4_code
def yX8_sign : MethodName := ⟨RX8, "sign", "()I"⟩
abbrev cX8_buy : ByteArray := prog_1_method_5_code
def yX8_buy : MethodName := ⟨RX8, "buy", "(II)I"⟩
abbrev cX8_rise : ByteArray := prog_1_method_6_code
def yX8_rise : MethodName := ⟨RX8, "rise", "(II)I"⟩
abbrev cX8_style : ByteArray := prog_1_method_7_code
def yX8_style : MethodName := ⟨RX8, "style", "(IIII)V"⟩
abbrev cX8_learn : ByteArray := prog_1_method_8_code
def yX8_learn : MethodName := ⟨RX8, "learn", "(II)I"⟩
abbrev cX8_pass : ByteArray := prog_1_method_9_code
def yX8_pass : MethodName := ⟨RX8, "pass", "(I)I"⟩
abbrev cX8_duel : ByteArray := prog_1_method_10_code
def yX8_duel : MethodName := ⟨RX8, "duel", "(IIIIII)I"⟩
abbrev cX8_hand : ByteArray := prog_1_method_11_code
def yX8_hand : MethodName := ⟨RX8, "hand", "(II)I"⟩
abbrev cX8_look : ByteArray := prog_1_method_12_code
def yX8_look : MethodName := ⟨RX8, "look", "(IIZ)Z"⟩
abbrev cX8_appeal : ByteArray := prog_1_method_13_code
def yX8_appeal : MethodName := ⟨RX8, "appeal", "(II)I"⟩
abbrev cX8_prompt : ByteArray := prog_1_method_14_code
def yX8_prompt : MethodName := ⟨RX8, "prompt", "(II)I"⟩
abbrev cX8_mark : ByteArray := prog_1_method_15_code
def yX8_mark : MethodName := ⟨RX8, "mark", "(II)F"⟩
abbrev cX8_part : ByteArray := prog_1_method_16_code
def yX8_part : MethodName := ⟨RX8, "part", "(III)F"⟩
abbrev cX8_marked : ByteArray := prog_1_method_17_code
def yX8_marked : MethodName := ⟨RX8, "marked", "(IIZ)F"⟩
abbrev cX8_of : ByteArray := prog_1_method_18_code
def yX8_of : MethodName := ⟨RX8, "of", "(II)I"⟩
abbrev cX8_paper : ByteArray := prog_1_method_19_code
def yX8_paper : MethodName := ⟨RX8, "paper", "(II)I"⟩
abbrev cX8_won : ByteArray := prog_1_method_20_code
def yX8_won : MethodName := ⟨RX8, "won", "(I)I"⟩
abbrev cX8_isWithin : ByteArray := prog_1_method_21_code
def yX8_isWithin : MethodName := ⟨RX8, "isWithin", "(III)Z"⟩
abbrev cX8_isPlace : ByteArray := prog_1_method_22_code
def yX8_isPlace : MethodName := ⟨RX8, "isPlace", "(II)Z"⟩
abbrev cX8_isWriter : ByteArray := prog_1_method_23_code
def yX8_isWriter : MethodName := ⟨RX8, "isWriter", "(I)Z"⟩
abbrev cX8_signAt : ByteArray := prog_1_method_24_code
def yX8_signAt : MethodName := ⟨RX8, "signAt", "(I)LInkRing$Strokes;"⟩
abbrev cX8_paperAt : ByteArray := prog_1_method_25_code
def yX8_paperAt : MethodName := ⟨RX8, "paperAt", "(I)LInkRing$Paper;"⟩
abbrev cX8_styleAt : ByteArray := prog_1_method_26_code
def yX8_styleAt : MethodName := ⟨RX8, "styleAt", "(I)LInkRing$Style;"⟩
abbrev cX8_judgeAt : ByteArray := prog_1_method_27_code
def yX8_judgeAt : MethodName := ⟨RX8, "judgeAt", "(I)LInkRing$Judge;"⟩
abbrev cX8_duelAt : ByteArray := prog_1_method_28_code
def yX8_duelAt : MethodName := ⟨RX8, "duelAt", "(I)LInkRing$Duel;"⟩
abbrev cX8_rightSeal : ByteArray := prog_1_method_29_code
def yX8_rightSeal : MethodName := ⟨RX8, "rightSeal", "(II)I"⟩
abbrev cX8_judgedMark : ByteArray := prog_1_method_30_code
def yX8_judgedMark : MethodName := ⟨RX8, "judgedMark", "(LInkRing$Duel;LInkRing$Writing;)F"⟩
abbrev cX8_markByJudge : ByteArray := prog_1_method_31_code
def yX8_markByJudge : MethodName := ⟨RX8, "markByJudge", "(LInkRing$Judge;ILInkRing$Writing;)F"⟩
abbrev cX8_roundGoesTo : ByteArray := prog_1_method_32_code
def yX8_roundGoesTo : MethodName := ⟨RX8, "roundGoesTo", "(LInkRing$Duel;I)I"⟩
abbrev cX8_countRounds : ByteArray := prog_1_method_33_code
def yX8_countRounds : MethodName := ⟨RX8, "countRounds", "(LInkRing$Duel;I)I"⟩
abbrev cX8_winnerOf : ByteArray := prog_1_method_34_code
def yX8_winnerOf : MethodName := ⟨RX8, "winnerOf", "(LInkRing$Duel;)I"⟩
def RX9 : String := "InkRingModel"
def TX9 : u_T := fun k => match k with
  | 0 => ("InkRingModel", "day", "I", false)
  | 1 => ("InkRingModel", "drafted", "I", false)
  | 2 => ("InkRingModel", "draft", "[I", true)
  | 3 => ("InkRingModel", "signs", "I", false)
  | 4 => ("InkRingModel", "longOf", "[I", true)
  | 5 => ("InkRingModel", "models", "[I", true)
  | 6 => ("InkRingModel", "sheets", "[I", true)
  | 7 => ("InkRingModel", "damp", "[I", true)
  | 8 => ("InkRingModel", "rises", "[I", true)
  | 9 => ("InkRingModel", "taken", "I", false)
  | 10 => ("InkRingModel", "weights", "[I", true)
  | 11 => ("InkRingModel", "learned", "[I", true)
  | 12 => ("InkRingModel", "duels", "I", false)
  | 13 => ("InkRingModel", "one", "[I", true)
  | 14 => ("InkRingModel", "other", "[I", true)
  | 15 => ("InkRingModel", "judge", "[I", true)
  | 16 => ("InkRingModel", "second", "[I", true)
  | 17 => ("InkRingModel", "paper", "[I", true)
  | 18 => ("InkRingModel", "rounds", "[I", true)
  | 19 => ("InkRingModel", "draw", "[I", true)
  | 20 => ("InkRingModel", "signsThen", "[I", true)
  | 21 => ("InkRingModel", "began", "[I", true)
  | 22 => ("InkRingModel", "handed", "[I", true)
  | 23 => ("InkRingModel", "strokes", "[I", true)
  | 24 => ("InkRingModel", "dampThen", "[I", true)
  | 25 => ("InkRingModel", "isForged", "[Z", true)
  | 26 => ("InkRingModel", "isFound", "[Z", true)
  | 27 => ("InkRingModel", "writings", "[I", true)
  | _ => ("InkRingModel", "thrown", "I", false)
def tyX9 : Nat → FieldType := fun k => match k with
  | 0 => .int
  | 1 => .int
  | 2 => .array .int
  | 3 => .int
  | 4 => .array .int
  | 5 => .array .int
  | 6 => .array .int
  | 7 => .array .int
  | 8 => .array .int
  | 9 => .int
  | 10 => .array .int
  | 11 => .array .int
  | 12 => .int
  | 13 => .array .int
  | 14 => .array .int
  | 15 => .array .int
  | 16 => .array .int
  | 17 => .array .int
  | 18 => .array .int
  | 19 => .array .int
  | 20 => .array .int
  | 21 => .array .int
  | 22 => .array .int
  | 23 => .array .int
  | 24 => .array .int
  | 25 => .array .boolean
  | 26 => .array .boolean
  | 27 => .array .int
  | _ => .int
abbrev wsX90 : List Cond := u_ws RX9 TX9 29
theorem nmX9 : ∀ a, a < 29 → ∀ b, b < 29 → a ≠ b → (TX9 a).2.1 ≠ (TX9 b).2.1 := by decide +kernel
theorem tyX9_ok : ∀ k, k < 29 → parseFieldDescriptor (TX9 k).2.2.1 = some (tyX9 k) := by decide +kernel
abbrev cX9_init : ByteArray := prog_11_method_1_code
def yX9_init : MethodName := ⟨RX9, "<init>", "()V"⟩
abbrev cX9_thrown : ByteArray := prog_11_method_2_code
def yX9_thrown : MethodName := ⟨RX9, "thrown", "()I"⟩
abbrev cX9_in : ByteArray := prog_11_method_3_code
def yX9_in : MethodName := ⟨RX9, "in", "(III)Z"⟩
abbrev cX9_goes : ByteArray := prog_11_method_4_code
def yX9_goes : MethodName := ⟨RX9, "goes", "(ZZZ)Z"⟩
abbrev cX9_isDuel : ByteArray := prog_11_method_5_code
def yX9_isDuel : MethodName := ⟨RX9, "isDuel", "(I)Z"⟩
abbrev cX9_isSign : ByteArray := prog_11_method_6_code
def yX9_isSign : MethodName := ⟨RX9, "isSign", "(I)Z"⟩
abbrev cX9_stroke : ByteArray := prog_11_method_7_code
def yX9_stroke : MethodName := ⟨RX9, "stroke", "(IIII)I"⟩
abbrev cX9_clear : ByteArray := prog_11_method_8_code
def yX9_clear : MethodName := ⟨RX9, "clear", "()I"⟩
abbrev cX9_sign : ByteArray := prog_11_method_9_code
def yX9_sign : MethodName := ⟨RX9, "sign", "()I"⟩
abbrev cX9_isPaper : ByteArray := prog_11_method_10_code
def yX9_isPaper : MethodName := ⟨RX9, "isPaper", "(I)Z"⟩
abbrev cX9_buy : ByteArray := prog_11_method_11_code
def yX9_buy : MethodName := ⟨RX9, "buy", "(II)I"⟩
abbrev cX9_rise : ByteArray := prog_11_method_12_code
def yX9_rise : MethodName := ⟨RX9, "rise", "(II)I"⟩
abbrev cX9_style : ByteArray := prog_11_method_13_code
def yX9_style : MethodName := ⟨RX9, "style", "(IIII)V"⟩
abbrev cX9_learn : ByteArray := prog_11_method_14_code
def yX9_learn : MethodName := ⟨RX9, "learn", "(II)I"⟩
abbrev cX9_pass : ByteArray := prog_11_method_15_code
def yX9_pass : MethodName := ⟨RX9, "pass", "(I)I"⟩
abbrev cX9_duel : ByteArray := prog_11_method_16_code
def yX9_duel : MethodName := ⟨RX9, "duel", "(IIIIII)I"⟩
abbrev cX9_isOver : ByteArray := prog_11_method_17_code
def yX9_isOver : MethodName := ⟨RX9, "isOver", "(I)Z"⟩
abbrev cX9_hand : ByteArray := prog_11_method_18_code
def yX9_hand : MethodName := ⟨RX9, "hand", "(II)I"⟩
abbrev cX9_isHanded : ByteArray := prog_11_method_19_code
def yX9_isHanded : MethodName := ⟨RX9, "isHanded", "(IIZ)Z"⟩
abbrev cX9_writing : ByteArray := prog_11_method_20_code
def yX9_writing : MethodName := ⟨RX9, "writing", "(IIZ)I"⟩
abbrev cX9_look : ByteArray := prog_11_method_21_code
def yX9_look : MethodName := ⟨RX9, "look", "(IIZ)Z"⟩
abbrev cX9_promptOf : ByteArray := prog_11_method_22_code
def yX9_promptOf : MethodName := ⟨RX9, "promptOf", "(II)I"⟩
abbrev cX9_amount : ByteArray := prog_11_method_23_code
def yX9_amount : MethodName := ⟨RX9, "amount", "(I)I"⟩
abbrev cX9_above : ByteArray := prog_11_method_24_code
def yX9_above : MethodName := ⟨RX9, "above", "(F)F"⟩
abbrev cX9_nearness : ByteArray := prog_11_method_25_code
def yX9_nearness : MethodName := ⟨RX9, "nearness", "([II[III)F"⟩
abbrev cX9_slope : ByteArray := prog_11_method_26_code
def yX9_slope : MethodName := ⟨RX9, "slope", "([II[II)F"⟩
abbrev cX9_order : ByteArray := prog_11_method_27_code
def yX9_order : MethodName := ⟨RX9, "order", "(II)F"⟩
abbrev cX9_markOf : ByteArray := prog_11_method_28_code
def yX9_markOf : MethodName := ⟨RX9, "markOf", "([IIIIII)F"⟩
abbrev cX9_byJudge : ByteArray := prog_11_method_29_code
def yX9_byJudge : MethodName := ⟨RX9, "byJudge", "(III)F"⟩
abbrev cX9_byAll : ByteArray := prog_11_method_30_code
def yX9_byAll : MethodName := ⟨RX9, "byAll", "(II)F"⟩
abbrev cX9_roundTo : ByteArray := prog_11_method_31_code
def yX9_roundTo : MethodName := ⟨RX9, "roundTo", "(II)I"⟩
abbrev cX9_roundsTo : ByteArray := prog_11_method_32_code
def yX9_roundsTo : MethodName := ⟨RX9, "roundsTo", "(II)I"⟩
abbrev cX9_winner : ByteArray := prog_11_method_33_code
def yX9_winner : MethodName := ⟨RX9, "winner", "(I)I"⟩
abbrev cX9_appeal : ByteArray := prog_11_method_34_code
def yX9_appeal : MethodName := ⟨RX9, "appeal", "(II)I"⟩
abbrev cX9_prompt : ByteArray := prog_11_method_35_code
def yX9_prompt : MethodName := ⟨RX9, "prompt", "(II)I"⟩
abbrev cX9_mark : ByteArray := prog_11_method_36_code
def yX9_mark : MethodName := ⟨RX9, "mark", "(II)F"⟩
abbrev cX9_part : ByteArray := prog_11_method_37_code
def yX9_part : MethodName := ⟨RX9, "part", "(III)F"⟩
abbrev cX9_marked : ByteArray := prog_11_method_38_code
def yX9_marked : MethodName := ⟨RX9, "marked", "(IIZ)F"⟩
abbrev cX9_of : ByteArray := prog_11_method_39_code
def yX9_of : MethodName := ⟨RX9, "of", "(II)I"⟩
abbrev cX9_paper : ByteArray := prog_11_method_40_code
def yX9_paper : MethodName := ⟨RX9, "paper", "(II)I"⟩
abbrev cX9_won : ByteArray := prog_11_method_41_code
def yX9_won : MethodName := ⟨RX9, "won", "(I)I"⟩
def RJ9 : String := "java/lang/Math"
def TJ9 : u_T := fun k => match k with
  | _ => ("", "", "", false)
def tyJ9 : Nat → FieldType := fun k => match k with
  | _ => .int
abbrev wsJ90 : List Cond := u_ws RJ9 TJ9 0
theorem nmJ9 : ∀ a, a < 0 → ∀ b, b < 0 → a ≠ b → (TJ9 a).2.1 ≠ (TJ9 b).2.1 := by decide +kernel
theorem tyJ9_ok : ∀ k, k < 0 → parseFieldDescriptor (TJ9 k).2.2.1 = some (tyJ9 k) := by decide +kernel
abbrev cJ9_abs_0f7a4 : ByteArray := prog_16_method_59_code
def yJ9_abs_0f7a4 : MethodName := ⟨RJ9, "abs", "(I)I"⟩
abbrev cJ9_max_7cf53 : ByteArray := prog_16_method_65_code
def yJ9_max_7cf53 : MethodName := ⟨RJ9, "max", "(II)I"⟩
abbrev cJ9_min_7cf53 : ByteArray := prog_16_method_69_code
def yJ9_min_7cf53 : MethodName := ⟨RJ9, "min", "(II)I"⟩
def RJ0 : String := "java/lang/String"
def TJ0 : u_T := fun k => match k with
  | _ => ("", "", "", false)
def tyJ0 : Nat → FieldType := fun k => match k with
  | _ => .int
abbrev wsJ00 : List Cond := u_ws RJ0 TJ0 0
theorem nmJ0 : ∀ a, a < 0 → ∀ b, b < 0 → a ≠ b → (TJ0 a).2.1 ≠ (TJ0 b).2.1 := by decide +kernel
theorem tyJ0_ok : ∀ k, k < 0 → parseFieldDescriptor (TJ0 k).2.2.1 = some (tyJ0 k) := by decide +kernel
def RL : String := "InkRingLaw"
abbrev cL_stroke : ByteArray := method_3_code
def yL_stroke : MethodName := ⟨RL, "stroke", "(LInkRing;IIII[J)I"⟩
abbrev cL_sign : ByteArray := method_4_code
def yL_sign : MethodName := ⟨RL, "sign", "(LInkRing;[J)I"⟩
abbrev cL_buy : ByteArray := method_5_code
def yL_buy : MethodName := ⟨RL, "buy", "(LInkRing;II[J)I"⟩
abbrev cL_rise : ByteArray := method_6_code
def yL_rise : MethodName := ⟨RL, "rise", "(LInkRing;II[J)I"⟩
abbrev cL_style : ByteArray := method_7_code
def yL_style : MethodName := ⟨RL, "style", "(LInkRing;IIII)I"⟩
abbrev cL_learn : ByteArray := method_8_code
def yL_learn : MethodName := ⟨RL, "learn", "(LInkRing;II[J)I"⟩
abbrev cL_pass : ByteArray := method_9_code
def yL_pass : MethodName := ⟨RL, "pass", "(LInkRing;I[J)I"⟩
abbrev cL_duel : ByteArray := method_10_code
def yL_duel : MethodName := ⟨RL, "duel", "(LInkRing;IIIIII[J)I"⟩
abbrev cL_hand : ByteArray := method_11_code
def yL_hand : MethodName := ⟨RL, "hand", "(LInkRing;II[J)I"⟩
abbrev cL_look : ByteArray := method_12_code
def yL_look : MethodName := ⟨RL, "look", "(LInkRing;IIZ[J)I"⟩
abbrev cL_appeal : ByteArray := method_13_code
def yL_appeal : MethodName := ⟨RL, "appeal", "(LInkRing;II[J)I"⟩
abbrev cL_prompt : ByteArray := method_14_code
def yL_prompt : MethodName := ⟨RL, "prompt", "(LInkRing;II[J)I"⟩
abbrev cL_mark : ByteArray := method_15_code
def yL_mark : MethodName := ⟨RL, "mark", "(LInkRing;II[D)I"⟩
abbrev cL_part : ByteArray := method_16_code
def yL_part : MethodName := ⟨RL, "part", "(LInkRing;III[D)I"⟩
abbrev cL_marked : ByteArray := method_17_code
def yL_marked : MethodName := ⟨RL, "marked", "(LInkRing;IIZ[D)I"⟩
abbrev cL_of : ByteArray := method_18_code
def yL_of : MethodName := ⟨RL, "of", "(LInkRing;II[J)I"⟩
abbrev cL_paper : ByteArray := method_19_code
def yL_paper : MethodName := ⟨RL, "paper", "(LInkRing;II[J)I"⟩
abbrev cL_won : ByteArray := method_20_code
def yL_won : MethodName := ⟨RL, "won", "(LInkRing;I[J)I"⟩
abbrev cL_law : ByteArray := code
def yL_law : MethodName := ⟨RL, "law", "([I)Z"⟩
def wsX0_init : List Cond := .code yX0_init cX0_init 7 none :: ([.methodLink RX0 3 objectInit, .instanceMethod objectInit, .code objectInit ⟨#[0xb1]⟩ 1 none, .arrayClass .int, .fieldLink RX0 9 "InkRing$Duel" "prompts" "[I", .classLink RX0 15 RX7, .fieldLink RX0 17 "InkRing$Duel" "writings" "[LInkRing$Writing;", .fieldLink RX0 21 "InkRing$Duel" "secondJudge" "I", .fieldLink RX0 25 "InkRing$Duel" "one" "I", .fieldLink RX0 28 "InkRing$Duel" "other" "I", .fieldLink RX0 31 "InkRing$Duel" "judge" "I", .fieldLink RX0 34 "InkRing$Duel" "paper" "I", .fieldLink RX0 37 "InkRing$Duel" "rounds" "I", .fieldLink RX0 40 "InkRing$Duel" "day" "I"] ++ wsX00)
def wsX0_drawPrompts : List Cond := .code yX0_drawPrompts cX0_drawPrompts 4 none :: ([.fieldLink RX0 9 "InkRing$Duel" "prompts" "[I", .fieldLink RX0 37 "InkRing$Duel" "rounds" "I"] ++ wsX00)
def wsX0_promptAt : List Cond := .code yX0_promptAt cX0_promptAt 2 (some .int) :: ([.fieldLink RX0 9 "InkRing$Duel" "prompts" "[I"] ++ wsX00)
def wsX0_isOver : List Cond := .code yX0_isOver cX0_isOver 1 (some .boolean) :: ([.fieldLink RX0 43 "InkRing$Duel" "handedIn" "I", .fieldLink RX0 37 "InkRing$Duel" "rounds" "I"] ++ wsX00)
def wsX0_nextWriter : List Cond := .code yX0_nextWriter cX0_nextWriter 1 (some .int) :: ([.fieldLink RX0 43 "InkRing$Duel" "handedIn" "I", .fieldLink RX0 25 "InkRing$Duel" "one" "I", .fieldLink RX0 28 "InkRing$Duel" "other" "I"] ++ wsX00)
def wsX0_add : List Cond := .code yX0_add cX0_add 2 none :: ([.fieldLink RX0 43 "InkRing$Duel" "handedIn" "I", .fieldLink RX0 17 "InkRing$Duel" "writings" "[LInkRing$Writing;"] ++ wsX00)
def wsX0_writingAt : List Cond := .code yX0_writingAt cX0_writingAt 4 (some (.object "InkRing$Writing")) :: ([.fieldLink RX0 17 "InkRing$Duel" "writings" "[LInkRing$Writing;"] ++ wsX00)
def wsX1_init : List Cond := .code yX1_init cX1_init 2 none :: ([.methodLink RX1 3 objectInit, .instanceMethod objectInit, .code objectInit ⟨#[0xb1]⟩ 1 none, .arrayClass .int, .fieldLink RX1 9 "InkRing$Judge" "learnedOn" "[I"] ++ wsX10)
def wsX1_knowsOn : List Cond := .code yX1_knowsOn cX1_knowsOn 3 (some .boolean) :: ([.fieldLink RX1 9 "InkRing$Judge" "learnedOn" "[I"] ++ wsX10)
def wsX1_takeUp : List Cond := .code yX1_takeUp cX1_takeUp 3 none :: ([.fieldLink RX1 9 "InkRing$Judge" "learnedOn" "[I"] ++ wsX10)
def wsX1_countKnown : List Cond := .code yX1_countKnown cX1_countKnown 3 (some .int) :: ([.fieldLink RX1 9 "InkRing$Judge" "learnedOn" "[I"] ++ wsX10)
def wsX2_init : List Cond := .code yX2_init cX2_init 1 none :: ([.methodLink RX2 3 objectInit, .instanceMethod objectInit, .code objectInit ⟨#[0xb1]⟩ 1 none])
def wsX2_age : List Cond := .code yX2_age cX2_age 2 none :: ([.fieldLink RX2 9 "InkRing$Paper" "damp" "I", .fieldLink RX2 15 "InkRing$Paper" "dailyRise" "I", .methodLink RX2 18 Lib.Math.min.name, .static Lib.Math.min.name, .initialized "java/lang/Math", .code Lib.Math.min.name Lib.Math.min.code 2 (some .int), .methodLink RX2 24 Lib.Math.max.name, .static Lib.Math.max.name, .code Lib.Math.max.name Lib.Math.max.code 2 (some .int)] ++ wsX20)
def wsX3_init : List Cond := .code yX3_init cX3_init 4 none :: ([.methodLink RX3 1 objectInit, .instanceMethod objectInit, .code objectInit ⟨#[0xb1]⟩ 1 none, .fieldLink RX3 7 "InkRing$Parts" "nearness" "F", .fieldLink RX3 13 "InkRing$Parts" "slope" "F", .fieldLink RX3 16 "InkRing$Parts" "order" "F"] ++ wsX30)
def wsX5_at : List Cond := .code yX5_at cX5_at 2 (some (.object "InkRing$Stroke")) :: ([.fieldLink RX5 17 "InkRing$Strokes" "count" "I", .fieldLink RX5 11 "InkRing$Strokes" "row" "[LInkRing$Stroke;"] ++ wsX50)
def wsX4_nearnessTo : List Cond := .code yX4_nearnessTo cX4_nearnessTo 5 (some .float) :: ([.fieldLink RX4 7 "InkRing$Stroke" "x" "I", .methodLink RX4 22 Lib.Math.abs.name, .static Lib.Math.abs.name, .initialized "java/lang/Math", .code Lib.Math.abs.name Lib.Math.abs.code 1 (some .int), .fieldLink RX4 13 "InkRing$Stroke" "y" "I", .fieldLink RX4 16 "InkRing$Stroke" "endX" "I", .fieldLink RX4 19 "InkRing$Stroke" "endY" "I", .constantFloat RX4 28 (1092616192), .constantFloat RX4 29 (1128792064)] ++ wsX40)
def wsX4_squaredWay : List Cond := .code yX4_squaredWay cX4_squaredWay 1 (some .int) :: ([.fieldLink RX4 16 "InkRing$Stroke" "endX" "I", .fieldLink RX4 7 "InkRing$Stroke" "x" "I", .fieldLink RX4 19 "InkRing$Stroke" "endY" "I", .fieldLink RX4 13 "InkRing$Stroke" "y" "I"] ++ wsX40)
def wsX4_slopeTo : List Cond := .code yX4_slopeTo cX4_slopeTo 7 (some .float) :: ([.fieldLink RX4 16 "InkRing$Stroke" "endX" "I", .fieldLink RX4 7 "InkRing$Stroke" "x" "I", .fieldLink RX4 19 "InkRing$Stroke" "endY" "I", .fieldLink RX4 13 "InkRing$Stroke" "y" "I", .constantFloat RX4 28 (1092616192), .methodLink RX4 30 yX4_squaredWay, .instanceMethod yX4_squaredWay, .selects RX4 yX4_squaredWay yX4_squaredWay, .initialized RX4, .code yX4_squaredWay cX4_squaredWay 1 (some .int)] ++ wsX40)
def wsX3_between_r1 : List Cond := [Cond.fieldLink RX3 25 "InkRing$Strokes" "count" "I", Cond.constantFloat RX3 29 (1092616192), Cond.classLink RX3 8 RX3, Cond.instantiable RX3 3, Cond.initialized RX3, Cond.methodLink RX3 19 yX5_at, Cond.instanceMethod yX5_at, Cond.selects RX5 yX5_at yX5_at, Cond.initialized RX5, Cond.code yX5_at cX5_at 2 (some (.object "InkRing$Stroke")), Cond.fieldLink RX5 17 "InkRing$Strokes" "count" "I", Cond.fieldLink RX5 11 "InkRing$Strokes" "row" "[LInkRing$Stroke;", Cond.methodLink RX3 30 yX4_nearnessTo, Cond.instanceMethod yX4_nearnessTo, Cond.selects RX4 yX4_nearnessTo yX4_nearnessTo, Cond.initialized RX4, Cond.code yX4_nearnessTo cX4_nearnessTo 5 (some .float), Cond.fieldLink RX4 7 "InkRing$Stroke" "x" "I", Cond.methodLink RX4 22 Lib.Math.abs.name, Cond.static Lib.Math.abs.name, Cond.initialized "java/lang/Math", Cond.code Lib.Math.abs.name Lib.Math.abs.code 1 (some .int), Cond.fieldLink RX4 13 "InkRing$Stroke" "y" "I", Cond.fieldLink RX4 16 "InkRing$Stroke" "endX" "I"]
def wsX3_between_r2 : List Cond := [Cond.fieldLink RX4 19 "InkRing$Stroke" "endY" "I", Cond.constantFloat RX4 28 (1092616192), Cond.constantFloat RX4 29 (1128792064), Cond.methodLink RX3 36 yX4_slopeTo, Cond.instanceMethod yX4_slopeTo, Cond.selects RX4 yX4_slopeTo yX4_slopeTo, Cond.code yX4_slopeTo cX4_slopeTo 7 (some .float), Cond.methodLink RX4 30 yX4_squaredWay, Cond.instanceMethod yX4_squaredWay, Cond.selects RX4 yX4_squaredWay yX4_squaredWay, Cond.code yX4_squaredWay cX4_squaredWay 1 (some .int), Cond.methodLink RX3 40 yX3_init, Cond.instanceMethod yX3_init, Cond.code yX3_init cX3_init 4 none, Cond.methodLink RX3 1 objectInit, Cond.instanceMethod objectInit, Cond.code objectInit ⟨#[0xb1]⟩ 1 none, Cond.fieldLink RX3 7 "InkRing$Parts" "nearness" "F", Cond.fieldLink RX3 13 "InkRing$Parts" "slope" "F", Cond.fieldLink RX3 16 "InkRing$Parts" "order" "F"]
def wsX3_between : List Cond := .code yX3_between cX3_between 7 (some (.object "InkRing$Parts")) :: ((wsX3_between_r1 ++ wsX3_between_r2) ++ wsX50 ++ wsX30 ++ wsX40)
def wsX3_markBy : List Cond := .code yX3_markBy cX3_markBy 3 (some .float) :: ([.fieldLink RX3 43 "InkRing$Style" "nearness" "I", .fieldLink RX3 7 "InkRing$Parts" "nearness" "F", .fieldLink RX3 47 "InkRing$Style" "slope" "I", .fieldLink RX3 13 "InkRing$Parts" "slope" "F", .fieldLink RX3 49 "InkRing$Style" "order" "I", .fieldLink RX3 16 "InkRing$Parts" "order" "F", .constantFloat RX3 51 (1120403456)] ++ wsX60 ++ wsX30)
def wsX4_init : List Cond := .code yX4_init cX4_init 5 none :: ([.methodLink RX4 1 objectInit, .instanceMethod objectInit, .code objectInit ⟨#[0xb1]⟩ 1 none, .fieldLink RX4 7 "InkRing$Stroke" "x" "I", .fieldLink RX4 13 "InkRing$Stroke" "y" "I", .fieldLink RX4 16 "InkRing$Stroke" "endX" "I", .fieldLink RX4 19 "InkRing$Stroke" "endY" "I"] ++ wsX40)
def wsX5_init : List Cond := .code yX5_init cX5_init 1 none :: ([.methodLink RX5 3 objectInit, .instanceMethod objectInit, .code objectInit ⟨#[0xb1]⟩ 1 none, .classLink RX5 9 RX4, .fieldLink RX5 11 "InkRing$Strokes" "row" "[LInkRing$Stroke;"] ++ wsX50)
def wsX5_add : List Cond := .code yX5_add cX5_add 2 none :: ([.fieldLink RX5 17 "InkRing$Strokes" "count" "I", .fieldLink RX5 11 "InkRing$Strokes" "row" "[LInkRing$Stroke;"] ++ wsX50)
def wsX5_empty : List Cond := .code yX5_empty cX5_empty 1 none :: ([.fieldLink RX5 17 "InkRing$Strokes" "count" "I"] ++ wsX50)
def wsX6_init : List Cond := .code yX6_init cX6_init 1 none :: ([.methodLink RX6 1 objectInit, .instanceMethod objectInit, .code objectInit ⟨#[0xb1]⟩ 1 none])
def wsX7_init_r1 : List Cond := [Cond.methodLink RX7 3 objectInit, Cond.instanceMethod objectInit, Cond.code objectInit ⟨#[0xb1]⟩ 1 none, Cond.classLink RX7 9 RX3, Cond.fieldLink RX7 11 "InkRing$Writing" "parts" "[LInkRing$Parts;", Cond.fieldLink RX7 17 "InkRing$Strokes" "count" "I", Cond.fieldLink RX7 23 "InkRing$Writing" "modelStrokes" "I", Cond.fieldLink RX7 26 "InkRing$Writing" "forged" "Z", Cond.methodLink RX7 30 yX3_between, Cond.static yX3_between, Cond.initialized RX3, Cond.code yX3_between cX3_between 7 (some (.object "InkRing$Parts")), Cond.fieldLink RX3 25 "InkRing$Strokes" "count" "I", Cond.constantFloat RX3 29 (1092616192), Cond.classLink RX3 8 RX3, Cond.instantiable RX3 3, Cond.methodLink RX3 19 yX5_at, Cond.instanceMethod yX5_at, Cond.selects RX5 yX5_at yX5_at, Cond.initialized RX5, Cond.code yX5_at cX5_at 2 (some (.object "InkRing$Stroke")), Cond.fieldLink RX5 17 "InkRing$Strokes" "count" "I", Cond.fieldLink RX5 11 "InkRing$Strokes" "row" "[LInkRing$Stroke;", Cond.methodLink RX3 30 yX4_nearnessTo]
def wsX7_init_r2 : List Cond := [Cond.instanceMethod yX4_nearnessTo, Cond.selects RX4 yX4_nearnessTo yX4_nearnessTo, Cond.initialized RX4, Cond.code yX4_nearnessTo cX4_nearnessTo 5 (some .float), Cond.fieldLink RX4 7 "InkRing$Stroke" "x" "I", Cond.methodLink RX4 22 Lib.Math.abs.name, Cond.static Lib.Math.abs.name, Cond.initialized "java/lang/Math", Cond.code Lib.Math.abs.name Lib.Math.abs.code 1 (some .int), Cond.fieldLink RX4 13 "InkRing$Stroke" "y" "I", Cond.fieldLink RX4 16 "InkRing$Stroke" "endX" "I", Cond.fieldLink RX4 19 "InkRing$Stroke" "endY" "I", Cond.constantFloat RX4 28 (1092616192), Cond.constantFloat RX4 29 (1128792064), Cond.methodLink RX3 36 yX4_slopeTo, Cond.instanceMethod yX4_slopeTo, Cond.selects RX4 yX4_slopeTo yX4_slopeTo, Cond.code yX4_slopeTo cX4_slopeTo 7 (some .float), Cond.methodLink RX4 30 yX4_squaredWay, Cond.instanceMethod yX4_squaredWay, Cond.selects RX4 yX4_squaredWay yX4_squaredWay, Cond.code yX4_squaredWay cX4_squaredWay 1 (some .int), Cond.methodLink RX3 40 yX3_init, Cond.instanceMethod yX3_init]
def wsX7_init_r3 : List Cond := [Cond.code yX3_init cX3_init 4 none, Cond.methodLink RX3 1 objectInit, Cond.fieldLink RX3 7 "InkRing$Parts" "nearness" "F", Cond.fieldLink RX3 13 "InkRing$Parts" "slope" "F", Cond.fieldLink RX3 16 "InkRing$Parts" "order" "F"]
def wsX7_init : List Cond := .code yX7_init cX7_init 6 none :: ((wsX7_init_r1 ++ (wsX7_init_r2 ++ wsX7_init_r3)) ++ wsX70 ++ wsX50 ++ wsX30 ++ wsX40)
def wsX7_markBy : List Cond := .code yX7_markBy cX7_markBy 4 (some .float) :: ([.fieldLink RX7 23 "InkRing$Writing" "modelStrokes" "I", .fieldLink RX7 11 "InkRing$Writing" "parts" "[LInkRing$Parts;", .methodLink RX7 34 yX3_markBy, .instanceMethod yX3_markBy, .selects RX3 yX3_markBy yX3_markBy, .initialized RX3, .code yX3_markBy cX3_markBy 3 (some .float), .fieldLink RX3 43 "InkRing$Style" "nearness" "I", .fieldLink RX3 7 "InkRing$Parts" "nearness" "F", .fieldLink RX3 47 "InkRing$Style" "slope" "I", .fieldLink RX3 13 "InkRing$Parts" "slope" "F", .fieldLink RX3 49 "InkRing$Style" "order" "I", .fieldLink RX3 16 "InkRing$Parts" "order" "F", .constantFloat RX3 51 (1120403456)] ++ wsX70 ++ wsX60 ++ wsX30)
def wsX8_init_r1 : List Cond := [Cond.methodLink RX8 1 objectInit, Cond.instanceMethod objectInit, Cond.code objectInit ⟨#[0xb1]⟩ 1 none, Cond.classLink RX8 9 RX5, Cond.fieldLink RX8 11 "InkRing" "signs" "[LInkRing$Strokes;", Cond.classLink RX8 15 RX2, Cond.fieldLink RX8 17 "InkRing" "papers" "[LInkRing$Paper;", Cond.classLink RX8 21 RX6, Cond.fieldLink RX8 23 "InkRing" "styles" "[LInkRing$Style;", Cond.classLink RX8 27 RX1, Cond.fieldLink RX8 29 "InkRing" "judges" "[LInkRing$Judge;", Cond.classLink RX8 33 RX0, Cond.fieldLink RX8 35 "InkRing" "duels" "[LInkRing$Duel;", Cond.instantiable RX5 2, Cond.initialized RX5, Cond.fieldLink RX8 40 "InkRing" "draft" "LInkRing$Strokes;", Cond.instantiable RX2 3, Cond.initialized RX2, Cond.instantiable RX6 3, Cond.initialized RX6, Cond.instantiable RX1 1, Cond.initialized RX1, Cond.instanceMethod yX5_init, Cond.code yX5_init cX5_init 1 none]
def wsX8_init_r2 : List Cond := [Cond.methodLink RX5 3 objectInit, Cond.classLink RX5 9 RX4, Cond.fieldLink RX5 11 "InkRing$Strokes" "row" "[LInkRing$Stroke;", Cond.instanceMethod yX2_init, Cond.code yX2_init cX2_init 1 none, Cond.methodLink RX2 3 objectInit, Cond.instanceMethod yX6_init, Cond.code yX6_init cX6_init 1 none, Cond.methodLink RX6 1 objectInit, Cond.methodLink RX8 46 yX1_init, Cond.instanceMethod yX1_init, Cond.code yX1_init cX1_init 2 none, Cond.methodLink RX1 3 objectInit, Cond.arrayClass .int, Cond.fieldLink RX1 9 "InkRing$Judge" "learnedOn" "[I"]
def wsX8_init : List Cond := .code yX8_init cX8_init 2 none :: ((wsX8_init_r1 ++ wsX8_init_r2) ++ wsX80 ++ wsX50 ++ wsX20 ++ wsX60 ++ wsX10)
def wsX8_isWithin : List Cond := .code yX8_isWithin cX8_isWithin 3 (some .boolean) :: ([])
def wsX8_isPlace : List Cond := .code yX8_isPlace cX8_isPlace 2 (some .boolean) :: ([.methodLink RX8 97 yX8_isWithin, .static yX8_isWithin, .initialized RX8, .code yX8_isWithin cX8_isWithin 3 (some .boolean)])
def wsX8_stroke_r1 : List Cond := [Cond.classLink RX8 51 "java/lang/IllegalArgumentException", Cond.initialized "java/lang/IllegalArgumentException", Cond.classLink RX8 64 "java/lang/IllegalStateException", Cond.initialized "java/lang/IllegalStateException", Cond.fieldLink RX8 40 "InkRing" "draft" "LInkRing$Strokes;", Cond.fieldLink RX8 60 "InkRing$Strokes" "count" "I", Cond.classLink RX8 69 RX4, Cond.instantiable RX4 4, Cond.initialized RX4, Cond.methodLink RX8 47 yX8_isPlace, Cond.static yX8_isPlace, Cond.initialized RX8, Cond.code yX8_isPlace cX8_isPlace 2 (some .boolean), Cond.methodLink RX8 97 yX8_isWithin, Cond.static yX8_isWithin, Cond.code yX8_isWithin cX8_isWithin 3 (some .boolean), Cond.methodLink RX8 71 yX4_init, Cond.instanceMethod yX4_init, Cond.code yX4_init cX4_init 5 none, Cond.methodLink RX4 1 objectInit, Cond.instanceMethod objectInit, Cond.code objectInit ⟨#[0xb1]⟩ 1 none, Cond.fieldLink RX4 7 "InkRing$Stroke" "x" "I", Cond.fieldLink RX4 13 "InkRing$Stroke" "y" "I"]
def wsX8_stroke_r2 : List Cond := [Cond.fieldLink RX4 16 "InkRing$Stroke" "endX" "I", Cond.fieldLink RX4 19 "InkRing$Stroke" "endY" "I", Cond.methodLink RX8 74 yX5_add, Cond.instanceMethod yX5_add, Cond.selects RX5 yX5_add yX5_add, Cond.initialized RX5, Cond.code yX5_add cX5_add 2 none, Cond.fieldLink RX5 17 "InkRing$Strokes" "count" "I", Cond.fieldLink RX5 11 "InkRing$Strokes" "row" "[LInkRing$Stroke;"]
def wsX8_stroke : List Cond := .code yX8_stroke cX8_stroke 5 (some .int) :: ((wsX8_stroke_r1 ++ wsX8_stroke_r2) ++ wsX80 ++ wsX50 ++ wsX40 ++ (vx_atS RX8 55 "java/lang/IllegalArgumentException" ["java/lang/RuntimeException", "java/lang/Exception"]).filter goodWord ++ (vx_atS RX8 68 "java/lang/IllegalStateException" ["java/lang/RuntimeException", "java/lang/Exception"]).filter goodWord)
def wsX8_clear : List Cond := .code yX8_clear cX8_clear 2 (some .int) :: ([.fieldLink RX8 40 "InkRing" "draft" "LInkRing$Strokes;", .fieldLink RX8 60 "InkRing$Strokes" "count" "I", .methodLink RX8 78 yX5_empty, .instanceMethod yX5_empty, .selects RX5 yX5_empty yX5_empty, .initialized RX5, .code yX5_empty cX5_empty 1 none, .fieldLink RX5 17 "InkRing$Strokes" "count" "I"] ++ wsX80 ++ wsX50)
def wsX8_sign : List Cond := .code yX8_sign cX8_sign 2 (some .int) :: ([.classLink RX8 64 "java/lang/IllegalStateException", .initialized "java/lang/IllegalStateException", .fieldLink RX8 40 "InkRing" "draft" "LInkRing$Strokes;", .fieldLink RX8 60 "InkRing$Strokes" "count" "I", .fieldLink RX8 83 "InkRing" "signCount" "I", .fieldLink RX8 11 "InkRing" "signs" "[LInkRing$Strokes;", .classLink RX8 9 RX5, .instantiable RX5 2, .initialized RX5, .instanceMethod yX5_init, .code yX5_init cX5_init 1 none, .methodLink RX5 3 objectInit, .instanceMethod objectInit, .code objectInit ⟨#[0xb1]⟩ 1 none, .classLink RX5 9 RX4, .fieldLink RX5 11 "InkRing$Strokes" "row" "[LInkRing$Stroke;"] ++ wsX80 ++ wsX50 ++ (vx_atS RX8 68 "java/lang/IllegalStateException" ["java/lang/RuntimeException", "java/lang/Exception"]).filter goodWord)
def wsX8_paperAt : List Cond := .code yX8_paperAt cX8_paperAt 2 (some (.object "InkRing$Paper")) :: ([.fieldLink RX8 17 "InkRing" "papers" "[LInkRing$Paper;"] ++ wsX80)
def wsX8_buy : List Cond := .code yX8_buy cX8_buy 4 (some .int) :: ([.classLink RX8 92 "java/lang/IndexOutOfBoundsException", .initialized "java/lang/IndexOutOfBoundsException", .classLink RX8 51 "java/lang/IllegalArgumentException", .initialized "java/lang/IllegalArgumentException", .classLink RX8 64 "java/lang/IllegalStateException", .initialized "java/lang/IllegalStateException", .fieldLink RX8 103 "InkRing$Paper" "sheets" "I", .methodLink RX8 88 yX8_paperAt, .instanceMethod yX8_paperAt, .selects RX8 yX8_paperAt yX8_paperAt, .initialized RX8, .code yX8_paperAt cX8_paperAt 2 (some (.object "InkRing$Paper")), .fieldLink RX8 17 "InkRing" "papers" "[LInkRing$Paper;", .methodLink RX8 97 yX8_isWithin, .static yX8_isWithin, .code yX8_isWithin cX8_isWithin 3 (some .boolean)] ++ wsX20 ++ wsX80 ++ (vx_atS RX8 96 "java/lang/IndexOutOfBoundsException" ["java/lang/RuntimeException", "java/lang/Exception"]).filter goodWord ++ (vx_atS RX8 55 "java/lang/IllegalArgumentException" ["java/lang/RuntimeException", "java/lang/Exception"]).filter goodWord ++ (vx_atS RX8 68 "java/lang/IllegalStateException" ["java/lang/RuntimeException", "java/lang/Exception"]).filter goodWord)
def wsX8_rise : List Cond := .code yX8_rise cX8_rise 4 (some .int) :: ([.classLink RX8 92 "java/lang/IndexOutOfBoundsException", .initialized "java/lang/IndexOutOfBoundsException", .classLink RX8 51 "java/lang/IllegalArgumentException", .initialized "java/lang/IllegalArgumentException", .fieldLink RX8 110 "InkRing$Paper" "dailyRise" "I", .fieldLink RX8 113 "InkRing$Paper" "damp" "I", .methodLink RX8 88 yX8_paperAt, .instanceMethod yX8_paperAt, .selects RX8 yX8_paperAt yX8_paperAt, .initialized RX8, .code yX8_paperAt cX8_paperAt 2 (some (.object "InkRing$Paper")), .fieldLink RX8 17 "InkRing" "papers" "[LInkRing$Paper;", .methodLink RX8 97 yX8_isWithin, .static yX8_isWithin, .code yX8_isWithin cX8_isWithin 3 (some .boolean)] ++ wsX20 ++ wsX80 ++ (vx_atS RX8 96 "java/lang/IndexOutOfBoundsException" ["java/lang/RuntimeException", "java/lang/Exception"]).filter goodWord ++ (vx_atS RX8 55 "java/lang/IllegalArgumentException" ["java/lang/RuntimeException", "java/lang/Exception"]).filter goodWord)
def wsX8_styleAt : List Cond := .code yX8_styleAt cX8_styleAt 2 (some (.object "InkRing$Style")) :: ([.fieldLink RX8 23 "InkRing" "styles" "[LInkRing$Style;"] ++ wsX80)
def wsX8_style : List Cond := .code yX8_style cX8_style 6 none :: ([.classLink RX8 92 "java/lang/IndexOutOfBoundsException", .initialized "java/lang/IndexOutOfBoundsException", .classLink RX8 51 "java/lang/IllegalArgumentException", .initialized "java/lang/IllegalArgumentException", .fieldLink RX8 124 "InkRing$Style" "nearness" "I", .fieldLink RX8 127 "InkRing$Style" "slope" "I", .fieldLink RX8 130 "InkRing$Style" "order" "I", .methodLink RX8 116 yX8_styleAt, .instanceMethod yX8_styleAt, .selects RX8 yX8_styleAt yX8_styleAt, .initialized RX8, .code yX8_styleAt cX8_styleAt 2 (some (.object "InkRing$Style")), .fieldLink RX8 23 "InkRing" "styles" "[LInkRing$Style;", .methodLink RX8 97 yX8_isWithin, .static yX8_isWithin, .code yX8_isWithin cX8_isWithin 3 (some .boolean)] ++ wsX60 ++ wsX80 ++ (vx_atS RX8 96 "java/lang/IndexOutOfBoundsException" ["java/lang/RuntimeException", "java/lang/Exception"]).filter goodWord ++ (vx_atS RX8 55 "java/lang/IllegalArgumentException" ["java/lang/RuntimeException", "java/lang/Exception"]).filter goodWord)
def wsX8_judgeAt : List Cond := .code yX8_judgeAt cX8_judgeAt 2 (some (.object "InkRing$Judge")) :: ([.fieldLink RX8 29 "InkRing" "judges" "[LInkRing$Judge;"] ++ wsX80)
def wsX8_learn_r1 : List Cond := [Cond.classLink RX8 92 "java/lang/IndexOutOfBoundsException", Cond.initialized "java/lang/IndexOutOfBoundsException", Cond.classLink RX8 64 "java/lang/IllegalStateException", Cond.initialized "java/lang/IllegalStateException", Cond.fieldLink RX8 139 "InkRing" "day" "I", Cond.methodLink RX8 133 yX8_judgeAt, Cond.instanceMethod yX8_judgeAt, Cond.selects RX8 yX8_judgeAt yX8_judgeAt, Cond.initialized RX8, Cond.code yX8_judgeAt cX8_judgeAt 2 (some (.object "InkRing$Judge")), Cond.fieldLink RX8 29 "InkRing" "judges" "[LInkRing$Judge;", Cond.methodLink RX8 116 yX8_styleAt, Cond.instanceMethod yX8_styleAt, Cond.selects RX8 yX8_styleAt yX8_styleAt, Cond.code yX8_styleAt cX8_styleAt 2 (some (.object "InkRing$Style")), Cond.fieldLink RX8 23 "InkRing" "styles" "[LInkRing$Style;", Cond.methodLink RX8 142 yX1_knowsOn, Cond.instanceMethod yX1_knowsOn, Cond.selects RX1 yX1_knowsOn yX1_knowsOn, Cond.initialized RX1, Cond.code yX1_knowsOn cX1_knowsOn 3 (some .boolean), Cond.fieldLink RX1 9 "InkRing$Judge" "learnedOn" "[I", Cond.methodLink RX8 147 yX1_takeUp, Cond.instanceMethod yX1_takeUp]
def wsX8_learn_r2 : List Cond := [Cond.selects RX1 yX1_takeUp yX1_takeUp, Cond.code yX1_takeUp cX1_takeUp 3 none, Cond.methodLink RX8 151 yX1_countKnown, Cond.instanceMethod yX1_countKnown, Cond.selects RX1 yX1_countKnown yX1_countKnown, Cond.code yX1_countKnown cX1_countKnown 3 (some .int)]
def wsX8_learn : List Cond := .code yX8_learn cX8_learn 4 (some .int) :: ((wsX8_learn_r1 ++ wsX8_learn_r2) ++ wsX80 ++ wsX10 ++ (vx_atS RX8 96 "java/lang/IndexOutOfBoundsException" ["java/lang/RuntimeException", "java/lang/Exception"]).filter goodWord ++ (vx_atS RX8 68 "java/lang/IllegalStateException" ["java/lang/RuntimeException", "java/lang/Exception"]).filter goodWord)
def wsX8_pass : List Cond := .code yX8_pass cX8_pass 3 (some .int) :: ([.classLink RX8 51 "java/lang/IllegalArgumentException", .initialized "java/lang/IllegalArgumentException", .classLink RX8 64 "java/lang/IllegalStateException", .initialized "java/lang/IllegalStateException", .fieldLink RX8 139 "InkRing" "day" "I", .fieldLink RX8 17 "InkRing" "papers" "[LInkRing$Paper;", .methodLink RX8 97 yX8_isWithin, .static yX8_isWithin, .initialized RX8, .code yX8_isWithin cX8_isWithin 3 (some .boolean), .methodLink RX8 159 yX2_age, .instanceMethod yX2_age, .selects RX2 yX2_age yX2_age, .initialized RX2, .code yX2_age cX2_age 2 none, .fieldLink RX2 9 "InkRing$Paper" "damp" "I", .fieldLink RX2 15 "InkRing$Paper" "dailyRise" "I", .methodLink RX2 18 Lib.Math.min.name, .static Lib.Math.min.name, .initialized "java/lang/Math", .code Lib.Math.min.name Lib.Math.min.code 2 (some .int), .methodLink RX2 24 Lib.Math.max.name, .static Lib.Math.max.name, .code Lib.Math.max.name Lib.Math.max.code 2 (some .int)] ++ wsX80 ++ wsX20 ++ (vx_atS RX8 55 "java/lang/IllegalArgumentException" ["java/lang/RuntimeException", "java/lang/Exception"]).filter goodWord ++ (vx_atS RX8 68 "java/lang/IllegalStateException" ["java/lang/RuntimeException", "java/lang/Exception"]).filter goodWord)
def wsX8_isWriter : List Cond := .code yX8_isWriter cX8_isWriter 1 (some .boolean) :: ([.methodLink RX8 97 yX8_isWithin, .static yX8_isWithin, .initialized RX8, .code yX8_isWithin cX8_isWithin 3 (some .boolean)])
def wsX8_duel_r1 : List Cond := [Cond.classLink RX8 92 "java/lang/IndexOutOfBoundsException", Cond.initialized "java/lang/IndexOutOfBoundsException", Cond.classLink RX8 51 "java/lang/IllegalArgumentException", Cond.initialized "java/lang/IllegalArgumentException", Cond.classLink RX8 64 "java/lang/IllegalStateException", Cond.initialized "java/lang/IllegalStateException", Cond.fieldLink RX8 83 "InkRing" "signCount" "I", Cond.fieldLink RX8 175 "InkRing" "duelCount" "I", Cond.fieldLink RX8 35 "InkRing" "duels" "[LInkRing$Duel;", Cond.classLink RX8 33 RX0, Cond.instantiable RX0 10, Cond.initialized RX0, Cond.fieldLink RX8 139 "InkRing" "day" "I", Cond.methodLink RX8 163 yX8_isWriter, Cond.static yX8_isWriter, Cond.initialized RX8, Cond.code yX8_isWriter cX8_isWriter 1 (some .boolean), Cond.methodLink RX8 97 yX8_isWithin, Cond.static yX8_isWithin, Cond.code yX8_isWithin cX8_isWithin 3 (some .boolean), Cond.methodLink RX8 133 yX8_judgeAt, Cond.instanceMethod yX8_judgeAt, Cond.selects RX8 yX8_judgeAt yX8_judgeAt, Cond.code yX8_judgeAt cX8_judgeAt 2 (some (.object "InkRing$Judge"))]
def wsX8_duel_r2 : List Cond := [Cond.fieldLink RX8 29 "InkRing" "judges" "[LInkRing$Judge;", Cond.methodLink RX8 88 yX8_paperAt, Cond.instanceMethod yX8_paperAt, Cond.selects RX8 yX8_paperAt yX8_paperAt, Cond.code yX8_paperAt cX8_paperAt 2 (some (.object "InkRing$Paper")), Cond.fieldLink RX8 17 "InkRing" "papers" "[LInkRing$Paper;", Cond.methodLink RX8 180 yX0_init, Cond.instanceMethod yX0_init, Cond.code yX0_init cX0_init 7 none, Cond.methodLink RX0 3 objectInit, Cond.instanceMethod objectInit, Cond.code objectInit ⟨#[0xb1]⟩ 1 none, Cond.arrayClass .int, Cond.fieldLink RX0 9 "InkRing$Duel" "prompts" "[I", Cond.classLink RX0 15 RX7, Cond.fieldLink RX0 17 "InkRing$Duel" "writings" "[LInkRing$Writing;", Cond.fieldLink RX0 21 "InkRing$Duel" "secondJudge" "I", Cond.fieldLink RX0 25 "InkRing$Duel" "one" "I", Cond.fieldLink RX0 28 "InkRing$Duel" "other" "I", Cond.fieldLink RX0 31 "InkRing$Duel" "judge" "I", Cond.fieldLink RX0 34 "InkRing$Duel" "paper" "I", Cond.fieldLink RX0 37 "InkRing$Duel" "rounds" "I", Cond.fieldLink RX0 40 "InkRing$Duel" "day" "I", Cond.methodLink RX8 183 yX0_drawPrompts]
def wsX8_duel_r3 : List Cond := [Cond.instanceMethod yX0_drawPrompts, Cond.selects RX0 yX0_drawPrompts yX0_drawPrompts, Cond.code yX0_drawPrompts cX0_drawPrompts 4 none]
def wsX8_duel : List Cond := .code yX8_duel cX8_duel 9 (some .int) :: ((wsX8_duel_r1 ++ (wsX8_duel_r2 ++ wsX8_duel_r3)) ++ wsX80 ++ wsX00 ++ (vx_atS RX8 96 "java/lang/IndexOutOfBoundsException" ["java/lang/RuntimeException", "java/lang/Exception"]).filter goodWord ++ (vx_atS RX8 55 "java/lang/IllegalArgumentException" ["java/lang/RuntimeException", "java/lang/Exception"]).filter goodWord ++ (vx_atS RX8 68 "java/lang/IllegalStateException" ["java/lang/RuntimeException", "java/lang/Exception"]).filter goodWord)
def wsX8_duelAt : List Cond := .code yX8_duelAt cX8_duelAt 2 (some (.object "InkRing$Duel")) :: ([.fieldLink RX8 35 "InkRing" "duels" "[LInkRing$Duel;"] ++ wsX80)
def wsX8_signAt : List Cond := .code yX8_signAt cX8_signAt 2 (some (.object "InkRing$Strokes")) :: ([.fieldLink RX8 11 "InkRing" "signs" "[LInkRing$Strokes;"] ++ wsX80)
def wsX8_rightSeal : List Cond := .code yX8_rightSeal cX8_rightSeal 2 (some .int) :: ([])
def wsX8_hand_r1 : List Cond := [Cond.classLink RX8 92 "java/lang/IndexOutOfBoundsException", Cond.initialized "java/lang/IndexOutOfBoundsException", Cond.classLink RX8 51 "java/lang/IllegalArgumentException", Cond.initialized "java/lang/IllegalArgumentException", Cond.classLink RX8 64 "java/lang/IllegalStateException", Cond.initialized "java/lang/IllegalStateException", Cond.fieldLink RX8 194 "InkRing$Duel" "handedIn" "I", Cond.fieldLink RX8 211 "InkRing$Duel" "paper" "I", Cond.fieldLink RX8 40 "InkRing" "draft" "LInkRing$Strokes;", Cond.fieldLink RX8 60 "InkRing$Strokes" "count" "I", Cond.fieldLink RX8 103 "InkRing$Paper" "sheets" "I", Cond.fieldLink RX8 216 "InkRing" "sheetsTaken" "I", Cond.classLink RX8 226 RX7, Cond.instantiable RX7 4, Cond.initialized RX7, Cond.fieldLink RX8 113 "InkRing$Paper" "damp" "I", Cond.methodLink RX8 186 yX8_duelAt, Cond.instanceMethod yX8_duelAt, Cond.selects RX8 yX8_duelAt yX8_duelAt, Cond.initialized RX8, Cond.code yX8_duelAt cX8_duelAt 2 (some (.object "InkRing$Duel")), Cond.fieldLink RX8 35 "InkRing" "duels" "[LInkRing$Duel;", Cond.methodLink RX8 97 yX8_isWithin, Cond.static yX8_isWithin]
def wsX8_hand_r2 : List Cond := [Cond.code yX8_isWithin cX8_isWithin 3 (some .boolean), Cond.methodLink RX8 197 yX0_promptAt, Cond.instanceMethod yX0_promptAt, Cond.selects RX0 yX0_promptAt yX0_promptAt, Cond.initialized RX0, Cond.code yX0_promptAt cX0_promptAt 2 (some .int), Cond.fieldLink RX0 9 "InkRing$Duel" "prompts" "[I", Cond.methodLink RX8 201 yX8_signAt, Cond.instanceMethod yX8_signAt, Cond.selects RX8 yX8_signAt yX8_signAt, Cond.code yX8_signAt cX8_signAt 2 (some (.object "InkRing$Strokes")), Cond.fieldLink RX8 11 "InkRing" "signs" "[LInkRing$Strokes;", Cond.methodLink RX8 205 yX0_isOver, Cond.instanceMethod yX0_isOver, Cond.selects RX0 yX0_isOver yX0_isOver, Cond.code yX0_isOver cX0_isOver 1 (some .boolean), Cond.fieldLink RX0 43 "InkRing$Duel" "handedIn" "I", Cond.fieldLink RX0 37 "InkRing$Duel" "rounds" "I", Cond.methodLink RX8 88 yX8_paperAt, Cond.instanceMethod yX8_paperAt, Cond.selects RX8 yX8_paperAt yX8_paperAt, Cond.code yX8_paperAt cX8_paperAt 2 (some (.object "InkRing$Paper")), Cond.fieldLink RX8 17 "InkRing" "papers" "[LInkRing$Paper;", Cond.methodLink RX8 219 yX0_nextWriter]
def wsX8_hand_r3 : List Cond := [Cond.instanceMethod yX0_nextWriter, Cond.selects RX0 yX0_nextWriter yX0_nextWriter, Cond.code yX0_nextWriter cX0_nextWriter 1 (some .int), Cond.fieldLink RX0 25 "InkRing$Duel" "one" "I", Cond.fieldLink RX0 28 "InkRing$Duel" "other" "I", Cond.methodLink RX8 222 yX8_rightSeal, Cond.static yX8_rightSeal, Cond.code yX8_rightSeal cX8_rightSeal 2 (some .int), Cond.methodLink RX8 228 yX7_init, Cond.instanceMethod yX7_init, Cond.code yX7_init cX7_init 6 none, Cond.methodLink RX7 3 objectInit, Cond.instanceMethod objectInit, Cond.code objectInit ⟨#[0xb1]⟩ 1 none, Cond.classLink RX7 9 RX3, Cond.fieldLink RX7 11 "InkRing$Writing" "parts" "[LInkRing$Parts;", Cond.fieldLink RX7 17 "InkRing$Strokes" "count" "I", Cond.fieldLink RX7 23 "InkRing$Writing" "modelStrokes" "I", Cond.fieldLink RX7 26 "InkRing$Writing" "forged" "Z", Cond.methodLink RX7 30 yX3_between, Cond.static yX3_between, Cond.initialized RX3, Cond.code yX3_between cX3_between 7 (some (.object "InkRing$Parts")), Cond.fieldLink RX3 25 "InkRing$Strokes" "count" "I"]
def wsX8_hand_r4 : List Cond := [Cond.constantFloat RX3 29 (1092616192), Cond.classLink RX3 8 RX3, Cond.instantiable RX3 3, Cond.methodLink RX3 19 yX5_at, Cond.instanceMethod yX5_at, Cond.selects RX5 yX5_at yX5_at, Cond.initialized RX5, Cond.code yX5_at cX5_at 2 (some (.object "InkRing$Stroke")), Cond.fieldLink RX5 17 "InkRing$Strokes" "count" "I", Cond.fieldLink RX5 11 "InkRing$Strokes" "row" "[LInkRing$Stroke;", Cond.methodLink RX3 30 yX4_nearnessTo, Cond.instanceMethod yX4_nearnessTo, Cond.selects RX4 yX4_nearnessTo yX4_nearnessTo, Cond.initialized RX4, Cond.code yX4_nearnessTo cX4_nearnessTo 5 (some .float), Cond.fieldLink RX4 7 "InkRing$Stroke" "x" "I", Cond.methodLink RX4 22 Lib.Math.abs.name, Cond.static Lib.Math.abs.name, Cond.initialized "java/lang/Math", Cond.code Lib.Math.abs.name Lib.Math.abs.code 1 (some .int), Cond.fieldLink RX4 13 "InkRing$Stroke" "y" "I", Cond.fieldLink RX4 16 "InkRing$Stroke" "endX" "I", Cond.fieldLink RX4 19 "InkRing$Stroke" "endY" "I", Cond.constantFloat RX4 28 (1092616192)]
def wsX8_hand_r5 : List Cond := [Cond.constantFloat RX4 29 (1128792064), Cond.methodLink RX3 36 yX4_slopeTo, Cond.instanceMethod yX4_slopeTo, Cond.selects RX4 yX4_slopeTo yX4_slopeTo, Cond.code yX4_slopeTo cX4_slopeTo 7 (some .float), Cond.methodLink RX4 30 yX4_squaredWay, Cond.instanceMethod yX4_squaredWay, Cond.selects RX4 yX4_squaredWay yX4_squaredWay, Cond.code yX4_squaredWay cX4_squaredWay 1 (some .int), Cond.methodLink RX3 40 yX3_init, Cond.instanceMethod yX3_init, Cond.code yX3_init cX3_init 4 none, Cond.methodLink RX3 1 objectInit, Cond.fieldLink RX3 7 "InkRing$Parts" "nearness" "F", Cond.fieldLink RX3 13 "InkRing$Parts" "slope" "F", Cond.fieldLink RX3 16 "InkRing$Parts" "order" "F", Cond.methodLink RX8 231 yX0_add, Cond.instanceMethod yX0_add, Cond.selects RX0 yX0_add yX0_add, Cond.code yX0_add cX0_add 2 none, Cond.fieldLink RX0 17 "InkRing$Duel" "writings" "[LInkRing$Writing;", Cond.methodLink RX8 78 yX5_empty, Cond.instanceMethod yX5_empty, Cond.selects RX5 yX5_empty yX5_empty]
def wsX8_hand_r6 : List Cond := [Cond.code yX5_empty cX5_empty 1 none]
def wsX8_hand : List Cond := .code yX8_hand cX8_hand 7 (some .int) :: ((wsX8_hand_r1 ++ (wsX8_hand_r2 ++ (wsX8_hand_r3 ++ (wsX8_hand_r4 ++ (wsX8_hand_r5 ++ wsX8_hand_r6))))) ++ wsX00 ++ wsX80 ++ wsX50 ++ wsX20 ++ wsX70 ++ wsX30 ++ wsX40 ++ (vx_atS RX8 96 "java/lang/IndexOutOfBoundsException" ["java/lang/RuntimeException", "java/lang/Exception"]).filter goodWord ++ (vx_atS RX8 55 "java/lang/IllegalArgumentException" ["java/lang/RuntimeException", "java/lang/Exception"]).filter goodWord ++ (vx_atS RX8 68 "java/lang/IllegalStateException" ["java/lang/RuntimeException", "java/lang/Exception"]).filter goodWord)
def wsX8_look : List Cond := .code yX8_look cX8_look 6 (some .boolean) :: ([.classLink RX8 92 "java/lang/IndexOutOfBoundsException", .initialized "java/lang/IndexOutOfBoundsException", .fieldLink RX8 240 "InkRing$Writing" "forged" "Z", .fieldLink RX8 244 "InkRing$Writing" "found" "Z", .methodLink RX8 186 yX8_duelAt, .instanceMethod yX8_duelAt, .selects RX8 yX8_duelAt yX8_duelAt, .initialized RX8, .code yX8_duelAt cX8_duelAt 2 (some (.object "InkRing$Duel")), .fieldLink RX8 35 "InkRing" "duels" "[LInkRing$Duel;", .methodLink RX8 234 yX0_writingAt, .instanceMethod yX0_writingAt, .selects RX0 yX0_writingAt yX0_writingAt, .initialized RX0, .code yX0_writingAt cX0_writingAt 4 (some (.object "InkRing$Writing")), .fieldLink RX0 17 "InkRing$Duel" "writings" "[LInkRing$Writing;"] ++ wsX70 ++ wsX80 ++ wsX00 ++ (vx_atS RX8 96 "java/lang/IndexOutOfBoundsException" ["java/lang/RuntimeException", "java/lang/Exception"]).filter goodWord)
def wsX8_markByJudge_r1 : List Cond := [Cond.fieldLink RX8 23 "InkRing" "styles" "[LInkRing$Style;", Cond.methodLink RX8 142 yX1_knowsOn, Cond.instanceMethod yX1_knowsOn, Cond.selects RX1 yX1_knowsOn yX1_knowsOn, Cond.initialized RX1, Cond.code yX1_knowsOn cX1_knowsOn 3 (some .boolean), Cond.fieldLink RX1 9 "InkRing$Judge" "learnedOn" "[I", Cond.methodLink RX8 265 yX7_markBy, Cond.instanceMethod yX7_markBy, Cond.selects RX7 yX7_markBy yX7_markBy, Cond.initialized RX7, Cond.code yX7_markBy cX7_markBy 4 (some .float), Cond.fieldLink RX7 23 "InkRing$Writing" "modelStrokes" "I", Cond.fieldLink RX7 11 "InkRing$Writing" "parts" "[LInkRing$Parts;", Cond.methodLink RX7 34 yX3_markBy, Cond.instanceMethod yX3_markBy, Cond.selects RX3 yX3_markBy yX3_markBy, Cond.initialized RX3, Cond.code yX3_markBy cX3_markBy 3 (some .float), Cond.fieldLink RX3 43 "InkRing$Style" "nearness" "I", Cond.fieldLink RX3 7 "InkRing$Parts" "nearness" "F", Cond.fieldLink RX3 47 "InkRing$Style" "slope" "I", Cond.fieldLink RX3 13 "InkRing$Parts" "slope" "F", Cond.fieldLink RX3 49 "InkRing$Style" "order" "I"]
def wsX8_markByJudge_r2 : List Cond := [Cond.fieldLink RX3 16 "InkRing$Parts" "order" "F", Cond.constantFloat RX3 51 (1120403456)]
def wsX8_markByJudge : List Cond := .code yX8_markByJudge cX8_markByJudge 7 (some .float) :: ((wsX8_markByJudge_r1 ++ wsX8_markByJudge_r2) ++ wsX80 ++ wsX10 ++ wsX70 ++ wsX60 ++ wsX30)
def wsX8_judgedMark_r1 : List Cond := [Cond.fieldLink RX8 252 "InkRing$Duel" "judge" "I", Cond.fieldLink RX8 294 "InkRing$Duel" "day" "I", Cond.fieldLink RX8 249 "InkRing$Duel" "secondJudge" "I", Cond.methodLink RX8 133 yX8_judgeAt, Cond.instanceMethod yX8_judgeAt, Cond.selects RX8 yX8_judgeAt yX8_judgeAt, Cond.initialized RX8, Cond.code yX8_judgeAt cX8_judgeAt 2 (some (.object "InkRing$Judge")), Cond.fieldLink RX8 29 "InkRing" "judges" "[LInkRing$Judge;", Cond.methodLink RX8 295 yX8_markByJudge, Cond.instanceMethod yX8_markByJudge, Cond.selects RX8 yX8_markByJudge yX8_markByJudge, Cond.code yX8_markByJudge cX8_markByJudge 7 (some .float), Cond.fieldLink RX8 23 "InkRing" "styles" "[LInkRing$Style;", Cond.methodLink RX8 142 yX1_knowsOn, Cond.instanceMethod yX1_knowsOn, Cond.selects RX1 yX1_knowsOn yX1_knowsOn, Cond.initialized RX1, Cond.code yX1_knowsOn cX1_knowsOn 3 (some .boolean), Cond.fieldLink RX1 9 "InkRing$Judge" "learnedOn" "[I", Cond.methodLink RX8 265 yX7_markBy, Cond.instanceMethod yX7_markBy, Cond.selects RX7 yX7_markBy yX7_markBy, Cond.initialized RX7]
def wsX8_judgedMark_r2 : List Cond := [Cond.code yX7_markBy cX7_markBy 4 (some .float), Cond.fieldLink RX7 23 "InkRing$Writing" "modelStrokes" "I", Cond.fieldLink RX7 11 "InkRing$Writing" "parts" "[LInkRing$Parts;", Cond.methodLink RX7 34 yX3_markBy, Cond.instanceMethod yX3_markBy, Cond.selects RX3 yX3_markBy yX3_markBy, Cond.initialized RX3, Cond.code yX3_markBy cX3_markBy 3 (some .float), Cond.fieldLink RX3 43 "InkRing$Style" "nearness" "I", Cond.fieldLink RX3 7 "InkRing$Parts" "nearness" "F", Cond.fieldLink RX3 47 "InkRing$Style" "slope" "I", Cond.fieldLink RX3 13 "InkRing$Parts" "slope" "F", Cond.fieldLink RX3 49 "InkRing$Style" "order" "I", Cond.fieldLink RX3 16 "InkRing$Parts" "order" "F", Cond.constantFloat RX3 51 (1120403456)]
def wsX8_judgedMark : List Cond := .code yX8_judgedMark cX8_judgedMark 5 (some .float) :: ((wsX8_judgedMark_r1 ++ wsX8_judgedMark_r2) ++ wsX00 ++ wsX80 ++ wsX10 ++ wsX70 ++ wsX60 ++ wsX30)
def wsX8_roundGoesTo_r1 : List Cond := [Cond.fieldLink RX8 244 "InkRing$Writing" "found" "Z", Cond.methodLink RX8 234 yX0_writingAt, Cond.instanceMethod yX0_writingAt, Cond.selects RX0 yX0_writingAt yX0_writingAt, Cond.initialized RX0, Cond.code yX0_writingAt cX0_writingAt 4 (some (.object "InkRing$Writing")), Cond.fieldLink RX0 17 "InkRing$Duel" "writings" "[LInkRing$Writing;", Cond.methodLink RX8 286 yX8_judgedMark, Cond.instanceMethod yX8_judgedMark, Cond.selects RX8 yX8_judgedMark yX8_judgedMark, Cond.initialized RX8, Cond.code yX8_judgedMark cX8_judgedMark 5 (some .float), Cond.fieldLink RX8 252 "InkRing$Duel" "judge" "I", Cond.fieldLink RX8 294 "InkRing$Duel" "day" "I", Cond.fieldLink RX8 249 "InkRing$Duel" "secondJudge" "I", Cond.methodLink RX8 133 yX8_judgeAt, Cond.instanceMethod yX8_judgeAt, Cond.selects RX8 yX8_judgeAt yX8_judgeAt, Cond.code yX8_judgeAt cX8_judgeAt 2 (some (.object "InkRing$Judge")), Cond.fieldLink RX8 29 "InkRing" "judges" "[LInkRing$Judge;", Cond.methodLink RX8 295 yX8_markByJudge, Cond.instanceMethod yX8_markByJudge, Cond.selects RX8 yX8_markByJudge yX8_markByJudge, Cond.code yX8_markByJudge cX8_markByJudge 7 (some .float)]
def wsX8_roundGoesTo_r2 : List Cond := [Cond.fieldLink RX8 23 "InkRing" "styles" "[LInkRing$Style;", Cond.methodLink RX8 142 yX1_knowsOn, Cond.instanceMethod yX1_knowsOn, Cond.selects RX1 yX1_knowsOn yX1_knowsOn, Cond.initialized RX1, Cond.code yX1_knowsOn cX1_knowsOn 3 (some .boolean), Cond.fieldLink RX1 9 "InkRing$Judge" "learnedOn" "[I", Cond.methodLink RX8 265 yX7_markBy, Cond.instanceMethod yX7_markBy, Cond.selects RX7 yX7_markBy yX7_markBy, Cond.initialized RX7, Cond.code yX7_markBy cX7_markBy 4 (some .float), Cond.fieldLink RX7 23 "InkRing$Writing" "modelStrokes" "I", Cond.fieldLink RX7 11 "InkRing$Writing" "parts" "[LInkRing$Parts;", Cond.methodLink RX7 34 yX3_markBy, Cond.instanceMethod yX3_markBy, Cond.selects RX3 yX3_markBy yX3_markBy, Cond.initialized RX3, Cond.code yX3_markBy cX3_markBy 3 (some .float), Cond.fieldLink RX3 43 "InkRing$Style" "nearness" "I", Cond.fieldLink RX3 7 "InkRing$Parts" "nearness" "F", Cond.fieldLink RX3 47 "InkRing$Style" "slope" "I", Cond.fieldLink RX3 13 "InkRing$Parts" "slope" "F", Cond.fieldLink RX3 49 "InkRing$Style" "order" "I"]
def wsX8_roundGoesTo_r3 : List Cond := [Cond.fieldLink RX3 16 "InkRing$Parts" "order" "F", Cond.constantFloat RX3 51 (1120403456)]
def wsX8_roundGoesTo : List Cond := .code yX8_roundGoesTo cX8_roundGoesTo 7 (some .int) :: ((wsX8_roundGoesTo_r1 ++ (wsX8_roundGoesTo_r2 ++ wsX8_roundGoesTo_r3)) ++ wsX70 ++ wsX00 ++ wsX80 ++ wsX10 ++ wsX60 ++ wsX30)
def wsX8_winnerOf_r1 : List Cond := [Cond.fieldLink RX8 302 "InkRing$Duel" "one" "I", Cond.fieldLink RX8 305 "InkRing$Duel" "other" "I", Cond.methodLink RX8 205 yX0_isOver, Cond.instanceMethod yX0_isOver, Cond.selects RX0 yX0_isOver yX0_isOver, Cond.initialized RX0, Cond.code yX0_isOver cX0_isOver 1 (some .boolean), Cond.fieldLink RX0 43 "InkRing$Duel" "handedIn" "I", Cond.fieldLink RX0 37 "InkRing$Duel" "rounds" "I", Cond.methodLink RX8 299 yX8_roundGoesTo, Cond.instanceMethod yX8_roundGoesTo, Cond.selects RX8 yX8_roundGoesTo yX8_roundGoesTo, Cond.initialized RX8, Cond.code yX8_roundGoesTo cX8_roundGoesTo 7 (some .int), Cond.fieldLink RX8 244 "InkRing$Writing" "found" "Z", Cond.methodLink RX8 234 yX0_writingAt, Cond.instanceMethod yX0_writingAt, Cond.selects RX0 yX0_writingAt yX0_writingAt, Cond.code yX0_writingAt cX0_writingAt 4 (some (.object "InkRing$Writing")), Cond.fieldLink RX0 17 "InkRing$Duel" "writings" "[LInkRing$Writing;", Cond.methodLink RX8 286 yX8_judgedMark, Cond.instanceMethod yX8_judgedMark, Cond.selects RX8 yX8_judgedMark yX8_judgedMark, Cond.code yX8_judgedMark cX8_judgedMark 5 (some .float)]
def wsX8_winnerOf_r2 : List Cond := [Cond.fieldLink RX8 252 "InkRing$Duel" "judge" "I", Cond.fieldLink RX8 294 "InkRing$Duel" "day" "I", Cond.fieldLink RX8 249 "InkRing$Duel" "secondJudge" "I", Cond.methodLink RX8 133 yX8_judgeAt, Cond.instanceMethod yX8_judgeAt, Cond.selects RX8 yX8_judgeAt yX8_judgeAt, Cond.code yX8_judgeAt cX8_judgeAt 2 (some (.object "InkRing$Judge")), Cond.fieldLink RX8 29 "InkRing" "judges" "[LInkRing$Judge;", Cond.methodLink RX8 295 yX8_markByJudge, Cond.instanceMethod yX8_markByJudge, Cond.selects RX8 yX8_markByJudge yX8_markByJudge, Cond.code yX8_markByJudge cX8_markByJudge 7 (some .float), Cond.fieldLink RX8 23 "InkRing" "styles" "[LInkRing$Style;", Cond.methodLink RX8 142 yX1_knowsOn, Cond.instanceMethod yX1_knowsOn, Cond.selects RX1 yX1_knowsOn yX1_knowsOn, Cond.initialized RX1, Cond.code yX1_knowsOn cX1_knowsOn 3 (some .boolean), Cond.fieldLink RX1 9 "InkRing$Judge" "learnedOn" "[I", Cond.methodLink RX8 265 yX7_markBy, Cond.instanceMethod yX7_markBy, Cond.selects RX7 yX7_markBy yX7_markBy, Cond.initialized RX7, Cond.code yX7_markBy cX7_markBy 4 (some .float)]
def wsX8_winnerOf_r3 : List Cond := [Cond.fieldLink RX7 23 "InkRing$Writing" "modelStrokes" "I", Cond.fieldLink RX7 11 "InkRing$Writing" "parts" "[LInkRing$Parts;", Cond.methodLink RX7 34 yX3_markBy, Cond.instanceMethod yX3_markBy, Cond.selects RX3 yX3_markBy yX3_markBy, Cond.initialized RX3, Cond.code yX3_markBy cX3_markBy 3 (some .float), Cond.fieldLink RX3 43 "InkRing$Style" "nearness" "I", Cond.fieldLink RX3 7 "InkRing$Parts" "nearness" "F", Cond.fieldLink RX3 47 "InkRing$Style" "slope" "I", Cond.fieldLink RX3 13 "InkRing$Parts" "slope" "F", Cond.fieldLink RX3 49 "InkRing$Style" "order" "I", Cond.fieldLink RX3 16 "InkRing$Parts" "order" "F", Cond.constantFloat RX3 51 (1120403456)]
def wsX8_winnerOf : List Cond := .code yX8_winnerOf cX8_winnerOf 4 (some .int) :: ((wsX8_winnerOf_r1 ++ (wsX8_winnerOf_r2 ++ wsX8_winnerOf_r3)) ++ wsX00 ++ wsX70 ++ wsX80 ++ wsX10 ++ wsX60 ++ wsX30)
def wsX8_appeal_r1 : List Cond := [Cond.classLink RX8 92 "java/lang/IndexOutOfBoundsException", Cond.initialized "java/lang/IndexOutOfBoundsException", Cond.classLink RX8 64 "java/lang/IllegalStateException", Cond.initialized "java/lang/IllegalStateException", Cond.fieldLink RX8 249 "InkRing$Duel" "secondJudge" "I", Cond.fieldLink RX8 252 "InkRing$Duel" "judge" "I", Cond.methodLink RX8 186 yX8_duelAt, Cond.instanceMethod yX8_duelAt, Cond.selects RX8 yX8_duelAt yX8_duelAt, Cond.initialized RX8, Cond.code yX8_duelAt cX8_duelAt 2 (some (.object "InkRing$Duel")), Cond.fieldLink RX8 35 "InkRing" "duels" "[LInkRing$Duel;", Cond.methodLink RX8 133 yX8_judgeAt, Cond.instanceMethod yX8_judgeAt, Cond.selects RX8 yX8_judgeAt yX8_judgeAt, Cond.code yX8_judgeAt cX8_judgeAt 2 (some (.object "InkRing$Judge")), Cond.fieldLink RX8 29 "InkRing" "judges" "[LInkRing$Judge;", Cond.methodLink RX8 205 yX0_isOver, Cond.instanceMethod yX0_isOver, Cond.selects RX0 yX0_isOver yX0_isOver, Cond.initialized RX0, Cond.code yX0_isOver cX0_isOver 1 (some .boolean), Cond.fieldLink RX0 43 "InkRing$Duel" "handedIn" "I", Cond.fieldLink RX0 37 "InkRing$Duel" "rounds" "I"]
def wsX8_appeal_r2 : List Cond := [Cond.methodLink RX8 257 yX8_winnerOf, Cond.instanceMethod yX8_winnerOf, Cond.selects RX8 yX8_winnerOf yX8_winnerOf, Cond.code yX8_winnerOf cX8_winnerOf 4 (some .int), Cond.fieldLink RX8 302 "InkRing$Duel" "one" "I", Cond.fieldLink RX8 305 "InkRing$Duel" "other" "I", Cond.methodLink RX8 299 yX8_roundGoesTo, Cond.instanceMethod yX8_roundGoesTo, Cond.selects RX8 yX8_roundGoesTo yX8_roundGoesTo, Cond.code yX8_roundGoesTo cX8_roundGoesTo 7 (some .int), Cond.fieldLink RX8 244 "InkRing$Writing" "found" "Z", Cond.methodLink RX8 234 yX0_writingAt, Cond.instanceMethod yX0_writingAt, Cond.selects RX0 yX0_writingAt yX0_writingAt, Cond.code yX0_writingAt cX0_writingAt 4 (some (.object "InkRing$Writing")), Cond.fieldLink RX0 17 "InkRing$Duel" "writings" "[LInkRing$Writing;", Cond.methodLink RX8 286 yX8_judgedMark, Cond.instanceMethod yX8_judgedMark, Cond.selects RX8 yX8_judgedMark yX8_judgedMark, Cond.code yX8_judgedMark cX8_judgedMark 5 (some .float), Cond.fieldLink RX8 294 "InkRing$Duel" "day" "I", Cond.methodLink RX8 295 yX8_markByJudge, Cond.instanceMethod yX8_markByJudge, Cond.selects RX8 yX8_markByJudge yX8_markByJudge]
def wsX8_appeal_r3 : List Cond := [Cond.code yX8_markByJudge cX8_markByJudge 7 (some .float), Cond.fieldLink RX8 23 "InkRing" "styles" "[LInkRing$Style;", Cond.methodLink RX8 142 yX1_knowsOn, Cond.instanceMethod yX1_knowsOn, Cond.selects RX1 yX1_knowsOn yX1_knowsOn, Cond.initialized RX1, Cond.code yX1_knowsOn cX1_knowsOn 3 (some .boolean), Cond.fieldLink RX1 9 "InkRing$Judge" "learnedOn" "[I", Cond.methodLink RX8 265 yX7_markBy, Cond.instanceMethod yX7_markBy, Cond.selects RX7 yX7_markBy yX7_markBy, Cond.initialized RX7, Cond.code yX7_markBy cX7_markBy 4 (some .float), Cond.fieldLink RX7 23 "InkRing$Writing" "modelStrokes" "I", Cond.fieldLink RX7 11 "InkRing$Writing" "parts" "[LInkRing$Parts;", Cond.methodLink RX7 34 yX3_markBy, Cond.instanceMethod yX3_markBy, Cond.selects RX3 yX3_markBy yX3_markBy, Cond.initialized RX3, Cond.code yX3_markBy cX3_markBy 3 (some .float), Cond.fieldLink RX3 43 "InkRing$Style" "nearness" "I", Cond.fieldLink RX3 7 "InkRing$Parts" "nearness" "F", Cond.fieldLink RX3 47 "InkRing$Style" "slope" "I", Cond.fieldLink RX3 13 "InkRing$Parts" "slope" "F"]
def wsX8_appeal_r4 : List Cond := [Cond.fieldLink RX3 49 "InkRing$Style" "order" "I", Cond.fieldLink RX3 16 "InkRing$Parts" "order" "F", Cond.constantFloat RX3 51 (1120403456)]
def wsX8_appeal : List Cond := .code yX8_appeal cX8_appeal 4 (some .int) :: ((wsX8_appeal_r1 ++ (wsX8_appeal_r2 ++ (wsX8_appeal_r3 ++ wsX8_appeal_r4))) ++ wsX00 ++ wsX80 ++ wsX70 ++ wsX10 ++ wsX60 ++ wsX30 ++ (vx_atS RX8 96 "java/lang/IndexOutOfBoundsException" ["java/lang/RuntimeException", "java/lang/Exception"]).filter goodWord ++ (vx_atS RX8 68 "java/lang/IllegalStateException" ["java/lang/RuntimeException", "java/lang/Exception"]).filter goodWord)
def wsX8_prompt : List Cond := .code yX8_prompt cX8_prompt 5 (some .int) :: ([.classLink RX8 92 "java/lang/IndexOutOfBoundsException", .initialized "java/lang/IndexOutOfBoundsException", .methodLink RX8 186 yX8_duelAt, .instanceMethod yX8_duelAt, .selects RX8 yX8_duelAt yX8_duelAt, .initialized RX8, .code yX8_duelAt cX8_duelAt 2 (some (.object "InkRing$Duel")), .fieldLink RX8 35 "InkRing" "duels" "[LInkRing$Duel;", .methodLink RX8 197 yX0_promptAt, .instanceMethod yX0_promptAt, .selects RX0 yX0_promptAt yX0_promptAt, .initialized RX0, .code yX0_promptAt cX0_promptAt 2 (some .int), .fieldLink RX0 9 "InkRing$Duel" "prompts" "[I"] ++ wsX80 ++ wsX00 ++ (vx_atS RX8 96 "java/lang/IndexOutOfBoundsException" ["java/lang/RuntimeException", "java/lang/Exception"]).filter goodWord)
def wsX8_mark_r1 : List Cond := [Cond.classLink RX8 92 "java/lang/IndexOutOfBoundsException", Cond.initialized "java/lang/IndexOutOfBoundsException", Cond.classLink RX8 226 RX7, Cond.instantiable RX7 4, Cond.initialized RX7, Cond.fieldLink RX8 40 "InkRing" "draft" "LInkRing$Strokes;", Cond.methodLink RX8 201 yX8_signAt, Cond.instanceMethod yX8_signAt, Cond.selects RX8 yX8_signAt yX8_signAt, Cond.initialized RX8, Cond.code yX8_signAt cX8_signAt 2 (some (.object "InkRing$Strokes")), Cond.fieldLink RX8 11 "InkRing" "signs" "[LInkRing$Strokes;", Cond.methodLink RX8 116 yX8_styleAt, Cond.instanceMethod yX8_styleAt, Cond.selects RX8 yX8_styleAt yX8_styleAt, Cond.code yX8_styleAt cX8_styleAt 2 (some (.object "InkRing$Style")), Cond.fieldLink RX8 23 "InkRing" "styles" "[LInkRing$Style;", Cond.methodLink RX8 228 yX7_init, Cond.instanceMethod yX7_init, Cond.code yX7_init cX7_init 6 none, Cond.methodLink RX7 3 objectInit, Cond.instanceMethod objectInit, Cond.code objectInit ⟨#[0xb1]⟩ 1 none, Cond.classLink RX7 9 RX3]
def wsX8_mark_r2 : List Cond := [Cond.fieldLink RX7 11 "InkRing$Writing" "parts" "[LInkRing$Parts;", Cond.fieldLink RX7 17 "InkRing$Strokes" "count" "I", Cond.fieldLink RX7 23 "InkRing$Writing" "modelStrokes" "I", Cond.fieldLink RX7 26 "InkRing$Writing" "forged" "Z", Cond.methodLink RX7 30 yX3_between, Cond.static yX3_between, Cond.initialized RX3, Cond.code yX3_between cX3_between 7 (some (.object "InkRing$Parts")), Cond.fieldLink RX3 25 "InkRing$Strokes" "count" "I", Cond.constantFloat RX3 29 (1092616192), Cond.classLink RX3 8 RX3, Cond.instantiable RX3 3, Cond.methodLink RX3 19 yX5_at, Cond.instanceMethod yX5_at, Cond.selects RX5 yX5_at yX5_at, Cond.initialized RX5, Cond.code yX5_at cX5_at 2 (some (.object "InkRing$Stroke")), Cond.fieldLink RX5 17 "InkRing$Strokes" "count" "I", Cond.fieldLink RX5 11 "InkRing$Strokes" "row" "[LInkRing$Stroke;", Cond.methodLink RX3 30 yX4_nearnessTo, Cond.instanceMethod yX4_nearnessTo, Cond.selects RX4 yX4_nearnessTo yX4_nearnessTo, Cond.initialized RX4, Cond.code yX4_nearnessTo cX4_nearnessTo 5 (some .float)]
def wsX8_mark_r3 : List Cond := [Cond.fieldLink RX4 7 "InkRing$Stroke" "x" "I", Cond.methodLink RX4 22 Lib.Math.abs.name, Cond.static Lib.Math.abs.name, Cond.initialized "java/lang/Math", Cond.code Lib.Math.abs.name Lib.Math.abs.code 1 (some .int), Cond.fieldLink RX4 13 "InkRing$Stroke" "y" "I", Cond.fieldLink RX4 16 "InkRing$Stroke" "endX" "I", Cond.fieldLink RX4 19 "InkRing$Stroke" "endY" "I", Cond.constantFloat RX4 28 (1092616192), Cond.constantFloat RX4 29 (1128792064), Cond.methodLink RX3 36 yX4_slopeTo, Cond.instanceMethod yX4_slopeTo, Cond.selects RX4 yX4_slopeTo yX4_slopeTo, Cond.code yX4_slopeTo cX4_slopeTo 7 (some .float), Cond.methodLink RX4 30 yX4_squaredWay, Cond.instanceMethod yX4_squaredWay, Cond.selects RX4 yX4_squaredWay yX4_squaredWay, Cond.code yX4_squaredWay cX4_squaredWay 1 (some .int), Cond.methodLink RX3 40 yX3_init, Cond.instanceMethod yX3_init, Cond.code yX3_init cX3_init 4 none, Cond.methodLink RX3 1 objectInit, Cond.fieldLink RX3 7 "InkRing$Parts" "nearness" "F", Cond.fieldLink RX3 13 "InkRing$Parts" "slope" "F"]
def wsX8_mark_r4 : List Cond := [Cond.fieldLink RX3 16 "InkRing$Parts" "order" "F", Cond.methodLink RX8 265 yX7_markBy, Cond.instanceMethod yX7_markBy, Cond.selects RX7 yX7_markBy yX7_markBy, Cond.code yX7_markBy cX7_markBy 4 (some .float), Cond.methodLink RX7 34 yX3_markBy, Cond.instanceMethod yX3_markBy, Cond.selects RX3 yX3_markBy yX3_markBy, Cond.code yX3_markBy cX3_markBy 3 (some .float), Cond.fieldLink RX3 43 "InkRing$Style" "nearness" "I", Cond.fieldLink RX3 47 "InkRing$Style" "slope" "I", Cond.fieldLink RX3 49 "InkRing$Style" "order" "I", Cond.constantFloat RX3 51 (1120403456)]
def wsX8_mark : List Cond := .code yX8_mark cX8_mark 5 (some .float) :: ((wsX8_mark_r1 ++ (wsX8_mark_r2 ++ (wsX8_mark_r3 ++ wsX8_mark_r4))) ++ wsX70 ++ wsX80 ++ wsX50 ++ wsX30 ++ wsX40 ++ wsX60 ++ (vx_atS RX8 96 "java/lang/IndexOutOfBoundsException" ["java/lang/RuntimeException", "java/lang/Exception"]).filter goodWord)
def wsX8_part_r1 : List Cond := [Cond.classLink RX8 92 "java/lang/IndexOutOfBoundsException", Cond.initialized "java/lang/IndexOutOfBoundsException", Cond.classLink RX8 51 "java/lang/IllegalArgumentException", Cond.initialized "java/lang/IllegalArgumentException", Cond.fieldLink RX8 40 "InkRing" "draft" "LInkRing$Strokes;", Cond.fieldLink RX8 277 "InkRing$Parts" "nearness" "F", Cond.fieldLink RX8 280 "InkRing$Parts" "slope" "F", Cond.fieldLink RX8 282 "InkRing$Parts" "order" "F", Cond.methodLink RX8 201 yX8_signAt, Cond.instanceMethod yX8_signAt, Cond.selects RX8 yX8_signAt yX8_signAt, Cond.initialized RX8, Cond.code yX8_signAt cX8_signAt 2 (some (.object "InkRing$Strokes")), Cond.fieldLink RX8 11 "InkRing" "signs" "[LInkRing$Strokes;", Cond.methodLink RX8 269 yX3_between, Cond.static yX3_between, Cond.initialized RX3, Cond.code yX3_between cX3_between 7 (some (.object "InkRing$Parts")), Cond.fieldLink RX3 25 "InkRing$Strokes" "count" "I", Cond.constantFloat RX3 29 (1092616192), Cond.classLink RX3 8 RX3, Cond.instantiable RX3 3, Cond.methodLink RX3 19 yX5_at, Cond.instanceMethod yX5_at]
def wsX8_part_r2 : List Cond := [Cond.selects RX5 yX5_at yX5_at, Cond.initialized RX5, Cond.code yX5_at cX5_at 2 (some (.object "InkRing$Stroke")), Cond.fieldLink RX5 17 "InkRing$Strokes" "count" "I", Cond.fieldLink RX5 11 "InkRing$Strokes" "row" "[LInkRing$Stroke;", Cond.methodLink RX3 30 yX4_nearnessTo, Cond.instanceMethod yX4_nearnessTo, Cond.selects RX4 yX4_nearnessTo yX4_nearnessTo, Cond.initialized RX4, Cond.code yX4_nearnessTo cX4_nearnessTo 5 (some .float), Cond.fieldLink RX4 7 "InkRing$Stroke" "x" "I", Cond.methodLink RX4 22 Lib.Math.abs.name, Cond.static Lib.Math.abs.name, Cond.initialized "java/lang/Math", Cond.code Lib.Math.abs.name Lib.Math.abs.code 1 (some .int), Cond.fieldLink RX4 13 "InkRing$Stroke" "y" "I", Cond.fieldLink RX4 16 "InkRing$Stroke" "endX" "I", Cond.fieldLink RX4 19 "InkRing$Stroke" "endY" "I", Cond.constantFloat RX4 28 (1092616192), Cond.constantFloat RX4 29 (1128792064), Cond.methodLink RX3 36 yX4_slopeTo, Cond.instanceMethod yX4_slopeTo, Cond.selects RX4 yX4_slopeTo yX4_slopeTo, Cond.code yX4_slopeTo cX4_slopeTo 7 (some .float)]
def wsX8_part_r3 : List Cond := [Cond.methodLink RX4 30 yX4_squaredWay, Cond.instanceMethod yX4_squaredWay, Cond.selects RX4 yX4_squaredWay yX4_squaredWay, Cond.code yX4_squaredWay cX4_squaredWay 1 (some .int), Cond.methodLink RX3 40 yX3_init, Cond.instanceMethod yX3_init, Cond.code yX3_init cX3_init 4 none, Cond.methodLink RX3 1 objectInit, Cond.instanceMethod objectInit, Cond.code objectInit ⟨#[0xb1]⟩ 1 none, Cond.fieldLink RX3 7 "InkRing$Parts" "nearness" "F", Cond.fieldLink RX3 13 "InkRing$Parts" "slope" "F", Cond.fieldLink RX3 16 "InkRing$Parts" "order" "F"]
def wsX8_part : List Cond := .code yX8_part cX8_part 6 (some .float) :: ((wsX8_part_r1 ++ (wsX8_part_r2 ++ wsX8_part_r3)) ++ wsX80 ++ wsX30 ++ wsX50 ++ wsX40 ++ (vx_atS RX8 96 "java/lang/IndexOutOfBoundsException" ["java/lang/RuntimeException", "java/lang/Exception"]).filter goodWord ++ (vx_atS RX8 55 "java/lang/IllegalArgumentException" ["java/lang/RuntimeException", "java/lang/Exception"]).filter goodWord)
def wsX8_marked_r1 : List Cond := [Cond.classLink RX8 92 "java/lang/IndexOutOfBoundsException", Cond.initialized "java/lang/IndexOutOfBoundsException", Cond.methodLink RX8 186 yX8_duelAt, Cond.instanceMethod yX8_duelAt, Cond.selects RX8 yX8_duelAt yX8_duelAt, Cond.initialized RX8, Cond.code yX8_duelAt cX8_duelAt 2 (some (.object "InkRing$Duel")), Cond.fieldLink RX8 35 "InkRing" "duels" "[LInkRing$Duel;", Cond.methodLink RX8 234 yX0_writingAt, Cond.instanceMethod yX0_writingAt, Cond.selects RX0 yX0_writingAt yX0_writingAt, Cond.initialized RX0, Cond.code yX0_writingAt cX0_writingAt 4 (some (.object "InkRing$Writing")), Cond.fieldLink RX0 17 "InkRing$Duel" "writings" "[LInkRing$Writing;", Cond.methodLink RX8 286 yX8_judgedMark, Cond.instanceMethod yX8_judgedMark, Cond.selects RX8 yX8_judgedMark yX8_judgedMark, Cond.code yX8_judgedMark cX8_judgedMark 5 (some .float), Cond.fieldLink RX8 252 "InkRing$Duel" "judge" "I", Cond.fieldLink RX8 294 "InkRing$Duel" "day" "I", Cond.fieldLink RX8 249 "InkRing$Duel" "secondJudge" "I", Cond.methodLink RX8 133 yX8_judgeAt, Cond.instanceMethod yX8_judgeAt, Cond.selects RX8 yX8_judgeAt yX8_judgeAt]
def wsX8_marked_r2 : List Cond := [Cond.code yX8_judgeAt cX8_judgeAt 2 (some (.object "InkRing$Judge")), Cond.fieldLink RX8 29 "InkRing" "judges" "[LInkRing$Judge;", Cond.methodLink RX8 295 yX8_markByJudge, Cond.instanceMethod yX8_markByJudge, Cond.selects RX8 yX8_markByJudge yX8_markByJudge, Cond.code yX8_markByJudge cX8_markByJudge 7 (some .float), Cond.fieldLink RX8 23 "InkRing" "styles" "[LInkRing$Style;", Cond.methodLink RX8 142 yX1_knowsOn, Cond.instanceMethod yX1_knowsOn, Cond.selects RX1 yX1_knowsOn yX1_knowsOn, Cond.initialized RX1, Cond.code yX1_knowsOn cX1_knowsOn 3 (some .boolean), Cond.fieldLink RX1 9 "InkRing$Judge" "learnedOn" "[I", Cond.methodLink RX8 265 yX7_markBy, Cond.instanceMethod yX7_markBy, Cond.selects RX7 yX7_markBy yX7_markBy, Cond.initialized RX7, Cond.code yX7_markBy cX7_markBy 4 (some .float), Cond.fieldLink RX7 23 "InkRing$Writing" "modelStrokes" "I", Cond.fieldLink RX7 11 "InkRing$Writing" "parts" "[LInkRing$Parts;", Cond.methodLink RX7 34 yX3_markBy, Cond.instanceMethod yX3_markBy, Cond.selects RX3 yX3_markBy yX3_markBy, Cond.initialized RX3]
def wsX8_marked_r3 : List Cond := [Cond.code yX3_markBy cX3_markBy 3 (some .float), Cond.fieldLink RX3 43 "InkRing$Style" "nearness" "I", Cond.fieldLink RX3 7 "InkRing$Parts" "nearness" "F", Cond.fieldLink RX3 47 "InkRing$Style" "slope" "I", Cond.fieldLink RX3 13 "InkRing$Parts" "slope" "F", Cond.fieldLink RX3 49 "InkRing$Style" "order" "I", Cond.fieldLink RX3 16 "InkRing$Parts" "order" "F", Cond.constantFloat RX3 51 (1120403456)]
def wsX8_marked : List Cond := .code yX8_marked cX8_marked 6 (some .float) :: ((wsX8_marked_r1 ++ (wsX8_marked_r2 ++ wsX8_marked_r3)) ++ wsX80 ++ wsX00 ++ wsX10 ++ wsX70 ++ wsX60 ++ wsX30 ++ (vx_atS RX8 96 "java/lang/IndexOutOfBoundsException" ["java/lang/RuntimeException", "java/lang/Exception"]).filter goodWord)
def wsX8_countRounds_r1 : List Cond := [Cond.methodLink RX8 299 yX8_roundGoesTo, Cond.instanceMethod yX8_roundGoesTo, Cond.selects RX8 yX8_roundGoesTo yX8_roundGoesTo, Cond.initialized RX8, Cond.code yX8_roundGoesTo cX8_roundGoesTo 7 (some .int), Cond.fieldLink RX8 244 "InkRing$Writing" "found" "Z", Cond.methodLink RX8 234 yX0_writingAt, Cond.instanceMethod yX0_writingAt, Cond.selects RX0 yX0_writingAt yX0_writingAt, Cond.initialized RX0, Cond.code yX0_writingAt cX0_writingAt 4 (some (.object "InkRing$Writing")), Cond.fieldLink RX0 17 "InkRing$Duel" "writings" "[LInkRing$Writing;", Cond.methodLink RX8 286 yX8_judgedMark, Cond.instanceMethod yX8_judgedMark, Cond.selects RX8 yX8_judgedMark yX8_judgedMark, Cond.code yX8_judgedMark cX8_judgedMark 5 (some .float), Cond.fieldLink RX8 252 "InkRing$Duel" "judge" "I", Cond.fieldLink RX8 294 "InkRing$Duel" "day" "I", Cond.fieldLink RX8 249 "InkRing$Duel" "secondJudge" "I", Cond.methodLink RX8 133 yX8_judgeAt, Cond.instanceMethod yX8_judgeAt, Cond.selects RX8 yX8_judgeAt yX8_judgeAt, Cond.code yX8_judgeAt cX8_judgeAt 2 (some (.object "InkRing$Judge")), Cond.fieldLink RX8 29 "InkRing" "judges" "[LInkRing$Judge;"]
def wsX8_countRounds_r2 : List Cond := [Cond.methodLink RX8 295 yX8_markByJudge, Cond.instanceMethod yX8_markByJudge, Cond.selects RX8 yX8_markByJudge yX8_markByJudge, Cond.code yX8_markByJudge cX8_markByJudge 7 (some .float), Cond.fieldLink RX8 23 "InkRing" "styles" "[LInkRing$Style;", Cond.methodLink RX8 142 yX1_knowsOn, Cond.instanceMethod yX1_knowsOn, Cond.selects RX1 yX1_knowsOn yX1_knowsOn, Cond.initialized RX1, Cond.code yX1_knowsOn cX1_knowsOn 3 (some .boolean), Cond.fieldLink RX1 9 "InkRing$Judge" "learnedOn" "[I", Cond.methodLink RX8 265 yX7_markBy, Cond.instanceMethod yX7_markBy, Cond.selects RX7 yX7_markBy yX7_markBy, Cond.initialized RX7, Cond.code yX7_markBy cX7_markBy 4 (some .float), Cond.fieldLink RX7 23 "InkRing$Writing" "modelStrokes" "I", Cond.fieldLink RX7 11 "InkRing$Writing" "parts" "[LInkRing$Parts;", Cond.methodLink RX7 34 yX3_markBy, Cond.instanceMethod yX3_markBy, Cond.selects RX3 yX3_markBy yX3_markBy, Cond.initialized RX3, Cond.code yX3_markBy cX3_markBy 3 (some .float), Cond.fieldLink RX3 43 "InkRing$Style" "nearness" "I"]
def wsX8_countRounds_r3 : List Cond := [Cond.fieldLink RX3 7 "InkRing$Parts" "nearness" "F", Cond.fieldLink RX3 47 "InkRing$Style" "slope" "I", Cond.fieldLink RX3 13 "InkRing$Parts" "slope" "F", Cond.fieldLink RX3 49 "InkRing$Style" "order" "I", Cond.fieldLink RX3 16 "InkRing$Parts" "order" "F", Cond.constantFloat RX3 51 (1120403456)]
def wsX8_countRounds : List Cond := .code yX8_countRounds cX8_countRounds 5 (some .int) :: ((wsX8_countRounds_r1 ++ (wsX8_countRounds_r2 ++ wsX8_countRounds_r3)) ++ wsX70 ++ wsX00 ++ wsX80 ++ wsX10 ++ wsX60 ++ wsX30)
def wsX8_of_r1 : List Cond := [Cond.classLink RX8 92 "java/lang/IndexOutOfBoundsException", Cond.initialized "java/lang/IndexOutOfBoundsException", Cond.classLink RX8 51 "java/lang/IllegalArgumentException", Cond.initialized "java/lang/IllegalArgumentException", Cond.fieldLink RX8 194 "InkRing$Duel" "handedIn" "I", Cond.fieldLink RX8 294 "InkRing$Duel" "day" "I", Cond.fieldLink RX8 249 "InkRing$Duel" "secondJudge" "I", Cond.methodLink RX8 186 yX8_duelAt, Cond.instanceMethod yX8_duelAt, Cond.selects RX8 yX8_duelAt yX8_duelAt, Cond.initialized RX8, Cond.code yX8_duelAt cX8_duelAt 2 (some (.object "InkRing$Duel")), Cond.fieldLink RX8 35 "InkRing" "duels" "[LInkRing$Duel;", Cond.methodLink RX8 290 yX8_countRounds, Cond.instanceMethod yX8_countRounds, Cond.selects RX8 yX8_countRounds yX8_countRounds, Cond.code yX8_countRounds cX8_countRounds 5 (some .int), Cond.methodLink RX8 299 yX8_roundGoesTo, Cond.instanceMethod yX8_roundGoesTo, Cond.selects RX8 yX8_roundGoesTo yX8_roundGoesTo, Cond.code yX8_roundGoesTo cX8_roundGoesTo 7 (some .int), Cond.fieldLink RX8 244 "InkRing$Writing" "found" "Z", Cond.methodLink RX8 234 yX0_writingAt, Cond.instanceMethod yX0_writingAt]
def wsX8_of_r2 : List Cond := [Cond.selects RX0 yX0_writingAt yX0_writingAt, Cond.initialized RX0, Cond.code yX0_writingAt cX0_writingAt 4 (some (.object "InkRing$Writing")), Cond.fieldLink RX0 17 "InkRing$Duel" "writings" "[LInkRing$Writing;", Cond.methodLink RX8 286 yX8_judgedMark, Cond.instanceMethod yX8_judgedMark, Cond.selects RX8 yX8_judgedMark yX8_judgedMark, Cond.code yX8_judgedMark cX8_judgedMark 5 (some .float), Cond.fieldLink RX8 252 "InkRing$Duel" "judge" "I", Cond.methodLink RX8 133 yX8_judgeAt, Cond.instanceMethod yX8_judgeAt, Cond.selects RX8 yX8_judgeAt yX8_judgeAt, Cond.code yX8_judgeAt cX8_judgeAt 2 (some (.object "InkRing$Judge")), Cond.fieldLink RX8 29 "InkRing" "judges" "[LInkRing$Judge;", Cond.methodLink RX8 295 yX8_markByJudge, Cond.instanceMethod yX8_markByJudge, Cond.selects RX8 yX8_markByJudge yX8_markByJudge, Cond.code yX8_markByJudge cX8_markByJudge 7 (some .float), Cond.fieldLink RX8 23 "InkRing" "styles" "[LInkRing$Style;", Cond.methodLink RX8 142 yX1_knowsOn, Cond.instanceMethod yX1_knowsOn, Cond.selects RX1 yX1_knowsOn yX1_knowsOn, Cond.initialized RX1, Cond.code yX1_knowsOn cX1_knowsOn 3 (some .boolean)]
def wsX8_of_r3 : List Cond := [Cond.fieldLink RX1 9 "InkRing$Judge" "learnedOn" "[I", Cond.methodLink RX8 265 yX7_markBy, Cond.instanceMethod yX7_markBy, Cond.selects RX7 yX7_markBy yX7_markBy, Cond.initialized RX7, Cond.code yX7_markBy cX7_markBy 4 (some .float), Cond.fieldLink RX7 23 "InkRing$Writing" "modelStrokes" "I", Cond.fieldLink RX7 11 "InkRing$Writing" "parts" "[LInkRing$Parts;", Cond.methodLink RX7 34 yX3_markBy, Cond.instanceMethod yX3_markBy, Cond.selects RX3 yX3_markBy yX3_markBy, Cond.initialized RX3, Cond.code yX3_markBy cX3_markBy 3 (some .float), Cond.fieldLink RX3 43 "InkRing$Style" "nearness" "I", Cond.fieldLink RX3 7 "InkRing$Parts" "nearness" "F", Cond.fieldLink RX3 47 "InkRing$Style" "slope" "I", Cond.fieldLink RX3 13 "InkRing$Parts" "slope" "F", Cond.fieldLink RX3 49 "InkRing$Style" "order" "I", Cond.fieldLink RX3 16 "InkRing$Parts" "order" "F", Cond.constantFloat RX3 51 (1120403456), Cond.methodLink RX8 257 yX8_winnerOf, Cond.instanceMethod yX8_winnerOf, Cond.selects RX8 yX8_winnerOf yX8_winnerOf, Cond.code yX8_winnerOf cX8_winnerOf 4 (some .int)]
def wsX8_of_r4 : List Cond := [Cond.fieldLink RX8 302 "InkRing$Duel" "one" "I", Cond.fieldLink RX8 305 "InkRing$Duel" "other" "I", Cond.methodLink RX8 205 yX0_isOver, Cond.instanceMethod yX0_isOver, Cond.selects RX0 yX0_isOver yX0_isOver, Cond.code yX0_isOver cX0_isOver 1 (some .boolean), Cond.fieldLink RX0 43 "InkRing$Duel" "handedIn" "I", Cond.fieldLink RX0 37 "InkRing$Duel" "rounds" "I"]
def wsX8_of : List Cond := .code yX8_of cX8_of 4 (some .int) :: ((wsX8_of_r1 ++ (wsX8_of_r2 ++ (wsX8_of_r3 ++ wsX8_of_r4))) ++ wsX00 ++ wsX80 ++ wsX70 ++ wsX10 ++ wsX60 ++ wsX30 ++ (vx_atS RX8 96 "java/lang/IndexOutOfBoundsException" ["java/lang/RuntimeException", "java/lang/Exception"]).filter goodWord ++ (vx_atS RX8 55 "java/lang/IllegalArgumentException" ["java/lang/RuntimeException", "java/lang/Exception"]).filter goodWord)
def wsX8_paper : List Cond := .code yX8_paper cX8_paper 4 (some .int) :: ([.classLink RX8 92 "java/lang/IndexOutOfBoundsException", .initialized "java/lang/IndexOutOfBoundsException", .classLink RX8 51 "java/lang/IllegalArgumentException", .initialized "java/lang/IllegalArgumentException", .fieldLink RX8 103 "InkRing$Paper" "sheets" "I", .fieldLink RX8 113 "InkRing$Paper" "damp" "I", .methodLink RX8 88 yX8_paperAt, .instanceMethod yX8_paperAt, .selects RX8 yX8_paperAt yX8_paperAt, .initialized RX8, .code yX8_paperAt cX8_paperAt 2 (some (.object "InkRing$Paper")), .fieldLink RX8 17 "InkRing" "papers" "[LInkRing$Paper;"] ++ wsX20 ++ wsX80 ++ (vx_atS RX8 96 "java/lang/IndexOutOfBoundsException" ["java/lang/RuntimeException", "java/lang/Exception"]).filter goodWord ++ (vx_atS RX8 55 "java/lang/IllegalArgumentException" ["java/lang/RuntimeException", "java/lang/Exception"]).filter goodWord)
def wsX8_won_r1 : List Cond := [Cond.classLink RX8 92 "java/lang/IndexOutOfBoundsException", Cond.initialized "java/lang/IndexOutOfBoundsException", Cond.fieldLink RX8 35 "InkRing" "duels" "[LInkRing$Duel;", Cond.methodLink RX8 163 yX8_isWriter, Cond.static yX8_isWriter, Cond.initialized RX8, Cond.code yX8_isWriter cX8_isWriter 1 (some .boolean), Cond.methodLink RX8 97 yX8_isWithin, Cond.static yX8_isWithin, Cond.code yX8_isWithin cX8_isWithin 3 (some .boolean), Cond.methodLink RX8 257 yX8_winnerOf, Cond.instanceMethod yX8_winnerOf, Cond.selects RX8 yX8_winnerOf yX8_winnerOf, Cond.code yX8_winnerOf cX8_winnerOf 4 (some .int), Cond.fieldLink RX8 302 "InkRing$Duel" "one" "I", Cond.fieldLink RX8 305 "InkRing$Duel" "other" "I", Cond.methodLink RX8 205 yX0_isOver, Cond.instanceMethod yX0_isOver, Cond.selects RX0 yX0_isOver yX0_isOver, Cond.initialized RX0, Cond.code yX0_isOver cX0_isOver 1 (some .boolean), Cond.fieldLink RX0 43 "InkRing$Duel" "handedIn" "I", Cond.fieldLink RX0 37 "InkRing$Duel" "rounds" "I", Cond.methodLink RX8 299 yX8_roundGoesTo]
def wsX8_won_r2 : List Cond := [Cond.instanceMethod yX8_roundGoesTo, Cond.selects RX8 yX8_roundGoesTo yX8_roundGoesTo, Cond.code yX8_roundGoesTo cX8_roundGoesTo 7 (some .int), Cond.fieldLink RX8 244 "InkRing$Writing" "found" "Z", Cond.methodLink RX8 234 yX0_writingAt, Cond.instanceMethod yX0_writingAt, Cond.selects RX0 yX0_writingAt yX0_writingAt, Cond.code yX0_writingAt cX0_writingAt 4 (some (.object "InkRing$Writing")), Cond.fieldLink RX0 17 "InkRing$Duel" "writings" "[LInkRing$Writing;", Cond.methodLink RX8 286 yX8_judgedMark, Cond.instanceMethod yX8_judgedMark, Cond.selects RX8 yX8_judgedMark yX8_judgedMark, Cond.code yX8_judgedMark cX8_judgedMark 5 (some .float), Cond.fieldLink RX8 252 "InkRing$Duel" "judge" "I", Cond.fieldLink RX8 294 "InkRing$Duel" "day" "I", Cond.fieldLink RX8 249 "InkRing$Duel" "secondJudge" "I", Cond.methodLink RX8 133 yX8_judgeAt, Cond.instanceMethod yX8_judgeAt, Cond.selects RX8 yX8_judgeAt yX8_judgeAt, Cond.code yX8_judgeAt cX8_judgeAt 2 (some (.object "InkRing$Judge")), Cond.fieldLink RX8 29 "InkRing" "judges" "[LInkRing$Judge;", Cond.methodLink RX8 295 yX8_markByJudge, Cond.instanceMethod yX8_markByJudge, Cond.selects RX8 yX8_markByJudge yX8_markByJudge]
def wsX8_won_r3 : List Cond := [Cond.code yX8_markByJudge cX8_markByJudge 7 (some .float), Cond.fieldLink RX8 23 "InkRing" "styles" "[LInkRing$Style;", Cond.methodLink RX8 142 yX1_knowsOn, Cond.instanceMethod yX1_knowsOn, Cond.selects RX1 yX1_knowsOn yX1_knowsOn, Cond.initialized RX1, Cond.code yX1_knowsOn cX1_knowsOn 3 (some .boolean), Cond.fieldLink RX1 9 "InkRing$Judge" "learnedOn" "[I", Cond.methodLink RX8 265 yX7_markBy, Cond.instanceMethod yX7_markBy, Cond.selects RX7 yX7_markBy yX7_markBy, Cond.initialized RX7, Cond.code yX7_markBy cX7_markBy 4 (some .float), Cond.fieldLink RX7 23 "InkRing$Writing" "modelStrokes" "I", Cond.fieldLink RX7 11 "InkRing$Writing" "parts" "[LInkRing$Parts;", Cond.methodLink RX7 34 yX3_markBy, Cond.instanceMethod yX3_markBy, Cond.selects RX3 yX3_markBy yX3_markBy, Cond.initialized RX3, Cond.code yX3_markBy cX3_markBy 3 (some .float), Cond.fieldLink RX3 43 "InkRing$Style" "nearness" "I", Cond.fieldLink RX3 7 "InkRing$Parts" "nearness" "F", Cond.fieldLink RX3 47 "InkRing$Style" "slope" "I", Cond.fieldLink RX3 13 "InkRing$Parts" "slope" "F"]
def wsX8_won_r4 : List Cond := [Cond.fieldLink RX3 49 "InkRing$Style" "order" "I", Cond.fieldLink RX3 16 "InkRing$Parts" "order" "F", Cond.constantFloat RX3 51 (1120403456)]
def wsX8_won : List Cond := .code yX8_won cX8_won 4 (some .int) :: ((wsX8_won_r1 ++ (wsX8_won_r2 ++ (wsX8_won_r3 ++ wsX8_won_r4))) ++ wsX80 ++ wsX00 ++ wsX70 ++ wsX10 ++ wsX60 ++ wsX30 ++ (vx_atS RX8 96 "java/lang/IndexOutOfBoundsException" ["java/lang/RuntimeException", "java/lang/Exception"]).filter goodWord)
def wsX9_init_r1 : List Cond := [Cond.methodLink RX9 1 objectInit, Cond.instanceMethod objectInit, Cond.code objectInit ⟨#[0xb1]⟩ 1 none, Cond.arrayClass .int, Cond.fieldLink RX9 7 "InkRingModel" "draft" "[I", Cond.fieldLink RX9 13 "InkRingModel" "longOf" "[I", Cond.fieldLink RX9 16 "InkRingModel" "models" "[I", Cond.fieldLink RX9 19 "InkRingModel" "sheets" "[I", Cond.fieldLink RX9 22 "InkRingModel" "damp" "[I", Cond.fieldLink RX9 25 "InkRingModel" "rises" "[I", Cond.fieldLink RX9 28 "InkRingModel" "weights" "[I", Cond.fieldLink RX9 31 "InkRingModel" "learned" "[I", Cond.fieldLink RX9 34 "InkRingModel" "one" "[I", Cond.fieldLink RX9 37 "InkRingModel" "other" "[I", Cond.fieldLink RX9 40 "InkRingModel" "judge" "[I", Cond.fieldLink RX9 43 "InkRingModel" "second" "[I", Cond.fieldLink RX9 46 "InkRingModel" "paper" "[I", Cond.fieldLink RX9 49 "InkRingModel" "rounds" "[I", Cond.fieldLink RX9 52 "InkRingModel" "draw" "[I", Cond.fieldLink RX9 55 "InkRingModel" "signsThen" "[I", Cond.fieldLink RX9 58 "InkRingModel" "began" "[I", Cond.fieldLink RX9 61 "InkRingModel" "handed" "[I", Cond.fieldLink RX9 64 "InkRingModel" "strokes" "[I", Cond.fieldLink RX9 67 "InkRingModel" "dampThen" "[I"]
def wsX9_init_r2 : List Cond := [Cond.arrayClass .boolean, Cond.fieldLink RX9 70 "InkRingModel" "isForged" "[Z", Cond.fieldLink RX9 74 "InkRingModel" "isFound" "[Z", Cond.fieldLink RX9 77 "InkRingModel" "writings" "[I"]
def wsX9_init : List Cond := .code yX9_init cX9_init 2 none :: ((wsX9_init_r1 ++ wsX9_init_r2) ++ wsX90)
def wsX9_thrown : List Cond := .code yX9_thrown cX9_thrown 1 (some .int) :: ([.fieldLink RX9 80 "InkRingModel" "thrown" "I"] ++ wsX90)
def wsX9_in : List Cond := .code yX9_in cX9_in 3 (some .boolean) :: ([])
def wsX9_goes : List Cond := .code yX9_goes cX9_goes 4 (some .boolean) :: ([.fieldLink RX9 80 "InkRingModel" "thrown" "I"] ++ wsX90)
def wsX9_isDuel : List Cond := .code yX9_isDuel cX9_isDuel 2 (some .boolean) :: ([.fieldLink RX9 84 "InkRingModel" "duels" "I", .methodLink RX9 87 yX9_in, .static yX9_in, .initialized RX9, .code yX9_in cX9_in 3 (some .boolean)] ++ wsX90)
def wsX9_isSign : List Cond := .code yX9_isSign cX9_isSign 2 (some .boolean) :: ([.fieldLink RX9 91 "InkRingModel" "signs" "I", .methodLink RX9 87 yX9_in, .static yX9_in, .initialized RX9, .code yX9_in cX9_in 3 (some .boolean)] ++ wsX90)
def wsX9_stroke : List Cond := .code yX9_stroke cX9_stroke 6 (some .int) :: ([.fieldLink RX9 94 "InkRingModel" "drafted" "I", .fieldLink RX9 7 "InkRingModel" "draft" "[I", .methodLink RX9 87 yX9_in, .static yX9_in, .initialized RX9, .code yX9_in cX9_in 3 (some .boolean), .methodLink RX9 97 yX9_goes, .instanceMethod yX9_goes, .selects RX9 yX9_goes yX9_goes, .code yX9_goes cX9_goes 4 (some .boolean), .fieldLink RX9 80 "InkRingModel" "thrown" "I"] ++ wsX90)
def wsX9_clear : List Cond := .code yX9_clear cX9_clear 2 (some .int) :: ([.fieldLink RX9 80 "InkRingModel" "thrown" "I", .fieldLink RX9 94 "InkRingModel" "drafted" "I"] ++ wsX90)
def wsX9_sign : List Cond := .code yX9_sign cX9_sign 2 (some .int) :: ([.fieldLink RX9 94 "InkRingModel" "drafted" "I", .fieldLink RX9 91 "InkRingModel" "signs" "I", .fieldLink RX9 16 "InkRingModel" "models" "[I", .fieldLink RX9 7 "InkRingModel" "draft" "[I", .fieldLink RX9 13 "InkRingModel" "longOf" "[I", .methodLink RX9 87 yX9_in, .static yX9_in, .initialized RX9, .code yX9_in cX9_in 3 (some .boolean), .methodLink RX9 97 yX9_goes, .instanceMethod yX9_goes, .selects RX9 yX9_goes yX9_goes, .code yX9_goes cX9_goes 4 (some .boolean), .fieldLink RX9 80 "InkRingModel" "thrown" "I"] ++ wsX90)
def wsX9_isPaper : List Cond := .code yX9_isPaper cX9_isPaper 1 (some .boolean) :: ([.methodLink RX9 87 yX9_in, .static yX9_in, .initialized RX9, .code yX9_in cX9_in 3 (some .boolean)])
def wsX9_buy : List Cond := .code yX9_buy cX9_buy 4 (some .int) :: ([.fieldLink RX9 19 "InkRingModel" "sheets" "[I", .methodLink RX9 101 yX9_isPaper, .static yX9_isPaper, .initialized RX9, .code yX9_isPaper cX9_isPaper 1 (some .boolean), .methodLink RX9 87 yX9_in, .static yX9_in, .code yX9_in cX9_in 3 (some .boolean), .methodLink RX9 97 yX9_goes, .instanceMethod yX9_goes, .selects RX9 yX9_goes yX9_goes, .code yX9_goes cX9_goes 4 (some .boolean), .fieldLink RX9 80 "InkRingModel" "thrown" "I"] ++ wsX90)
def wsX9_rise : List Cond := .code yX9_rise cX9_rise 3 (some .int) :: ([.fieldLink RX9 25 "InkRingModel" "rises" "[I", .fieldLink RX9 22 "InkRingModel" "damp" "[I", .methodLink RX9 101 yX9_isPaper, .static yX9_isPaper, .initialized RX9, .code yX9_isPaper cX9_isPaper 1 (some .boolean), .methodLink RX9 87 yX9_in, .static yX9_in, .code yX9_in cX9_in 3 (some .boolean), .methodLink RX9 97 yX9_goes, .instanceMethod yX9_goes, .selects RX9 yX9_goes yX9_goes, .code yX9_goes cX9_goes 4 (some .boolean), .fieldLink RX9 80 "InkRingModel" "thrown" "I"] ++ wsX90)
def wsX9_style : List Cond := .code yX9_style cX9_style 5 none :: ([.fieldLink RX9 28 "InkRingModel" "weights" "[I", .methodLink RX9 87 yX9_in, .static yX9_in, .initialized RX9, .code yX9_in cX9_in 3 (some .boolean), .methodLink RX9 97 yX9_goes, .instanceMethod yX9_goes, .selects RX9 yX9_goes yX9_goes, .code yX9_goes cX9_goes 4 (some .boolean), .fieldLink RX9 80 "InkRingModel" "thrown" "I"] ++ wsX90)
def wsX9_learn : List Cond := .code yX9_learn cX9_learn 6 (some .int) :: ([.fieldLink RX9 31 "InkRingModel" "learned" "[I", .fieldLink RX9 105 "InkRingModel" "day" "I", .methodLink RX9 87 yX9_in, .static yX9_in, .initialized RX9, .code yX9_in cX9_in 3 (some .boolean), .methodLink RX9 97 yX9_goes, .instanceMethod yX9_goes, .selects RX9 yX9_goes yX9_goes, .code yX9_goes cX9_goes 4 (some .boolean), .fieldLink RX9 80 "InkRingModel" "thrown" "I"] ++ wsX90)
def wsX9_pass : List Cond := .code yX9_pass cX9_pass 5 (some .int) :: ([.fieldLink RX9 105 "InkRingModel" "day" "I", .fieldLink RX9 22 "InkRingModel" "damp" "[I", .fieldLink RX9 25 "InkRingModel" "rises" "[I", .methodLink RX9 87 yX9_in, .static yX9_in, .initialized RX9, .code yX9_in cX9_in 3 (some .boolean), .methodLink RX9 97 yX9_goes, .instanceMethod yX9_goes, .selects RX9 yX9_goes yX9_goes, .code yX9_goes cX9_goes 4 (some .boolean), .fieldLink RX9 80 "InkRingModel" "thrown" "I"] ++ wsX90)
def wsX9_duel : List Cond := .code yX9_duel cX9_duel 8 (some .int) :: ([.fieldLink RX9 91 "InkRingModel" "signs" "I", .fieldLink RX9 84 "InkRingModel" "duels" "I", .fieldLink RX9 34 "InkRingModel" "one" "[I", .fieldLink RX9 37 "InkRingModel" "other" "[I", .fieldLink RX9 40 "InkRingModel" "judge" "[I", .fieldLink RX9 43 "InkRingModel" "second" "[I", .fieldLink RX9 46 "InkRingModel" "paper" "[I", .fieldLink RX9 49 "InkRingModel" "rounds" "[I", .fieldLink RX9 52 "InkRingModel" "draw" "[I", .fieldLink RX9 55 "InkRingModel" "signsThen" "[I", .fieldLink RX9 58 "InkRingModel" "began" "[I", .fieldLink RX9 105 "InkRingModel" "day" "I", .methodLink RX9 87 yX9_in, .static yX9_in, .initialized RX9, .code yX9_in cX9_in 3 (some .boolean), .methodLink RX9 101 yX9_isPaper, .static yX9_isPaper, .code yX9_isPaper cX9_isPaper 1 (some .boolean), .methodLink RX9 97 yX9_goes, .instanceMethod yX9_goes, .selects RX9 yX9_goes yX9_goes, .code yX9_goes cX9_goes 4 (some .boolean), .fieldLink RX9 80 "InkRingModel" "thrown" "I"] ++ wsX90)
def wsX9_isOver : List Cond := .code yX9_isOver cX9_isOver 2 (some .boolean) :: ([.fieldLink RX9 61 "InkRingModel" "handed" "[I", .fieldLink RX9 49 "InkRingModel" "rounds" "[I"] ++ wsX90)
def wsX9_hand_r1 : List Cond := [Cond.fieldLink RX9 94 "InkRingModel" "drafted" "I", Cond.fieldLink RX9 19 "InkRingModel" "sheets" "[I", Cond.fieldLink RX9 46 "InkRingModel" "paper" "[I", Cond.fieldLink RX9 61 "InkRingModel" "handed" "[I", Cond.fieldLink RX9 114 "InkRingModel" "taken" "I", Cond.fieldLink RX9 34 "InkRingModel" "one" "[I", Cond.fieldLink RX9 37 "InkRingModel" "other" "[I", Cond.fieldLink RX9 77 "InkRingModel" "writings" "[I", Cond.fieldLink RX9 7 "InkRingModel" "draft" "[I", Cond.fieldLink RX9 64 "InkRingModel" "strokes" "[I", Cond.fieldLink RX9 67 "InkRingModel" "dampThen" "[I", Cond.fieldLink RX9 22 "InkRingModel" "damp" "[I", Cond.fieldLink RX9 70 "InkRingModel" "isForged" "[Z", Cond.methodLink RX9 108 yX9_isDuel, Cond.instanceMethod yX9_isDuel, Cond.selects RX9 yX9_isDuel yX9_isDuel, Cond.initialized RX9, Cond.code yX9_isDuel cX9_isDuel 2 (some .boolean), Cond.fieldLink RX9 84 "InkRingModel" "duels" "I", Cond.methodLink RX9 87 yX9_in, Cond.static yX9_in, Cond.code yX9_in cX9_in 3 (some .boolean), Cond.methodLink RX9 111 yX9_isOver, Cond.instanceMethod yX9_isOver]
def wsX9_hand_r2 : List Cond := [Cond.selects RX9 yX9_isOver yX9_isOver, Cond.code yX9_isOver cX9_isOver 2 (some .boolean), Cond.fieldLink RX9 49 "InkRingModel" "rounds" "[I", Cond.methodLink RX9 97 yX9_goes, Cond.instanceMethod yX9_goes, Cond.selects RX9 yX9_goes yX9_goes, Cond.code yX9_goes cX9_goes 4 (some .boolean), Cond.fieldLink RX9 80 "InkRingModel" "thrown" "I"]
def wsX9_hand : List Cond := .code yX9_hand cX9_hand 7 (some .int) :: ((wsX9_hand_r1 ++ wsX9_hand_r2) ++ wsX90)
def wsX9_isHanded : List Cond := .code yX9_isHanded cX9_isHanded 4 (some .boolean) :: ([.fieldLink RX9 61 "InkRingModel" "handed" "[I", .methodLink RX9 108 yX9_isDuel, .instanceMethod yX9_isDuel, .selects RX9 yX9_isDuel yX9_isDuel, .initialized RX9, .code yX9_isDuel cX9_isDuel 2 (some .boolean), .fieldLink RX9 84 "InkRingModel" "duels" "I", .methodLink RX9 87 yX9_in, .static yX9_in, .code yX9_in cX9_in 3 (some .boolean)] ++ wsX90)
def wsX9_writing : List Cond := .code yX9_writing cX9_writing 3 (some .int) :: ([])
def wsX9_look : List Cond := .code yX9_look cX9_look 5 (some .boolean) :: ([.fieldLink RX9 74 "InkRingModel" "isFound" "[Z", .fieldLink RX9 70 "InkRingModel" "isForged" "[Z", .methodLink RX9 117 yX9_isHanded, .instanceMethod yX9_isHanded, .selects RX9 yX9_isHanded yX9_isHanded, .initialized RX9, .code yX9_isHanded cX9_isHanded 4 (some .boolean), .fieldLink RX9 61 "InkRingModel" "handed" "[I", .methodLink RX9 108 yX9_isDuel, .instanceMethod yX9_isDuel, .selects RX9 yX9_isDuel yX9_isDuel, .code yX9_isDuel cX9_isDuel 2 (some .boolean), .fieldLink RX9 84 "InkRingModel" "duels" "I", .methodLink RX9 87 yX9_in, .static yX9_in, .code yX9_in cX9_in 3 (some .boolean), .methodLink RX9 97 yX9_goes, .instanceMethod yX9_goes, .selects RX9 yX9_goes yX9_goes, .code yX9_goes cX9_goes 4 (some .boolean), .fieldLink RX9 80 "InkRingModel" "thrown" "I", .methodLink RX9 121 yX9_writing, .static yX9_writing, .code yX9_writing cX9_writing 3 (some .int)] ++ wsX90)
def wsX9_promptOf : List Cond := .code yX9_promptOf cX9_promptOf 3 (some .int) :: ([.fieldLink RX9 52 "InkRingModel" "draw" "[I", .fieldLink RX9 55 "InkRingModel" "signsThen" "[I"] ++ wsX90)
def wsX9_amount : List Cond := .code yX9_amount cX9_amount 1 (some .int) :: ([])
def wsX9_above : List Cond := .code yX9_above cX9_above 1 (some .float) :: ([])
def wsX9_nearness : List Cond := .code yX9_nearness cX9_nearness 7 (some .float) :: ([.constantFloat RX9 129 (1092616192), .constantFloat RX9 134 (1128792064), .methodLink RX9 125 yX9_amount, .static yX9_amount, .initialized RX9, .code yX9_amount cX9_amount 1 (some .int), .methodLink RX9 130 yX9_above, .static yX9_above, .code yX9_above cX9_above 1 (some .float)])
def wsX9_slope : List Cond := .code yX9_slope cX9_slope 9 (some .float) :: ([.constantFloat RX9 129 (1092616192), .methodLink RX9 125 yX9_amount, .static yX9_amount, .initialized RX9, .code yX9_amount cX9_amount 1 (some .int), .methodLink RX9 130 yX9_above, .static yX9_above, .code yX9_above cX9_above 1 (some .float)])
def wsX9_order : List Cond := .code yX9_order cX9_order 2 (some .float) :: ([.constantFloat RX9 129 (1092616192)])
def wsX9_markOf : List Cond := .code yX9_markOf cX9_markOf 12 (some .float) :: ([.fieldLink RX9 13 "InkRingModel" "longOf" "[I", .fieldLink RX9 28 "InkRingModel" "weights" "[I", .fieldLink RX9 16 "InkRingModel" "models" "[I", .constantFloat RX9 147 (1120403456), .methodLink RX9 135 yX9_nearness, .static yX9_nearness, .initialized RX9, .code yX9_nearness cX9_nearness 7 (some .float), .constantFloat RX9 129 (1092616192), .constantFloat RX9 134 (1128792064), .methodLink RX9 125 yX9_amount, .static yX9_amount, .code yX9_amount cX9_amount 1 (some .int), .methodLink RX9 130 yX9_above, .static yX9_above, .code yX9_above cX9_above 1 (some .float), .methodLink RX9 139 yX9_slope, .static yX9_slope, .code yX9_slope cX9_slope 9 (some .float), .methodLink RX9 143 yX9_order, .static yX9_order, .code yX9_order cX9_order 2 (some .float)] ++ wsX90)
def wsX9_byJudge_r1 : List Cond := [Cond.fieldLink RX9 31 "InkRingModel" "learned" "[I", Cond.fieldLink RX9 58 "InkRingModel" "began" "[I", Cond.fieldLink RX9 77 "InkRingModel" "writings" "[I", Cond.fieldLink RX9 64 "InkRingModel" "strokes" "[I", Cond.fieldLink RX9 67 "InkRingModel" "dampThen" "[I", Cond.methodLink RX9 148 yX9_promptOf, Cond.instanceMethod yX9_promptOf, Cond.selects RX9 yX9_promptOf yX9_promptOf, Cond.initialized RX9, Cond.code yX9_promptOf cX9_promptOf 3 (some .int), Cond.fieldLink RX9 52 "InkRingModel" "draw" "[I", Cond.fieldLink RX9 55 "InkRingModel" "signsThen" "[I", Cond.methodLink RX9 152 yX9_markOf, Cond.instanceMethod yX9_markOf, Cond.selects RX9 yX9_markOf yX9_markOf, Cond.code yX9_markOf cX9_markOf 12 (some .float), Cond.fieldLink RX9 13 "InkRingModel" "longOf" "[I", Cond.fieldLink RX9 28 "InkRingModel" "weights" "[I", Cond.fieldLink RX9 16 "InkRingModel" "models" "[I", Cond.constantFloat RX9 147 (1120403456), Cond.methodLink RX9 135 yX9_nearness, Cond.static yX9_nearness, Cond.code yX9_nearness cX9_nearness 7 (some .float), Cond.constantFloat RX9 129 (1092616192)]
def wsX9_byJudge_r2 : List Cond := [Cond.constantFloat RX9 134 (1128792064), Cond.methodLink RX9 125 yX9_amount, Cond.static yX9_amount, Cond.code yX9_amount cX9_amount 1 (some .int), Cond.methodLink RX9 130 yX9_above, Cond.static yX9_above, Cond.code yX9_above cX9_above 1 (some .float), Cond.methodLink RX9 139 yX9_slope, Cond.static yX9_slope, Cond.code yX9_slope cX9_slope 9 (some .float), Cond.methodLink RX9 143 yX9_order, Cond.static yX9_order, Cond.code yX9_order cX9_order 2 (some .float)]
def wsX9_byJudge : List Cond := .code yX9_byJudge cX9_byJudge 9 (some .float) :: ((wsX9_byJudge_r1 ++ wsX9_byJudge_r2) ++ wsX90)
def wsX9_byAll_r1 : List Cond := [Cond.fieldLink RX9 40 "InkRingModel" "judge" "[I", Cond.fieldLink RX9 43 "InkRingModel" "second" "[I", Cond.methodLink RX9 156 yX9_byJudge, Cond.instanceMethod yX9_byJudge, Cond.selects RX9 yX9_byJudge yX9_byJudge, Cond.initialized RX9, Cond.code yX9_byJudge cX9_byJudge 9 (some .float), Cond.fieldLink RX9 31 "InkRingModel" "learned" "[I", Cond.fieldLink RX9 58 "InkRingModel" "began" "[I", Cond.fieldLink RX9 77 "InkRingModel" "writings" "[I", Cond.fieldLink RX9 64 "InkRingModel" "strokes" "[I", Cond.fieldLink RX9 67 "InkRingModel" "dampThen" "[I", Cond.methodLink RX9 148 yX9_promptOf, Cond.instanceMethod yX9_promptOf, Cond.selects RX9 yX9_promptOf yX9_promptOf, Cond.code yX9_promptOf cX9_promptOf 3 (some .int), Cond.fieldLink RX9 52 "InkRingModel" "draw" "[I", Cond.fieldLink RX9 55 "InkRingModel" "signsThen" "[I", Cond.methodLink RX9 152 yX9_markOf, Cond.instanceMethod yX9_markOf, Cond.selects RX9 yX9_markOf yX9_markOf, Cond.code yX9_markOf cX9_markOf 12 (some .float), Cond.fieldLink RX9 13 "InkRingModel" "longOf" "[I", Cond.fieldLink RX9 28 "InkRingModel" "weights" "[I"]
def wsX9_byAll_r2 : List Cond := [Cond.fieldLink RX9 16 "InkRingModel" "models" "[I", Cond.constantFloat RX9 147 (1120403456), Cond.methodLink RX9 135 yX9_nearness, Cond.static yX9_nearness, Cond.code yX9_nearness cX9_nearness 7 (some .float), Cond.constantFloat RX9 129 (1092616192), Cond.constantFloat RX9 134 (1128792064), Cond.methodLink RX9 125 yX9_amount, Cond.static yX9_amount, Cond.code yX9_amount cX9_amount 1 (some .int), Cond.methodLink RX9 130 yX9_above, Cond.static yX9_above, Cond.code yX9_above cX9_above 1 (some .float), Cond.methodLink RX9 139 yX9_slope, Cond.static yX9_slope, Cond.code yX9_slope cX9_slope 9 (some .float), Cond.methodLink RX9 143 yX9_order, Cond.static yX9_order, Cond.code yX9_order cX9_order 2 (some .float)]
def wsX9_byAll : List Cond := .code yX9_byAll cX9_byAll 4 (some .float) :: ((wsX9_byAll_r1 ++ wsX9_byAll_r2) ++ wsX90)
def wsX9_roundTo_r1 : List Cond := [Cond.fieldLink RX9 61 "InkRingModel" "handed" "[I", Cond.fieldLink RX9 74 "InkRingModel" "isFound" "[Z", Cond.methodLink RX9 160 yX9_byAll, Cond.instanceMethod yX9_byAll, Cond.selects RX9 yX9_byAll yX9_byAll, Cond.initialized RX9, Cond.code yX9_byAll cX9_byAll 4 (some .float), Cond.fieldLink RX9 40 "InkRingModel" "judge" "[I", Cond.fieldLink RX9 43 "InkRingModel" "second" "[I", Cond.methodLink RX9 156 yX9_byJudge, Cond.instanceMethod yX9_byJudge, Cond.selects RX9 yX9_byJudge yX9_byJudge, Cond.code yX9_byJudge cX9_byJudge 9 (some .float), Cond.fieldLink RX9 31 "InkRingModel" "learned" "[I", Cond.fieldLink RX9 58 "InkRingModel" "began" "[I", Cond.fieldLink RX9 77 "InkRingModel" "writings" "[I", Cond.fieldLink RX9 64 "InkRingModel" "strokes" "[I", Cond.fieldLink RX9 67 "InkRingModel" "dampThen" "[I", Cond.methodLink RX9 148 yX9_promptOf, Cond.instanceMethod yX9_promptOf, Cond.selects RX9 yX9_promptOf yX9_promptOf, Cond.code yX9_promptOf cX9_promptOf 3 (some .int), Cond.fieldLink RX9 52 "InkRingModel" "draw" "[I", Cond.fieldLink RX9 55 "InkRingModel" "signsThen" "[I"]
def wsX9_roundTo_r2 : List Cond := [Cond.methodLink RX9 152 yX9_markOf, Cond.instanceMethod yX9_markOf, Cond.selects RX9 yX9_markOf yX9_markOf, Cond.code yX9_markOf cX9_markOf 12 (some .float), Cond.fieldLink RX9 13 "InkRingModel" "longOf" "[I", Cond.fieldLink RX9 28 "InkRingModel" "weights" "[I", Cond.fieldLink RX9 16 "InkRingModel" "models" "[I", Cond.constantFloat RX9 147 (1120403456), Cond.methodLink RX9 135 yX9_nearness, Cond.static yX9_nearness, Cond.code yX9_nearness cX9_nearness 7 (some .float), Cond.constantFloat RX9 129 (1092616192), Cond.constantFloat RX9 134 (1128792064), Cond.methodLink RX9 125 yX9_amount, Cond.static yX9_amount, Cond.code yX9_amount cX9_amount 1 (some .int), Cond.methodLink RX9 130 yX9_above, Cond.static yX9_above, Cond.code yX9_above cX9_above 1 (some .float), Cond.methodLink RX9 139 yX9_slope, Cond.static yX9_slope, Cond.code yX9_slope cX9_slope 9 (some .float), Cond.methodLink RX9 143 yX9_order, Cond.static yX9_order]
def wsX9_roundTo_r3 : List Cond := [Cond.code yX9_order cX9_order 2 (some .float)]
def wsX9_roundTo : List Cond := .code yX9_roundTo cX9_roundTo 6 (some .int) :: ((wsX9_roundTo_r1 ++ (wsX9_roundTo_r2 ++ wsX9_roundTo_r3)) ++ wsX90)
def wsX9_roundsTo_r1 : List Cond := [Cond.fieldLink RX9 49 "InkRingModel" "rounds" "[I", Cond.methodLink RX9 163 yX9_roundTo, Cond.instanceMethod yX9_roundTo, Cond.selects RX9 yX9_roundTo yX9_roundTo, Cond.initialized RX9, Cond.code yX9_roundTo cX9_roundTo 6 (some .int), Cond.fieldLink RX9 61 "InkRingModel" "handed" "[I", Cond.fieldLink RX9 74 "InkRingModel" "isFound" "[Z", Cond.methodLink RX9 160 yX9_byAll, Cond.instanceMethod yX9_byAll, Cond.selects RX9 yX9_byAll yX9_byAll, Cond.code yX9_byAll cX9_byAll 4 (some .float), Cond.fieldLink RX9 40 "InkRingModel" "judge" "[I", Cond.fieldLink RX9 43 "InkRingModel" "second" "[I", Cond.methodLink RX9 156 yX9_byJudge, Cond.instanceMethod yX9_byJudge, Cond.selects RX9 yX9_byJudge yX9_byJudge, Cond.code yX9_byJudge cX9_byJudge 9 (some .float), Cond.fieldLink RX9 31 "InkRingModel" "learned" "[I", Cond.fieldLink RX9 58 "InkRingModel" "began" "[I", Cond.fieldLink RX9 77 "InkRingModel" "writings" "[I", Cond.fieldLink RX9 64 "InkRingModel" "strokes" "[I", Cond.fieldLink RX9 67 "InkRingModel" "dampThen" "[I", Cond.methodLink RX9 148 yX9_promptOf]
def wsX9_roundsTo_r2 : List Cond := [Cond.instanceMethod yX9_promptOf, Cond.selects RX9 yX9_promptOf yX9_promptOf, Cond.code yX9_promptOf cX9_promptOf 3 (some .int), Cond.fieldLink RX9 52 "InkRingModel" "draw" "[I", Cond.fieldLink RX9 55 "InkRingModel" "signsThen" "[I", Cond.methodLink RX9 152 yX9_markOf, Cond.instanceMethod yX9_markOf, Cond.selects RX9 yX9_markOf yX9_markOf, Cond.code yX9_markOf cX9_markOf 12 (some .float), Cond.fieldLink RX9 13 "InkRingModel" "longOf" "[I", Cond.fieldLink RX9 28 "InkRingModel" "weights" "[I", Cond.fieldLink RX9 16 "InkRingModel" "models" "[I", Cond.constantFloat RX9 147 (1120403456), Cond.methodLink RX9 135 yX9_nearness, Cond.static yX9_nearness, Cond.code yX9_nearness cX9_nearness 7 (some .float), Cond.constantFloat RX9 129 (1092616192), Cond.constantFloat RX9 134 (1128792064), Cond.methodLink RX9 125 yX9_amount, Cond.static yX9_amount, Cond.code yX9_amount cX9_amount 1 (some .int), Cond.methodLink RX9 130 yX9_above, Cond.static yX9_above, Cond.code yX9_above cX9_above 1 (some .float)]
def wsX9_roundsTo_r3 : List Cond := [Cond.methodLink RX9 139 yX9_slope, Cond.static yX9_slope, Cond.code yX9_slope cX9_slope 9 (some .float), Cond.methodLink RX9 143 yX9_order, Cond.static yX9_order, Cond.code yX9_order cX9_order 2 (some .float)]
def wsX9_roundsTo : List Cond := .code yX9_roundsTo cX9_roundsTo 5 (some .int) :: ((wsX9_roundsTo_r1 ++ (wsX9_roundsTo_r2 ++ wsX9_roundsTo_r3)) ++ wsX90)
def wsX9_winner_r1 : List Cond := [Cond.fieldLink RX9 34 "InkRingModel" "one" "[I", Cond.fieldLink RX9 37 "InkRingModel" "other" "[I", Cond.methodLink RX9 111 yX9_isOver, Cond.instanceMethod yX9_isOver, Cond.selects RX9 yX9_isOver yX9_isOver, Cond.initialized RX9, Cond.code yX9_isOver cX9_isOver 2 (some .boolean), Cond.fieldLink RX9 61 "InkRingModel" "handed" "[I", Cond.fieldLink RX9 49 "InkRingModel" "rounds" "[I", Cond.methodLink RX9 166 yX9_roundsTo, Cond.instanceMethod yX9_roundsTo, Cond.selects RX9 yX9_roundsTo yX9_roundsTo, Cond.code yX9_roundsTo cX9_roundsTo 5 (some .int), Cond.methodLink RX9 163 yX9_roundTo, Cond.instanceMethod yX9_roundTo, Cond.selects RX9 yX9_roundTo yX9_roundTo, Cond.code yX9_roundTo cX9_roundTo 6 (some .int), Cond.fieldLink RX9 74 "InkRingModel" "isFound" "[Z", Cond.methodLink RX9 160 yX9_byAll, Cond.instanceMethod yX9_byAll, Cond.selects RX9 yX9_byAll yX9_byAll, Cond.code yX9_byAll cX9_byAll 4 (some .float), Cond.fieldLink RX9 40 "InkRingModel" "judge" "[I", Cond.fieldLink RX9 43 "InkRingModel" "second" "[I"]
def wsX9_winner_r2 : List Cond := [Cond.methodLink RX9 156 yX9_byJudge, Cond.instanceMethod yX9_byJudge, Cond.selects RX9 yX9_byJudge yX9_byJudge, Cond.code yX9_byJudge cX9_byJudge 9 (some .float), Cond.fieldLink RX9 31 "InkRingModel" "learned" "[I", Cond.fieldLink RX9 58 "InkRingModel" "began" "[I", Cond.fieldLink RX9 77 "InkRingModel" "writings" "[I", Cond.fieldLink RX9 64 "InkRingModel" "strokes" "[I", Cond.fieldLink RX9 67 "InkRingModel" "dampThen" "[I", Cond.methodLink RX9 148 yX9_promptOf, Cond.instanceMethod yX9_promptOf, Cond.selects RX9 yX9_promptOf yX9_promptOf, Cond.code yX9_promptOf cX9_promptOf 3 (some .int), Cond.fieldLink RX9 52 "InkRingModel" "draw" "[I", Cond.fieldLink RX9 55 "InkRingModel" "signsThen" "[I", Cond.methodLink RX9 152 yX9_markOf, Cond.instanceMethod yX9_markOf, Cond.selects RX9 yX9_markOf yX9_markOf, Cond.code yX9_markOf cX9_markOf 12 (some .float), Cond.fieldLink RX9 13 "InkRingModel" "longOf" "[I", Cond.fieldLink RX9 28 "InkRingModel" "weights" "[I", Cond.fieldLink RX9 16 "InkRingModel" "models" "[I", Cond.constantFloat RX9 147 (1120403456), Cond.methodLink RX9 135 yX9_nearness]
def wsX9_winner_r3 : List Cond := [Cond.static yX9_nearness, Cond.code yX9_nearness cX9_nearness 7 (some .float), Cond.constantFloat RX9 129 (1092616192), Cond.constantFloat RX9 134 (1128792064), Cond.methodLink RX9 125 yX9_amount, Cond.static yX9_amount, Cond.code yX9_amount cX9_amount 1 (some .int), Cond.methodLink RX9 130 yX9_above, Cond.static yX9_above, Cond.code yX9_above cX9_above 1 (some .float), Cond.methodLink RX9 139 yX9_slope, Cond.static yX9_slope, Cond.code yX9_slope cX9_slope 9 (some .float), Cond.methodLink RX9 143 yX9_order, Cond.static yX9_order, Cond.code yX9_order cX9_order 2 (some .float)]
def wsX9_winner : List Cond := .code yX9_winner cX9_winner 3 (some .int) :: ((wsX9_winner_r1 ++ (wsX9_winner_r2 ++ wsX9_winner_r3)) ++ wsX90)
def wsX9_appeal_r1 : List Cond := [Cond.fieldLink RX9 43 "InkRingModel" "second" "[I", Cond.fieldLink RX9 40 "InkRingModel" "judge" "[I", Cond.methodLink RX9 108 yX9_isDuel, Cond.instanceMethod yX9_isDuel, Cond.selects RX9 yX9_isDuel yX9_isDuel, Cond.initialized RX9, Cond.code yX9_isDuel cX9_isDuel 2 (some .boolean), Cond.fieldLink RX9 84 "InkRingModel" "duels" "I", Cond.methodLink RX9 87 yX9_in, Cond.static yX9_in, Cond.code yX9_in cX9_in 3 (some .boolean), Cond.methodLink RX9 111 yX9_isOver, Cond.instanceMethod yX9_isOver, Cond.selects RX9 yX9_isOver yX9_isOver, Cond.code yX9_isOver cX9_isOver 2 (some .boolean), Cond.fieldLink RX9 61 "InkRingModel" "handed" "[I", Cond.fieldLink RX9 49 "InkRingModel" "rounds" "[I", Cond.methodLink RX9 97 yX9_goes, Cond.instanceMethod yX9_goes, Cond.selects RX9 yX9_goes yX9_goes, Cond.code yX9_goes cX9_goes 4 (some .boolean), Cond.fieldLink RX9 80 "InkRingModel" "thrown" "I", Cond.methodLink RX9 169 yX9_winner, Cond.instanceMethod yX9_winner]
def wsX9_appeal_r2 : List Cond := [Cond.selects RX9 yX9_winner yX9_winner, Cond.code yX9_winner cX9_winner 3 (some .int), Cond.fieldLink RX9 34 "InkRingModel" "one" "[I", Cond.fieldLink RX9 37 "InkRingModel" "other" "[I", Cond.methodLink RX9 166 yX9_roundsTo, Cond.instanceMethod yX9_roundsTo, Cond.selects RX9 yX9_roundsTo yX9_roundsTo, Cond.code yX9_roundsTo cX9_roundsTo 5 (some .int), Cond.methodLink RX9 163 yX9_roundTo, Cond.instanceMethod yX9_roundTo, Cond.selects RX9 yX9_roundTo yX9_roundTo, Cond.code yX9_roundTo cX9_roundTo 6 (some .int), Cond.fieldLink RX9 74 "InkRingModel" "isFound" "[Z", Cond.methodLink RX9 160 yX9_byAll, Cond.instanceMethod yX9_byAll, Cond.selects RX9 yX9_byAll yX9_byAll, Cond.code yX9_byAll cX9_byAll 4 (some .float), Cond.methodLink RX9 156 yX9_byJudge, Cond.instanceMethod yX9_byJudge, Cond.selects RX9 yX9_byJudge yX9_byJudge, Cond.code yX9_byJudge cX9_byJudge 9 (some .float), Cond.fieldLink RX9 31 "InkRingModel" "learned" "[I", Cond.fieldLink RX9 58 "InkRingModel" "began" "[I", Cond.fieldLink RX9 77 "InkRingModel" "writings" "[I"]
def wsX9_appeal_r3 : List Cond := [Cond.fieldLink RX9 64 "InkRingModel" "strokes" "[I", Cond.fieldLink RX9 67 "InkRingModel" "dampThen" "[I", Cond.methodLink RX9 148 yX9_promptOf, Cond.instanceMethod yX9_promptOf, Cond.selects RX9 yX9_promptOf yX9_promptOf, Cond.code yX9_promptOf cX9_promptOf 3 (some .int), Cond.fieldLink RX9 52 "InkRingModel" "draw" "[I", Cond.fieldLink RX9 55 "InkRingModel" "signsThen" "[I", Cond.methodLink RX9 152 yX9_markOf, Cond.instanceMethod yX9_markOf, Cond.selects RX9 yX9_markOf yX9_markOf, Cond.code yX9_markOf cX9_markOf 12 (some .float), Cond.fieldLink RX9 13 "InkRingModel" "longOf" "[I", Cond.fieldLink RX9 28 "InkRingModel" "weights" "[I", Cond.fieldLink RX9 16 "InkRingModel" "models" "[I", Cond.constantFloat RX9 147 (1120403456), Cond.methodLink RX9 135 yX9_nearness, Cond.static yX9_nearness, Cond.code yX9_nearness cX9_nearness 7 (some .float), Cond.constantFloat RX9 129 (1092616192), Cond.constantFloat RX9 134 (1128792064), Cond.methodLink RX9 125 yX9_amount, Cond.static yX9_amount, Cond.code yX9_amount cX9_amount 1 (some .int)]
def wsX9_appeal_r4 : List Cond := [Cond.methodLink RX9 130 yX9_above, Cond.static yX9_above, Cond.code yX9_above cX9_above 1 (some .float), Cond.methodLink RX9 139 yX9_slope, Cond.static yX9_slope, Cond.code yX9_slope cX9_slope 9 (some .float), Cond.methodLink RX9 143 yX9_order, Cond.static yX9_order, Cond.code yX9_order cX9_order 2 (some .float)]
def wsX9_appeal : List Cond := .code yX9_appeal cX9_appeal 4 (some .int) :: ((wsX9_appeal_r1 ++ (wsX9_appeal_r2 ++ (wsX9_appeal_r3 ++ wsX9_appeal_r4))) ++ wsX90)
def wsX9_prompt : List Cond := .code yX9_prompt cX9_prompt 4 (some .int) :: ([.fieldLink RX9 49 "InkRingModel" "rounds" "[I", .methodLink RX9 108 yX9_isDuel, .instanceMethod yX9_isDuel, .selects RX9 yX9_isDuel yX9_isDuel, .initialized RX9, .code yX9_isDuel cX9_isDuel 2 (some .boolean), .fieldLink RX9 84 "InkRingModel" "duels" "I", .methodLink RX9 87 yX9_in, .static yX9_in, .code yX9_in cX9_in 3 (some .boolean), .methodLink RX9 97 yX9_goes, .instanceMethod yX9_goes, .selects RX9 yX9_goes yX9_goes, .code yX9_goes cX9_goes 4 (some .boolean), .fieldLink RX9 80 "InkRingModel" "thrown" "I", .methodLink RX9 148 yX9_promptOf, .instanceMethod yX9_promptOf, .selects RX9 yX9_promptOf yX9_promptOf, .code yX9_promptOf cX9_promptOf 3 (some .int), .fieldLink RX9 52 "InkRingModel" "draw" "[I", .fieldLink RX9 55 "InkRingModel" "signsThen" "[I"] ++ wsX90)
def wsX9_mark_r1 : List Cond := [Cond.fieldLink RX9 7 "InkRingModel" "draft" "[I", Cond.fieldLink RX9 94 "InkRingModel" "drafted" "I", Cond.methodLink RX9 172 yX9_isSign, Cond.instanceMethod yX9_isSign, Cond.selects RX9 yX9_isSign yX9_isSign, Cond.initialized RX9, Cond.code yX9_isSign cX9_isSign 2 (some .boolean), Cond.fieldLink RX9 91 "InkRingModel" "signs" "I", Cond.methodLink RX9 87 yX9_in, Cond.static yX9_in, Cond.code yX9_in cX9_in 3 (some .boolean), Cond.methodLink RX9 97 yX9_goes, Cond.instanceMethod yX9_goes, Cond.selects RX9 yX9_goes yX9_goes, Cond.code yX9_goes cX9_goes 4 (some .boolean), Cond.fieldLink RX9 80 "InkRingModel" "thrown" "I", Cond.methodLink RX9 152 yX9_markOf, Cond.instanceMethod yX9_markOf, Cond.selects RX9 yX9_markOf yX9_markOf, Cond.code yX9_markOf cX9_markOf 12 (some .float), Cond.fieldLink RX9 13 "InkRingModel" "longOf" "[I", Cond.fieldLink RX9 28 "InkRingModel" "weights" "[I", Cond.fieldLink RX9 16 "InkRingModel" "models" "[I", Cond.constantFloat RX9 147 (1120403456)]
def wsX9_mark_r2 : List Cond := [Cond.methodLink RX9 135 yX9_nearness, Cond.static yX9_nearness, Cond.code yX9_nearness cX9_nearness 7 (some .float), Cond.constantFloat RX9 129 (1092616192), Cond.constantFloat RX9 134 (1128792064), Cond.methodLink RX9 125 yX9_amount, Cond.static yX9_amount, Cond.code yX9_amount cX9_amount 1 (some .int), Cond.methodLink RX9 130 yX9_above, Cond.static yX9_above, Cond.code yX9_above cX9_above 1 (some .float), Cond.methodLink RX9 139 yX9_slope, Cond.static yX9_slope, Cond.code yX9_slope cX9_slope 9 (some .float), Cond.methodLink RX9 143 yX9_order, Cond.static yX9_order, Cond.code yX9_order cX9_order 2 (some .float)]
def wsX9_mark : List Cond := .code yX9_mark cX9_mark 3 (some .float) :: ((wsX9_mark_r1 ++ wsX9_mark_r2) ++ wsX90)
def wsX9_part_r1 : List Cond := [Cond.fieldLink RX9 94 "InkRingModel" "drafted" "I", Cond.fieldLink RX9 13 "InkRingModel" "longOf" "[I", Cond.fieldLink RX9 7 "InkRingModel" "draft" "[I", Cond.fieldLink RX9 16 "InkRingModel" "models" "[I", Cond.methodLink RX9 172 yX9_isSign, Cond.instanceMethod yX9_isSign, Cond.selects RX9 yX9_isSign yX9_isSign, Cond.initialized RX9, Cond.code yX9_isSign cX9_isSign 2 (some .boolean), Cond.fieldLink RX9 91 "InkRingModel" "signs" "I", Cond.methodLink RX9 87 yX9_in, Cond.static yX9_in, Cond.code yX9_in cX9_in 3 (some .boolean), Cond.methodLink RX9 97 yX9_goes, Cond.instanceMethod yX9_goes, Cond.selects RX9 yX9_goes yX9_goes, Cond.code yX9_goes cX9_goes 4 (some .boolean), Cond.fieldLink RX9 80 "InkRingModel" "thrown" "I", Cond.methodLink RX9 135 yX9_nearness, Cond.static yX9_nearness, Cond.code yX9_nearness cX9_nearness 7 (some .float), Cond.constantFloat RX9 129 (1092616192), Cond.constantFloat RX9 134 (1128792064), Cond.methodLink RX9 125 yX9_amount]
def wsX9_part_r2 : List Cond := [Cond.static yX9_amount, Cond.code yX9_amount cX9_amount 1 (some .int), Cond.methodLink RX9 130 yX9_above, Cond.static yX9_above, Cond.code yX9_above cX9_above 1 (some .float), Cond.methodLink RX9 139 yX9_slope, Cond.static yX9_slope, Cond.code yX9_slope cX9_slope 9 (some .float), Cond.methodLink RX9 143 yX9_order, Cond.static yX9_order, Cond.code yX9_order cX9_order 2 (some .float)]
def wsX9_part : List Cond := .code yX9_part cX9_part 6 (some .float) :: ((wsX9_part_r1 ++ wsX9_part_r2) ++ wsX90)
def wsX9_marked_r1 : List Cond := [Cond.methodLink RX9 117 yX9_isHanded, Cond.instanceMethod yX9_isHanded, Cond.selects RX9 yX9_isHanded yX9_isHanded, Cond.initialized RX9, Cond.code yX9_isHanded cX9_isHanded 4 (some .boolean), Cond.fieldLink RX9 61 "InkRingModel" "handed" "[I", Cond.methodLink RX9 108 yX9_isDuel, Cond.instanceMethod yX9_isDuel, Cond.selects RX9 yX9_isDuel yX9_isDuel, Cond.code yX9_isDuel cX9_isDuel 2 (some .boolean), Cond.fieldLink RX9 84 "InkRingModel" "duels" "I", Cond.methodLink RX9 87 yX9_in, Cond.static yX9_in, Cond.code yX9_in cX9_in 3 (some .boolean), Cond.methodLink RX9 97 yX9_goes, Cond.instanceMethod yX9_goes, Cond.selects RX9 yX9_goes yX9_goes, Cond.code yX9_goes cX9_goes 4 (some .boolean), Cond.fieldLink RX9 80 "InkRingModel" "thrown" "I", Cond.methodLink RX9 121 yX9_writing, Cond.static yX9_writing, Cond.code yX9_writing cX9_writing 3 (some .int), Cond.methodLink RX9 160 yX9_byAll, Cond.instanceMethod yX9_byAll]
def wsX9_marked_r2 : List Cond := [Cond.selects RX9 yX9_byAll yX9_byAll, Cond.code yX9_byAll cX9_byAll 4 (some .float), Cond.fieldLink RX9 40 "InkRingModel" "judge" "[I", Cond.fieldLink RX9 43 "InkRingModel" "second" "[I", Cond.methodLink RX9 156 yX9_byJudge, Cond.instanceMethod yX9_byJudge, Cond.selects RX9 yX9_byJudge yX9_byJudge, Cond.code yX9_byJudge cX9_byJudge 9 (some .float), Cond.fieldLink RX9 31 "InkRingModel" "learned" "[I", Cond.fieldLink RX9 58 "InkRingModel" "began" "[I", Cond.fieldLink RX9 77 "InkRingModel" "writings" "[I", Cond.fieldLink RX9 64 "InkRingModel" "strokes" "[I", Cond.fieldLink RX9 67 "InkRingModel" "dampThen" "[I", Cond.methodLink RX9 148 yX9_promptOf, Cond.instanceMethod yX9_promptOf, Cond.selects RX9 yX9_promptOf yX9_promptOf, Cond.code yX9_promptOf cX9_promptOf 3 (some .int), Cond.fieldLink RX9 52 "InkRingModel" "draw" "[I", Cond.fieldLink RX9 55 "InkRingModel" "signsThen" "[I", Cond.methodLink RX9 152 yX9_markOf, Cond.instanceMethod yX9_markOf, Cond.selects RX9 yX9_markOf yX9_markOf, Cond.code yX9_markOf cX9_markOf 12 (some .float), Cond.fieldLink RX9 13 "InkRingModel" "longOf" "[I"]
def wsX9_marked_r3 : List Cond := [Cond.fieldLink RX9 28 "InkRingModel" "weights" "[I", Cond.fieldLink RX9 16 "InkRingModel" "models" "[I", Cond.constantFloat RX9 147 (1120403456), Cond.methodLink RX9 135 yX9_nearness, Cond.static yX9_nearness, Cond.code yX9_nearness cX9_nearness 7 (some .float), Cond.constantFloat RX9 129 (1092616192), Cond.constantFloat RX9 134 (1128792064), Cond.methodLink RX9 125 yX9_amount, Cond.static yX9_amount, Cond.code yX9_amount cX9_amount 1 (some .int), Cond.methodLink RX9 130 yX9_above, Cond.static yX9_above, Cond.code yX9_above cX9_above 1 (some .float), Cond.methodLink RX9 139 yX9_slope, Cond.static yX9_slope, Cond.code yX9_slope cX9_slope 9 (some .float), Cond.methodLink RX9 143 yX9_order, Cond.static yX9_order, Cond.code yX9_order cX9_order 2 (some .float)]
def wsX9_marked : List Cond := .code yX9_marked cX9_marked 4 (some .float) :: ((wsX9_marked_r1 ++ (wsX9_marked_r2 ++ wsX9_marked_r3)) ++ wsX90)
def wsX9_of_r1 : List Cond := [Cond.fieldLink RX9 61 "InkRingModel" "handed" "[I", Cond.fieldLink RX9 58 "InkRingModel" "began" "[I", Cond.fieldLink RX9 43 "InkRingModel" "second" "[I", Cond.methodLink RX9 108 yX9_isDuel, Cond.instanceMethod yX9_isDuel, Cond.selects RX9 yX9_isDuel yX9_isDuel, Cond.initialized RX9, Cond.code yX9_isDuel cX9_isDuel 2 (some .boolean), Cond.fieldLink RX9 84 "InkRingModel" "duels" "I", Cond.methodLink RX9 87 yX9_in, Cond.static yX9_in, Cond.code yX9_in cX9_in 3 (some .boolean), Cond.methodLink RX9 97 yX9_goes, Cond.instanceMethod yX9_goes, Cond.selects RX9 yX9_goes yX9_goes, Cond.code yX9_goes cX9_goes 4 (some .boolean), Cond.fieldLink RX9 80 "InkRingModel" "thrown" "I", Cond.methodLink RX9 166 yX9_roundsTo, Cond.instanceMethod yX9_roundsTo, Cond.selects RX9 yX9_roundsTo yX9_roundsTo, Cond.code yX9_roundsTo cX9_roundsTo 5 (some .int), Cond.fieldLink RX9 49 "InkRingModel" "rounds" "[I", Cond.methodLink RX9 163 yX9_roundTo, Cond.instanceMethod yX9_roundTo]
def wsX9_of_r2 : List Cond := [Cond.selects RX9 yX9_roundTo yX9_roundTo, Cond.code yX9_roundTo cX9_roundTo 6 (some .int), Cond.fieldLink RX9 74 "InkRingModel" "isFound" "[Z", Cond.methodLink RX9 160 yX9_byAll, Cond.instanceMethod yX9_byAll, Cond.selects RX9 yX9_byAll yX9_byAll, Cond.code yX9_byAll cX9_byAll 4 (some .float), Cond.fieldLink RX9 40 "InkRingModel" "judge" "[I", Cond.methodLink RX9 156 yX9_byJudge, Cond.instanceMethod yX9_byJudge, Cond.selects RX9 yX9_byJudge yX9_byJudge, Cond.code yX9_byJudge cX9_byJudge 9 (some .float), Cond.fieldLink RX9 31 "InkRingModel" "learned" "[I", Cond.fieldLink RX9 77 "InkRingModel" "writings" "[I", Cond.fieldLink RX9 64 "InkRingModel" "strokes" "[I", Cond.fieldLink RX9 67 "InkRingModel" "dampThen" "[I", Cond.methodLink RX9 148 yX9_promptOf, Cond.instanceMethod yX9_promptOf, Cond.selects RX9 yX9_promptOf yX9_promptOf, Cond.code yX9_promptOf cX9_promptOf 3 (some .int), Cond.fieldLink RX9 52 "InkRingModel" "draw" "[I", Cond.fieldLink RX9 55 "InkRingModel" "signsThen" "[I", Cond.methodLink RX9 152 yX9_markOf, Cond.instanceMethod yX9_markOf]
def wsX9_of_r3 : List Cond := [Cond.selects RX9 yX9_markOf yX9_markOf, Cond.code yX9_markOf cX9_markOf 12 (some .float), Cond.fieldLink RX9 13 "InkRingModel" "longOf" "[I", Cond.fieldLink RX9 28 "InkRingModel" "weights" "[I", Cond.fieldLink RX9 16 "InkRingModel" "models" "[I", Cond.constantFloat RX9 147 (1120403456), Cond.methodLink RX9 135 yX9_nearness, Cond.static yX9_nearness, Cond.code yX9_nearness cX9_nearness 7 (some .float), Cond.constantFloat RX9 129 (1092616192), Cond.constantFloat RX9 134 (1128792064), Cond.methodLink RX9 125 yX9_amount, Cond.static yX9_amount, Cond.code yX9_amount cX9_amount 1 (some .int), Cond.methodLink RX9 130 yX9_above, Cond.static yX9_above, Cond.code yX9_above cX9_above 1 (some .float), Cond.methodLink RX9 139 yX9_slope, Cond.static yX9_slope, Cond.code yX9_slope cX9_slope 9 (some .float), Cond.methodLink RX9 143 yX9_order, Cond.static yX9_order, Cond.code yX9_order cX9_order 2 (some .float), Cond.methodLink RX9 169 yX9_winner]
def wsX9_of_r4 : List Cond := [Cond.instanceMethod yX9_winner, Cond.selects RX9 yX9_winner yX9_winner, Cond.code yX9_winner cX9_winner 3 (some .int), Cond.fieldLink RX9 34 "InkRingModel" "one" "[I", Cond.fieldLink RX9 37 "InkRingModel" "other" "[I", Cond.methodLink RX9 111 yX9_isOver, Cond.instanceMethod yX9_isOver, Cond.selects RX9 yX9_isOver yX9_isOver, Cond.code yX9_isOver cX9_isOver 2 (some .boolean)]
def wsX9_of : List Cond := .code yX9_of cX9_of 3 (some .int) :: ((wsX9_of_r1 ++ (wsX9_of_r2 ++ (wsX9_of_r3 ++ wsX9_of_r4))) ++ wsX90)
def wsX9_paper : List Cond := .code yX9_paper cX9_paper 3 (some .int) :: ([.fieldLink RX9 19 "InkRingModel" "sheets" "[I", .fieldLink RX9 22 "InkRingModel" "damp" "[I", .methodLink RX9 101 yX9_isPaper, .static yX9_isPaper, .initialized RX9, .code yX9_isPaper cX9_isPaper 1 (some .boolean), .methodLink RX9 87 yX9_in, .static yX9_in, .code yX9_in cX9_in 3 (some .boolean), .methodLink RX9 97 yX9_goes, .instanceMethod yX9_goes, .selects RX9 yX9_goes yX9_goes, .code yX9_goes cX9_goes 4 (some .boolean), .fieldLink RX9 80 "InkRingModel" "thrown" "I"] ++ wsX90)
def wsX9_won_r1 : List Cond := [Cond.fieldLink RX9 84 "InkRingModel" "duels" "I", Cond.methodLink RX9 87 yX9_in, Cond.static yX9_in, Cond.initialized RX9, Cond.code yX9_in cX9_in 3 (some .boolean), Cond.methodLink RX9 97 yX9_goes, Cond.instanceMethod yX9_goes, Cond.selects RX9 yX9_goes yX9_goes, Cond.code yX9_goes cX9_goes 4 (some .boolean), Cond.fieldLink RX9 80 "InkRingModel" "thrown" "I", Cond.methodLink RX9 169 yX9_winner, Cond.instanceMethod yX9_winner, Cond.selects RX9 yX9_winner yX9_winner, Cond.code yX9_winner cX9_winner 3 (some .int), Cond.fieldLink RX9 34 "InkRingModel" "one" "[I", Cond.fieldLink RX9 37 "InkRingModel" "other" "[I", Cond.methodLink RX9 111 yX9_isOver, Cond.instanceMethod yX9_isOver, Cond.selects RX9 yX9_isOver yX9_isOver, Cond.code yX9_isOver cX9_isOver 2 (some .boolean), Cond.fieldLink RX9 61 "InkRingModel" "handed" "[I", Cond.fieldLink RX9 49 "InkRingModel" "rounds" "[I", Cond.methodLink RX9 166 yX9_roundsTo, Cond.instanceMethod yX9_roundsTo]
def wsX9_won_r2 : List Cond := [Cond.selects RX9 yX9_roundsTo yX9_roundsTo, Cond.code yX9_roundsTo cX9_roundsTo 5 (some .int), Cond.methodLink RX9 163 yX9_roundTo, Cond.instanceMethod yX9_roundTo, Cond.selects RX9 yX9_roundTo yX9_roundTo, Cond.code yX9_roundTo cX9_roundTo 6 (some .int), Cond.fieldLink RX9 74 "InkRingModel" "isFound" "[Z", Cond.methodLink RX9 160 yX9_byAll, Cond.instanceMethod yX9_byAll, Cond.selects RX9 yX9_byAll yX9_byAll, Cond.code yX9_byAll cX9_byAll 4 (some .float), Cond.fieldLink RX9 40 "InkRingModel" "judge" "[I", Cond.fieldLink RX9 43 "InkRingModel" "second" "[I", Cond.methodLink RX9 156 yX9_byJudge, Cond.instanceMethod yX9_byJudge, Cond.selects RX9 yX9_byJudge yX9_byJudge, Cond.code yX9_byJudge cX9_byJudge 9 (some .float), Cond.fieldLink RX9 31 "InkRingModel" "learned" "[I", Cond.fieldLink RX9 58 "InkRingModel" "began" "[I", Cond.fieldLink RX9 77 "InkRingModel" "writings" "[I", Cond.fieldLink RX9 64 "InkRingModel" "strokes" "[I", Cond.fieldLink RX9 67 "InkRingModel" "dampThen" "[I", Cond.methodLink RX9 148 yX9_promptOf, Cond.instanceMethod yX9_promptOf]
def wsX9_won_r3 : List Cond := [Cond.selects RX9 yX9_promptOf yX9_promptOf, Cond.code yX9_promptOf cX9_promptOf 3 (some .int), Cond.fieldLink RX9 52 "InkRingModel" "draw" "[I", Cond.fieldLink RX9 55 "InkRingModel" "signsThen" "[I", Cond.methodLink RX9 152 yX9_markOf, Cond.instanceMethod yX9_markOf, Cond.selects RX9 yX9_markOf yX9_markOf, Cond.code yX9_markOf cX9_markOf 12 (some .float), Cond.fieldLink RX9 13 "InkRingModel" "longOf" "[I", Cond.fieldLink RX9 28 "InkRingModel" "weights" "[I", Cond.fieldLink RX9 16 "InkRingModel" "models" "[I", Cond.constantFloat RX9 147 (1120403456), Cond.methodLink RX9 135 yX9_nearness, Cond.static yX9_nearness, Cond.code yX9_nearness cX9_nearness 7 (some .float), Cond.constantFloat RX9 129 (1092616192), Cond.constantFloat RX9 134 (1128792064), Cond.methodLink RX9 125 yX9_amount, Cond.static yX9_amount, Cond.code yX9_amount cX9_amount 1 (some .int), Cond.methodLink RX9 130 yX9_above, Cond.static yX9_above, Cond.code yX9_above cX9_above 1 (some .float), Cond.methodLink RX9 139 yX9_slope]
def wsX9_won_r4 : List Cond := [Cond.static yX9_slope, Cond.code yX9_slope cX9_slope 9 (some .float), Cond.methodLink RX9 143 yX9_order, Cond.static yX9_order, Cond.code yX9_order cX9_order 2 (some .float)]
def wsX9_won : List Cond := .code yX9_won cX9_won 4 (some .int) :: ((wsX9_won_r1 ++ (wsX9_won_r2 ++ (wsX9_won_r3 ++ wsX9_won_r4))) ++ wsX90)
def wsJ9_abs_0f7a4 : List Cond := .code yJ9_abs_0f7a4 cJ9_abs_0f7a4 1 (some .int) :: ([])
def wsJ9_max_7cf53 : List Cond := .code yJ9_max_7cf53 cJ9_max_7cf53 2 (some .int) :: ([])
def wsJ9_min_7cf53 : List Cond := .code yJ9_min_7cf53 cJ9_min_7cf53 2 (some .int) :: ([])
def wsL_stroke_r1 : List Cond := [Cond.classLink RL 13 "java/lang/IllegalArgumentException", Cond.classLink RL 15 "java/lang/IllegalStateException", Cond.methodLink RL 7 yX8_stroke, Cond.instanceMethod yX8_stroke, Cond.selects RX8 yX8_stroke yX8_stroke, Cond.initialized RX8, Cond.code yX8_stroke cX8_stroke 5 (some .int), Cond.classLink RX8 51 "java/lang/IllegalArgumentException", Cond.initialized "java/lang/IllegalArgumentException", Cond.classLink RX8 64 "java/lang/IllegalStateException", Cond.initialized "java/lang/IllegalStateException", Cond.fieldLink RX8 40 "InkRing" "draft" "LInkRing$Strokes;", Cond.fieldLink RX8 60 "InkRing$Strokes" "count" "I", Cond.classLink RX8 69 RX4, Cond.instantiable RX4 4, Cond.initialized RX4, Cond.methodLink RX8 47 yX8_isPlace, Cond.static yX8_isPlace, Cond.code yX8_isPlace cX8_isPlace 2 (some .boolean), Cond.methodLink RX8 97 yX8_isWithin, Cond.static yX8_isWithin, Cond.code yX8_isWithin cX8_isWithin 3 (some .boolean), Cond.methodLink RX8 71 yX4_init, Cond.instanceMethod yX4_init]
def wsL_stroke_r2 : List Cond := [Cond.code yX4_init cX4_init 5 none, Cond.methodLink RX4 1 objectInit, Cond.instanceMethod objectInit, Cond.code objectInit ⟨#[0xb1]⟩ 1 none, Cond.fieldLink RX4 7 "InkRing$Stroke" "x" "I", Cond.fieldLink RX4 13 "InkRing$Stroke" "y" "I", Cond.fieldLink RX4 16 "InkRing$Stroke" "endX" "I", Cond.fieldLink RX4 19 "InkRing$Stroke" "endY" "I", Cond.methodLink RX8 74 yX5_add, Cond.instanceMethod yX5_add, Cond.selects RX5 yX5_add yX5_add, Cond.initialized RX5, Cond.code yX5_add cX5_add 2 none, Cond.fieldLink RX5 17 "InkRing$Strokes" "count" "I", Cond.fieldLink RX5 11 "InkRing$Strokes" "row" "[LInkRing$Stroke;"]
def wsL_stroke : List Cond := .codeWith yL_stroke cL_stroke 7 (some .int) [(0, 14, 17, 13), (0, 14, 21, 15)] :: ((wsL_stroke_r1 ++ wsL_stroke_r2) ++ wsX80 ++ wsX50 ++ wsX40 ++ (vx_atS RX8 55 "java/lang/IllegalArgumentException" ["java/lang/RuntimeException", "java/lang/Exception"]).filter goodWord ++ (vx_atS RX8 68 "java/lang/IllegalStateException" ["java/lang/RuntimeException", "java/lang/Exception"]).filter goodWord)
def wsL_sign : List Cond := .codeWith yL_sign cL_sign 3 (some .int) [(0, 8, 11, 15)] :: ([.classLink RL 15 "java/lang/IllegalStateException", .methodLink RL 17 yX8_sign, .instanceMethod yX8_sign, .selects RX8 yX8_sign yX8_sign, .initialized RX8, .code yX8_sign cX8_sign 2 (some .int), .classLink RX8 64 "java/lang/IllegalStateException", .initialized "java/lang/IllegalStateException", .fieldLink RX8 40 "InkRing" "draft" "LInkRing$Strokes;", .fieldLink RX8 60 "InkRing$Strokes" "count" "I", .fieldLink RX8 83 "InkRing" "signCount" "I", .fieldLink RX8 11 "InkRing" "signs" "[LInkRing$Strokes;", .classLink RX8 9 RX5, .instantiable RX5 2, .initialized RX5, .instanceMethod yX5_init, .code yX5_init cX5_init 1 none, .methodLink RX5 3 objectInit, .instanceMethod objectInit, .code objectInit ⟨#[0xb1]⟩ 1 none, .classLink RX5 9 RX4, .fieldLink RX5 11 "InkRing$Strokes" "row" "[LInkRing$Stroke;"] ++ wsX80 ++ wsX50 ++ (vx_atS RX8 68 "java/lang/IllegalStateException" ["java/lang/RuntimeException", "java/lang/Exception"]).filter goodWord)
def wsL_buy : List Cond := .codeWith yL_buy cL_buy 5 (some .int) [(0, 10, 13, 25), (0, 10, 17, 13), (0, 10, 21, 15)] :: ([.classLink RL 25 "java/lang/IndexOutOfBoundsException", .classLink RL 13 "java/lang/IllegalArgumentException", .classLink RL 15 "java/lang/IllegalStateException", .methodLink RL 21 yX8_buy, .instanceMethod yX8_buy, .selects RX8 yX8_buy yX8_buy, .initialized RX8, .code yX8_buy cX8_buy 4 (some .int), .classLink RX8 92 "java/lang/IndexOutOfBoundsException", .initialized "java/lang/IndexOutOfBoundsException", .classLink RX8 51 "java/lang/IllegalArgumentException", .initialized "java/lang/IllegalArgumentException", .classLink RX8 64 "java/lang/IllegalStateException", .initialized "java/lang/IllegalStateException", .fieldLink RX8 103 "InkRing$Paper" "sheets" "I", .methodLink RX8 88 yX8_paperAt, .instanceMethod yX8_paperAt, .selects RX8 yX8_paperAt yX8_paperAt, .code yX8_paperAt cX8_paperAt 2 (some (.object "InkRing$Paper")), .fieldLink RX8 17 "InkRing" "papers" "[LInkRing$Paper;", .methodLink RX8 97 yX8_isWithin, .static yX8_isWithin, .code yX8_isWithin cX8_isWithin 3 (some .boolean)] ++ wsX20 ++ wsX80 ++ (vx_atS RX8 96 "java/lang/IndexOutOfBoundsException" ["java/lang/RuntimeException", "java/lang/Exception"]).filter goodWord ++ (vx_atS RX8 55 "java/lang/IllegalArgumentException" ["java/lang/RuntimeException", "java/lang/Exception"]).filter goodWord ++ (vx_atS RX8 68 "java/lang/IllegalStateException" ["java/lang/RuntimeException", "java/lang/Exception"]).filter goodWord)
def wsL_rise : List Cond := .codeWith yL_rise cL_rise 5 (some .int) [(0, 10, 13, 25), (0, 10, 17, 13)] :: ([.classLink RL 25 "java/lang/IndexOutOfBoundsException", .classLink RL 13 "java/lang/IllegalArgumentException", .methodLink RL 27 yX8_rise, .instanceMethod yX8_rise, .selects RX8 yX8_rise yX8_rise, .initialized RX8, .code yX8_rise cX8_rise 4 (some .int), .classLink RX8 92 "java/lang/IndexOutOfBoundsException", .initialized "java/lang/IndexOutOfBoundsException", .classLink RX8 51 "java/lang/IllegalArgumentException", .initialized "java/lang/IllegalArgumentException", .fieldLink RX8 110 "InkRing$Paper" "dailyRise" "I", .fieldLink RX8 113 "InkRing$Paper" "damp" "I", .methodLink RX8 88 yX8_paperAt, .instanceMethod yX8_paperAt, .selects RX8 yX8_paperAt yX8_paperAt, .code yX8_paperAt cX8_paperAt 2 (some (.object "InkRing$Paper")), .fieldLink RX8 17 "InkRing" "papers" "[LInkRing$Paper;", .methodLink RX8 97 yX8_isWithin, .static yX8_isWithin, .code yX8_isWithin cX8_isWithin 3 (some .boolean)] ++ wsX20 ++ wsX80 ++ (vx_atS RX8 96 "java/lang/IndexOutOfBoundsException" ["java/lang/RuntimeException", "java/lang/Exception"]).filter goodWord ++ (vx_atS RX8 55 "java/lang/IllegalArgumentException" ["java/lang/RuntimeException", "java/lang/Exception"]).filter goodWord)
def wsL_style : List Cond := .codeWith yL_style cL_style 6 (some .int) [(0, 9, 12, 25), (0, 9, 16, 13)] :: ([.classLink RL 25 "java/lang/IndexOutOfBoundsException", .classLink RL 13 "java/lang/IllegalArgumentException", .methodLink RL 30 yX8_style, .instanceMethod yX8_style, .selects RX8 yX8_style yX8_style, .initialized RX8, .code yX8_style cX8_style 6 none, .classLink RX8 92 "java/lang/IndexOutOfBoundsException", .initialized "java/lang/IndexOutOfBoundsException", .classLink RX8 51 "java/lang/IllegalArgumentException", .initialized "java/lang/IllegalArgumentException", .fieldLink RX8 124 "InkRing$Style" "nearness" "I", .fieldLink RX8 127 "InkRing$Style" "slope" "I", .fieldLink RX8 130 "InkRing$Style" "order" "I", .methodLink RX8 116 yX8_styleAt, .instanceMethod yX8_styleAt, .selects RX8 yX8_styleAt yX8_styleAt, .code yX8_styleAt cX8_styleAt 2 (some (.object "InkRing$Style")), .fieldLink RX8 23 "InkRing" "styles" "[LInkRing$Style;", .methodLink RX8 97 yX8_isWithin, .static yX8_isWithin, .code yX8_isWithin cX8_isWithin 3 (some .boolean)] ++ wsX60 ++ wsX80 ++ (vx_atS RX8 96 "java/lang/IndexOutOfBoundsException" ["java/lang/RuntimeException", "java/lang/Exception"]).filter goodWord ++ (vx_atS RX8 55 "java/lang/IllegalArgumentException" ["java/lang/RuntimeException", "java/lang/Exception"]).filter goodWord)
def wsL_learn_r1 : List Cond := [Cond.classLink RL 25 "java/lang/IndexOutOfBoundsException", Cond.classLink RL 15 "java/lang/IllegalStateException", Cond.methodLink RL 34 yX8_learn, Cond.instanceMethod yX8_learn, Cond.selects RX8 yX8_learn yX8_learn, Cond.initialized RX8, Cond.code yX8_learn cX8_learn 4 (some .int), Cond.classLink RX8 92 "java/lang/IndexOutOfBoundsException", Cond.initialized "java/lang/IndexOutOfBoundsException", Cond.classLink RX8 64 "java/lang/IllegalStateException", Cond.initialized "java/lang/IllegalStateException", Cond.fieldLink RX8 139 "InkRing" "day" "I", Cond.methodLink RX8 133 yX8_judgeAt, Cond.instanceMethod yX8_judgeAt, Cond.selects RX8 yX8_judgeAt yX8_judgeAt, Cond.code yX8_judgeAt cX8_judgeAt 2 (some (.object "InkRing$Judge")), Cond.fieldLink RX8 29 "InkRing" "judges" "[LInkRing$Judge;", Cond.methodLink RX8 116 yX8_styleAt, Cond.instanceMethod yX8_styleAt, Cond.selects RX8 yX8_styleAt yX8_styleAt, Cond.code yX8_styleAt cX8_styleAt 2 (some (.object "InkRing$Style")), Cond.fieldLink RX8 23 "InkRing" "styles" "[LInkRing$Style;", Cond.methodLink RX8 142 yX1_knowsOn, Cond.instanceMethod yX1_knowsOn]
def wsL_learn_r2 : List Cond := [Cond.selects RX1 yX1_knowsOn yX1_knowsOn, Cond.initialized RX1, Cond.code yX1_knowsOn cX1_knowsOn 3 (some .boolean), Cond.fieldLink RX1 9 "InkRing$Judge" "learnedOn" "[I", Cond.methodLink RX8 147 yX1_takeUp, Cond.instanceMethod yX1_takeUp, Cond.selects RX1 yX1_takeUp yX1_takeUp, Cond.code yX1_takeUp cX1_takeUp 3 none, Cond.methodLink RX8 151 yX1_countKnown, Cond.instanceMethod yX1_countKnown, Cond.selects RX1 yX1_countKnown yX1_countKnown, Cond.code yX1_countKnown cX1_countKnown 3 (some .int)]
def wsL_learn : List Cond := .codeWith yL_learn cL_learn 5 (some .int) [(0, 10, 13, 25), (0, 10, 17, 15)] :: ((wsL_learn_r1 ++ wsL_learn_r2) ++ wsX80 ++ wsX10 ++ (vx_atS RX8 96 "java/lang/IndexOutOfBoundsException" ["java/lang/RuntimeException", "java/lang/Exception"]).filter goodWord ++ (vx_atS RX8 68 "java/lang/IllegalStateException" ["java/lang/RuntimeException", "java/lang/Exception"]).filter goodWord)
def wsL_pass_r1 : List Cond := [Cond.classLink RL 13 "java/lang/IllegalArgumentException", Cond.classLink RL 15 "java/lang/IllegalStateException", Cond.methodLink RL 37 yX8_pass, Cond.instanceMethod yX8_pass, Cond.selects RX8 yX8_pass yX8_pass, Cond.initialized RX8, Cond.code yX8_pass cX8_pass 3 (some .int), Cond.classLink RX8 51 "java/lang/IllegalArgumentException", Cond.initialized "java/lang/IllegalArgumentException", Cond.classLink RX8 64 "java/lang/IllegalStateException", Cond.initialized "java/lang/IllegalStateException", Cond.fieldLink RX8 139 "InkRing" "day" "I", Cond.fieldLink RX8 17 "InkRing" "papers" "[LInkRing$Paper;", Cond.methodLink RX8 97 yX8_isWithin, Cond.static yX8_isWithin, Cond.code yX8_isWithin cX8_isWithin 3 (some .boolean), Cond.methodLink RX8 159 yX2_age, Cond.instanceMethod yX2_age, Cond.selects RX2 yX2_age yX2_age, Cond.initialized RX2, Cond.code yX2_age cX2_age 2 none, Cond.fieldLink RX2 9 "InkRing$Paper" "damp" "I", Cond.fieldLink RX2 15 "InkRing$Paper" "dailyRise" "I", Cond.methodLink RX2 18 Lib.Math.min.name]
def wsL_pass_r2 : List Cond := [Cond.static Lib.Math.min.name, Cond.initialized "java/lang/Math", Cond.code Lib.Math.min.name Lib.Math.min.code 2 (some .int), Cond.methodLink RX2 24 Lib.Math.max.name, Cond.static Lib.Math.max.name, Cond.code Lib.Math.max.name Lib.Math.max.code 2 (some .int)]
def wsL_pass : List Cond := .codeWith yL_pass cL_pass 4 (some .int) [(0, 9, 12, 13), (0, 9, 15, 15)] :: ((wsL_pass_r1 ++ wsL_pass_r2) ++ wsX80 ++ wsX20 ++ (vx_atS RX8 55 "java/lang/IllegalArgumentException" ["java/lang/RuntimeException", "java/lang/Exception"]).filter goodWord ++ (vx_atS RX8 68 "java/lang/IllegalStateException" ["java/lang/RuntimeException", "java/lang/Exception"]).filter goodWord)
def wsL_duel_r1 : List Cond := [Cond.classLink RL 25 "java/lang/IndexOutOfBoundsException", Cond.classLink RL 13 "java/lang/IllegalArgumentException", Cond.classLink RL 15 "java/lang/IllegalStateException", Cond.methodLink RL 41 yX8_duel, Cond.instanceMethod yX8_duel, Cond.selects RX8 yX8_duel yX8_duel, Cond.initialized RX8, Cond.code yX8_duel cX8_duel 9 (some .int), Cond.classLink RX8 92 "java/lang/IndexOutOfBoundsException", Cond.initialized "java/lang/IndexOutOfBoundsException", Cond.classLink RX8 51 "java/lang/IllegalArgumentException", Cond.initialized "java/lang/IllegalArgumentException", Cond.classLink RX8 64 "java/lang/IllegalStateException", Cond.initialized "java/lang/IllegalStateException", Cond.fieldLink RX8 83 "InkRing" "signCount" "I", Cond.fieldLink RX8 175 "InkRing" "duelCount" "I", Cond.fieldLink RX8 35 "InkRing" "duels" "[LInkRing$Duel;", Cond.classLink RX8 33 RX0, Cond.instantiable RX0 10, Cond.initialized RX0, Cond.fieldLink RX8 139 "InkRing" "day" "I", Cond.methodLink RX8 163 yX8_isWriter, Cond.static yX8_isWriter, Cond.code yX8_isWriter cX8_isWriter 1 (some .boolean)]
def wsL_duel_r2 : List Cond := [Cond.methodLink RX8 97 yX8_isWithin, Cond.static yX8_isWithin, Cond.code yX8_isWithin cX8_isWithin 3 (some .boolean), Cond.methodLink RX8 133 yX8_judgeAt, Cond.instanceMethod yX8_judgeAt, Cond.selects RX8 yX8_judgeAt yX8_judgeAt, Cond.code yX8_judgeAt cX8_judgeAt 2 (some (.object "InkRing$Judge")), Cond.fieldLink RX8 29 "InkRing" "judges" "[LInkRing$Judge;", Cond.methodLink RX8 88 yX8_paperAt, Cond.instanceMethod yX8_paperAt, Cond.selects RX8 yX8_paperAt yX8_paperAt, Cond.code yX8_paperAt cX8_paperAt 2 (some (.object "InkRing$Paper")), Cond.fieldLink RX8 17 "InkRing" "papers" "[LInkRing$Paper;", Cond.methodLink RX8 180 yX0_init, Cond.instanceMethod yX0_init, Cond.code yX0_init cX0_init 7 none, Cond.methodLink RX0 3 objectInit, Cond.instanceMethod objectInit, Cond.code objectInit ⟨#[0xb1]⟩ 1 none, Cond.arrayClass .int, Cond.fieldLink RX0 9 "InkRing$Duel" "prompts" "[I", Cond.classLink RX0 15 RX7, Cond.fieldLink RX0 17 "InkRing$Duel" "writings" "[LInkRing$Writing;", Cond.fieldLink RX0 21 "InkRing$Duel" "secondJudge" "I"]
def wsL_duel_r3 : List Cond := [Cond.fieldLink RX0 25 "InkRing$Duel" "one" "I", Cond.fieldLink RX0 28 "InkRing$Duel" "other" "I", Cond.fieldLink RX0 31 "InkRing$Duel" "judge" "I", Cond.fieldLink RX0 34 "InkRing$Duel" "paper" "I", Cond.fieldLink RX0 37 "InkRing$Duel" "rounds" "I", Cond.fieldLink RX0 40 "InkRing$Duel" "day" "I", Cond.methodLink RX8 183 yX0_drawPrompts, Cond.instanceMethod yX0_drawPrompts, Cond.selects RX0 yX0_drawPrompts yX0_drawPrompts, Cond.code yX0_drawPrompts cX0_drawPrompts 4 none]
def wsL_duel : List Cond := .codeWith yL_duel cL_duel 9 (some .int) [(0, 18, 21, 25), (0, 18, 25, 13), (0, 18, 29, 15)] :: ((wsL_duel_r1 ++ (wsL_duel_r2 ++ wsL_duel_r3)) ++ wsX80 ++ wsX00 ++ (vx_atS RX8 96 "java/lang/IndexOutOfBoundsException" ["java/lang/RuntimeException", "java/lang/Exception"]).filter goodWord ++ (vx_atS RX8 55 "java/lang/IllegalArgumentException" ["java/lang/RuntimeException", "java/lang/Exception"]).filter goodWord ++ (vx_atS RX8 68 "java/lang/IllegalStateException" ["java/lang/RuntimeException", "java/lang/Exception"]).filter goodWord)
def wsL_hand_r1 : List Cond := [Cond.classLink RL 25 "java/lang/IndexOutOfBoundsException", Cond.classLink RL 13 "java/lang/IllegalArgumentException", Cond.classLink RL 15 "java/lang/IllegalStateException", Cond.methodLink RL 45 yX8_hand, Cond.instanceMethod yX8_hand, Cond.selects RX8 yX8_hand yX8_hand, Cond.initialized RX8, Cond.code yX8_hand cX8_hand 7 (some .int), Cond.classLink RX8 92 "java/lang/IndexOutOfBoundsException", Cond.initialized "java/lang/IndexOutOfBoundsException", Cond.classLink RX8 51 "java/lang/IllegalArgumentException", Cond.initialized "java/lang/IllegalArgumentException", Cond.classLink RX8 64 "java/lang/IllegalStateException", Cond.initialized "java/lang/IllegalStateException", Cond.fieldLink RX8 194 "InkRing$Duel" "handedIn" "I", Cond.fieldLink RX8 211 "InkRing$Duel" "paper" "I", Cond.fieldLink RX8 40 "InkRing" "draft" "LInkRing$Strokes;", Cond.fieldLink RX8 60 "InkRing$Strokes" "count" "I", Cond.fieldLink RX8 103 "InkRing$Paper" "sheets" "I", Cond.fieldLink RX8 216 "InkRing" "sheetsTaken" "I", Cond.classLink RX8 226 RX7, Cond.instantiable RX7 4, Cond.initialized RX7, Cond.fieldLink RX8 113 "InkRing$Paper" "damp" "I"]
def wsL_hand_r2 : List Cond := [Cond.methodLink RX8 186 yX8_duelAt, Cond.instanceMethod yX8_duelAt, Cond.selects RX8 yX8_duelAt yX8_duelAt, Cond.code yX8_duelAt cX8_duelAt 2 (some (.object "InkRing$Duel")), Cond.fieldLink RX8 35 "InkRing" "duels" "[LInkRing$Duel;", Cond.methodLink RX8 97 yX8_isWithin, Cond.static yX8_isWithin, Cond.code yX8_isWithin cX8_isWithin 3 (some .boolean), Cond.methodLink RX8 197 yX0_promptAt, Cond.instanceMethod yX0_promptAt, Cond.selects RX0 yX0_promptAt yX0_promptAt, Cond.initialized RX0, Cond.code yX0_promptAt cX0_promptAt 2 (some .int), Cond.fieldLink RX0 9 "InkRing$Duel" "prompts" "[I", Cond.methodLink RX8 201 yX8_signAt, Cond.instanceMethod yX8_signAt, Cond.selects RX8 yX8_signAt yX8_signAt, Cond.code yX8_signAt cX8_signAt 2 (some (.object "InkRing$Strokes")), Cond.fieldLink RX8 11 "InkRing" "signs" "[LInkRing$Strokes;", Cond.methodLink RX8 205 yX0_isOver, Cond.instanceMethod yX0_isOver, Cond.selects RX0 yX0_isOver yX0_isOver, Cond.code yX0_isOver cX0_isOver 1 (some .boolean), Cond.fieldLink RX0 43 "InkRing$Duel" "handedIn" "I"]
def wsL_hand_r3 : List Cond := [Cond.fieldLink RX0 37 "InkRing$Duel" "rounds" "I", Cond.methodLink RX8 88 yX8_paperAt, Cond.instanceMethod yX8_paperAt, Cond.selects RX8 yX8_paperAt yX8_paperAt, Cond.code yX8_paperAt cX8_paperAt 2 (some (.object "InkRing$Paper")), Cond.fieldLink RX8 17 "InkRing" "papers" "[LInkRing$Paper;", Cond.methodLink RX8 219 yX0_nextWriter, Cond.instanceMethod yX0_nextWriter, Cond.selects RX0 yX0_nextWriter yX0_nextWriter, Cond.code yX0_nextWriter cX0_nextWriter 1 (some .int), Cond.fieldLink RX0 25 "InkRing$Duel" "one" "I", Cond.fieldLink RX0 28 "InkRing$Duel" "other" "I", Cond.methodLink RX8 222 yX8_rightSeal, Cond.static yX8_rightSeal, Cond.code yX8_rightSeal cX8_rightSeal 2 (some .int), Cond.methodLink RX8 228 yX7_init, Cond.instanceMethod yX7_init, Cond.code yX7_init cX7_init 6 none, Cond.methodLink RX7 3 objectInit, Cond.instanceMethod objectInit, Cond.code objectInit ⟨#[0xb1]⟩ 1 none, Cond.classLink RX7 9 RX3, Cond.fieldLink RX7 11 "InkRing$Writing" "parts" "[LInkRing$Parts;", Cond.fieldLink RX7 17 "InkRing$Strokes" "count" "I"]
def wsL_hand_r4 : List Cond := [Cond.fieldLink RX7 23 "InkRing$Writing" "modelStrokes" "I", Cond.fieldLink RX7 26 "InkRing$Writing" "forged" "Z", Cond.methodLink RX7 30 yX3_between, Cond.static yX3_between, Cond.initialized RX3, Cond.code yX3_between cX3_between 7 (some (.object "InkRing$Parts")), Cond.fieldLink RX3 25 "InkRing$Strokes" "count" "I", Cond.constantFloat RX3 29 (1092616192), Cond.classLink RX3 8 RX3, Cond.instantiable RX3 3, Cond.methodLink RX3 19 yX5_at, Cond.instanceMethod yX5_at, Cond.selects RX5 yX5_at yX5_at, Cond.initialized RX5, Cond.code yX5_at cX5_at 2 (some (.object "InkRing$Stroke")), Cond.fieldLink RX5 17 "InkRing$Strokes" "count" "I", Cond.fieldLink RX5 11 "InkRing$Strokes" "row" "[LInkRing$Stroke;", Cond.methodLink RX3 30 yX4_nearnessTo, Cond.instanceMethod yX4_nearnessTo, Cond.selects RX4 yX4_nearnessTo yX4_nearnessTo, Cond.initialized RX4, Cond.code yX4_nearnessTo cX4_nearnessTo 5 (some .float), Cond.fieldLink RX4 7 "InkRing$Stroke" "x" "I", Cond.methodLink RX4 22 Lib.Math.abs.name]
def wsL_hand_r5 : List Cond := [Cond.static Lib.Math.abs.name, Cond.initialized "java/lang/Math", Cond.code Lib.Math.abs.name Lib.Math.abs.code 1 (some .int), Cond.fieldLink RX4 13 "InkRing$Stroke" "y" "I", Cond.fieldLink RX4 16 "InkRing$Stroke" "endX" "I", Cond.fieldLink RX4 19 "InkRing$Stroke" "endY" "I", Cond.constantFloat RX4 28 (1092616192), Cond.constantFloat RX4 29 (1128792064), Cond.methodLink RX3 36 yX4_slopeTo, Cond.instanceMethod yX4_slopeTo, Cond.selects RX4 yX4_slopeTo yX4_slopeTo, Cond.code yX4_slopeTo cX4_slopeTo 7 (some .float), Cond.methodLink RX4 30 yX4_squaredWay, Cond.instanceMethod yX4_squaredWay, Cond.selects RX4 yX4_squaredWay yX4_squaredWay, Cond.code yX4_squaredWay cX4_squaredWay 1 (some .int), Cond.methodLink RX3 40 yX3_init, Cond.instanceMethod yX3_init, Cond.code yX3_init cX3_init 4 none, Cond.methodLink RX3 1 objectInit, Cond.fieldLink RX3 7 "InkRing$Parts" "nearness" "F", Cond.fieldLink RX3 13 "InkRing$Parts" "slope" "F", Cond.fieldLink RX3 16 "InkRing$Parts" "order" "F", Cond.methodLink RX8 231 yX0_add]
def wsL_hand_r6 : List Cond := [Cond.instanceMethod yX0_add, Cond.selects RX0 yX0_add yX0_add, Cond.code yX0_add cX0_add 2 none, Cond.fieldLink RX0 17 "InkRing$Duel" "writings" "[LInkRing$Writing;", Cond.methodLink RX8 78 yX5_empty, Cond.instanceMethod yX5_empty, Cond.selects RX5 yX5_empty yX5_empty, Cond.code yX5_empty cX5_empty 1 none]
def wsL_hand : List Cond := .codeWith yL_hand cL_hand 5 (some .int) [(0, 10, 13, 25), (0, 10, 17, 13), (0, 10, 21, 15)] :: ((wsL_hand_r1 ++ (wsL_hand_r2 ++ (wsL_hand_r3 ++ (wsL_hand_r4 ++ (wsL_hand_r5 ++ wsL_hand_r6))))) ++ wsX00 ++ wsX80 ++ wsX50 ++ wsX20 ++ wsX70 ++ wsX30 ++ wsX40 ++ (vx_atS RX8 96 "java/lang/IndexOutOfBoundsException" ["java/lang/RuntimeException", "java/lang/Exception"]).filter goodWord ++ (vx_atS RX8 55 "java/lang/IllegalArgumentException" ["java/lang/RuntimeException", "java/lang/Exception"]).filter goodWord ++ (vx_atS RX8 68 "java/lang/IllegalStateException" ["java/lang/RuntimeException", "java/lang/Exception"]).filter goodWord)
def wsL_look : List Cond := .codeWith yL_look cL_look 6 (some .int) [(0, 19, 22, 25)] :: ([.classLink RL 25 "java/lang/IndexOutOfBoundsException", .methodLink RL 48 yX8_look, .instanceMethod yX8_look, .selects RX8 yX8_look yX8_look, .initialized RX8, .code yX8_look cX8_look 6 (some .boolean), .classLink RX8 92 "java/lang/IndexOutOfBoundsException", .initialized "java/lang/IndexOutOfBoundsException", .fieldLink RX8 240 "InkRing$Writing" "forged" "Z", .fieldLink RX8 244 "InkRing$Writing" "found" "Z", .methodLink RX8 186 yX8_duelAt, .instanceMethod yX8_duelAt, .selects RX8 yX8_duelAt yX8_duelAt, .code yX8_duelAt cX8_duelAt 2 (some (.object "InkRing$Duel")), .fieldLink RX8 35 "InkRing" "duels" "[LInkRing$Duel;", .methodLink RX8 234 yX0_writingAt, .instanceMethod yX0_writingAt, .selects RX0 yX0_writingAt yX0_writingAt, .initialized RX0, .code yX0_writingAt cX0_writingAt 4 (some (.object "InkRing$Writing")), .fieldLink RX0 17 "InkRing$Duel" "writings" "[LInkRing$Writing;"] ++ wsX70 ++ wsX80 ++ wsX00 ++ (vx_atS RX8 96 "java/lang/IndexOutOfBoundsException" ["java/lang/RuntimeException", "java/lang/Exception"]).filter goodWord)
def wsL_appeal_r1 : List Cond := [Cond.classLink RL 25 "java/lang/IndexOutOfBoundsException", Cond.classLink RL 15 "java/lang/IllegalStateException", Cond.methodLink RL 52 yX8_appeal, Cond.instanceMethod yX8_appeal, Cond.selects RX8 yX8_appeal yX8_appeal, Cond.initialized RX8, Cond.code yX8_appeal cX8_appeal 4 (some .int), Cond.classLink RX8 92 "java/lang/IndexOutOfBoundsException", Cond.initialized "java/lang/IndexOutOfBoundsException", Cond.classLink RX8 64 "java/lang/IllegalStateException", Cond.initialized "java/lang/IllegalStateException", Cond.fieldLink RX8 249 "InkRing$Duel" "secondJudge" "I", Cond.fieldLink RX8 252 "InkRing$Duel" "judge" "I", Cond.methodLink RX8 186 yX8_duelAt, Cond.instanceMethod yX8_duelAt, Cond.selects RX8 yX8_duelAt yX8_duelAt, Cond.code yX8_duelAt cX8_duelAt 2 (some (.object "InkRing$Duel")), Cond.fieldLink RX8 35 "InkRing" "duels" "[LInkRing$Duel;", Cond.methodLink RX8 133 yX8_judgeAt, Cond.instanceMethod yX8_judgeAt, Cond.selects RX8 yX8_judgeAt yX8_judgeAt, Cond.code yX8_judgeAt cX8_judgeAt 2 (some (.object "InkRing$Judge")), Cond.fieldLink RX8 29 "InkRing" "judges" "[LInkRing$Judge;", Cond.methodLink RX8 205 yX0_isOver]
def wsL_appeal_r2 : List Cond := [Cond.instanceMethod yX0_isOver, Cond.selects RX0 yX0_isOver yX0_isOver, Cond.initialized RX0, Cond.code yX0_isOver cX0_isOver 1 (some .boolean), Cond.fieldLink RX0 43 "InkRing$Duel" "handedIn" "I", Cond.fieldLink RX0 37 "InkRing$Duel" "rounds" "I", Cond.methodLink RX8 257 yX8_winnerOf, Cond.instanceMethod yX8_winnerOf, Cond.selects RX8 yX8_winnerOf yX8_winnerOf, Cond.code yX8_winnerOf cX8_winnerOf 4 (some .int), Cond.fieldLink RX8 302 "InkRing$Duel" "one" "I", Cond.fieldLink RX8 305 "InkRing$Duel" "other" "I", Cond.methodLink RX8 299 yX8_roundGoesTo, Cond.instanceMethod yX8_roundGoesTo, Cond.selects RX8 yX8_roundGoesTo yX8_roundGoesTo, Cond.code yX8_roundGoesTo cX8_roundGoesTo 7 (some .int), Cond.fieldLink RX8 244 "InkRing$Writing" "found" "Z", Cond.methodLink RX8 234 yX0_writingAt, Cond.instanceMethod yX0_writingAt, Cond.selects RX0 yX0_writingAt yX0_writingAt, Cond.code yX0_writingAt cX0_writingAt 4 (some (.object "InkRing$Writing")), Cond.fieldLink RX0 17 "InkRing$Duel" "writings" "[LInkRing$Writing;", Cond.methodLink RX8 286 yX8_judgedMark, Cond.instanceMethod yX8_judgedMark]
def wsL_appeal_r3 : List Cond := [Cond.selects RX8 yX8_judgedMark yX8_judgedMark, Cond.code yX8_judgedMark cX8_judgedMark 5 (some .float), Cond.fieldLink RX8 294 "InkRing$Duel" "day" "I", Cond.methodLink RX8 295 yX8_markByJudge, Cond.instanceMethod yX8_markByJudge, Cond.selects RX8 yX8_markByJudge yX8_markByJudge, Cond.code yX8_markByJudge cX8_markByJudge 7 (some .float), Cond.fieldLink RX8 23 "InkRing" "styles" "[LInkRing$Style;", Cond.methodLink RX8 142 yX1_knowsOn, Cond.instanceMethod yX1_knowsOn, Cond.selects RX1 yX1_knowsOn yX1_knowsOn, Cond.initialized RX1, Cond.code yX1_knowsOn cX1_knowsOn 3 (some .boolean), Cond.fieldLink RX1 9 "InkRing$Judge" "learnedOn" "[I", Cond.methodLink RX8 265 yX7_markBy, Cond.instanceMethod yX7_markBy, Cond.selects RX7 yX7_markBy yX7_markBy, Cond.initialized RX7, Cond.code yX7_markBy cX7_markBy 4 (some .float), Cond.fieldLink RX7 23 "InkRing$Writing" "modelStrokes" "I", Cond.fieldLink RX7 11 "InkRing$Writing" "parts" "[LInkRing$Parts;", Cond.methodLink RX7 34 yX3_markBy, Cond.instanceMethod yX3_markBy, Cond.selects RX3 yX3_markBy yX3_markBy]
def wsL_appeal_r4 : List Cond := [Cond.initialized RX3, Cond.code yX3_markBy cX3_markBy 3 (some .float), Cond.fieldLink RX3 43 "InkRing$Style" "nearness" "I", Cond.fieldLink RX3 7 "InkRing$Parts" "nearness" "F", Cond.fieldLink RX3 47 "InkRing$Style" "slope" "I", Cond.fieldLink RX3 13 "InkRing$Parts" "slope" "F", Cond.fieldLink RX3 49 "InkRing$Style" "order" "I", Cond.fieldLink RX3 16 "InkRing$Parts" "order" "F", Cond.constantFloat RX3 51 (1120403456)]
def wsL_appeal : List Cond := .codeWith yL_appeal cL_appeal 5 (some .int) [(0, 10, 13, 25), (0, 10, 17, 15)] :: ((wsL_appeal_r1 ++ (wsL_appeal_r2 ++ (wsL_appeal_r3 ++ wsL_appeal_r4))) ++ wsX00 ++ wsX80 ++ wsX70 ++ wsX10 ++ wsX60 ++ wsX30 ++ (vx_atS RX8 96 "java/lang/IndexOutOfBoundsException" ["java/lang/RuntimeException", "java/lang/Exception"]).filter goodWord ++ (vx_atS RX8 68 "java/lang/IllegalStateException" ["java/lang/RuntimeException", "java/lang/Exception"]).filter goodWord)
def wsL_prompt : List Cond := .codeWith yL_prompt cL_prompt 5 (some .int) [(0, 10, 13, 25)] :: ([.classLink RL 25 "java/lang/IndexOutOfBoundsException", .methodLink RL 55 yX8_prompt, .instanceMethod yX8_prompt, .selects RX8 yX8_prompt yX8_prompt, .initialized RX8, .code yX8_prompt cX8_prompt 5 (some .int), .classLink RX8 92 "java/lang/IndexOutOfBoundsException", .initialized "java/lang/IndexOutOfBoundsException", .methodLink RX8 186 yX8_duelAt, .instanceMethod yX8_duelAt, .selects RX8 yX8_duelAt yX8_duelAt, .code yX8_duelAt cX8_duelAt 2 (some (.object "InkRing$Duel")), .fieldLink RX8 35 "InkRing" "duels" "[LInkRing$Duel;", .methodLink RX8 197 yX0_promptAt, .instanceMethod yX0_promptAt, .selects RX0 yX0_promptAt yX0_promptAt, .initialized RX0, .code yX0_promptAt cX0_promptAt 2 (some .int), .fieldLink RX0 9 "InkRing$Duel" "prompts" "[I"] ++ wsX80 ++ wsX00 ++ (vx_atS RX8 96 "java/lang/IndexOutOfBoundsException" ["java/lang/RuntimeException", "java/lang/Exception"]).filter goodWord)
def wsL_mark_r1 : List Cond := [Cond.classLink RL 25 "java/lang/IndexOutOfBoundsException", Cond.methodLink RL 58 yX8_mark, Cond.instanceMethod yX8_mark, Cond.selects RX8 yX8_mark yX8_mark, Cond.initialized RX8, Cond.code yX8_mark cX8_mark 5 (some .float), Cond.classLink RX8 92 "java/lang/IndexOutOfBoundsException", Cond.initialized "java/lang/IndexOutOfBoundsException", Cond.classLink RX8 226 RX7, Cond.instantiable RX7 4, Cond.initialized RX7, Cond.fieldLink RX8 40 "InkRing" "draft" "LInkRing$Strokes;", Cond.methodLink RX8 201 yX8_signAt, Cond.instanceMethod yX8_signAt, Cond.selects RX8 yX8_signAt yX8_signAt, Cond.code yX8_signAt cX8_signAt 2 (some (.object "InkRing$Strokes")), Cond.fieldLink RX8 11 "InkRing" "signs" "[LInkRing$Strokes;", Cond.methodLink RX8 116 yX8_styleAt, Cond.instanceMethod yX8_styleAt, Cond.selects RX8 yX8_styleAt yX8_styleAt, Cond.code yX8_styleAt cX8_styleAt 2 (some (.object "InkRing$Style")), Cond.fieldLink RX8 23 "InkRing" "styles" "[LInkRing$Style;", Cond.methodLink RX8 228 yX7_init, Cond.instanceMethod yX7_init]
def wsL_mark_r2 : List Cond := [Cond.code yX7_init cX7_init 6 none, Cond.methodLink RX7 3 objectInit, Cond.instanceMethod objectInit, Cond.code objectInit ⟨#[0xb1]⟩ 1 none, Cond.classLink RX7 9 RX3, Cond.fieldLink RX7 11 "InkRing$Writing" "parts" "[LInkRing$Parts;", Cond.fieldLink RX7 17 "InkRing$Strokes" "count" "I", Cond.fieldLink RX7 23 "InkRing$Writing" "modelStrokes" "I", Cond.fieldLink RX7 26 "InkRing$Writing" "forged" "Z", Cond.methodLink RX7 30 yX3_between, Cond.static yX3_between, Cond.initialized RX3, Cond.code yX3_between cX3_between 7 (some (.object "InkRing$Parts")), Cond.fieldLink RX3 25 "InkRing$Strokes" "count" "I", Cond.constantFloat RX3 29 (1092616192), Cond.classLink RX3 8 RX3, Cond.instantiable RX3 3, Cond.methodLink RX3 19 yX5_at, Cond.instanceMethod yX5_at, Cond.selects RX5 yX5_at yX5_at, Cond.initialized RX5, Cond.code yX5_at cX5_at 2 (some (.object "InkRing$Stroke")), Cond.fieldLink RX5 17 "InkRing$Strokes" "count" "I", Cond.fieldLink RX5 11 "InkRing$Strokes" "row" "[LInkRing$Stroke;"]
def wsL_mark_r3 : List Cond := [Cond.methodLink RX3 30 yX4_nearnessTo, Cond.instanceMethod yX4_nearnessTo, Cond.selects RX4 yX4_nearnessTo yX4_nearnessTo, Cond.initialized RX4, Cond.code yX4_nearnessTo cX4_nearnessTo 5 (some .float), Cond.fieldLink RX4 7 "InkRing$Stroke" "x" "I", Cond.methodLink RX4 22 Lib.Math.abs.name, Cond.static Lib.Math.abs.name, Cond.initialized "java/lang/Math", Cond.code Lib.Math.abs.name Lib.Math.abs.code 1 (some .int), Cond.fieldLink RX4 13 "InkRing$Stroke" "y" "I", Cond.fieldLink RX4 16 "InkRing$Stroke" "endX" "I", Cond.fieldLink RX4 19 "InkRing$Stroke" "endY" "I", Cond.constantFloat RX4 28 (1092616192), Cond.constantFloat RX4 29 (1128792064), Cond.methodLink RX3 36 yX4_slopeTo, Cond.instanceMethod yX4_slopeTo, Cond.selects RX4 yX4_slopeTo yX4_slopeTo, Cond.code yX4_slopeTo cX4_slopeTo 7 (some .float), Cond.methodLink RX4 30 yX4_squaredWay, Cond.instanceMethod yX4_squaredWay, Cond.selects RX4 yX4_squaredWay yX4_squaredWay, Cond.code yX4_squaredWay cX4_squaredWay 1 (some .int), Cond.methodLink RX3 40 yX3_init]
def wsL_mark_r4 : List Cond := [Cond.instanceMethod yX3_init, Cond.code yX3_init cX3_init 4 none, Cond.methodLink RX3 1 objectInit, Cond.fieldLink RX3 7 "InkRing$Parts" "nearness" "F", Cond.fieldLink RX3 13 "InkRing$Parts" "slope" "F", Cond.fieldLink RX3 16 "InkRing$Parts" "order" "F", Cond.methodLink RX8 265 yX7_markBy, Cond.instanceMethod yX7_markBy, Cond.selects RX7 yX7_markBy yX7_markBy, Cond.code yX7_markBy cX7_markBy 4 (some .float), Cond.methodLink RX7 34 yX3_markBy, Cond.instanceMethod yX3_markBy, Cond.selects RX3 yX3_markBy yX3_markBy, Cond.code yX3_markBy cX3_markBy 3 (some .float), Cond.fieldLink RX3 43 "InkRing$Style" "nearness" "I", Cond.fieldLink RX3 47 "InkRing$Style" "slope" "I", Cond.fieldLink RX3 49 "InkRing$Style" "order" "I", Cond.constantFloat RX3 51 (1120403456)]
def wsL_mark : List Cond := .codeWith yL_mark cL_mark 5 (some .int) [(0, 10, 13, 25)] :: ((wsL_mark_r1 ++ (wsL_mark_r2 ++ (wsL_mark_r3 ++ wsL_mark_r4))) ++ wsX70 ++ wsX80 ++ wsX50 ++ wsX30 ++ wsX40 ++ wsX60 ++ (vx_atS RX8 96 "java/lang/IndexOutOfBoundsException" ["java/lang/RuntimeException", "java/lang/Exception"]).filter goodWord)
def wsL_part_r1 : List Cond := [Cond.classLink RL 25 "java/lang/IndexOutOfBoundsException", Cond.classLink RL 13 "java/lang/IllegalArgumentException", Cond.methodLink RL 62 yX8_part, Cond.instanceMethod yX8_part, Cond.selects RX8 yX8_part yX8_part, Cond.initialized RX8, Cond.code yX8_part cX8_part 6 (some .float), Cond.classLink RX8 92 "java/lang/IndexOutOfBoundsException", Cond.initialized "java/lang/IndexOutOfBoundsException", Cond.classLink RX8 51 "java/lang/IllegalArgumentException", Cond.initialized "java/lang/IllegalArgumentException", Cond.fieldLink RX8 40 "InkRing" "draft" "LInkRing$Strokes;", Cond.fieldLink RX8 277 "InkRing$Parts" "nearness" "F", Cond.fieldLink RX8 280 "InkRing$Parts" "slope" "F", Cond.fieldLink RX8 282 "InkRing$Parts" "order" "F", Cond.methodLink RX8 201 yX8_signAt, Cond.instanceMethod yX8_signAt, Cond.selects RX8 yX8_signAt yX8_signAt, Cond.code yX8_signAt cX8_signAt 2 (some (.object "InkRing$Strokes")), Cond.fieldLink RX8 11 "InkRing" "signs" "[LInkRing$Strokes;", Cond.methodLink RX8 269 yX3_between, Cond.static yX3_between, Cond.initialized RX3, Cond.code yX3_between cX3_between 7 (some (.object "InkRing$Parts"))]
def wsL_part_r2 : List Cond := [Cond.fieldLink RX3 25 "InkRing$Strokes" "count" "I", Cond.constantFloat RX3 29 (1092616192), Cond.classLink RX3 8 RX3, Cond.instantiable RX3 3, Cond.methodLink RX3 19 yX5_at, Cond.instanceMethod yX5_at, Cond.selects RX5 yX5_at yX5_at, Cond.initialized RX5, Cond.code yX5_at cX5_at 2 (some (.object "InkRing$Stroke")), Cond.fieldLink RX5 17 "InkRing$Strokes" "count" "I", Cond.fieldLink RX5 11 "InkRing$Strokes" "row" "[LInkRing$Stroke;", Cond.methodLink RX3 30 yX4_nearnessTo, Cond.instanceMethod yX4_nearnessTo, Cond.selects RX4 yX4_nearnessTo yX4_nearnessTo, Cond.initialized RX4, Cond.code yX4_nearnessTo cX4_nearnessTo 5 (some .float), Cond.fieldLink RX4 7 "InkRing$Stroke" "x" "I", Cond.methodLink RX4 22 Lib.Math.abs.name, Cond.static Lib.Math.abs.name, Cond.initialized "java/lang/Math", Cond.code Lib.Math.abs.name Lib.Math.abs.code 1 (some .int), Cond.fieldLink RX4 13 "InkRing$Stroke" "y" "I", Cond.fieldLink RX4 16 "InkRing$Stroke" "endX" "I", Cond.fieldLink RX4 19 "InkRing$Stroke" "endY" "I"]
def wsL_part_r3 : List Cond := [Cond.constantFloat RX4 28 (1092616192), Cond.constantFloat RX4 29 (1128792064), Cond.methodLink RX3 36 yX4_slopeTo, Cond.instanceMethod yX4_slopeTo, Cond.selects RX4 yX4_slopeTo yX4_slopeTo, Cond.code yX4_slopeTo cX4_slopeTo 7 (some .float), Cond.methodLink RX4 30 yX4_squaredWay, Cond.instanceMethod yX4_squaredWay, Cond.selects RX4 yX4_squaredWay yX4_squaredWay, Cond.code yX4_squaredWay cX4_squaredWay 1 (some .int), Cond.methodLink RX3 40 yX3_init, Cond.instanceMethod yX3_init, Cond.code yX3_init cX3_init 4 none, Cond.methodLink RX3 1 objectInit, Cond.instanceMethod objectInit, Cond.code objectInit ⟨#[0xb1]⟩ 1 none, Cond.fieldLink RX3 7 "InkRing$Parts" "nearness" "F", Cond.fieldLink RX3 13 "InkRing$Parts" "slope" "F", Cond.fieldLink RX3 16 "InkRing$Parts" "order" "F"]
def wsL_part : List Cond := .codeWith yL_part cL_part 6 (some .int) [(0, 12, 15, 25), (0, 12, 19, 13)] :: ((wsL_part_r1 ++ (wsL_part_r2 ++ wsL_part_r3)) ++ wsX80 ++ wsX30 ++ wsX50 ++ wsX40 ++ (vx_atS RX8 96 "java/lang/IndexOutOfBoundsException" ["java/lang/RuntimeException", "java/lang/Exception"]).filter goodWord ++ (vx_atS RX8 55 "java/lang/IllegalArgumentException" ["java/lang/RuntimeException", "java/lang/Exception"]).filter goodWord)
def wsL_marked_r1 : List Cond := [Cond.classLink RL 25 "java/lang/IndexOutOfBoundsException", Cond.methodLink RL 66 yX8_marked, Cond.instanceMethod yX8_marked, Cond.selects RX8 yX8_marked yX8_marked, Cond.initialized RX8, Cond.code yX8_marked cX8_marked 6 (some .float), Cond.classLink RX8 92 "java/lang/IndexOutOfBoundsException", Cond.initialized "java/lang/IndexOutOfBoundsException", Cond.methodLink RX8 186 yX8_duelAt, Cond.instanceMethod yX8_duelAt, Cond.selects RX8 yX8_duelAt yX8_duelAt, Cond.code yX8_duelAt cX8_duelAt 2 (some (.object "InkRing$Duel")), Cond.fieldLink RX8 35 "InkRing" "duels" "[LInkRing$Duel;", Cond.methodLink RX8 234 yX0_writingAt, Cond.instanceMethod yX0_writingAt, Cond.selects RX0 yX0_writingAt yX0_writingAt, Cond.initialized RX0, Cond.code yX0_writingAt cX0_writingAt 4 (some (.object "InkRing$Writing")), Cond.fieldLink RX0 17 "InkRing$Duel" "writings" "[LInkRing$Writing;", Cond.methodLink RX8 286 yX8_judgedMark, Cond.instanceMethod yX8_judgedMark, Cond.selects RX8 yX8_judgedMark yX8_judgedMark, Cond.code yX8_judgedMark cX8_judgedMark 5 (some .float), Cond.fieldLink RX8 252 "InkRing$Duel" "judge" "I"]
def wsL_marked_r2 : List Cond := [Cond.fieldLink RX8 294 "InkRing$Duel" "day" "I", Cond.fieldLink RX8 249 "InkRing$Duel" "secondJudge" "I", Cond.methodLink RX8 133 yX8_judgeAt, Cond.instanceMethod yX8_judgeAt, Cond.selects RX8 yX8_judgeAt yX8_judgeAt, Cond.code yX8_judgeAt cX8_judgeAt 2 (some (.object "InkRing$Judge")), Cond.fieldLink RX8 29 "InkRing" "judges" "[LInkRing$Judge;", Cond.methodLink RX8 295 yX8_markByJudge, Cond.instanceMethod yX8_markByJudge, Cond.selects RX8 yX8_markByJudge yX8_markByJudge, Cond.code yX8_markByJudge cX8_markByJudge 7 (some .float), Cond.fieldLink RX8 23 "InkRing" "styles" "[LInkRing$Style;", Cond.methodLink RX8 142 yX1_knowsOn, Cond.instanceMethod yX1_knowsOn, Cond.selects RX1 yX1_knowsOn yX1_knowsOn, Cond.initialized RX1, Cond.code yX1_knowsOn cX1_knowsOn 3 (some .boolean), Cond.fieldLink RX1 9 "InkRing$Judge" "learnedOn" "[I", Cond.methodLink RX8 265 yX7_markBy, Cond.instanceMethod yX7_markBy, Cond.selects RX7 yX7_markBy yX7_markBy, Cond.initialized RX7, Cond.code yX7_markBy cX7_markBy 4 (some .float), Cond.fieldLink RX7 23 "InkRing$Writing" "modelStrokes" "I"]
def wsL_marked_r3 : List Cond := [Cond.fieldLink RX7 11 "InkRing$Writing" "parts" "[LInkRing$Parts;", Cond.methodLink RX7 34 yX3_markBy, Cond.instanceMethod yX3_markBy, Cond.selects RX3 yX3_markBy yX3_markBy, Cond.initialized RX3, Cond.code yX3_markBy cX3_markBy 3 (some .float), Cond.fieldLink RX3 43 "InkRing$Style" "nearness" "I", Cond.fieldLink RX3 7 "InkRing$Parts" "nearness" "F", Cond.fieldLink RX3 47 "InkRing$Style" "slope" "I", Cond.fieldLink RX3 13 "InkRing$Parts" "slope" "F", Cond.fieldLink RX3 49 "InkRing$Style" "order" "I", Cond.fieldLink RX3 16 "InkRing$Parts" "order" "F", Cond.constantFloat RX3 51 (1120403456)]
def wsL_marked : List Cond := .codeWith yL_marked cL_marked 6 (some .int) [(0, 12, 15, 25)] :: ((wsL_marked_r1 ++ (wsL_marked_r2 ++ wsL_marked_r3)) ++ wsX80 ++ wsX00 ++ wsX10 ++ wsX70 ++ wsX60 ++ wsX30 ++ (vx_atS RX8 96 "java/lang/IndexOutOfBoundsException" ["java/lang/RuntimeException", "java/lang/Exception"]).filter goodWord)
def wsL_of_r1 : List Cond := [Cond.classLink RL 25 "java/lang/IndexOutOfBoundsException", Cond.classLink RL 13 "java/lang/IllegalArgumentException", Cond.methodLink RL 70 yX8_of, Cond.instanceMethod yX8_of, Cond.selects RX8 yX8_of yX8_of, Cond.initialized RX8, Cond.code yX8_of cX8_of 4 (some .int), Cond.classLink RX8 92 "java/lang/IndexOutOfBoundsException", Cond.initialized "java/lang/IndexOutOfBoundsException", Cond.classLink RX8 51 "java/lang/IllegalArgumentException", Cond.initialized "java/lang/IllegalArgumentException", Cond.fieldLink RX8 194 "InkRing$Duel" "handedIn" "I", Cond.fieldLink RX8 294 "InkRing$Duel" "day" "I", Cond.fieldLink RX8 249 "InkRing$Duel" "secondJudge" "I", Cond.methodLink RX8 186 yX8_duelAt, Cond.instanceMethod yX8_duelAt, Cond.selects RX8 yX8_duelAt yX8_duelAt, Cond.code yX8_duelAt cX8_duelAt 2 (some (.object "InkRing$Duel")), Cond.fieldLink RX8 35 "InkRing" "duels" "[LInkRing$Duel;", Cond.methodLink RX8 290 yX8_countRounds, Cond.instanceMethod yX8_countRounds, Cond.selects RX8 yX8_countRounds yX8_countRounds, Cond.code yX8_countRounds cX8_countRounds 5 (some .int), Cond.methodLink RX8 299 yX8_roundGoesTo]
def wsL_of_r2 : List Cond := [Cond.instanceMethod yX8_roundGoesTo, Cond.selects RX8 yX8_roundGoesTo yX8_roundGoesTo, Cond.code yX8_roundGoesTo cX8_roundGoesTo 7 (some .int), Cond.fieldLink RX8 244 "InkRing$Writing" "found" "Z", Cond.methodLink RX8 234 yX0_writingAt, Cond.instanceMethod yX0_writingAt, Cond.selects RX0 yX0_writingAt yX0_writingAt, Cond.initialized RX0, Cond.code yX0_writingAt cX0_writingAt 4 (some (.object "InkRing$Writing")), Cond.fieldLink RX0 17 "InkRing$Duel" "writings" "[LInkRing$Writing;", Cond.methodLink RX8 286 yX8_judgedMark, Cond.instanceMethod yX8_judgedMark, Cond.selects RX8 yX8_judgedMark yX8_judgedMark, Cond.code yX8_judgedMark cX8_judgedMark 5 (some .float), Cond.fieldLink RX8 252 "InkRing$Duel" "judge" "I", Cond.methodLink RX8 133 yX8_judgeAt, Cond.instanceMethod yX8_judgeAt, Cond.selects RX8 yX8_judgeAt yX8_judgeAt, Cond.code yX8_judgeAt cX8_judgeAt 2 (some (.object "InkRing$Judge")), Cond.fieldLink RX8 29 "InkRing" "judges" "[LInkRing$Judge;", Cond.methodLink RX8 295 yX8_markByJudge, Cond.instanceMethod yX8_markByJudge, Cond.selects RX8 yX8_markByJudge yX8_markByJudge, Cond.code yX8_markByJudge cX8_markByJudge 7 (some .float)]
def wsL_of_r3 : List Cond := [Cond.fieldLink RX8 23 "InkRing" "styles" "[LInkRing$Style;", Cond.methodLink RX8 142 yX1_knowsOn, Cond.instanceMethod yX1_knowsOn, Cond.selects RX1 yX1_knowsOn yX1_knowsOn, Cond.initialized RX1, Cond.code yX1_knowsOn cX1_knowsOn 3 (some .boolean), Cond.fieldLink RX1 9 "InkRing$Judge" "learnedOn" "[I", Cond.methodLink RX8 265 yX7_markBy, Cond.instanceMethod yX7_markBy, Cond.selects RX7 yX7_markBy yX7_markBy, Cond.initialized RX7, Cond.code yX7_markBy cX7_markBy 4 (some .float), Cond.fieldLink RX7 23 "InkRing$Writing" "modelStrokes" "I", Cond.fieldLink RX7 11 "InkRing$Writing" "parts" "[LInkRing$Parts;", Cond.methodLink RX7 34 yX3_markBy, Cond.instanceMethod yX3_markBy, Cond.selects RX3 yX3_markBy yX3_markBy, Cond.initialized RX3, Cond.code yX3_markBy cX3_markBy 3 (some .float), Cond.fieldLink RX3 43 "InkRing$Style" "nearness" "I", Cond.fieldLink RX3 7 "InkRing$Parts" "nearness" "F", Cond.fieldLink RX3 47 "InkRing$Style" "slope" "I", Cond.fieldLink RX3 13 "InkRing$Parts" "slope" "F", Cond.fieldLink RX3 49 "InkRing$Style" "order" "I"]
def wsL_of_r4 : List Cond := [Cond.fieldLink RX3 16 "InkRing$Parts" "order" "F", Cond.constantFloat RX3 51 (1120403456), Cond.methodLink RX8 257 yX8_winnerOf, Cond.instanceMethod yX8_winnerOf, Cond.selects RX8 yX8_winnerOf yX8_winnerOf, Cond.code yX8_winnerOf cX8_winnerOf 4 (some .int), Cond.fieldLink RX8 302 "InkRing$Duel" "one" "I", Cond.fieldLink RX8 305 "InkRing$Duel" "other" "I", Cond.methodLink RX8 205 yX0_isOver, Cond.instanceMethod yX0_isOver, Cond.selects RX0 yX0_isOver yX0_isOver, Cond.code yX0_isOver cX0_isOver 1 (some .boolean), Cond.fieldLink RX0 43 "InkRing$Duel" "handedIn" "I", Cond.fieldLink RX0 37 "InkRing$Duel" "rounds" "I"]
def wsL_of : List Cond := .codeWith yL_of cL_of 5 (some .int) [(0, 10, 13, 25), (0, 10, 17, 13)] :: ((wsL_of_r1 ++ (wsL_of_r2 ++ (wsL_of_r3 ++ wsL_of_r4))) ++ wsX00 ++ wsX80 ++ wsX70 ++ wsX10 ++ wsX60 ++ wsX30 ++ (vx_atS RX8 96 "java/lang/IndexOutOfBoundsException" ["java/lang/RuntimeException", "java/lang/Exception"]).filter goodWord ++ (vx_atS RX8 55 "java/lang/IllegalArgumentException" ["java/lang/RuntimeException", "java/lang/Exception"]).filter goodWord)
def wsL_paper : List Cond := .codeWith yL_paper cL_paper 5 (some .int) [(0, 10, 13, 25), (0, 10, 17, 13)] :: ([.classLink RL 25 "java/lang/IndexOutOfBoundsException", .classLink RL 13 "java/lang/IllegalArgumentException", .methodLink RL 73 yX8_paper, .instanceMethod yX8_paper, .selects RX8 yX8_paper yX8_paper, .initialized RX8, .code yX8_paper cX8_paper 4 (some .int), .classLink RX8 92 "java/lang/IndexOutOfBoundsException", .initialized "java/lang/IndexOutOfBoundsException", .classLink RX8 51 "java/lang/IllegalArgumentException", .initialized "java/lang/IllegalArgumentException", .fieldLink RX8 103 "InkRing$Paper" "sheets" "I", .fieldLink RX8 113 "InkRing$Paper" "damp" "I", .methodLink RX8 88 yX8_paperAt, .instanceMethod yX8_paperAt, .selects RX8 yX8_paperAt yX8_paperAt, .code yX8_paperAt cX8_paperAt 2 (some (.object "InkRing$Paper")), .fieldLink RX8 17 "InkRing" "papers" "[LInkRing$Paper;"] ++ wsX20 ++ wsX80 ++ (vx_atS RX8 96 "java/lang/IndexOutOfBoundsException" ["java/lang/RuntimeException", "java/lang/Exception"]).filter goodWord ++ (vx_atS RX8 55 "java/lang/IllegalArgumentException" ["java/lang/RuntimeException", "java/lang/Exception"]).filter goodWord)
def wsL_won_r1 : List Cond := [Cond.classLink RL 25 "java/lang/IndexOutOfBoundsException", Cond.methodLink RL 76 yX8_won, Cond.instanceMethod yX8_won, Cond.selects RX8 yX8_won yX8_won, Cond.initialized RX8, Cond.code yX8_won cX8_won 4 (some .int), Cond.classLink RX8 92 "java/lang/IndexOutOfBoundsException", Cond.initialized "java/lang/IndexOutOfBoundsException", Cond.fieldLink RX8 35 "InkRing" "duels" "[LInkRing$Duel;", Cond.methodLink RX8 163 yX8_isWriter, Cond.static yX8_isWriter, Cond.code yX8_isWriter cX8_isWriter 1 (some .boolean), Cond.methodLink RX8 97 yX8_isWithin, Cond.static yX8_isWithin, Cond.code yX8_isWithin cX8_isWithin 3 (some .boolean), Cond.methodLink RX8 257 yX8_winnerOf, Cond.instanceMethod yX8_winnerOf, Cond.selects RX8 yX8_winnerOf yX8_winnerOf, Cond.code yX8_winnerOf cX8_winnerOf 4 (some .int), Cond.fieldLink RX8 302 "InkRing$Duel" "one" "I", Cond.fieldLink RX8 305 "InkRing$Duel" "other" "I", Cond.methodLink RX8 205 yX0_isOver, Cond.instanceMethod yX0_isOver, Cond.selects RX0 yX0_isOver yX0_isOver]
def wsL_won_r2 : List Cond := [Cond.initialized RX0, Cond.code yX0_isOver cX0_isOver 1 (some .boolean), Cond.fieldLink RX0 43 "InkRing$Duel" "handedIn" "I", Cond.fieldLink RX0 37 "InkRing$Duel" "rounds" "I", Cond.methodLink RX8 299 yX8_roundGoesTo, Cond.instanceMethod yX8_roundGoesTo, Cond.selects RX8 yX8_roundGoesTo yX8_roundGoesTo, Cond.code yX8_roundGoesTo cX8_roundGoesTo 7 (some .int), Cond.fieldLink RX8 244 "InkRing$Writing" "found" "Z", Cond.methodLink RX8 234 yX0_writingAt, Cond.instanceMethod yX0_writingAt, Cond.selects RX0 yX0_writingAt yX0_writingAt, Cond.code yX0_writingAt cX0_writingAt 4 (some (.object "InkRing$Writing")), Cond.fieldLink RX0 17 "InkRing$Duel" "writings" "[LInkRing$Writing;", Cond.methodLink RX8 286 yX8_judgedMark, Cond.instanceMethod yX8_judgedMark, Cond.selects RX8 yX8_judgedMark yX8_judgedMark, Cond.code yX8_judgedMark cX8_judgedMark 5 (some .float), Cond.fieldLink RX8 252 "InkRing$Duel" "judge" "I", Cond.fieldLink RX8 294 "InkRing$Duel" "day" "I", Cond.fieldLink RX8 249 "InkRing$Duel" "secondJudge" "I", Cond.methodLink RX8 133 yX8_judgeAt, Cond.instanceMethod yX8_judgeAt, Cond.selects RX8 yX8_judgeAt yX8_judgeAt]
def wsL_won_r3 : List Cond := [Cond.code yX8_judgeAt cX8_judgeAt 2 (some (.object "InkRing$Judge")), Cond.fieldLink RX8 29 "InkRing" "judges" "[LInkRing$Judge;", Cond.methodLink RX8 295 yX8_markByJudge, Cond.instanceMethod yX8_markByJudge, Cond.selects RX8 yX8_markByJudge yX8_markByJudge, Cond.code yX8_markByJudge cX8_markByJudge 7 (some .float), Cond.fieldLink RX8 23 "InkRing" "styles" "[LInkRing$Style;", Cond.methodLink RX8 142 yX1_knowsOn, Cond.instanceMethod yX1_knowsOn, Cond.selects RX1 yX1_knowsOn yX1_knowsOn, Cond.initialized RX1, Cond.code yX1_knowsOn cX1_knowsOn 3 (some .boolean), Cond.fieldLink RX1 9 "InkRing$Judge" "learnedOn" "[I", Cond.methodLink RX8 265 yX7_markBy, Cond.instanceMethod yX7_markBy, Cond.selects RX7 yX7_markBy yX7_markBy, Cond.initialized RX7, Cond.code yX7_markBy cX7_markBy 4 (some .float), Cond.fieldLink RX7 23 "InkRing$Writing" "modelStrokes" "I", Cond.fieldLink RX7 11 "InkRing$Writing" "parts" "[LInkRing$Parts;", Cond.methodLink RX7 34 yX3_markBy, Cond.instanceMethod yX3_markBy, Cond.selects RX3 yX3_markBy yX3_markBy, Cond.initialized RX3]
def wsL_won_r4 : List Cond := [Cond.code yX3_markBy cX3_markBy 3 (some .float), Cond.fieldLink RX3 43 "InkRing$Style" "nearness" "I", Cond.fieldLink RX3 7 "InkRing$Parts" "nearness" "F", Cond.fieldLink RX3 47 "InkRing$Style" "slope" "I", Cond.fieldLink RX3 13 "InkRing$Parts" "slope" "F", Cond.fieldLink RX3 49 "InkRing$Style" "order" "I", Cond.fieldLink RX3 16 "InkRing$Parts" "order" "F", Cond.constantFloat RX3 51 (1120403456)]
def wsL_won : List Cond := .codeWith yL_won cL_won 4 (some .int) [(0, 9, 12, 25)] :: ((wsL_won_r1 ++ (wsL_won_r2 ++ (wsL_won_r3 ++ wsL_won_r4))) ++ wsX80 ++ wsX00 ++ wsX70 ++ wsX10 ++ wsX60 ++ wsX30 ++ (vx_atS RX8 96 "java/lang/IndexOutOfBoundsException" ["java/lang/RuntimeException", "java/lang/Exception"]).filter goodWord)
def wsL_law0_r1 : List Cond := [Cond.classLink RL 8 RX8, Cond.instantiable RX8 10, Cond.initialized RX8, Cond.classLink RL 80 RX9, Cond.instantiable RX9 29, Cond.initialized RX9, Cond.arrayClass .long, Cond.arrayClass .double, Cond.methodLink RL 79 yX8_init, Cond.instanceMethod yX8_init, Cond.code yX8_init cX8_init 2 none, Cond.methodLink RX8 1 objectInit, Cond.instanceMethod objectInit, Cond.code objectInit ⟨#[0xb1]⟩ 1 none, Cond.classLink RX8 9 RX5, Cond.fieldLink RX8 11 "InkRing" "signs" "[LInkRing$Strokes;", Cond.classLink RX8 15 RX2, Cond.fieldLink RX8 17 "InkRing" "papers" "[LInkRing$Paper;", Cond.classLink RX8 21 RX6, Cond.fieldLink RX8 23 "InkRing" "styles" "[LInkRing$Style;", Cond.classLink RX8 27 RX1, Cond.fieldLink RX8 29 "InkRing" "judges" "[LInkRing$Judge;", Cond.classLink RX8 33 RX0, Cond.fieldLink RX8 35 "InkRing" "duels" "[LInkRing$Duel;"]
def wsL_law0_r2 : List Cond := [Cond.instantiable RX5 2, Cond.initialized RX5, Cond.fieldLink RX8 40 "InkRing" "draft" "LInkRing$Strokes;", Cond.instantiable RX2 3, Cond.initialized RX2, Cond.instantiable RX6 3, Cond.initialized RX6, Cond.instantiable RX1 1, Cond.initialized RX1, Cond.instanceMethod yX5_init, Cond.code yX5_init cX5_init 1 none, Cond.methodLink RX5 3 objectInit, Cond.classLink RX5 9 RX4, Cond.fieldLink RX5 11 "InkRing$Strokes" "row" "[LInkRing$Stroke;", Cond.instanceMethod yX2_init, Cond.code yX2_init cX2_init 1 none, Cond.methodLink RX2 3 objectInit, Cond.instanceMethod yX6_init, Cond.code yX6_init cX6_init 1 none, Cond.methodLink RX6 1 objectInit, Cond.methodLink RX8 46 yX1_init, Cond.instanceMethod yX1_init, Cond.code yX1_init cX1_init 2 none, Cond.methodLink RX1 3 objectInit]
def wsL_law0_r3 : List Cond := [Cond.arrayClass .int, Cond.fieldLink RX1 9 "InkRing$Judge" "learnedOn" "[I", Cond.methodLink RL 82 yX9_init, Cond.instanceMethod yX9_init, Cond.code yX9_init cX9_init 2 none, Cond.methodLink RX9 1 objectInit, Cond.fieldLink RX9 7 "InkRingModel" "draft" "[I", Cond.fieldLink RX9 13 "InkRingModel" "longOf" "[I", Cond.fieldLink RX9 16 "InkRingModel" "models" "[I", Cond.fieldLink RX9 19 "InkRingModel" "sheets" "[I", Cond.fieldLink RX9 22 "InkRingModel" "damp" "[I", Cond.fieldLink RX9 25 "InkRingModel" "rises" "[I", Cond.fieldLink RX9 28 "InkRingModel" "weights" "[I", Cond.fieldLink RX9 31 "InkRingModel" "learned" "[I", Cond.fieldLink RX9 34 "InkRingModel" "one" "[I", Cond.fieldLink RX9 37 "InkRingModel" "other" "[I", Cond.fieldLink RX9 40 "InkRingModel" "judge" "[I", Cond.fieldLink RX9 43 "InkRingModel" "second" "[I", Cond.fieldLink RX9 46 "InkRingModel" "paper" "[I", Cond.fieldLink RX9 49 "InkRingModel" "rounds" "[I", Cond.fieldLink RX9 52 "InkRingModel" "draw" "[I", Cond.fieldLink RX9 55 "InkRingModel" "signsThen" "[I", Cond.fieldLink RX9 58 "InkRingModel" "began" "[I", Cond.fieldLink RX9 61 "InkRingModel" "handed" "[I"]
def wsL_law0_r4 : List Cond := [Cond.fieldLink RX9 64 "InkRingModel" "strokes" "[I", Cond.fieldLink RX9 67 "InkRingModel" "dampThen" "[I", Cond.arrayClass .boolean, Cond.fieldLink RX9 70 "InkRingModel" "isForged" "[Z", Cond.fieldLink RX9 74 "InkRingModel" "isFound" "[Z", Cond.fieldLink RX9 77 "InkRingModel" "writings" "[I", Cond.methodLink RL 83 yL_stroke, Cond.static yL_stroke, Cond.initialized RL, Cond.codeWith yL_stroke cL_stroke 7 (some .int) [(0, 14, 17, 13), (0, 14, 21, 15)], Cond.classLink RL 13 "java/lang/IllegalArgumentException", Cond.classLink RL 15 "java/lang/IllegalStateException", Cond.methodLink RL 7 yX8_stroke, Cond.instanceMethod yX8_stroke, Cond.selects RX8 yX8_stroke yX8_stroke, Cond.code yX8_stroke cX8_stroke 5 (some .int), Cond.classLink RX8 51 "java/lang/IllegalArgumentException", Cond.initialized "java/lang/IllegalArgumentException", Cond.classLink RX8 64 "java/lang/IllegalStateException", Cond.initialized "java/lang/IllegalStateException", Cond.fieldLink RX8 60 "InkRing$Strokes" "count" "I", Cond.classLink RX8 69 RX4, Cond.instantiable RX4 4, Cond.initialized RX4]
def wsL_law0_r5 : List Cond := [Cond.methodLink RX8 47 yX8_isPlace, Cond.static yX8_isPlace, Cond.code yX8_isPlace cX8_isPlace 2 (some .boolean), Cond.methodLink RX8 97 yX8_isWithin, Cond.static yX8_isWithin, Cond.code yX8_isWithin cX8_isWithin 3 (some .boolean), Cond.methodLink RX8 71 yX4_init, Cond.instanceMethod yX4_init, Cond.code yX4_init cX4_init 5 none, Cond.methodLink RX4 1 objectInit, Cond.fieldLink RX4 7 "InkRing$Stroke" "x" "I", Cond.fieldLink RX4 13 "InkRing$Stroke" "y" "I", Cond.fieldLink RX4 16 "InkRing$Stroke" "endX" "I", Cond.fieldLink RX4 19 "InkRing$Stroke" "endY" "I", Cond.methodLink RX8 74 yX5_add, Cond.instanceMethod yX5_add, Cond.selects RX5 yX5_add yX5_add, Cond.code yX5_add cX5_add 2 none, Cond.fieldLink RX5 17 "InkRing$Strokes" "count" "I", Cond.methodLink RL 88 yX9_stroke, Cond.instanceMethod yX9_stroke, Cond.selects RX9 yX9_stroke yX9_stroke, Cond.code yX9_stroke cX9_stroke 6 (some .int), Cond.fieldLink RX9 94 "InkRingModel" "drafted" "I"]
def wsL_law0_r6 : List Cond := [Cond.methodLink RX9 87 yX9_in, Cond.static yX9_in, Cond.code yX9_in cX9_in 3 (some .boolean), Cond.methodLink RX9 97 yX9_goes, Cond.instanceMethod yX9_goes, Cond.selects RX9 yX9_goes yX9_goes, Cond.code yX9_goes cX9_goes 4 (some .boolean), Cond.fieldLink RX9 80 "InkRingModel" "thrown" "I", Cond.methodLink RL 89 yX9_thrown, Cond.instanceMethod yX9_thrown, Cond.selects RX9 yX9_thrown yX9_thrown, Cond.code yX9_thrown cX9_thrown 1 (some .int), Cond.methodLink RL 92 yX8_clear, Cond.instanceMethod yX8_clear, Cond.selects RX8 yX8_clear yX8_clear, Cond.code yX8_clear cX8_clear 2 (some .int), Cond.methodLink RX8 78 yX5_empty, Cond.instanceMethod yX5_empty, Cond.selects RX5 yX5_empty yX5_empty, Cond.code yX5_empty cX5_empty 1 none, Cond.methodLink RL 95 yX9_clear, Cond.instanceMethod yX9_clear, Cond.selects RX9 yX9_clear yX9_clear, Cond.code yX9_clear cX9_clear 2 (some .int)]
def wsL_law0_r7 : List Cond := [Cond.methodLink RL 96 yL_sign, Cond.static yL_sign, Cond.codeWith yL_sign cL_sign 3 (some .int) [(0, 8, 11, 15)], Cond.methodLink RL 17 yX8_sign, Cond.instanceMethod yX8_sign, Cond.selects RX8 yX8_sign yX8_sign, Cond.code yX8_sign cX8_sign 2 (some .int), Cond.fieldLink RX8 83 "InkRing" "signCount" "I", Cond.methodLink RL 99 yX9_sign, Cond.instanceMethod yX9_sign, Cond.selects RX9 yX9_sign yX9_sign, Cond.code yX9_sign cX9_sign 2 (some .int), Cond.fieldLink RX9 91 "InkRingModel" "signs" "I", Cond.methodLink RL 100 yL_buy, Cond.static yL_buy, Cond.codeWith yL_buy cL_buy 5 (some .int) [(0, 10, 13, 25), (0, 10, 17, 13), (0, 10, 21, 15)], Cond.classLink RL 25 "java/lang/IndexOutOfBoundsException", Cond.methodLink RL 21 yX8_buy, Cond.instanceMethod yX8_buy, Cond.selects RX8 yX8_buy yX8_buy, Cond.code yX8_buy cX8_buy 4 (some .int), Cond.classLink RX8 92 "java/lang/IndexOutOfBoundsException", Cond.initialized "java/lang/IndexOutOfBoundsException", Cond.fieldLink RX8 103 "InkRing$Paper" "sheets" "I"]
def wsL_law0_r8 : List Cond := [Cond.methodLink RX8 88 yX8_paperAt, Cond.instanceMethod yX8_paperAt, Cond.selects RX8 yX8_paperAt yX8_paperAt, Cond.code yX8_paperAt cX8_paperAt 2 (some (.object "InkRing$Paper")), Cond.methodLink RL 103 yX9_buy, Cond.instanceMethod yX9_buy, Cond.selects RX9 yX9_buy yX9_buy, Cond.code yX9_buy cX9_buy 4 (some .int), Cond.methodLink RX9 101 yX9_isPaper, Cond.static yX9_isPaper, Cond.code yX9_isPaper cX9_isPaper 1 (some .boolean), Cond.methodLink RL 104 yL_rise, Cond.static yL_rise, Cond.codeWith yL_rise cL_rise 5 (some .int) [(0, 10, 13, 25), (0, 10, 17, 13)], Cond.methodLink RL 27 yX8_rise, Cond.instanceMethod yX8_rise, Cond.selects RX8 yX8_rise yX8_rise, Cond.code yX8_rise cX8_rise 4 (some .int), Cond.fieldLink RX8 110 "InkRing$Paper" "dailyRise" "I", Cond.fieldLink RX8 113 "InkRing$Paper" "damp" "I", Cond.methodLink RL 106 yX9_rise, Cond.instanceMethod yX9_rise, Cond.selects RX9 yX9_rise yX9_rise, Cond.code yX9_rise cX9_rise 3 (some .int)]
def wsL_law0_r9 : List Cond := [Cond.methodLink RL 107 yL_style, Cond.static yL_style, Cond.codeWith yL_style cL_style 6 (some .int) [(0, 9, 12, 25), (0, 9, 16, 13)], Cond.methodLink RL 30 yX8_style, Cond.instanceMethod yX8_style, Cond.selects RX8 yX8_style yX8_style, Cond.code yX8_style cX8_style 6 none, Cond.fieldLink RX8 124 "InkRing$Style" "nearness" "I", Cond.fieldLink RX8 127 "InkRing$Style" "slope" "I", Cond.fieldLink RX8 130 "InkRing$Style" "order" "I", Cond.methodLink RX8 116 yX8_styleAt, Cond.instanceMethod yX8_styleAt, Cond.selects RX8 yX8_styleAt yX8_styleAt, Cond.code yX8_styleAt cX8_styleAt 2 (some (.object "InkRing$Style")), Cond.methodLink RL 110 yX9_style, Cond.instanceMethod yX9_style, Cond.selects RX9 yX9_style yX9_style, Cond.code yX9_style cX9_style 5 none, Cond.methodLink RL 111 yL_learn, Cond.static yL_learn, Cond.codeWith yL_learn cL_learn 5 (some .int) [(0, 10, 13, 25), (0, 10, 17, 15)], Cond.methodLink RL 34 yX8_learn, Cond.instanceMethod yX8_learn, Cond.selects RX8 yX8_learn yX8_learn]
def wsL_law0_r10 : List Cond := [Cond.code yX8_learn cX8_learn 4 (some .int), Cond.fieldLink RX8 139 "InkRing" "day" "I", Cond.methodLink RX8 133 yX8_judgeAt, Cond.instanceMethod yX8_judgeAt, Cond.selects RX8 yX8_judgeAt yX8_judgeAt, Cond.code yX8_judgeAt cX8_judgeAt 2 (some (.object "InkRing$Judge")), Cond.methodLink RX8 142 yX1_knowsOn, Cond.instanceMethod yX1_knowsOn, Cond.selects RX1 yX1_knowsOn yX1_knowsOn, Cond.code yX1_knowsOn cX1_knowsOn 3 (some .boolean), Cond.methodLink RX8 147 yX1_takeUp, Cond.instanceMethod yX1_takeUp, Cond.selects RX1 yX1_takeUp yX1_takeUp, Cond.code yX1_takeUp cX1_takeUp 3 none, Cond.methodLink RX8 151 yX1_countKnown, Cond.instanceMethod yX1_countKnown, Cond.selects RX1 yX1_countKnown yX1_countKnown, Cond.code yX1_countKnown cX1_countKnown 3 (some .int), Cond.methodLink RL 113 yX9_learn, Cond.instanceMethod yX9_learn, Cond.selects RX9 yX9_learn yX9_learn, Cond.code yX9_learn cX9_learn 6 (some .int), Cond.fieldLink RX9 105 "InkRingModel" "day" "I", Cond.methodLink RL 114 yL_pass]
def wsL_law0_r11 : List Cond := [Cond.static yL_pass, Cond.codeWith yL_pass cL_pass 4 (some .int) [(0, 9, 12, 13), (0, 9, 15, 15)], Cond.methodLink RL 37 yX8_pass, Cond.instanceMethod yX8_pass, Cond.selects RX8 yX8_pass yX8_pass, Cond.code yX8_pass cX8_pass 3 (some .int), Cond.methodLink RX8 159 yX2_age, Cond.instanceMethod yX2_age, Cond.selects RX2 yX2_age yX2_age, Cond.code yX2_age cX2_age 2 none, Cond.fieldLink RX2 9 "InkRing$Paper" "damp" "I", Cond.fieldLink RX2 15 "InkRing$Paper" "dailyRise" "I", Cond.methodLink RX2 18 Lib.Math.min.name, Cond.static Lib.Math.min.name, Cond.initialized "java/lang/Math", Cond.code Lib.Math.min.name Lib.Math.min.code 2 (some .int), Cond.methodLink RX2 24 Lib.Math.max.name, Cond.static Lib.Math.max.name, Cond.code Lib.Math.max.name Lib.Math.max.code 2 (some .int), Cond.methodLink RL 117 yX9_pass, Cond.instanceMethod yX9_pass, Cond.selects RX9 yX9_pass yX9_pass, Cond.code yX9_pass cX9_pass 5 (some .int), Cond.methodLink RL 118 yL_duel]
def wsL_law0_r12 : List Cond := [Cond.static yL_duel, Cond.codeWith yL_duel cL_duel 9 (some .int) [(0, 18, 21, 25), (0, 18, 25, 13), (0, 18, 29, 15)], Cond.methodLink RL 41 yX8_duel, Cond.instanceMethod yX8_duel, Cond.selects RX8 yX8_duel yX8_duel, Cond.code yX8_duel cX8_duel 9 (some .int), Cond.fieldLink RX8 175 "InkRing" "duelCount" "I", Cond.instantiable RX0 10, Cond.initialized RX0, Cond.methodLink RX8 163 yX8_isWriter, Cond.static yX8_isWriter, Cond.code yX8_isWriter cX8_isWriter 1 (some .boolean), Cond.methodLink RX8 180 yX0_init, Cond.instanceMethod yX0_init, Cond.code yX0_init cX0_init 7 none, Cond.methodLink RX0 3 objectInit, Cond.fieldLink RX0 9 "InkRing$Duel" "prompts" "[I", Cond.classLink RX0 15 RX7, Cond.fieldLink RX0 17 "InkRing$Duel" "writings" "[LInkRing$Writing;", Cond.fieldLink RX0 21 "InkRing$Duel" "secondJudge" "I", Cond.fieldLink RX0 25 "InkRing$Duel" "one" "I", Cond.fieldLink RX0 28 "InkRing$Duel" "other" "I", Cond.fieldLink RX0 31 "InkRing$Duel" "judge" "I", Cond.fieldLink RX0 34 "InkRing$Duel" "paper" "I"]
def wsL_law0_r13 : List Cond := [Cond.fieldLink RX0 37 "InkRing$Duel" "rounds" "I", Cond.fieldLink RX0 40 "InkRing$Duel" "day" "I", Cond.methodLink RX8 183 yX0_drawPrompts, Cond.instanceMethod yX0_drawPrompts, Cond.selects RX0 yX0_drawPrompts yX0_drawPrompts, Cond.code yX0_drawPrompts cX0_drawPrompts 4 none, Cond.methodLink RL 121 yX9_duel, Cond.instanceMethod yX9_duel, Cond.selects RX9 yX9_duel yX9_duel, Cond.code yX9_duel cX9_duel 8 (some .int), Cond.fieldLink RX9 84 "InkRingModel" "duels" "I", Cond.methodLink RL 122 yL_hand, Cond.static yL_hand, Cond.codeWith yL_hand cL_hand 5 (some .int) [(0, 10, 13, 25), (0, 10, 17, 13), (0, 10, 21, 15)], Cond.methodLink RL 45 yX8_hand, Cond.instanceMethod yX8_hand, Cond.selects RX8 yX8_hand yX8_hand, Cond.code yX8_hand cX8_hand 7 (some .int), Cond.fieldLink RX8 194 "InkRing$Duel" "handedIn" "I", Cond.fieldLink RX8 211 "InkRing$Duel" "paper" "I", Cond.fieldLink RX8 216 "InkRing" "sheetsTaken" "I", Cond.classLink RX8 226 RX7, Cond.instantiable RX7 4, Cond.initialized RX7]
def wsL_law0_r14 : List Cond := [Cond.methodLink RX8 186 yX8_duelAt, Cond.instanceMethod yX8_duelAt, Cond.selects RX8 yX8_duelAt yX8_duelAt, Cond.code yX8_duelAt cX8_duelAt 2 (some (.object "InkRing$Duel")), Cond.methodLink RX8 197 yX0_promptAt, Cond.instanceMethod yX0_promptAt, Cond.selects RX0 yX0_promptAt yX0_promptAt, Cond.code yX0_promptAt cX0_promptAt 2 (some .int), Cond.methodLink RX8 201 yX8_signAt, Cond.instanceMethod yX8_signAt, Cond.selects RX8 yX8_signAt yX8_signAt, Cond.code yX8_signAt cX8_signAt 2 (some (.object "InkRing$Strokes")), Cond.methodLink RX8 205 yX0_isOver, Cond.instanceMethod yX0_isOver, Cond.selects RX0 yX0_isOver yX0_isOver, Cond.code yX0_isOver cX0_isOver 1 (some .boolean), Cond.fieldLink RX0 43 "InkRing$Duel" "handedIn" "I", Cond.methodLink RX8 219 yX0_nextWriter, Cond.instanceMethod yX0_nextWriter, Cond.selects RX0 yX0_nextWriter yX0_nextWriter, Cond.code yX0_nextWriter cX0_nextWriter 1 (some .int), Cond.methodLink RX8 222 yX8_rightSeal, Cond.static yX8_rightSeal, Cond.code yX8_rightSeal cX8_rightSeal 2 (some .int)]
def wsL_law0_r15 : List Cond := [Cond.methodLink RX8 228 yX7_init, Cond.instanceMethod yX7_init, Cond.code yX7_init cX7_init 6 none, Cond.methodLink RX7 3 objectInit, Cond.classLink RX7 9 RX3, Cond.fieldLink RX7 11 "InkRing$Writing" "parts" "[LInkRing$Parts;", Cond.fieldLink RX7 17 "InkRing$Strokes" "count" "I", Cond.fieldLink RX7 23 "InkRing$Writing" "modelStrokes" "I", Cond.fieldLink RX7 26 "InkRing$Writing" "forged" "Z", Cond.methodLink RX7 30 yX3_between, Cond.static yX3_between, Cond.initialized RX3, Cond.code yX3_between cX3_between 7 (some (.object "InkRing$Parts")), Cond.fieldLink RX3 25 "InkRing$Strokes" "count" "I", Cond.constantFloat RX3 29 (1092616192), Cond.classLink RX3 8 RX3, Cond.instantiable RX3 3, Cond.methodLink RX3 19 yX5_at, Cond.instanceMethod yX5_at, Cond.selects RX5 yX5_at yX5_at, Cond.code yX5_at cX5_at 2 (some (.object "InkRing$Stroke")), Cond.methodLink RX3 30 yX4_nearnessTo, Cond.instanceMethod yX4_nearnessTo, Cond.selects RX4 yX4_nearnessTo yX4_nearnessTo]
def wsL_law0_r16 : List Cond := [Cond.code yX4_nearnessTo cX4_nearnessTo 5 (some .float), Cond.methodLink RX4 22 Lib.Math.abs.name, Cond.static Lib.Math.abs.name, Cond.code Lib.Math.abs.name Lib.Math.abs.code 1 (some .int), Cond.constantFloat RX4 28 (1092616192), Cond.constantFloat RX4 29 (1128792064), Cond.methodLink RX3 36 yX4_slopeTo, Cond.instanceMethod yX4_slopeTo, Cond.selects RX4 yX4_slopeTo yX4_slopeTo, Cond.code yX4_slopeTo cX4_slopeTo 7 (some .float), Cond.methodLink RX4 30 yX4_squaredWay, Cond.instanceMethod yX4_squaredWay, Cond.selects RX4 yX4_squaredWay yX4_squaredWay, Cond.code yX4_squaredWay cX4_squaredWay 1 (some .int), Cond.methodLink RX3 40 yX3_init, Cond.instanceMethod yX3_init, Cond.code yX3_init cX3_init 4 none, Cond.methodLink RX3 1 objectInit, Cond.fieldLink RX3 7 "InkRing$Parts" "nearness" "F", Cond.fieldLink RX3 13 "InkRing$Parts" "slope" "F", Cond.fieldLink RX3 16 "InkRing$Parts" "order" "F", Cond.methodLink RX8 231 yX0_add, Cond.instanceMethod yX0_add, Cond.selects RX0 yX0_add yX0_add]
def wsL_law0_r17 : List Cond := [Cond.code yX0_add cX0_add 2 none, Cond.methodLink RL 124 yX9_hand, Cond.instanceMethod yX9_hand, Cond.selects RX9 yX9_hand yX9_hand, Cond.code yX9_hand cX9_hand 7 (some .int), Cond.fieldLink RX9 114 "InkRingModel" "taken" "I", Cond.methodLink RX9 108 yX9_isDuel, Cond.instanceMethod yX9_isDuel, Cond.selects RX9 yX9_isDuel yX9_isDuel, Cond.code yX9_isDuel cX9_isDuel 2 (some .boolean), Cond.methodLink RX9 111 yX9_isOver, Cond.instanceMethod yX9_isOver, Cond.selects RX9 yX9_isOver yX9_isOver, Cond.code yX9_isOver cX9_isOver 2 (some .boolean), Cond.methodLink RL 125 yL_look, Cond.static yL_look, Cond.codeWith yL_look cL_look 6 (some .int) [(0, 19, 22, 25)], Cond.methodLink RL 48 yX8_look, Cond.instanceMethod yX8_look, Cond.selects RX8 yX8_look yX8_look, Cond.code yX8_look cX8_look 6 (some .boolean), Cond.fieldLink RX8 240 "InkRing$Writing" "forged" "Z", Cond.fieldLink RX8 244 "InkRing$Writing" "found" "Z", Cond.methodLink RX8 234 yX0_writingAt]
def wsL_law0_r18 : List Cond := [Cond.instanceMethod yX0_writingAt, Cond.selects RX0 yX0_writingAt yX0_writingAt, Cond.code yX0_writingAt cX0_writingAt 4 (some (.object "InkRing$Writing")), Cond.methodLink RL 128 yX9_look, Cond.instanceMethod yX9_look, Cond.selects RX9 yX9_look yX9_look, Cond.code yX9_look cX9_look 5 (some .boolean), Cond.methodLink RX9 117 yX9_isHanded, Cond.instanceMethod yX9_isHanded, Cond.selects RX9 yX9_isHanded yX9_isHanded, Cond.code yX9_isHanded cX9_isHanded 4 (some .boolean), Cond.methodLink RX9 121 yX9_writing, Cond.static yX9_writing, Cond.code yX9_writing cX9_writing 3 (some .int), Cond.methodLink RL 129 yL_appeal, Cond.static yL_appeal, Cond.codeWith yL_appeal cL_appeal 5 (some .int) [(0, 10, 13, 25), (0, 10, 17, 15)], Cond.methodLink RL 52 yX8_appeal, Cond.instanceMethod yX8_appeal, Cond.selects RX8 yX8_appeal yX8_appeal, Cond.code yX8_appeal cX8_appeal 4 (some .int), Cond.fieldLink RX8 249 "InkRing$Duel" "secondJudge" "I", Cond.fieldLink RX8 252 "InkRing$Duel" "judge" "I", Cond.methodLink RX8 257 yX8_winnerOf]
def wsL_law0_r19 : List Cond := [Cond.instanceMethod yX8_winnerOf, Cond.selects RX8 yX8_winnerOf yX8_winnerOf, Cond.code yX8_winnerOf cX8_winnerOf 4 (some .int), Cond.fieldLink RX8 302 "InkRing$Duel" "one" "I", Cond.fieldLink RX8 305 "InkRing$Duel" "other" "I", Cond.methodLink RX8 299 yX8_roundGoesTo, Cond.instanceMethod yX8_roundGoesTo, Cond.selects RX8 yX8_roundGoesTo yX8_roundGoesTo, Cond.code yX8_roundGoesTo cX8_roundGoesTo 7 (some .int), Cond.methodLink RX8 286 yX8_judgedMark, Cond.instanceMethod yX8_judgedMark, Cond.selects RX8 yX8_judgedMark yX8_judgedMark, Cond.code yX8_judgedMark cX8_judgedMark 5 (some .float), Cond.fieldLink RX8 294 "InkRing$Duel" "day" "I", Cond.methodLink RX8 295 yX8_markByJudge, Cond.instanceMethod yX8_markByJudge, Cond.selects RX8 yX8_markByJudge yX8_markByJudge, Cond.code yX8_markByJudge cX8_markByJudge 7 (some .float), Cond.methodLink RX8 265 yX7_markBy, Cond.instanceMethod yX7_markBy, Cond.selects RX7 yX7_markBy yX7_markBy, Cond.code yX7_markBy cX7_markBy 4 (some .float), Cond.methodLink RX7 34 yX3_markBy, Cond.instanceMethod yX3_markBy]
def wsL_law0_r20 : List Cond := [Cond.selects RX3 yX3_markBy yX3_markBy, Cond.code yX3_markBy cX3_markBy 3 (some .float), Cond.fieldLink RX3 43 "InkRing$Style" "nearness" "I", Cond.fieldLink RX3 47 "InkRing$Style" "slope" "I", Cond.fieldLink RX3 49 "InkRing$Style" "order" "I", Cond.constantFloat RX3 51 (1120403456), Cond.methodLink RL 131 yX9_appeal, Cond.instanceMethod yX9_appeal, Cond.selects RX9 yX9_appeal yX9_appeal, Cond.code yX9_appeal cX9_appeal 4 (some .int), Cond.methodLink RX9 169 yX9_winner, Cond.instanceMethod yX9_winner, Cond.selects RX9 yX9_winner yX9_winner, Cond.code yX9_winner cX9_winner 3 (some .int), Cond.methodLink RX9 166 yX9_roundsTo, Cond.instanceMethod yX9_roundsTo, Cond.selects RX9 yX9_roundsTo yX9_roundsTo, Cond.code yX9_roundsTo cX9_roundsTo 5 (some .int), Cond.methodLink RX9 163 yX9_roundTo, Cond.instanceMethod yX9_roundTo, Cond.selects RX9 yX9_roundTo yX9_roundTo, Cond.code yX9_roundTo cX9_roundTo 6 (some .int), Cond.methodLink RX9 160 yX9_byAll, Cond.instanceMethod yX9_byAll]
def wsL_law0_r21 : List Cond := [Cond.selects RX9 yX9_byAll yX9_byAll, Cond.code yX9_byAll cX9_byAll 4 (some .float), Cond.methodLink RX9 156 yX9_byJudge, Cond.instanceMethod yX9_byJudge, Cond.selects RX9 yX9_byJudge yX9_byJudge, Cond.code yX9_byJudge cX9_byJudge 9 (some .float), Cond.methodLink RX9 148 yX9_promptOf, Cond.instanceMethod yX9_promptOf, Cond.selects RX9 yX9_promptOf yX9_promptOf, Cond.code yX9_promptOf cX9_promptOf 3 (some .int), Cond.methodLink RX9 152 yX9_markOf, Cond.instanceMethod yX9_markOf, Cond.selects RX9 yX9_markOf yX9_markOf, Cond.code yX9_markOf cX9_markOf 12 (some .float), Cond.constantFloat RX9 147 (1120403456), Cond.methodLink RX9 135 yX9_nearness, Cond.static yX9_nearness, Cond.code yX9_nearness cX9_nearness 7 (some .float), Cond.constantFloat RX9 129 (1092616192), Cond.constantFloat RX9 134 (1128792064), Cond.methodLink RX9 125 yX9_amount, Cond.static yX9_amount, Cond.code yX9_amount cX9_amount 1 (some .int), Cond.methodLink RX9 130 yX9_above]
def wsL_law0_r22 : List Cond := [Cond.static yX9_above, Cond.code yX9_above cX9_above 1 (some .float), Cond.methodLink RX9 139 yX9_slope, Cond.static yX9_slope, Cond.code yX9_slope cX9_slope 9 (some .float), Cond.methodLink RX9 143 yX9_order, Cond.static yX9_order, Cond.code yX9_order cX9_order 2 (some .float), Cond.methodLink RL 132 yL_prompt, Cond.static yL_prompt, Cond.codeWith yL_prompt cL_prompt 5 (some .int) [(0, 10, 13, 25)], Cond.methodLink RL 55 yX8_prompt, Cond.instanceMethod yX8_prompt, Cond.selects RX8 yX8_prompt yX8_prompt, Cond.code yX8_prompt cX8_prompt 5 (some .int), Cond.methodLink RL 134 yX9_prompt, Cond.instanceMethod yX9_prompt, Cond.selects RX9 yX9_prompt yX9_prompt, Cond.code yX9_prompt cX9_prompt 4 (some .int), Cond.methodLink RL 135 yL_mark, Cond.static yL_mark, Cond.codeWith yL_mark cL_mark 5 (some .int) [(0, 10, 13, 25)], Cond.methodLink RL 58 yX8_mark, Cond.instanceMethod yX8_mark]
def wsL_law0_r23 : List Cond := [Cond.selects RX8 yX8_mark yX8_mark, Cond.code yX8_mark cX8_mark 5 (some .float), Cond.methodLink RL 138 yX9_mark, Cond.instanceMethod yX9_mark, Cond.selects RX9 yX9_mark yX9_mark, Cond.code yX9_mark cX9_mark 3 (some .float), Cond.methodLink RX9 172 yX9_isSign, Cond.instanceMethod yX9_isSign, Cond.selects RX9 yX9_isSign yX9_isSign, Cond.code yX9_isSign cX9_isSign 2 (some .boolean), Cond.methodLink RL 139 yL_part, Cond.static yL_part, Cond.codeWith yL_part cL_part 6 (some .int) [(0, 12, 15, 25), (0, 12, 19, 13)], Cond.methodLink RL 62 yX8_part, Cond.instanceMethod yX8_part, Cond.selects RX8 yX8_part yX8_part, Cond.code yX8_part cX8_part 6 (some .float), Cond.fieldLink RX8 277 "InkRing$Parts" "nearness" "F", Cond.fieldLink RX8 280 "InkRing$Parts" "slope" "F", Cond.fieldLink RX8 282 "InkRing$Parts" "order" "F", Cond.methodLink RX8 269 yX3_between, Cond.methodLink RL 142 yX9_part, Cond.instanceMethod yX9_part, Cond.selects RX9 yX9_part yX9_part]
def wsL_law0_r24 : List Cond := [Cond.code yX9_part cX9_part 6 (some .float), Cond.methodLink RL 143 yL_marked, Cond.static yL_marked, Cond.codeWith yL_marked cL_marked 6 (some .int) [(0, 12, 15, 25)], Cond.methodLink RL 66 yX8_marked, Cond.instanceMethod yX8_marked, Cond.selects RX8 yX8_marked yX8_marked, Cond.code yX8_marked cX8_marked 6 (some .float), Cond.methodLink RL 146 yX9_marked, Cond.instanceMethod yX9_marked, Cond.selects RX9 yX9_marked yX9_marked, Cond.code yX9_marked cX9_marked 4 (some .float), Cond.methodLink RL 147 yL_of, Cond.static yL_of, Cond.codeWith yL_of cL_of 5 (some .int) [(0, 10, 13, 25), (0, 10, 17, 13)], Cond.methodLink RL 70 yX8_of, Cond.instanceMethod yX8_of, Cond.selects RX8 yX8_of yX8_of, Cond.code yX8_of cX8_of 4 (some .int), Cond.methodLink RX8 290 yX8_countRounds, Cond.instanceMethod yX8_countRounds, Cond.selects RX8 yX8_countRounds yX8_countRounds, Cond.code yX8_countRounds cX8_countRounds 5 (some .int), Cond.methodLink RL 149 yX9_of]
def wsL_law0_r25 : List Cond := [Cond.instanceMethod yX9_of, Cond.selects RX9 yX9_of yX9_of, Cond.code yX9_of cX9_of 3 (some .int), Cond.methodLink RL 150 yL_paper, Cond.static yL_paper, Cond.codeWith yL_paper cL_paper 5 (some .int) [(0, 10, 13, 25), (0, 10, 17, 13)], Cond.methodLink RL 73 yX8_paper, Cond.instanceMethod yX8_paper, Cond.selects RX8 yX8_paper yX8_paper, Cond.code yX8_paper cX8_paper 4 (some .int), Cond.methodLink RL 152 yX9_paper, Cond.instanceMethod yX9_paper, Cond.selects RX9 yX9_paper yX9_paper, Cond.code yX9_paper cX9_paper 3 (some .int), Cond.methodLink RL 153 yL_won, Cond.static yL_won, Cond.codeWith yL_won cL_won 4 (some .int) [(0, 9, 12, 25)], Cond.methodLink RL 76 yX8_won, Cond.instanceMethod yX8_won, Cond.selects RX8 yX8_won yX8_won, Cond.code yX8_won cX8_won 4 (some .int), Cond.methodLink RL 155 yX9_won, Cond.instanceMethod yX9_won, Cond.selects RX9 yX9_won yX9_won]
def wsL_law0_r26 : List Cond := [Cond.code yX9_won cX9_won 4 (some .int)]
def wsL_law0 : List Cond := (wsL_law0_r1 ++ (wsL_law0_r2 ++ (wsL_law0_r3 ++ (wsL_law0_r4 ++ (wsL_law0_r5 ++ (wsL_law0_r6 ++ (wsL_law0_r7 ++ (wsL_law0_r8 ++ (wsL_law0_r9 ++ (wsL_law0_r10 ++ (wsL_law0_r11 ++ (wsL_law0_r12 ++ (wsL_law0_r13 ++ (wsL_law0_r14 ++ (wsL_law0_r15 ++ (wsL_law0_r16 ++ (wsL_law0_r17 ++ (wsL_law0_r18 ++ (wsL_law0_r19 ++ (wsL_law0_r20 ++ (wsL_law0_r21 ++ (wsL_law0_r22 ++ (wsL_law0_r23 ++ (wsL_law0_r24 ++ (wsL_law0_r25 ++ wsL_law0_r26))))))))))))))))))))))))) ++ wsX80 ++ wsX90 ++ wsX50 ++ wsX20 ++ wsX60 ++ wsX10 ++ wsX40 ++ wsX00 ++ wsX70 ++ wsX30 ++ ([] : List Cond)
def wsL_law : List Cond := wsL_law0 ++ (vx_atS RX8 55 "java/lang/IllegalArgumentException" ["java/lang/RuntimeException", "java/lang/Exception"]).filter goodWord ++ (vx_atS RX8 68 "java/lang/IllegalStateException" ["java/lang/RuntimeException", "java/lang/Exception"]).filter goodWord ++ (vx_atS RX8 96 "java/lang/IndexOutOfBoundsException" ["java/lang/RuntimeException", "java/lang/Exception"]).filter goodWord
set_option maxRecDepth 20000 in
theorem wsL_law0_r1_in : ∀ w ∈ wsL_law0_r1, w ∈ lw_tbl := fun w h => (goodIn_p wsL_law0_r1 [46, 49] (by decide +kernel) (by decide +kernel) w h).1
set_option maxRecDepth 20000 in
theorem wsL_law0_r2_in : ∀ w ∈ wsL_law0_r2, w ∈ lw_tbl := fun w h => (goodIn_p wsL_law0_r2 [63, 80, 97, 115] (by decide +kernel) (by decide +kernel) w h).1
set_option maxRecDepth 20000 in
theorem wsL_law0_r3_in : ∀ w ∈ wsL_law0_r3, w ∈ lw_tbl := fun w h => (goodIn_p wsL_law0_r3 [664] (by decide +kernel) (by decide +kernel) w h).1
set_option maxRecDepth 20000 in
theorem wsL_law0_r4_in : ∀ w ∈ wsL_law0_r4, w ∈ lw_tbl := fun w h => (goodIn_p wsL_law0_r4 [169] (by decide +kernel) (by decide +kernel) w h).1
set_option maxRecDepth 20000 in
theorem wsL_law0_r5_in : ∀ w ∈ wsL_law0_r5, w ∈ lw_tbl := fun w h => (goodIn_p wsL_law0_r5 [172, 175, 265, 283, 762] (by decide +kernel) (by decide +kernel) w h).1
set_option maxRecDepth 20000 in
theorem wsL_law0_r6_in : ∀ w ∈ wsL_law0_r6, w ∈ lw_tbl := fun w h => (goodIn_p wsL_law0_r6 [765, 769, 758, 156, 160, 773] (by decide +kernel) (by decide +kernel) w h).1
set_option maxRecDepth 20000 in
theorem wsL_law0_r7_in : ∀ w ∈ wsL_law0_r7, w ∈ lw_tbl := fun w h => (goodIn_p wsL_law0_r7 [290, 777, 300] (by decide +kernel) (by decide +kernel) w h).1
set_option maxRecDepth 20000 in
theorem wsL_law0_r8_in : ∀ w ∈ wsL_law0_r8, w ∈ lw_tbl := fun w h => (goodIn_p wsL_law0_r8 [304, 781, 784, 329, 788] (by decide +kernel) (by decide +kernel) w h).1
set_option maxRecDepth 20000 in
theorem wsL_law0_r9_in : ∀ w ∈ wsL_law0_r9, w ∈ lw_tbl := fun w h => (goodIn_p wsL_law0_r9 [337, 341, 792] (by decide +kernel) (by decide +kernel) w h).1
set_option maxRecDepth 20000 in
theorem wsL_law0_r10_in : ∀ w ∈ wsL_law0_r10, w ∈ lw_tbl := fun w h => (goodIn_p wsL_law0_r10 [350, 354, 359, 364, 368, 796] (by decide +kernel) (by decide +kernel) w h).1
set_option maxRecDepth 20000 in
theorem wsL_law0_r11_in : ∀ w ∈ wsL_law0_r11, w ∈ lw_tbl := fun w h => (goodIn_p wsL_law0_r11 [375, 381, 384, 387, 800] (by decide +kernel) (by decide +kernel) w h).1
set_option maxRecDepth 20000 in
theorem wsL_law0_r12_in : ∀ w ∈ wsL_law0_r12, w ∈ lw_tbl := fun w h => (goodIn_p wsL_law0_r12 [394, 397, 406] (by decide +kernel) (by decide +kernel) w h).1
set_option maxRecDepth 20000 in
theorem wsL_law0_r13_in : ∀ w ∈ wsL_law0_r13, w ∈ lw_tbl := fun w h => (goodIn_p wsL_law0_r13 [451, 804, 458] (by decide +kernel) (by decide +kernel) w h).1
set_option maxRecDepth 20000 in
theorem wsL_law0_r14_in : ∀ w ∈ wsL_law0_r14, w ∈ lw_tbl := fun w h => (goodIn_p wsL_law0_r14 [462, 468, 472, 476, 482, 485] (by decide +kernel) (by decide +kernel) w h).1
set_option maxRecDepth 20000 in
theorem wsL_law0_r15_in : ∀ w ∈ wsL_law0_r15, w ∈ lw_tbl := fun w h => (goodIn_p wsL_law0_r15 [490, 496, 500] (by decide +kernel) (by decide +kernel) w h).1
set_option maxRecDepth 20000 in
theorem wsL_law0_r16_in : ∀ w ∈ wsL_law0_r16, w ∈ lw_tbl := fun w h => (goodIn_p wsL_law0_r16 [507, 510, 516, 520, 523] (by decide +kernel) (by decide +kernel) w h).1
set_option maxRecDepth 20000 in
theorem wsL_law0_r17_in : ∀ w ∈ wsL_law0_r17, w ∈ lw_tbl := fun w h => (goodIn_p wsL_law0_r17 [555, 808, 812, 816, 562] (by decide +kernel) (by decide +kernel) w h).1
set_option maxRecDepth 20000 in
theorem wsL_law0_r18_in : ∀ w ∈ wsL_law0_r18, w ∈ lw_tbl := fun w h => (goodIn_p wsL_law0_r18 [566, 820, 824, 827, 574] (by decide +kernel) (by decide +kernel) w h).1
set_option maxRecDepth 20000 in
theorem wsL_law0_r19_in : ∀ w ∈ wsL_law0_r19, w ∈ lw_tbl := fun w h => (goodIn_p wsL_law0_r19 [580, 584, 588, 592, 596] (by decide +kernel) (by decide +kernel) w h).1
set_option maxRecDepth 20000 in
theorem wsL_law0_r20_in : ∀ w ∈ wsL_law0_r20, w ∈ lw_tbl := fun w h => (goodIn_p wsL_law0_r20 [600, 831, 835, 839, 843] (by decide +kernel) (by decide +kernel) w h).1
set_option maxRecDepth 20000 in
theorem wsL_law0_r21_in : ∀ w ∈ wsL_law0_r21, w ∈ lw_tbl := fun w h => (goodIn_p wsL_law0_r21 [847, 851, 855, 859, 862, 865] (by decide +kernel) (by decide +kernel) w h).1
set_option maxRecDepth 20000 in
theorem wsL_law0_r22_in : ∀ w ∈ wsL_law0_r22, w ∈ lw_tbl := fun w h => (goodIn_p wsL_law0_r22 [869, 873, 876, 608, 881] (by decide +kernel) (by decide +kernel) w h).1
set_option maxRecDepth 20000 in
theorem wsL_law0_r23_in : ∀ w ∈ wsL_law0_r23, w ∈ lw_tbl := fun w h => (goodIn_p wsL_law0_r23 [616, 885, 889, 624] (by decide +kernel) (by decide +kernel) w h).1
set_option maxRecDepth 20000 in
theorem wsL_law0_r24_in : ∀ w ∈ wsL_law0_r24, w ∈ lw_tbl := fun w h => (goodIn_p wsL_law0_r24 [893, 634, 897, 641, 645] (by decide +kernel) (by decide +kernel) w h).1
set_option maxRecDepth 20000 in
theorem wsL_law0_r25_in : ∀ w ∈ wsL_law0_r25, w ∈ lw_tbl := fun w h => (goodIn_p wsL_law0_r25 [901, 652, 905, 659] (by decide +kernel) (by decide +kernel) w h).1
set_option maxRecDepth 20000 in
theorem wsL_law0_r26_in : ∀ w ∈ wsL_law0_r26, w ∈ lw_tbl := fun w h => (goodIn_p wsL_law0_r26 [909] (by decide +kernel) (by decide +kernel) w h).1
set_option maxRecDepth 20000 in
theorem wsX80_in : ∀ w ∈ wsX80, w ∈ lw_tbl := fun w h => (goodIn_p wsX80 [] (by decide +kernel) (by decide +kernel) w h).1
set_option maxRecDepth 20000 in
theorem wsX90_in : ∀ w ∈ wsX90, w ∈ lw_tbl := fun w h => (goodIn_p wsX90 [] (by decide +kernel) (by decide +kernel) w h).1
set_option maxRecDepth 20000 in
theorem wsX50_in : ∀ w ∈ wsX50, w ∈ lw_tbl := fun w h => (goodIn_p wsX50 [] (by decide +kernel) (by decide +kernel) w h).1
set_option maxRecDepth 20000 in
theorem wsX20_in : ∀ w ∈ wsX20, w ∈ lw_tbl := fun w h => (goodIn_p wsX20 [] (by decide +kernel) (by decide +kernel) w h).1
set_option maxRecDepth 20000 in
theorem wsX60_in : ∀ w ∈ wsX60, w ∈ lw_tbl := fun w h => (goodIn_p wsX60 [] (by decide +kernel) (by decide +kernel) w h).1
set_option maxRecDepth 20000 in
theorem wsX10_in : ∀ w ∈ wsX10, w ∈ lw_tbl := fun w h => (goodIn_p wsX10 [] (by decide +kernel) (by decide +kernel) w h).1
set_option maxRecDepth 20000 in
theorem wsX40_in : ∀ w ∈ wsX40, w ∈ lw_tbl := fun w h => (goodIn_p wsX40 [] (by decide +kernel) (by decide +kernel) w h).1
set_option maxRecDepth 20000 in
theorem wsX00_in : ∀ w ∈ wsX00, w ∈ lw_tbl := fun w h => (goodIn_p wsX00 [] (by decide +kernel) (by decide +kernel) w h).1
set_option maxRecDepth 20000 in
theorem wsX70_in : ∀ w ∈ wsX70, w ∈ lw_tbl := fun w h => (goodIn_p wsX70 [] (by decide +kernel) (by decide +kernel) w h).1
set_option maxRecDepth 20000 in
theorem wsX30_in : ∀ w ∈ wsX30, w ∈ lw_tbl := fun w h => (goodIn_p wsX30 [] (by decide +kernel) (by decide +kernel) w h).1
theorem wsL_law_in0 : ∀ w ∈ wsL_law0, w ∈ lw_tbl := fun w => (fun h => (List.mem_append.mp h).elim (fun h => (List.mem_append.mp h).elim (fun h => (List.mem_append.mp h).elim (fun h => (List.mem_append.mp h).elim (fun h => (List.mem_append.mp h).elim (fun h => (List.mem_append.mp h).elim (fun h => (List.mem_append.mp h).elim (fun h => (List.mem_append.mp h).elim (fun h => (List.mem_append.mp h).elim (fun h => (List.mem_append.mp h).elim (fun h => (List.mem_append.mp h).elim (fun h => (List.mem_append.mp h).elim (fun h => wsL_law0_r1_in w h) (fun h => (List.mem_append.mp h).elim (fun h => wsL_law0_r2_in w h) (fun h => (List.mem_append.mp h).elim (fun h => wsL_law0_r3_in w h) (fun h => (List.mem_append.mp h).elim (fun h => wsL_law0_r4_in w h) (fun h => (List.mem_append.mp h).elim (fun h => wsL_law0_r5_in w h) (fun h => (List.mem_append.mp h).elim (fun h => wsL_law0_r6_in w h) (fun h => (List.mem_append.mp h).elim (fun h => wsL_law0_r7_in w h) (fun h => (List.mem_append.mp h).elim (fun h => wsL_law0_r8_in w h) (fun h => (List.mem_append.mp h).elim (fun h => wsL_law0_r9_in w h) (fun h => (List.mem_append.mp h).elim (fun h => wsL_law0_r10_in w h) (fun h => (List.mem_append.mp h).elim (fun h => wsL_law0_r11_in w h) (fun h => (List.mem_append.mp h).elim (fun h => wsL_law0_r12_in w h) (fun h => (List.mem_append.mp h).elim (fun h => wsL_law0_r13_in w h) (fun h => (List.mem_append.mp h).elim (fun h => wsL_law0_r14_in w h) (fun h => (List.mem_append.mp h).elim (fun h => wsL_law0_r15_in w h) (fun h => (List.mem_append.mp h).elim (fun h => wsL_law0_r16_in w h) (fun h => (List.mem_append.mp h).elim (fun h => wsL_law0_r17_in w h) (fun h => (List.mem_append.mp h).elim (fun h => wsL_law0_r18_in w h) (fun h => (List.mem_append.mp h).elim (fun h => wsL_law0_r19_in w h) (fun h => (List.mem_append.mp h).elim (fun h => wsL_law0_r20_in w h) (fun h => (List.mem_append.mp h).elim (fun h => wsL_law0_r21_in w h) (fun h => (List.mem_append.mp h).elim (fun h => wsL_law0_r22_in w h) (fun h => (List.mem_append.mp h).elim (fun h => wsL_law0_r23_in w h) (fun h => (List.mem_append.mp h).elim (fun h => wsL_law0_r24_in w h) (fun h => (List.mem_append.mp h).elim (fun h => wsL_law0_r25_in w h) (fun h => wsL_law0_r26_in w h)))))))))))))))))))))))))) (fun h => wsX80_in w h)) (fun h => wsX90_in w h)) (fun h => wsX50_in w h)) (fun h => wsX20_in w h)) (fun h => wsX60_in w h)) (fun h => wsX10_in w h)) (fun h => wsX40_in w h)) (fun h => wsX00_in w h)) (fun h => wsX70_in w h)) (fun h => wsX30_in w h)) (fun h => absurd h List.not_mem_nil))
theorem wsL_law_x0 : ∀ w ∈ (vx_atS RX8 55 "java/lang/IllegalArgumentException" ["java/lang/RuntimeException", "java/lang/Exception"]).filter goodWord, w ∈ lw_tbl := by decide +kernel
theorem wsL_law_x1 : ∀ w ∈ (vx_atS RX8 68 "java/lang/IllegalStateException" ["java/lang/RuntimeException", "java/lang/Exception"]).filter goodWord, w ∈ lw_tbl := by decide +kernel
theorem wsL_law_x2 : ∀ w ∈ (vx_atS RX8 96 "java/lang/IndexOutOfBoundsException" ["java/lang/RuntimeException", "java/lang/Exception"]).filter goodWord, w ∈ lw_tbl := by decide +kernel
theorem wsL_law_in : ∀ w ∈ wsL_law, w ∈ lw_tbl := fun w h => (List.mem_append.mp h).elim (fun h => (List.mem_append.mp h).elim (fun h => (List.mem_append.mp h).elim (fun h => wsL_law_in0 w h) (fun h => wsL_law_x0 w h)) (fun h => wsL_law_x1 w h)) (fun h => wsL_law_x2 w h)
theorem inlX0 : ∀ w ∈ wsX00, w ∈ wsL_law := fun _ h => List.mem_append_left _ (List.mem_append_left _ (List.mem_append_left _ (List.mem_append_left _ (List.mem_append_left _ (List.mem_append_left _ (List.mem_append_right _ h))))))
theorem inX0 : ∀ w ∈ wsX00, w ∈ lw_tbl := fun w h => wsL_law_in w (inlX0 w h)
theorem inlX1 : ∀ w ∈ wsX10, w ∈ wsL_law := fun _ h => List.mem_append_left _ (List.mem_append_left _ (List.mem_append_left _ (List.mem_append_left _ (List.mem_append_left _ (List.mem_append_left _ (List.mem_append_left _ (List.mem_append_left _ (List.mem_append_right _ h))))))))
theorem inX1 : ∀ w ∈ wsX10, w ∈ lw_tbl := fun w h => wsL_law_in w (inlX1 w h)
theorem inlX2 : ∀ w ∈ wsX20, w ∈ wsL_law := fun _ h => List.mem_append_left _ (List.mem_append_left _ (List.mem_append_left _ (List.mem_append_left _ (List.mem_append_left _ (List.mem_append_left _ (List.mem_append_left _ (List.mem_append_left _ (List.mem_append_left _ (List.mem_append_left _ (List.mem_append_right _ h))))))))))
theorem inX2 : ∀ w ∈ wsX20, w ∈ lw_tbl := fun w h => wsL_law_in w (inlX2 w h)
theorem inlX3 : ∀ w ∈ wsX30, w ∈ wsL_law := fun _ h => List.mem_append_left _ (List.mem_append_left _ (List.mem_append_left _ (List.mem_append_left _ (List.mem_append_right _ h))))
theorem inX3 : ∀ w ∈ wsX30, w ∈ lw_tbl := fun w h => wsL_law_in w (inlX3 w h)
theorem inlX4 : ∀ w ∈ wsX40, w ∈ wsL_law := fun _ h => List.mem_append_left _ (List.mem_append_left _ (List.mem_append_left _ (List.mem_append_left _ (List.mem_append_left _ (List.mem_append_left _ (List.mem_append_left _ (List.mem_append_right _ h)))))))
theorem inX4 : ∀ w ∈ wsX40, w ∈ lw_tbl := fun w h => wsL_law_in w (inlX4 w h)
theorem inlX5 : ∀ w ∈ wsX50, w ∈ wsL_law := fun _ h => List.mem_append_left _ (List.mem_append_left _ (List.mem_append_left _ (List.mem_append_left _ (List.mem_append_left _ (List.mem_append_left _ (List.mem_append_left _ (List.mem_append_left _ (List.mem_append_left _ (List.mem_append_left _ (List.mem_append_left _ (List.mem_append_right _ h)))))))))))
theorem inX5 : ∀ w ∈ wsX50, w ∈ lw_tbl := fun w h => wsL_law_in w (inlX5 w h)
theorem inlX6 : ∀ w ∈ wsX60, w ∈ wsL_law := fun _ h => List.mem_append_left _ (List.mem_append_left _ (List.mem_append_left _ (List.mem_append_left _ (List.mem_append_left _ (List.mem_append_left _ (List.mem_append_left _ (List.mem_append_left _ (List.mem_append_left _ (List.mem_append_right _ h)))))))))
theorem inX6 : ∀ w ∈ wsX60, w ∈ lw_tbl := fun w h => wsL_law_in w (inlX6 w h)
theorem inlX7 : ∀ w ∈ wsX70, w ∈ wsL_law := fun _ h => List.mem_append_left _ (List.mem_append_left _ (List.mem_append_left _ (List.mem_append_left _ (List.mem_append_left _ (List.mem_append_right _ h)))))
theorem inX7 : ∀ w ∈ wsX70, w ∈ lw_tbl := fun w h => wsL_law_in w (inlX7 w h)
theorem inlX8 : ∀ w ∈ wsX80, w ∈ wsL_law := fun _ h => List.mem_append_left _ (List.mem_append_left _ (List.mem_append_left _ (List.mem_append_left _ (List.mem_append_left _ (List.mem_append_left _ (List.mem_append_left _ (List.mem_append_left _ (List.mem_append_left _ (List.mem_append_left _ (List.mem_append_left _ (List.mem_append_left _ (List.mem_append_left _ (List.mem_append_right _ h)))))))))))))
theorem inX8 : ∀ w ∈ wsX80, w ∈ lw_tbl := fun w h => wsL_law_in w (inlX8 w h)
theorem inlX9 : ∀ w ∈ wsX90, w ∈ wsL_law := fun _ h => List.mem_append_left _ (List.mem_append_left _ (List.mem_append_left _ (List.mem_append_left _ (List.mem_append_left _ (List.mem_append_left _ (List.mem_append_left _ (List.mem_append_left _ (List.mem_append_left _ (List.mem_append_left _ (List.mem_append_left _ (List.mem_append_left _ (List.mem_append_right _ h))))))))))))
theorem inX9 : ∀ w ∈ wsX90, w ∈ lw_tbl := fun w h => wsL_law_in w (inlX9 w h)
theorem inJ9 : ∀ w ∈ wsJ90, w ∈ lw_tbl := by decide +kernel
theorem inJ0 : ∀ w ∈ wsJ00, w ∈ lw_tbl := by decide +kernel
end
section
theorem dX0_init_0 : decode cX0_init 0 = .ok (.aload_n 0, 1) := by decide +kernel
theorem dX0_init_1 : decode cX0_init 1 = .ok (.invokespecial 3, 3) := by decide +kernel
theorem dX0_init_4 : decode cX0_init 4 = .ok (.aload_n 0, 1) := by decide +kernel
theorem dX0_init_5 : decode cX0_init 5 = .ok (.iconst 5, 1) := by decide +kernel
theorem dX0_init_6 : decode cX0_init 6 = .ok (.newarray .int, 2) := by decide +kernel
theorem dX0_init_8 : decode cX0_init 8 = .ok (.putfield 9, 3) := by decide +kernel
theorem dX0_init_11 : decode cX0_init 11 = .ok (.aload_n 0, 1) := by decide +kernel
theorem dX0_init_12 : decode cX0_init 12 = .ok (.bipush 10, 2) := by decide +kernel
theorem dX0_init_14 : decode cX0_init 14 = .ok (.anewarray 15, 3) := by decide +kernel
theorem dX0_init_17 : decode cX0_init 17 = .ok (.putfield 17, 3) := by decide +kernel
theorem dX0_init_20 : decode cX0_init 20 = .ok (.aload_n 0, 1) := by decide +kernel
theorem dX0_init_21 : decode cX0_init 21 = .ok (.iconst (-1), 1) := by decide +kernel
theorem dX0_init_22 : decode cX0_init 22 = .ok (.putfield 21, 3) := by decide +kernel
theorem dX0_init_25 : decode cX0_init 25 = .ok (.aload_n 0, 1) := by decide +kernel
theorem dX0_init_26 : decode cX0_init 26 = .ok (.iload_n 1, 1) := by decide +kernel
theorem dX0_init_27 : decode cX0_init 27 = .ok (.putfield 25, 3) := by decide +kernel
theorem dX0_init_30 : decode cX0_init 30 = .ok (.aload_n 0, 1) := by decide +kernel
theorem dX0_init_31 : decode cX0_init 31 = .ok (.iload_n 2, 1) := by decide +kernel
theorem dX0_init_32 : decode cX0_init 32 = .ok (.putfield 28, 3) := by decide +kernel
theorem dX0_init_35 : decode cX0_init 35 = .ok (.aload_n 0, 1) := by decide +kernel
theorem dX0_init_36 : decode cX0_init 36 = .ok (.iload_n 3, 1) := by decide +kernel
theorem dX0_init_37 : decode cX0_init 37 = .ok (.putfield 31, 3) := by decide +kernel
theorem dX0_init_40 : decode cX0_init 40 = .ok (.aload_n 0, 1) := by decide +kernel
theorem dX0_init_41 : decode cX0_init 41 = .ok (.iload 4, 2) := by decide +kernel
theorem dX0_init_43 : decode cX0_init 43 = .ok (.putfield 34, 3) := by decide +kernel
theorem dX0_init_46 : decode cX0_init 46 = .ok (.aload_n 0, 1) := by decide +kernel
theorem dX0_init_47 : decode cX0_init 47 = .ok (.iload 5, 2) := by decide +kernel
theorem dX0_init_49 : decode cX0_init 49 = .ok (.putfield 37, 3) := by decide +kernel
theorem dX0_init_52 : decode cX0_init 52 = .ok (.aload_n 0, 1) := by decide +kernel
theorem dX0_init_53 : decode cX0_init 53 = .ok (.iload 6, 2) := by decide +kernel
theorem dX0_init_55 : decode cX0_init 55 = .ok (.putfield 40, 3) := by decide +kernel
theorem dX0_init_58 : decode cX0_init 58 = .ok (.return_, 1) := by decide +kernel
theorem dX0_drawPrompts_0 : decode cX0_drawPrompts 0 = .ok (.iconst 0, 1) := by decide +kernel
theorem dX0_drawPrompts_1 : decode cX0_drawPrompts 1 = .ok (.istore_n 3, 1) := by decide +kernel
theorem dX0_drawPrompts_2 : decode cX0_drawPrompts 2 = .ok (.iload_n 3, 1) := by decide +kernel
theorem dX0_drawPrompts_3 : decode cX0_drawPrompts 3 = .ok (.aload_n 0, 1) := by decide +kernel
theorem dX0_drawPrompts_4 : decode cX0_drawPrompts 4 = .ok (.getfield 9, 3) := by decide +kernel
theorem dX0_drawPrompts_7 : decode cX0_drawPrompts 7 = .ok (.arraylength, 1) := by decide +kernel
theorem dX0_drawPrompts_8 : decode cX0_drawPrompts 8 = .ok (.if_icmp .ge 39, 3) := by decide +kernel
theorem dX0_drawPrompts_11 : decode cX0_drawPrompts 11 = .ok (.aload_n 0, 1) := by decide +kernel
theorem dX0_drawPrompts_12 : decode cX0_drawPrompts 12 = .ok (.getfield 9, 3) := by decide +kernel
theorem dX0_drawPrompts_15 : decode cX0_drawPrompts 15 = .ok (.iload_n 3, 1) := by decide +kernel
theorem dX0_drawPrompts_16 : decode cX0_drawPrompts 16 = .ok (.iload_n 3, 1) := by decide +kernel
theorem dX0_drawPrompts_17 : decode cX0_drawPrompts 17 = .ok (.aload_n 0, 1) := by decide +kernel
theorem dX0_drawPrompts_18 : decode cX0_drawPrompts 18 = .ok (.getfield 37, 3) := by decide +kernel
theorem dX0_drawPrompts_21 : decode cX0_drawPrompts 21 = .ok (.if_icmp .ge 18, 3) := by decide +kernel
theorem dX0_drawPrompts_24 : decode cX0_drawPrompts 24 = .ok (.iload_n 2, 1) := by decide +kernel
theorem dX0_drawPrompts_25 : decode cX0_drawPrompts 25 = .ok (.ifCond .le 14, 3) := by decide +kernel
theorem dX0_drawPrompts_28 : decode cX0_drawPrompts 28 = .ok (.iload_n 1, 1) := by decide +kernel
theorem dX0_drawPrompts_29 : decode cX0_drawPrompts 29 = .ok (.bipush 17, 2) := by decide +kernel
theorem dX0_drawPrompts_31 : decode cX0_drawPrompts 31 = .ok (.iload_n 3, 1) := by decide +kernel
theorem dX0_drawPrompts_32 : decode cX0_drawPrompts 32 = .ok (.imul, 1) := by decide +kernel
theorem dX0_drawPrompts_33 : decode cX0_drawPrompts 33 = .ok (.iadd, 1) := by decide +kernel
theorem dX0_drawPrompts_34 : decode cX0_drawPrompts 34 = .ok (.iload_n 2, 1) := by decide +kernel
theorem dX0_drawPrompts_35 : decode cX0_drawPrompts 35 = .ok (.irem, 1) := by decide +kernel
theorem dX0_drawPrompts_36 : decode cX0_drawPrompts 36 = .ok (.goto 4, 3) := by decide +kernel
theorem dX0_drawPrompts_39 : decode cX0_drawPrompts 39 = .ok (.iconst (-1), 1) := by decide +kernel
theorem dX0_drawPrompts_40 : decode cX0_drawPrompts 40 = .ok (.iastore, 1) := by decide +kernel
theorem dX0_drawPrompts_41 : decode cX0_drawPrompts 41 = .ok (.iinc 3 1, 3) := by decide +kernel
theorem dX0_drawPrompts_44 : decode cX0_drawPrompts 44 = .ok (.goto (-42), 3) := by decide +kernel
theorem dX0_drawPrompts_47 : decode cX0_drawPrompts 47 = .ok (.return_, 1) := by decide +kernel
theorem dX0_promptAt_0 : decode cX0_promptAt 0 = .ok (.iload_n 1, 1) := by decide +kernel
theorem dX0_promptAt_1 : decode cX0_promptAt 1 = .ok (.ifCond .lt 21, 3) := by decide +kernel
theorem dX0_promptAt_4 : decode cX0_promptAt 4 = .ok (.iload_n 1, 1) := by decide +kernel
theorem dX0_promptAt_5 : decode cX0_promptAt 5 = .ok (.aload_n 0, 1) := by decide +kernel
theorem dX0_promptAt_6 : decode cX0_promptAt 6 = .ok (.getfield 9, 3) := by decide +kernel
theorem dX0_promptAt_9 : decode cX0_promptAt 9 = .ok (.arraylength, 1) := by decide +kernel
theorem dX0_promptAt_10 : decode cX0_promptAt 10 = .ok (.if_icmp .ge 12, 3) := by decide +kernel
theorem dX0_promptAt_13 : decode cX0_promptAt 13 = .ok (.aload_n 0, 1) := by decide +kernel
theorem dX0_promptAt_14 : decode cX0_promptAt 14 = .ok (.getfield 9, 3) := by decide +kernel
theorem dX0_promptAt_17 : decode cX0_promptAt 17 = .ok (.iload_n 1, 1) := by decide +kernel
theorem dX0_promptAt_18 : decode cX0_promptAt 18 = .ok (.iaload, 1) := by decide +kernel
theorem dX0_promptAt_19 : decode cX0_promptAt 19 = .ok (.goto 4, 3) := by decide +kernel
theorem dX0_promptAt_22 : decode cX0_promptAt 22 = .ok (.iconst (-1), 1) := by decide +kernel
theorem dX0_promptAt_23 : decode cX0_promptAt 23 = .ok (.ireturn, 1) := by decide +kernel
theorem dX0_isOver_0 : decode cX0_isOver 0 = .ok (.aload_n 0, 1) := by decide +kernel
theorem dX0_isOver_1 : decode cX0_isOver 1 = .ok (.getfield 43, 3) := by decide +kernel
theorem dX0_isOver_4 : decode cX0_isOver 4 = .ok (.iconst 2, 1) := by decide +kernel
theorem dX0_isOver_5 : decode cX0_isOver 5 = .ok (.aload_n 0, 1) := by decide +kernel
theorem dX0_isOver_6 : decode cX0_isOver 6 = .ok (.getfield 37, 3) := by decide +kernel
theorem dX0_isOver_9 : decode cX0_isOver 9 = .ok (.imul, 1) := by decide +kernel
theorem dX0_isOver_10 : decode cX0_isOver 10 = .ok (.if_icmp .lt 7, 3) := by decide +kernel
theorem dX0_isOver_13 : decode cX0_isOver 13 = .ok (.iconst 1, 1) := by decide +kernel
theorem dX0_isOver_14 : decode cX0_isOver 14 = .ok (.goto 4, 3) := by decide +kernel
theorem dX0_isOver_17 : decode cX0_isOver 17 = .ok (.iconst 0, 1) := by decide +kernel
theorem dX0_isOver_18 : decode cX0_isOver 18 = .ok (.ireturn, 1) := by decide +kernel
theorem dX0_nextWriter_0 : decode cX0_nextWriter 0 = .ok (.aload_n 0, 1) := by decide +kernel
theorem dX0_nextWriter_1 : decode cX0_nextWriter 1 = .ok (.getfield 43, 3) := by decide +kernel
theorem dX0_nextWriter_4 : decode cX0_nextWriter 4 = .ok (.iconst 2, 1) := by decide +kernel
theorem dX0_nextWriter_5 : decode cX0_nextWriter 5 = .ok (.irem, 1) := by decide +kernel
theorem dX0_nextWriter_6 : decode cX0_nextWriter 6 = .ok (.ifCond .ne 10, 3) := by decide +kernel
theorem dX0_nextWriter_9 : decode cX0_nextWriter 9 = .ok (.aload_n 0, 1) := by decide +kernel
theorem dX0_nextWriter_10 : decode cX0_nextWriter 10 = .ok (.getfield 25, 3) := by decide +kernel
theorem dX0_nextWriter_13 : decode cX0_nextWriter 13 = .ok (.goto 7, 3) := by decide +kernel
theorem dX0_nextWriter_16 : decode cX0_nextWriter 16 = .ok (.aload_n 0, 1) := by decide +kernel
theorem dX0_nextWriter_17 : decode cX0_nextWriter 17 = .ok (.getfield 28, 3) := by decide +kernel
theorem dX0_nextWriter_20 : decode cX0_nextWriter 20 = .ok (.ireturn, 1) := by decide +kernel
theorem dX0_add_0 : decode cX0_add 0 = .ok (.aload_n 0, 1) := by decide +kernel
theorem dX0_add_1 : decode cX0_add 1 = .ok (.getfield 43, 3) := by decide +kernel
theorem dX0_add_4 : decode cX0_add 4 = .ok (.ifCond .lt 35, 3) := by decide +kernel
theorem dX0_add_7 : decode cX0_add 7 = .ok (.aload_n 0, 1) := by decide +kernel
theorem dX0_add_8 : decode cX0_add 8 = .ok (.getfield 43, 3) := by decide +kernel
theorem dX0_add_11 : decode cX0_add 11 = .ok (.aload_n 0, 1) := by decide +kernel
theorem dX0_add_12 : decode cX0_add 12 = .ok (.getfield 17, 3) := by decide +kernel
theorem dX0_add_15 : decode cX0_add 15 = .ok (.arraylength, 1) := by decide +kernel
theorem dX0_add_16 : decode cX0_add 16 = .ok (.if_icmp .ge 23, 3) := by decide +kernel
theorem dX0_add_19 : decode cX0_add 19 = .ok (.aload_n 0, 1) := by decide +kernel
theorem dX0_add_20 : decode cX0_add 20 = .ok (.getfield 17, 3) := by decide +kernel
theorem dX0_add_23 : decode cX0_add 23 = .ok (.aload_n 0, 1) := by decide +kernel
theorem dX0_add_24 : decode cX0_add 24 = .ok (.getfield 43, 3) := by decide +kernel
theorem dX0_add_27 : decode cX0_add 27 = .ok (.aload_n 1, 1) := by decide +kernel
theorem dX0_add_28 : decode cX0_add 28 = .ok (.aastore, 1) := by decide +kernel
theorem dX0_add_29 : decode cX0_add 29 = .ok (.aload_n 0, 1) := by decide +kernel
theorem dX0_add_30 : decode cX0_add 30 = .ok (.dup, 1) := by decide +kernel
theorem dX0_add_31 : decode cX0_add 31 = .ok (.getfield 43, 3) := by decide +kernel
theorem dX0_add_34 : decode cX0_add 34 = .ok (.iconst 1, 1) := by decide +kernel
theorem dX0_add_35 : decode cX0_add 35 = .ok (.iadd, 1) := by decide +kernel
theorem dX0_add_36 : decode cX0_add 36 = .ok (.putfield 43, 3) := by decide +kernel
theorem dX0_add_39 : decode cX0_add 39 = .ok (.return_, 1) := by decide +kernel
theorem dX0_writingAt_0 : decode cX0_writingAt 0 = .ok (.iload_n 1, 1) := by decide +kernel
theorem dX0_writingAt_1 : decode cX0_writingAt 1 = .ok (.ifCond .lt 8, 3) := by decide +kernel
theorem dX0_writingAt_4 : decode cX0_writingAt 4 = .ok (.iload_n 1, 1) := by decide +kernel
theorem dX0_writingAt_5 : decode cX0_writingAt 5 = .ok (.iconst 5, 1) := by decide +kernel
theorem dX0_writingAt_6 : decode cX0_writingAt 6 = .ok (.if_icmp .lt 5, 3) := by decide +kernel
theorem dX0_writingAt_9 : decode cX0_writingAt 9 = .ok (.aconst_null, 1) := by decide +kernel
theorem dX0_writingAt_10 : decode cX0_writingAt 10 = .ok (.areturn, 1) := by decide +kernel
theorem dX0_writingAt_11 : decode cX0_writingAt 11 = .ok (.iconst 2, 1) := by decide +kernel
theorem dX0_writingAt_12 : decode cX0_writingAt 12 = .ok (.iload_n 1, 1) := by decide +kernel
theorem dX0_writingAt_13 : decode cX0_writingAt 13 = .ok (.imul, 1) := by decide +kernel
theorem dX0_writingAt_14 : decode cX0_writingAt 14 = .ok (.iload_n 2, 1) := by decide +kernel
theorem dX0_writingAt_15 : decode cX0_writingAt 15 = .ok (.ifCond .eq 7, 3) := by decide +kernel
theorem dX0_writingAt_18 : decode cX0_writingAt 18 = .ok (.iconst 1, 1) := by decide +kernel
theorem dX0_writingAt_19 : decode cX0_writingAt 19 = .ok (.goto 4, 3) := by decide +kernel
theorem dX0_writingAt_22 : decode cX0_writingAt 22 = .ok (.iconst 0, 1) := by decide +kernel
theorem dX0_writingAt_23 : decode cX0_writingAt 23 = .ok (.iadd, 1) := by decide +kernel
theorem dX0_writingAt_24 : decode cX0_writingAt 24 = .ok (.istore_n 3, 1) := by decide +kernel
theorem dX0_writingAt_25 : decode cX0_writingAt 25 = .ok (.iload_n 3, 1) := by decide +kernel
theorem dX0_writingAt_26 : decode cX0_writingAt 26 = .ok (.aload_n 0, 1) := by decide +kernel
theorem dX0_writingAt_27 : decode cX0_writingAt 27 = .ok (.getfield 17, 3) := by decide +kernel
theorem dX0_writingAt_30 : decode cX0_writingAt 30 = .ok (.arraylength, 1) := by decide +kernel
theorem dX0_writingAt_31 : decode cX0_writingAt 31 = .ok (.if_icmp .ge 12, 3) := by decide +kernel
theorem dX0_writingAt_34 : decode cX0_writingAt 34 = .ok (.aload_n 0, 1) := by decide +kernel
theorem dX0_writingAt_35 : decode cX0_writingAt 35 = .ok (.getfield 17, 3) := by decide +kernel
theorem dX0_writingAt_38 : decode cX0_writingAt 38 = .ok (.iload_n 3, 1) := by decide +kernel
theorem dX0_writingAt_39 : decode cX0_writingAt 39 = .ok (.aaload, 1) := by decide +kernel
theorem dX0_writingAt_40 : decode cX0_writingAt 40 = .ok (.goto 4, 3) := by decide +kernel
theorem dX0_writingAt_43 : decode cX0_writingAt 43 = .ok (.aconst_null, 1) := by decide +kernel
theorem dX0_writingAt_44 : decode cX0_writingAt 44 = .ok (.areturn, 1) := by decide +kernel
theorem dX1_init_0 : decode cX1_init 0 = .ok (.aload_n 0, 1) := by decide +kernel
theorem dX1_init_1 : decode cX1_init 1 = .ok (.invokespecial 3, 3) := by decide +kernel
theorem dX1_init_4 : decode cX1_init 4 = .ok (.aload_n 0, 1) := by decide +kernel
theorem dX1_init_5 : decode cX1_init 5 = .ok (.iconst 4, 1) := by decide +kernel
theorem dX1_init_6 : decode cX1_init 6 = .ok (.newarray .int, 2) := by decide +kernel
theorem dX1_init_8 : decode cX1_init 8 = .ok (.putfield 9, 3) := by decide +kernel
theorem dX1_init_11 : decode cX1_init 11 = .ok (.iconst 0, 1) := by decide +kernel
theorem dX1_init_12 : decode cX1_init 12 = .ok (.istore_n 1, 1) := by decide +kernel
theorem dX1_init_13 : decode cX1_init 13 = .ok (.iload_n 1, 1) := by decide +kernel
theorem dX1_init_14 : decode cX1_init 14 = .ok (.aload_n 0, 1) := by decide +kernel
theorem dX1_init_15 : decode cX1_init 15 = .ok (.getfield 9, 3) := by decide +kernel
theorem dX1_init_18 : decode cX1_init 18 = .ok (.arraylength, 1) := by decide +kernel
theorem dX1_init_19 : decode cX1_init 19 = .ok (.if_icmp .ge 16, 3) := by decide +kernel
theorem dX1_init_22 : decode cX1_init 22 = .ok (.aload_n 0, 1) := by decide +kernel
theorem dX1_init_23 : decode cX1_init 23 = .ok (.getfield 9, 3) := by decide +kernel
theorem dX1_init_26 : decode cX1_init 26 = .ok (.iload_n 1, 1) := by decide +kernel
theorem dX1_init_27 : decode cX1_init 27 = .ok (.iconst (-1), 1) := by decide +kernel
theorem dX1_init_28 : decode cX1_init 28 = .ok (.iastore, 1) := by decide +kernel
theorem dX1_init_29 : decode cX1_init 29 = .ok (.iinc 1 1, 3) := by decide +kernel
theorem dX1_init_32 : decode cX1_init 32 = .ok (.goto (-19), 3) := by decide +kernel
theorem dX1_init_35 : decode cX1_init 35 = .ok (.return_, 1) := by decide +kernel
theorem dX1_knowsOn_0 : decode cX1_knowsOn 0 = .ok (.iload_n 1, 1) := by decide +kernel
theorem dX1_knowsOn_1 : decode cX1_knowsOn 1 = .ok (.ifCond .lt 36, 3) := by decide +kernel
theorem dX1_knowsOn_4 : decode cX1_knowsOn 4 = .ok (.iload_n 1, 1) := by decide +kernel
theorem dX1_knowsOn_5 : decode cX1_knowsOn 5 = .ok (.aload_n 0, 1) := by decide +kernel
theorem dX1_knowsOn_6 : decode cX1_knowsOn 6 = .ok (.getfield 9, 3) := by decide +kernel
theorem dX1_knowsOn_9 : decode cX1_knowsOn 9 = .ok (.arraylength, 1) := by decide +kernel
theorem dX1_knowsOn_10 : decode cX1_knowsOn 10 = .ok (.if_icmp .ge 27, 3) := by decide +kernel
theorem dX1_knowsOn_13 : decode cX1_knowsOn 13 = .ok (.aload_n 0, 1) := by decide +kernel
theorem dX1_knowsOn_14 : decode cX1_knowsOn 14 = .ok (.getfield 9, 3) := by decide +kernel
theorem dX1_knowsOn_17 : decode cX1_knowsOn 17 = .ok (.iload_n 1, 1) := by decide +kernel
theorem dX1_knowsOn_18 : decode cX1_knowsOn 18 = .ok (.iaload, 1) := by decide +kernel
theorem dX1_knowsOn_19 : decode cX1_knowsOn 19 = .ok (.iconst (-1), 1) := by decide +kernel
theorem dX1_knowsOn_20 : decode cX1_knowsOn 20 = .ok (.if_icmp .eq 17, 3) := by decide +kernel
theorem dX1_knowsOn_23 : decode cX1_knowsOn 23 = .ok (.aload_n 0, 1) := by decide +kernel
theorem dX1_knowsOn_24 : decode cX1_knowsOn 24 = .ok (.getfield 9, 3) := by decide +kernel
theorem dX1_knowsOn_27 : decode cX1_knowsOn 27 = .ok (.iload_n 1, 1) := by decide +kernel
theorem dX1_knowsOn_28 : decode cX1_knowsOn 28 = .ok (.iaload, 1) := by decide +kernel
theorem dX1_knowsOn_29 : decode cX1_knowsOn 29 = .ok (.iload_n 2, 1) := by decide +kernel
theorem dX1_knowsOn_30 : decode cX1_knowsOn 30 = .ok (.if_icmp .gt 7, 3) := by decide +kernel
theorem dX1_knowsOn_33 : decode cX1_knowsOn 33 = .ok (.iconst 1, 1) := by decide +kernel
theorem dX1_knowsOn_34 : decode cX1_knowsOn 34 = .ok (.goto 4, 3) := by decide +kernel
theorem dX1_knowsOn_37 : decode cX1_knowsOn 37 = .ok (.iconst 0, 1) := by decide +kernel
theorem dX1_knowsOn_38 : decode cX1_knowsOn 38 = .ok (.ireturn, 1) := by decide +kernel
theorem dX1_takeUp_0 : decode cX1_takeUp 0 = .ok (.iload_n 1, 1) := by decide +kernel
theorem dX1_takeUp_1 : decode cX1_takeUp 1 = .ok (.ifCond .lt 19, 3) := by decide +kernel
theorem dX1_takeUp_4 : decode cX1_takeUp 4 = .ok (.iload_n 1, 1) := by decide +kernel
theorem dX1_takeUp_5 : decode cX1_takeUp 5 = .ok (.aload_n 0, 1) := by decide +kernel
theorem dX1_takeUp_6 : decode cX1_takeUp 6 = .ok (.getfield 9, 3) := by decide +kernel
theorem dX1_takeUp_9 : decode cX1_takeUp 9 = .ok (.arraylength, 1) := by decide +kernel
theorem dX1_takeUp_10 : decode cX1_takeUp 10 = .ok (.if_icmp .ge 10, 3) := by decide +kernel
theorem dX1_takeUp_13 : decode cX1_takeUp 13 = .ok (.aload_n 0, 1) := by decide +kernel
theorem dX1_takeUp_14 : decode cX1_takeUp 14 = .ok (.getfield 9, 3) := by decide +kernel
theorem dX1_takeUp_17 : decode cX1_takeUp 17 = .ok (.iload_n 1, 1) := by decide +kernel
theorem dX1_takeUp_18 : decode cX1_takeUp 18 = .ok (.iload_n 2, 1) := by decide +kernel
theorem dX1_takeUp_19 : decode cX1_takeUp 19 = .ok (.iastore, 1) := by decide +kernel
theorem dX1_takeUp_20 : decode cX1_takeUp 20 = .ok (.return_, 1) := by decide +kernel
theorem dX1_countKnown_0 : decode cX1_countKnown 0 = .ok (.iconst 0, 1) := by decide +kernel
theorem dX1_countKnown_1 : decode cX1_countKnown 1 = .ok (.istore_n 1, 1) := by decide +kernel
theorem dX1_countKnown_2 : decode cX1_countKnown 2 = .ok (.iconst 0, 1) := by decide +kernel
theorem dX1_countKnown_3 : decode cX1_countKnown 3 = .ok (.istore_n 2, 1) := by decide +kernel
theorem dX1_countKnown_4 : decode cX1_countKnown 4 = .ok (.iload_n 2, 1) := by decide +kernel
theorem dX1_countKnown_5 : decode cX1_countKnown 5 = .ok (.aload_n 0, 1) := by decide +kernel
theorem dX1_countKnown_6 : decode cX1_countKnown 6 = .ok (.getfield 9, 3) := by decide +kernel
theorem dX1_countKnown_9 : decode cX1_countKnown 9 = .ok (.arraylength, 1) := by decide +kernel
theorem dX1_countKnown_10 : decode cX1_countKnown 10 = .ok (.if_icmp .ge 22, 3) := by decide +kernel
theorem dX1_countKnown_13 : decode cX1_countKnown 13 = .ok (.aload_n 0, 1) := by decide +kernel
theorem dX1_countKnown_14 : decode cX1_countKnown 14 = .ok (.getfield 9, 3) := by decide +kernel
theorem dX1_countKnown_17 : decode cX1_countKnown 17 = .ok (.iload_n 2, 1) := by decide +kernel
theorem dX1_countKnown_18 : decode cX1_countKnown 18 = .ok (.iaload, 1) := by decide +kernel
theorem dX1_countKnown_19 : decode cX1_countKnown 19 = .ok (.iconst (-1), 1) := by decide +kernel
theorem dX1_countKnown_20 : decode cX1_countKnown 20 = .ok (.if_icmp .eq 6, 3) := by decide +kernel
theorem dX1_countKnown_23 : decode cX1_countKnown 23 = .ok (.iinc 1 1, 3) := by decide +kernel
theorem dX1_countKnown_26 : decode cX1_countKnown 26 = .ok (.iinc 2 1, 3) := by decide +kernel
theorem dX1_countKnown_29 : decode cX1_countKnown 29 = .ok (.goto (-25), 3) := by decide +kernel
theorem dX1_countKnown_32 : decode cX1_countKnown 32 = .ok (.iload_n 1, 1) := by decide +kernel
theorem dX1_countKnown_33 : decode cX1_countKnown 33 = .ok (.ireturn, 1) := by decide +kernel
theorem dX2_init_0 : decode cX2_init 0 = .ok (.aload_n 0, 1) := by decide +kernel
theorem dX2_init_1 : decode cX2_init 1 = .ok (.invokespecial 3, 3) := by decide +kernel
theorem dX2_init_4 : decode cX2_init 4 = .ok (.return_, 1) := by decide +kernel
theorem dX2_age_0 : decode cX2_age 0 = .ok (.aload_n 0, 1) := by decide +kernel
theorem dX2_age_1 : decode cX2_age 1 = .ok (.iconst 0, 1) := by decide +kernel
theorem dX2_age_2 : decode cX2_age 2 = .ok (.bipush 100, 2) := by decide +kernel
theorem dX2_age_4 : decode cX2_age 4 = .ok (.aload_n 0, 1) := by decide +kernel
theorem dX2_age_5 : decode cX2_age 5 = .ok (.getfield 9, 3) := by decide +kernel
theorem dX2_age_8 : decode cX2_age 8 = .ok (.iload_n 1, 1) := by decide +kernel
theorem dX2_age_9 : decode cX2_age 9 = .ok (.aload_n 0, 1) := by decide +kernel
theorem dX2_age_10 : decode cX2_age 10 = .ok (.getfield 15, 3) := by decide +kernel
theorem dX2_age_13 : decode cX2_age 13 = .ok (.imul, 1) := by decide +kernel
theorem dX2_age_14 : decode cX2_age 14 = .ok (.iadd, 1) := by decide +kernel
theorem dX2_age_15 : decode cX2_age 15 = .ok (.invokestatic 18, 3) := by decide +kernel
theorem dX2_age_18 : decode cX2_age 18 = .ok (.invokestatic 24, 3) := by decide +kernel
theorem dX2_age_21 : decode cX2_age 21 = .ok (.putfield 9, 3) := by decide +kernel
theorem dX2_age_24 : decode cX2_age 24 = .ok (.return_, 1) := by decide +kernel
theorem dX3_init_0 : decode cX3_init 0 = .ok (.aload_n 0, 1) := by decide +kernel
theorem dX3_init_1 : decode cX3_init 1 = .ok (.invokespecial 1, 3) := by decide +kernel
theorem dX3_init_4 : decode cX3_init 4 = .ok (.aload_n 0, 1) := by decide +kernel
theorem dX3_init_5 : decode cX3_init 5 = .ok (.fload_n 1, 1) := by decide +kernel
theorem dX3_init_6 : decode cX3_init 6 = .ok (.putfield 7, 3) := by decide +kernel
theorem dX3_init_9 : decode cX3_init 9 = .ok (.aload_n 0, 1) := by decide +kernel
theorem dX3_init_10 : decode cX3_init 10 = .ok (.fload_n 2, 1) := by decide +kernel
theorem dX3_init_11 : decode cX3_init 11 = .ok (.putfield 13, 3) := by decide +kernel
theorem dX3_init_14 : decode cX3_init 14 = .ok (.aload_n 0, 1) := by decide +kernel
theorem dX3_init_15 : decode cX3_init 15 = .ok (.fload_n 3, 1) := by decide +kernel
theorem dX3_init_16 : decode cX3_init 16 = .ok (.putfield 16, 3) := by decide +kernel
theorem dX3_init_19 : decode cX3_init 19 = .ok (.return_, 1) := by decide +kernel
set_option maxRecDepth 20000 in
theorem ggX3_between_X5_at : GoodIn wsX3_between wsX5_at := goodIn_r _ [10, 11, 12, 45, 46] (by decide +kernel) (by decide +kernel)
set_option maxRecDepth 20000 in
theorem gX3_between_X5_at : GoodIn wsX3_between (wsV RX3 19 RX5 yX5_at wsX5_at) := goodIn_app (goodIn_of _ (by decide +kernel)) ggX3_between_X5_at
set_option maxRecDepth 20000 in
theorem ggX3_between_X4_nearnessTo : GoodIn wsX3_between wsX4_nearnessTo := goodIn_r _ [17, 18, 19, 20, 21, 22, 23, 24, 25, 26, 27, 50, 51, 52, 53] (by decide +kernel) (by decide +kernel)
set_option maxRecDepth 20000 in
theorem gX3_between_X4_nearnessTo : GoodIn wsX3_between (wsV RX3 30 RX4 yX4_nearnessTo wsX4_nearnessTo) := goodIn_app (goodIn_of _ (by decide +kernel)) ggX3_between_X4_nearnessTo
set_option maxRecDepth 20000 in
theorem ggX3_between_X4_slopeTo : GoodIn wsX3_between wsX4_slopeTo := goodIn_r _ [31, 24, 18, 25, 23, 26, 32, 33, 34, 16, 35, 50, 51, 52, 53] (by decide +kernel) (by decide +kernel)
set_option maxRecDepth 20000 in
theorem gX3_between_X4_slopeTo : GoodIn wsX3_between (wsV RX3 36 RX4 yX4_slopeTo wsX4_slopeTo) := goodIn_app (goodIn_of _ (by decide +kernel)) ggX3_between_X4_slopeTo
set_option maxRecDepth 20000 in
theorem ggX3_between_X3_init : GoodIn wsX3_between wsX3_init := goodIn_r _ [38, 39, 40, 41, 42, 43, 44, 47, 48, 49] (by decide +kernel) (by decide +kernel)
set_option maxRecDepth 20000 in
theorem gX3_between_X3_init : GoodIn wsX3_between (wsX3_init) := ggX3_between_X3_init
theorem dX3_between_0 : decode cX3_between 0 = .ok (.aload_n 0, 1) := by decide +kernel
theorem dX3_between_1 : decode cX3_between 1 = .ok (.iload_n 2, 1) := by decide +kernel
theorem dX3_between_2 : decode cX3_between 2 = .ok (.invokevirtual 19, 3) := by decide +kernel
theorem dX3_between_5 : decode cX3_between 5 = .ok (.astore 4, 2) := by decide +kernel
theorem dX3_between_7 : decode cX3_between 7 = .ok (.aload_n 1, 1) := by decide +kernel
theorem dX3_between_8 : decode cX3_between 8 = .ok (.iload_n 2, 1) := by decide +kernel
theorem dX3_between_9 : decode cX3_between 9 = .ok (.invokevirtual 19, 3) := by decide +kernel
theorem dX3_between_12 : decode cX3_between 12 = .ok (.astore 5, 2) := by decide +kernel
theorem dX3_between_14 : decode cX3_between 14 = .ok (.aload 4, 2) := by decide +kernel
theorem dX3_between_16 : decode cX3_between 16 = .ok (.ifnull 8, 3) := by decide +kernel
theorem dX3_between_19 : decode cX3_between 19 = .ok (.aload 5, 2) := by decide +kernel
theorem dX3_between_21 : decode cX3_between 21 = .ok (.ifnonnull 5, 3) := by decide +kernel
theorem dX3_between_24 : decode cX3_between 24 = .ok (.aconst_null, 1) := by decide +kernel
theorem dX3_between_25 : decode cX3_between 25 = .ok (.areturn, 1) := by decide +kernel
theorem dX3_between_26 : decode cX3_between 26 = .ok (.aload_n 0, 1) := by decide +kernel
theorem dX3_between_27 : decode cX3_between 27 = .ok (.getfield 25, 3) := by decide +kernel
theorem dX3_between_30 : decode cX3_between 30 = .ok (.aload_n 1, 1) := by decide +kernel
theorem dX3_between_31 : decode cX3_between 31 = .ok (.getfield 25, 3) := by decide +kernel
theorem dX3_between_34 : decode cX3_between 34 = .ok (.if_icmp .ne 8, 3) := by decide +kernel
theorem dX3_between_37 : decode cX3_between 37 = .ok (.ldc 29, 2) := by decide +kernel
theorem dX3_between_39 : decode cX3_between 39 = .ok (.goto 4, 3) := by decide +kernel
theorem dX3_between_42 : decode cX3_between 42 = .ok (.fconst 0, 1) := by decide +kernel
theorem dX3_between_43 : decode cX3_between 43 = .ok (.fstore 6, 2) := by decide +kernel
theorem dX3_between_45 : decode cX3_between 45 = .ok (.new 8, 3) := by decide +kernel
theorem dX3_between_48 : decode cX3_between 48 = .ok (.dup, 1) := by decide +kernel
theorem dX3_between_49 : decode cX3_between 49 = .ok (.aload 4, 2) := by decide +kernel
theorem dX3_between_51 : decode cX3_between 51 = .ok (.aload 5, 2) := by decide +kernel
theorem dX3_between_53 : decode cX3_between 53 = .ok (.iload_n 3, 1) := by decide +kernel
theorem dX3_between_54 : decode cX3_between 54 = .ok (.invokevirtual 30, 3) := by decide +kernel
theorem dX3_between_57 : decode cX3_between 57 = .ok (.aload 4, 2) := by decide +kernel
theorem dX3_between_59 : decode cX3_between 59 = .ok (.aload 5, 2) := by decide +kernel
theorem dX3_between_61 : decode cX3_between 61 = .ok (.invokevirtual 36, 3) := by decide +kernel
theorem dX3_between_64 : decode cX3_between 64 = .ok (.fload 6, 2) := by decide +kernel
theorem dX3_between_66 : decode cX3_between 66 = .ok (.invokespecial 40, 3) := by decide +kernel
theorem dX3_between_69 : decode cX3_between 69 = .ok (.areturn, 1) := by decide +kernel
theorem dX3_markBy_0 : decode cX3_markBy 0 = .ok (.fconst 0, 1) := by decide +kernel
theorem dX3_markBy_1 : decode cX3_markBy 1 = .ok (.fstore_n 2, 1) := by decide +kernel
theorem dX3_markBy_2 : decode cX3_markBy 2 = .ok (.fload_n 2, 1) := by decide +kernel
theorem dX3_markBy_3 : decode cX3_markBy 3 = .ok (.aload_n 1, 1) := by decide +kernel
theorem dX3_markBy_4 : decode cX3_markBy 4 = .ok (.getfield 43, 3) := by decide +kernel
theorem dX3_markBy_7 : decode cX3_markBy 7 = .ok (.i2f, 1) := by decide +kernel
theorem dX3_markBy_8 : decode cX3_markBy 8 = .ok (.aload_n 0, 1) := by decide +kernel
theorem dX3_markBy_9 : decode cX3_markBy 9 = .ok (.getfield 7, 3) := by decide +kernel
theorem dX3_markBy_12 : decode cX3_markBy 12 = .ok (.fmul, 1) := by decide +kernel
theorem dX3_markBy_13 : decode cX3_markBy 13 = .ok (.fadd, 1) := by decide +kernel
theorem dX3_markBy_14 : decode cX3_markBy 14 = .ok (.fstore_n 2, 1) := by decide +kernel
theorem dX3_markBy_15 : decode cX3_markBy 15 = .ok (.fload_n 2, 1) := by decide +kernel
theorem dX3_markBy_16 : decode cX3_markBy 16 = .ok (.aload_n 1, 1) := by decide +kernel
theorem dX3_markBy_17 : decode cX3_markBy 17 = .ok (.getfield 47, 3) := by decide +kernel
theorem dX3_markBy_20 : decode cX3_markBy 20 = .ok (.i2f, 1) := by decide +kernel
theorem dX3_markBy_21 : decode cX3_markBy 21 = .ok (.aload_n 0, 1) := by decide +kernel
theorem dX3_markBy_22 : decode cX3_markBy 22 = .ok (.getfield 13, 3) := by decide +kernel
theorem dX3_markBy_25 : decode cX3_markBy 25 = .ok (.fmul, 1) := by decide +kernel
theorem dX3_markBy_26 : decode cX3_markBy 26 = .ok (.fadd, 1) := by decide +kernel
theorem dX3_markBy_27 : decode cX3_markBy 27 = .ok (.fstore_n 2, 1) := by decide +kernel
theorem dX3_markBy_28 : decode cX3_markBy 28 = .ok (.fload_n 2, 1) := by decide +kernel
theorem dX3_markBy_29 : decode cX3_markBy 29 = .ok (.aload_n 1, 1) := by decide +kernel
theorem dX3_markBy_30 : decode cX3_markBy 30 = .ok (.getfield 49, 3) := by decide +kernel
theorem dX3_markBy_33 : decode cX3_markBy 33 = .ok (.i2f, 1) := by decide +kernel
theorem dX3_markBy_34 : decode cX3_markBy 34 = .ok (.aload_n 0, 1) := by decide +kernel
theorem dX3_markBy_35 : decode cX3_markBy 35 = .ok (.getfield 16, 3) := by decide +kernel
theorem dX3_markBy_38 : decode cX3_markBy 38 = .ok (.fmul, 1) := by decide +kernel
theorem dX3_markBy_39 : decode cX3_markBy 39 = .ok (.fadd, 1) := by decide +kernel
theorem dX3_markBy_40 : decode cX3_markBy 40 = .ok (.fstore_n 2, 1) := by decide +kernel
theorem dX3_markBy_41 : decode cX3_markBy 41 = .ok (.fload_n 2, 1) := by decide +kernel
theorem dX3_markBy_42 : decode cX3_markBy 42 = .ok (.ldc 51, 2) := by decide +kernel
theorem dX3_markBy_44 : decode cX3_markBy 44 = .ok (.fdiv, 1) := by decide +kernel
theorem dX3_markBy_45 : decode cX3_markBy 45 = .ok (.freturn, 1) := by decide +kernel
theorem dX4_init_0 : decode cX4_init 0 = .ok (.aload_n 0, 1) := by decide +kernel
theorem dX4_init_1 : decode cX4_init 1 = .ok (.invokespecial 1, 3) := by decide +kernel
theorem dX4_init_4 : decode cX4_init 4 = .ok (.aload_n 0, 1) := by decide +kernel
theorem dX4_init_5 : decode cX4_init 5 = .ok (.iload_n 1, 1) := by decide +kernel
theorem dX4_init_6 : decode cX4_init 6 = .ok (.putfield 7, 3) := by decide +kernel
theorem dX4_init_9 : decode cX4_init 9 = .ok (.aload_n 0, 1) := by decide +kernel
theorem dX4_init_10 : decode cX4_init 10 = .ok (.iload_n 2, 1) := by decide +kernel
theorem dX4_init_11 : decode cX4_init 11 = .ok (.putfield 13, 3) := by decide +kernel
theorem dX4_init_14 : decode cX4_init 14 = .ok (.aload_n 0, 1) := by decide +kernel
theorem dX4_init_15 : decode cX4_init 15 = .ok (.iload_n 3, 1) := by decide +kernel
theorem dX4_init_16 : decode cX4_init 16 = .ok (.putfield 16, 3) := by decide +kernel
theorem dX4_init_19 : decode cX4_init 19 = .ok (.aload_n 0, 1) := by decide +kernel
theorem dX4_init_20 : decode cX4_init 20 = .ok (.iload 4, 2) := by decide +kernel
theorem dX4_init_22 : decode cX4_init 22 = .ok (.putfield 19, 3) := by decide +kernel
theorem dX4_init_25 : decode cX4_init 25 = .ok (.return_, 1) := by decide +kernel
theorem dX4_nearnessTo_0 : decode cX4_nearnessTo 0 = .ok (.aload_n 0, 1) := by decide +kernel
theorem dX4_nearnessTo_1 : decode cX4_nearnessTo 1 = .ok (.getfield 7, 3) := by decide +kernel
theorem dX4_nearnessTo_4 : decode cX4_nearnessTo 4 = .ok (.aload_n 1, 1) := by decide +kernel
theorem dX4_nearnessTo_5 : decode cX4_nearnessTo 5 = .ok (.getfield 7, 3) := by decide +kernel
theorem dX4_nearnessTo_8 : decode cX4_nearnessTo 8 = .ok (.isub, 1) := by decide +kernel
theorem dX4_nearnessTo_9 : decode cX4_nearnessTo 9 = .ok (.invokestatic 22, 3) := by decide +kernel
theorem dX4_nearnessTo_12 : decode cX4_nearnessTo 12 = .ok (.aload_n 0, 1) := by decide +kernel
theorem dX4_nearnessTo_13 : decode cX4_nearnessTo 13 = .ok (.getfield 13, 3) := by decide +kernel
theorem dX4_nearnessTo_16 : decode cX4_nearnessTo 16 = .ok (.aload_n 1, 1) := by decide +kernel
theorem dX4_nearnessTo_17 : decode cX4_nearnessTo 17 = .ok (.getfield 13, 3) := by decide +kernel
theorem dX4_nearnessTo_20 : decode cX4_nearnessTo 20 = .ok (.isub, 1) := by decide +kernel
theorem dX4_nearnessTo_21 : decode cX4_nearnessTo 21 = .ok (.invokestatic 22, 3) := by decide +kernel
theorem dX4_nearnessTo_24 : decode cX4_nearnessTo 24 = .ok (.iadd, 1) := by decide +kernel
theorem dX4_nearnessTo_25 : decode cX4_nearnessTo 25 = .ok (.aload_n 0, 1) := by decide +kernel
theorem dX4_nearnessTo_26 : decode cX4_nearnessTo 26 = .ok (.getfield 16, 3) := by decide +kernel
theorem dX4_nearnessTo_29 : decode cX4_nearnessTo 29 = .ok (.aload_n 1, 1) := by decide +kernel
theorem dX4_nearnessTo_30 : decode cX4_nearnessTo 30 = .ok (.getfield 16, 3) := by decide +kernel
theorem dX4_nearnessTo_33 : decode cX4_nearnessTo 33 = .ok (.isub, 1) := by decide +kernel
theorem dX4_nearnessTo_34 : decode cX4_nearnessTo 34 = .ok (.invokestatic 22, 3) := by decide +kernel
theorem dX4_nearnessTo_37 : decode cX4_nearnessTo 37 = .ok (.iadd, 1) := by decide +kernel
theorem dX4_nearnessTo_38 : decode cX4_nearnessTo 38 = .ok (.aload_n 0, 1) := by decide +kernel
theorem dX4_nearnessTo_39 : decode cX4_nearnessTo 39 = .ok (.getfield 19, 3) := by decide +kernel
theorem dX4_nearnessTo_42 : decode cX4_nearnessTo 42 = .ok (.aload_n 1, 1) := by decide +kernel
theorem dX4_nearnessTo_43 : decode cX4_nearnessTo 43 = .ok (.getfield 19, 3) := by decide +kernel
theorem dX4_nearnessTo_46 : decode cX4_nearnessTo 46 = .ok (.isub, 1) := by decide +kernel
theorem dX4_nearnessTo_47 : decode cX4_nearnessTo 47 = .ok (.invokestatic 22, 3) := by decide +kernel
theorem dX4_nearnessTo_50 : decode cX4_nearnessTo 50 = .ok (.iadd, 1) := by decide +kernel
theorem dX4_nearnessTo_51 : decode cX4_nearnessTo 51 = .ok (.istore_n 3, 1) := by decide +kernel
theorem dX4_nearnessTo_52 : decode cX4_nearnessTo 52 = .ok (.ldc 28, 2) := by decide +kernel
theorem dX4_nearnessTo_54 : decode cX4_nearnessTo 54 = .ok (.iload_n 3, 1) := by decide +kernel
theorem dX4_nearnessTo_55 : decode cX4_nearnessTo 55 = .ok (.i2f, 1) := by decide +kernel
theorem dX4_nearnessTo_56 : decode cX4_nearnessTo 56 = .ok (.ldc 28, 2) := by decide +kernel
theorem dX4_nearnessTo_58 : decode cX4_nearnessTo 58 = .ok (.fdiv, 1) := by decide +kernel
theorem dX4_nearnessTo_59 : decode cX4_nearnessTo 59 = .ok (.fsub, 1) := by decide +kernel
theorem dX4_nearnessTo_60 : decode cX4_nearnessTo 60 = .ok (.fstore 4, 2) := by decide +kernel
theorem dX4_nearnessTo_62 : decode cX4_nearnessTo 62 = .ok (.fload 4, 2) := by decide +kernel
theorem dX4_nearnessTo_64 : decode cX4_nearnessTo 64 = .ok (.fconst 0, 1) := by decide +kernel
theorem dX4_nearnessTo_65 : decode cX4_nearnessTo 65 = .ok (.fcmp .g, 1) := by decide +kernel
theorem dX4_nearnessTo_66 : decode cX4_nearnessTo 66 = .ok (.ifCond .ge 7, 3) := by decide +kernel
theorem dX4_nearnessTo_69 : decode cX4_nearnessTo 69 = .ok (.fconst 0, 1) := by decide +kernel
theorem dX4_nearnessTo_70 : decode cX4_nearnessTo 70 = .ok (.goto 5, 3) := by decide +kernel
theorem dX4_nearnessTo_73 : decode cX4_nearnessTo 73 = .ok (.fload 4, 2) := by decide +kernel
theorem dX4_nearnessTo_75 : decode cX4_nearnessTo 75 = .ok (.fstore 4, 2) := by decide +kernel
theorem dX4_nearnessTo_77 : decode cX4_nearnessTo 77 = .ok (.fload 4, 2) := by decide +kernel
theorem dX4_nearnessTo_79 : decode cX4_nearnessTo 79 = .ok (.fconst 1, 1) := by decide +kernel
theorem dX4_nearnessTo_80 : decode cX4_nearnessTo 80 = .ok (.iload_n 2, 1) := by decide +kernel
theorem dX4_nearnessTo_81 : decode cX4_nearnessTo 81 = .ok (.i2f, 1) := by decide +kernel
theorem dX4_nearnessTo_82 : decode cX4_nearnessTo 82 = .ok (.ldc 29, 2) := by decide +kernel
theorem dX4_nearnessTo_84 : decode cX4_nearnessTo 84 = .ok (.fdiv, 1) := by decide +kernel
theorem dX4_nearnessTo_85 : decode cX4_nearnessTo 85 = .ok (.fsub, 1) := by decide +kernel
theorem dX4_nearnessTo_86 : decode cX4_nearnessTo 86 = .ok (.fmul, 1) := by decide +kernel
theorem dX4_nearnessTo_87 : decode cX4_nearnessTo 87 = .ok (.freturn, 1) := by decide +kernel
set_option maxRecDepth 20000 in
theorem ggX4_slopeTo_X4_squaredWay : GoodIn wsX4_slopeTo wsX4_squaredWay := goodIn_r _ [10, 1, 2, 3, 4, 11, 12, 13, 14] (by decide +kernel) (by decide +kernel)
set_option maxRecDepth 20000 in
theorem gX4_slopeTo_X4_squaredWay : GoodIn wsX4_slopeTo (wsV RX4 30 RX4 yX4_squaredWay wsX4_squaredWay) := goodIn_app (goodIn_of _ (by decide +kernel)) ggX4_slopeTo_X4_squaredWay
theorem dX4_slopeTo_0 : decode cX4_slopeTo 0 = .ok (.aload_n 0, 1) := by decide +kernel
theorem dX4_slopeTo_1 : decode cX4_slopeTo 1 = .ok (.invokevirtual 30, 3) := by decide +kernel
theorem dX4_slopeTo_4 : decode cX4_slopeTo 4 = .ok (.i2f, 1) := by decide +kernel
theorem dX4_slopeTo_5 : decode cX4_slopeTo 5 = .ok (.fstore_n 2, 1) := by decide +kernel
theorem dX4_slopeTo_6 : decode cX4_slopeTo 6 = .ok (.aload_n 1, 1) := by decide +kernel
theorem dX4_slopeTo_7 : decode cX4_slopeTo 7 = .ok (.invokevirtual 30, 3) := by decide +kernel
theorem dX4_slopeTo_10 : decode cX4_slopeTo 10 = .ok (.i2f, 1) := by decide +kernel
theorem dX4_slopeTo_11 : decode cX4_slopeTo 11 = .ok (.fstore_n 3, 1) := by decide +kernel
theorem dX4_slopeTo_12 : decode cX4_slopeTo 12 = .ok (.fload_n 2, 1) := by decide +kernel
theorem dX4_slopeTo_13 : decode cX4_slopeTo 13 = .ok (.fconst 0, 1) := by decide +kernel
theorem dX4_slopeTo_14 : decode cX4_slopeTo 14 = .ok (.fcmp .g, 1) := by decide +kernel
theorem dX4_slopeTo_15 : decode cX4_slopeTo 15 = .ok (.ifCond .le 9, 3) := by decide +kernel
theorem dX4_slopeTo_18 : decode cX4_slopeTo 18 = .ok (.fload_n 3, 1) := by decide +kernel
theorem dX4_slopeTo_19 : decode cX4_slopeTo 19 = .ok (.fconst 0, 1) := by decide +kernel
theorem dX4_slopeTo_20 : decode cX4_slopeTo 20 = .ok (.fcmp .g, 1) := by decide +kernel
theorem dX4_slopeTo_21 : decode cX4_slopeTo 21 = .ok (.ifCond .gt 5, 3) := by decide +kernel
theorem dX4_slopeTo_24 : decode cX4_slopeTo 24 = .ok (.fconst 0, 1) := by decide +kernel
theorem dX4_slopeTo_25 : decode cX4_slopeTo 25 = .ok (.freturn, 1) := by decide +kernel
theorem dX4_slopeTo_26 : decode cX4_slopeTo 26 = .ok (.aload_n 0, 1) := by decide +kernel
theorem dX4_slopeTo_27 : decode cX4_slopeTo 27 = .ok (.getfield 16, 3) := by decide +kernel
theorem dX4_slopeTo_30 : decode cX4_slopeTo 30 = .ok (.aload_n 0, 1) := by decide +kernel
theorem dX4_slopeTo_31 : decode cX4_slopeTo 31 = .ok (.getfield 7, 3) := by decide +kernel
theorem dX4_slopeTo_34 : decode cX4_slopeTo 34 = .ok (.isub, 1) := by decide +kernel
theorem dX4_slopeTo_35 : decode cX4_slopeTo 35 = .ok (.aload_n 1, 1) := by decide +kernel
theorem dX4_slopeTo_36 : decode cX4_slopeTo 36 = .ok (.getfield 16, 3) := by decide +kernel
theorem dX4_slopeTo_39 : decode cX4_slopeTo 39 = .ok (.aload_n 1, 1) := by decide +kernel
theorem dX4_slopeTo_40 : decode cX4_slopeTo 40 = .ok (.getfield 7, 3) := by decide +kernel
theorem dX4_slopeTo_43 : decode cX4_slopeTo 43 = .ok (.isub, 1) := by decide +kernel
theorem dX4_slopeTo_44 : decode cX4_slopeTo 44 = .ok (.imul, 1) := by decide +kernel
theorem dX4_slopeTo_45 : decode cX4_slopeTo 45 = .ok (.aload_n 0, 1) := by decide +kernel
theorem dX4_slopeTo_46 : decode cX4_slopeTo 46 = .ok (.getfield 19, 3) := by decide +kernel
theorem dX4_slopeTo_49 : decode cX4_slopeTo 49 = .ok (.aload_n 0, 1) := by decide +kernel
theorem dX4_slopeTo_50 : decode cX4_slopeTo 50 = .ok (.getfield 13, 3) := by decide +kernel
theorem dX4_slopeTo_53 : decode cX4_slopeTo 53 = .ok (.isub, 1) := by decide +kernel
theorem dX4_slopeTo_54 : decode cX4_slopeTo 54 = .ok (.aload_n 1, 1) := by decide +kernel
theorem dX4_slopeTo_55 : decode cX4_slopeTo 55 = .ok (.getfield 19, 3) := by decide +kernel
theorem dX4_slopeTo_58 : decode cX4_slopeTo 58 = .ok (.aload_n 1, 1) := by decide +kernel
theorem dX4_slopeTo_59 : decode cX4_slopeTo 59 = .ok (.getfield 13, 3) := by decide +kernel
theorem dX4_slopeTo_62 : decode cX4_slopeTo 62 = .ok (.isub, 1) := by decide +kernel
theorem dX4_slopeTo_63 : decode cX4_slopeTo 63 = .ok (.imul, 1) := by decide +kernel
theorem dX4_slopeTo_64 : decode cX4_slopeTo 64 = .ok (.iadd, 1) := by decide +kernel
theorem dX4_slopeTo_65 : decode cX4_slopeTo 65 = .ok (.i2f, 1) := by decide +kernel
theorem dX4_slopeTo_66 : decode cX4_slopeTo 66 = .ok (.fstore 4, 2) := by decide +kernel
theorem dX4_slopeTo_68 : decode cX4_slopeTo 68 = .ok (.fload 4, 2) := by decide +kernel
theorem dX4_slopeTo_70 : decode cX4_slopeTo 70 = .ok (.fconst 0, 1) := by decide +kernel
theorem dX4_slopeTo_71 : decode cX4_slopeTo 71 = .ok (.fcmp .g, 1) := by decide +kernel
theorem dX4_slopeTo_72 : decode cX4_slopeTo 72 = .ok (.ifCond .ge 9, 3) := by decide +kernel
theorem dX4_slopeTo_75 : decode cX4_slopeTo 75 = .ok (.fload 4, 2) := by decide +kernel
theorem dX4_slopeTo_77 : decode cX4_slopeTo 77 = .ok (.fneg, 1) := by decide +kernel
theorem dX4_slopeTo_78 : decode cX4_slopeTo 78 = .ok (.goto 5, 3) := by decide +kernel
theorem dX4_slopeTo_81 : decode cX4_slopeTo 81 = .ok (.fload 4, 2) := by decide +kernel
theorem dX4_slopeTo_83 : decode cX4_slopeTo 83 = .ok (.fstore 5, 2) := by decide +kernel
theorem dX4_slopeTo_85 : decode cX4_slopeTo 85 = .ok (.fload 4, 2) := by decide +kernel
theorem dX4_slopeTo_87 : decode cX4_slopeTo 87 = .ok (.fload 5, 2) := by decide +kernel
theorem dX4_slopeTo_89 : decode cX4_slopeTo 89 = .ok (.fmul, 1) := by decide +kernel
theorem dX4_slopeTo_90 : decode cX4_slopeTo 90 = .ok (.fload_n 2, 1) := by decide +kernel
theorem dX4_slopeTo_91 : decode cX4_slopeTo 91 = .ok (.fdiv, 1) := by decide +kernel
theorem dX4_slopeTo_92 : decode cX4_slopeTo 92 = .ok (.fload_n 3, 1) := by decide +kernel
theorem dX4_slopeTo_93 : decode cX4_slopeTo 93 = .ok (.fdiv, 1) := by decide +kernel
theorem dX4_slopeTo_94 : decode cX4_slopeTo 94 = .ok (.ldc 28, 2) := by decide +kernel
theorem dX4_slopeTo_96 : decode cX4_slopeTo 96 = .ok (.fmul, 1) := by decide +kernel
theorem dX4_slopeTo_97 : decode cX4_slopeTo 97 = .ok (.fstore 6, 2) := by decide +kernel
theorem dX4_slopeTo_99 : decode cX4_slopeTo 99 = .ok (.fload 6, 2) := by decide +kernel
theorem dX4_slopeTo_101 : decode cX4_slopeTo 101 = .ok (.fconst 0, 1) := by decide +kernel
theorem dX4_slopeTo_102 : decode cX4_slopeTo 102 = .ok (.fcmp .g, 1) := by decide +kernel
theorem dX4_slopeTo_103 : decode cX4_slopeTo 103 = .ok (.ifCond .ge 7, 3) := by decide +kernel
theorem dX4_slopeTo_106 : decode cX4_slopeTo 106 = .ok (.fconst 0, 1) := by decide +kernel
theorem dX4_slopeTo_107 : decode cX4_slopeTo 107 = .ok (.goto 5, 3) := by decide +kernel
theorem dX4_slopeTo_110 : decode cX4_slopeTo 110 = .ok (.fload 6, 2) := by decide +kernel
theorem dX4_slopeTo_112 : decode cX4_slopeTo 112 = .ok (.freturn, 1) := by decide +kernel
theorem dX4_squaredWay_0 : decode cX4_squaredWay 0 = .ok (.aload_n 0, 1) := by decide +kernel
theorem dX4_squaredWay_1 : decode cX4_squaredWay 1 = .ok (.getfield 16, 3) := by decide +kernel
theorem dX4_squaredWay_4 : decode cX4_squaredWay 4 = .ok (.aload_n 0, 1) := by decide +kernel
theorem dX4_squaredWay_5 : decode cX4_squaredWay 5 = .ok (.getfield 7, 3) := by decide +kernel
theorem dX4_squaredWay_8 : decode cX4_squaredWay 8 = .ok (.isub, 1) := by decide +kernel
theorem dX4_squaredWay_9 : decode cX4_squaredWay 9 = .ok (.aload_n 0, 1) := by decide +kernel
theorem dX4_squaredWay_10 : decode cX4_squaredWay 10 = .ok (.getfield 16, 3) := by decide +kernel
theorem dX4_squaredWay_13 : decode cX4_squaredWay 13 = .ok (.aload_n 0, 1) := by decide +kernel
theorem dX4_squaredWay_14 : decode cX4_squaredWay 14 = .ok (.getfield 7, 3) := by decide +kernel
theorem dX4_squaredWay_17 : decode cX4_squaredWay 17 = .ok (.isub, 1) := by decide +kernel
theorem dX4_squaredWay_18 : decode cX4_squaredWay 18 = .ok (.imul, 1) := by decide +kernel
theorem dX4_squaredWay_19 : decode cX4_squaredWay 19 = .ok (.aload_n 0, 1) := by decide +kernel
theorem dX4_squaredWay_20 : decode cX4_squaredWay 20 = .ok (.getfield 19, 3) := by decide +kernel
theorem dX4_squaredWay_23 : decode cX4_squaredWay 23 = .ok (.aload_n 0, 1) := by decide +kernel
theorem dX4_squaredWay_24 : decode cX4_squaredWay 24 = .ok (.getfield 13, 3) := by decide +kernel
theorem dX4_squaredWay_27 : decode cX4_squaredWay 27 = .ok (.isub, 1) := by decide +kernel
theorem dX4_squaredWay_28 : decode cX4_squaredWay 28 = .ok (.aload_n 0, 1) := by decide +kernel
theorem dX4_squaredWay_29 : decode cX4_squaredWay 29 = .ok (.getfield 19, 3) := by decide +kernel
theorem dX4_squaredWay_32 : decode cX4_squaredWay 32 = .ok (.aload_n 0, 1) := by decide +kernel
theorem dX4_squaredWay_33 : decode cX4_squaredWay 33 = .ok (.getfield 13, 3) := by decide +kernel
theorem dX4_squaredWay_36 : decode cX4_squaredWay 36 = .ok (.isub, 1) := by decide +kernel
theorem dX4_squaredWay_37 : decode cX4_squaredWay 37 = .ok (.imul, 1) := by decide +kernel
theorem dX4_squaredWay_38 : decode cX4_squaredWay 38 = .ok (.iadd, 1) := by decide +kernel
theorem dX4_squaredWay_39 : decode cX4_squaredWay 39 = .ok (.ireturn, 1) := by decide +kernel
theorem dX5_init_0 : decode cX5_init 0 = .ok (.aload_n 0, 1) := by decide +kernel
theorem dX5_init_1 : decode cX5_init 1 = .ok (.invokespecial 3, 3) := by decide +kernel
theorem dX5_init_4 : decode cX5_init 4 = .ok (.aload_n 0, 1) := by decide +kernel
theorem dX5_init_5 : decode cX5_init 5 = .ok (.bipush 8, 2) := by decide +kernel
theorem dX5_init_7 : decode cX5_init 7 = .ok (.anewarray 9, 3) := by decide +kernel
theorem dX5_init_10 : decode cX5_init 10 = .ok (.putfield 11, 3) := by decide +kernel
theorem dX5_init_13 : decode cX5_init 13 = .ok (.return_, 1) := by decide +kernel
theorem dX5_add_0 : decode cX5_add 0 = .ok (.aload_n 0, 1) := by decide +kernel
theorem dX5_add_1 : decode cX5_add 1 = .ok (.getfield 17, 3) := by decide +kernel
theorem dX5_add_4 : decode cX5_add 4 = .ok (.ifCond .lt 35, 3) := by decide +kernel
theorem dX5_add_7 : decode cX5_add 7 = .ok (.aload_n 0, 1) := by decide +kernel
theorem dX5_add_8 : decode cX5_add 8 = .ok (.getfield 17, 3) := by decide +kernel
theorem dX5_add_11 : decode cX5_add 11 = .ok (.aload_n 0, 1) := by decide +kernel
theorem dX5_add_12 : decode cX5_add 12 = .ok (.getfield 11, 3) := by decide +kernel
theorem dX5_add_15 : decode cX5_add 15 = .ok (.arraylength, 1) := by decide +kernel
theorem dX5_add_16 : decode cX5_add 16 = .ok (.if_icmp .ge 23, 3) := by decide +kernel
theorem dX5_add_19 : decode cX5_add 19 = .ok (.aload_n 0, 1) := by decide +kernel
theorem dX5_add_20 : decode cX5_add 20 = .ok (.getfield 11, 3) := by decide +kernel
theorem dX5_add_23 : decode cX5_add 23 = .ok (.aload_n 0, 1) := by decide +kernel
theorem dX5_add_24 : decode cX5_add 24 = .ok (.getfield 17, 3) := by decide +kernel
theorem dX5_add_27 : decode cX5_add 27 = .ok (.aload_n 1, 1) := by decide +kernel
theorem dX5_add_28 : decode cX5_add 28 = .ok (.aastore, 1) := by decide +kernel
theorem dX5_add_29 : decode cX5_add 29 = .ok (.aload_n 0, 1) := by decide +kernel
theorem dX5_add_30 : decode cX5_add 30 = .ok (.dup, 1) := by decide +kernel
theorem dX5_add_31 : decode cX5_add 31 = .ok (.getfield 17, 3) := by decide +kernel
theorem dX5_add_34 : decode cX5_add 34 = .ok (.iconst 1, 1) := by decide +kernel
theorem dX5_add_35 : decode cX5_add 35 = .ok (.iadd, 1) := by decide +kernel
theorem dX5_add_36 : decode cX5_add 36 = .ok (.putfield 17, 3) := by decide +kernel
theorem dX5_add_39 : decode cX5_add 39 = .ok (.return_, 1) := by decide +kernel
theorem dX5_empty_0 : decode cX5_empty 0 = .ok (.aload_n 0, 1) := by decide +kernel
theorem dX5_empty_1 : decode cX5_empty 1 = .ok (.iconst 0, 1) := by decide +kernel
theorem dX5_empty_2 : decode cX5_empty 2 = .ok (.putfield 17, 3) := by decide +kernel
theorem dX5_empty_5 : decode cX5_empty 5 = .ok (.return_, 1) := by decide +kernel
theorem dX5_at_0 : decode cX5_at 0 = .ok (.iload_n 1, 1) := by decide +kernel
theorem dX5_at_1 : decode cX5_at 1 = .ok (.ifCond .lt 29, 3) := by decide +kernel
theorem dX5_at_4 : decode cX5_at 4 = .ok (.iload_n 1, 1) := by decide +kernel
theorem dX5_at_5 : decode cX5_at 5 = .ok (.aload_n 0, 1) := by decide +kernel
theorem dX5_at_6 : decode cX5_at 6 = .ok (.getfield 17, 3) := by decide +kernel
theorem dX5_at_9 : decode cX5_at 9 = .ok (.if_icmp .ge 21, 3) := by decide +kernel
theorem dX5_at_12 : decode cX5_at 12 = .ok (.iload_n 1, 1) := by decide +kernel
theorem dX5_at_13 : decode cX5_at 13 = .ok (.aload_n 0, 1) := by decide +kernel
theorem dX5_at_14 : decode cX5_at 14 = .ok (.getfield 11, 3) := by decide +kernel
theorem dX5_at_17 : decode cX5_at 17 = .ok (.arraylength, 1) := by decide +kernel
theorem dX5_at_18 : decode cX5_at 18 = .ok (.if_icmp .ge 12, 3) := by decide +kernel
theorem dX5_at_21 : decode cX5_at 21 = .ok (.aload_n 0, 1) := by decide +kernel
theorem dX5_at_22 : decode cX5_at 22 = .ok (.getfield 11, 3) := by decide +kernel
theorem dX5_at_25 : decode cX5_at 25 = .ok (.iload_n 1, 1) := by decide +kernel
theorem dX5_at_26 : decode cX5_at 26 = .ok (.aaload, 1) := by decide +kernel
theorem dX5_at_27 : decode cX5_at 27 = .ok (.goto 4, 3) := by decide +kernel
theorem dX5_at_30 : decode cX5_at 30 = .ok (.aconst_null, 1) := by decide +kernel
theorem dX5_at_31 : decode cX5_at 31 = .ok (.areturn, 1) := by decide +kernel
theorem dX6_init_0 : decode cX6_init 0 = .ok (.aload_n 0, 1) := by decide +kernel
theorem dX6_init_1 : decode cX6_init 1 = .ok (.invokespecial 1, 3) := by decide +kernel
theorem dX6_init_4 : decode cX6_init 4 = .ok (.return_, 1) := by decide +kernel
set_option maxRecDepth 20000 in
theorem ggX7_init_X3_between : GoodIn wsX7_init wsX3_between := goodIn_r _ [12, 13, 14, 15, 16, 11, 17, 18, 19, 20, 21, 22, 23, 24, 25, 26, 27, 28, 29, 30, 31, 32, 33, 34, 35, 36, 37, 38, 39, 40, 41, 42, 43, 44, 45, 46, 47, 48, 49, 50, 2, 3, 51, 52, 53, 58, 59, 60, 61, 62, 63, 64, 65, 66] (by decide +kernel) (by decide +kernel)
set_option maxRecDepth 20000 in
theorem gX7_init_X3_between : GoodIn wsX7_init (va_wsS RX7 30 yX3_between wsX3_between) := goodIn_app (goodIn_of _ (by decide +kernel)) ggX7_init_X3_between
theorem dX7_init_0 : decode cX7_init 0 = .ok (.aload_n 0, 1) := by decide +kernel
theorem dX7_init_1 : decode cX7_init 1 = .ok (.invokespecial 3, 3) := by decide +kernel
theorem dX7_init_4 : decode cX7_init 4 = .ok (.aload_n 0, 1) := by decide +kernel
theorem dX7_init_5 : decode cX7_init 5 = .ok (.bipush 6, 2) := by decide +kernel
theorem dX7_init_7 : decode cX7_init 7 = .ok (.anewarray 9, 3) := by decide +kernel
theorem dX7_init_10 : decode cX7_init 10 = .ok (.putfield 11, 3) := by decide +kernel
theorem dX7_init_13 : decode cX7_init 13 = .ok (.aload_n 0, 1) := by decide +kernel
theorem dX7_init_14 : decode cX7_init 14 = .ok (.aload_n 2, 1) := by decide +kernel
theorem dX7_init_15 : decode cX7_init 15 = .ok (.getfield 17, 3) := by decide +kernel
theorem dX7_init_18 : decode cX7_init 18 = .ok (.putfield 23, 3) := by decide +kernel
theorem dX7_init_21 : decode cX7_init 21 = .ok (.aload_n 0, 1) := by decide +kernel
theorem dX7_init_22 : decode cX7_init 22 = .ok (.iload 4, 2) := by decide +kernel
theorem dX7_init_24 : decode cX7_init 24 = .ok (.putfield 26, 3) := by decide +kernel
theorem dX7_init_27 : decode cX7_init 27 = .ok (.iconst 0, 1) := by decide +kernel
theorem dX7_init_28 : decode cX7_init 28 = .ok (.istore 5, 2) := by decide +kernel
theorem dX7_init_30 : decode cX7_init 30 = .ok (.iload 5, 2) := by decide +kernel
theorem dX7_init_32 : decode cX7_init 32 = .ok (.aload_n 0, 1) := by decide +kernel
theorem dX7_init_33 : decode cX7_init 33 = .ok (.getfield 11, 3) := by decide +kernel
theorem dX7_init_36 : decode cX7_init 36 = .ok (.arraylength, 1) := by decide +kernel
theorem dX7_init_37 : decode cX7_init 37 = .ok (.if_icmp .ge 24, 3) := by decide +kernel
theorem dX7_init_40 : decode cX7_init 40 = .ok (.aload_n 0, 1) := by decide +kernel
theorem dX7_init_41 : decode cX7_init 41 = .ok (.getfield 11, 3) := by decide +kernel
theorem dX7_init_44 : decode cX7_init 44 = .ok (.iload 5, 2) := by decide +kernel
theorem dX7_init_46 : decode cX7_init 46 = .ok (.aload_n 1, 1) := by decide +kernel
theorem dX7_init_47 : decode cX7_init 47 = .ok (.aload_n 2, 1) := by decide +kernel
theorem dX7_init_48 : decode cX7_init 48 = .ok (.iload 5, 2) := by decide +kernel
theorem dX7_init_50 : decode cX7_init 50 = .ok (.iload_n 3, 1) := by decide +kernel
theorem dX7_init_51 : decode cX7_init 51 = .ok (.invokestatic 30, 3) := by decide +kernel
theorem dX7_init_54 : decode cX7_init 54 = .ok (.aastore, 1) := by decide +kernel
theorem dX7_init_55 : decode cX7_init 55 = .ok (.iinc 5 1, 3) := by decide +kernel
theorem dX7_init_58 : decode cX7_init 58 = .ok (.goto (-28), 3) := by decide +kernel
theorem dX7_init_61 : decode cX7_init 61 = .ok (.return_, 1) := by decide +kernel
set_option maxRecDepth 20000 in
theorem ggX7_markBy_X3_markBy : GoodIn wsX7_markBy wsX3_markBy := goodIn_r _ [7, 8, 9, 10, 11, 12, 13, 14, 19, 20, 21, 22, 23, 24] (by decide +kernel) (by decide +kernel)
set_option maxRecDepth 20000 in
theorem gX7_markBy_X3_markBy : GoodIn wsX7_markBy (wsV RX7 34 RX3 yX3_markBy wsX3_markBy) := goodIn_app (goodIn_of _ (by decide +kernel)) ggX7_markBy_X3_markBy
theorem dX7_markBy_0 : decode cX7_markBy 0 = .ok (.aload_n 0, 1) := by decide +kernel
theorem dX7_markBy_1 : decode cX7_markBy 1 = .ok (.getfield 23, 3) := by decide +kernel
theorem dX7_markBy_4 : decode cX7_markBy 4 = .ok (.ifCond .gt 5, 3) := by decide +kernel
theorem dX7_markBy_7 : decode cX7_markBy 7 = .ok (.fconst 0, 1) := by decide +kernel
theorem dX7_markBy_8 : decode cX7_markBy 8 = .ok (.freturn, 1) := by decide +kernel
theorem dX7_markBy_9 : decode cX7_markBy 9 = .ok (.fconst 0, 1) := by decide +kernel
theorem dX7_markBy_10 : decode cX7_markBy 10 = .ok (.fstore_n 2, 1) := by decide +kernel
theorem dX7_markBy_11 : decode cX7_markBy 11 = .ok (.iconst 0, 1) := by decide +kernel
theorem dX7_markBy_12 : decode cX7_markBy 12 = .ok (.istore_n 3, 1) := by decide +kernel
theorem dX7_markBy_13 : decode cX7_markBy 13 = .ok (.iload_n 3, 1) := by decide +kernel
theorem dX7_markBy_14 : decode cX7_markBy 14 = .ok (.aload_n 0, 1) := by decide +kernel
theorem dX7_markBy_15 : decode cX7_markBy 15 = .ok (.getfield 11, 3) := by decide +kernel
theorem dX7_markBy_18 : decode cX7_markBy 18 = .ok (.arraylength, 1) := by decide +kernel
theorem dX7_markBy_19 : decode cX7_markBy 19 = .ok (.if_icmp .ge 31, 3) := by decide +kernel
theorem dX7_markBy_22 : decode cX7_markBy 22 = .ok (.aload_n 0, 1) := by decide +kernel
theorem dX7_markBy_23 : decode cX7_markBy 23 = .ok (.getfield 11, 3) := by decide +kernel
theorem dX7_markBy_26 : decode cX7_markBy 26 = .ok (.iload_n 3, 1) := by decide +kernel
theorem dX7_markBy_27 : decode cX7_markBy 27 = .ok (.aaload, 1) := by decide +kernel
theorem dX7_markBy_28 : decode cX7_markBy 28 = .ok (.ifnull 16, 3) := by decide +kernel
theorem dX7_markBy_31 : decode cX7_markBy 31 = .ok (.fload_n 2, 1) := by decide +kernel
theorem dX7_markBy_32 : decode cX7_markBy 32 = .ok (.aload_n 0, 1) := by decide +kernel
theorem dX7_markBy_33 : decode cX7_markBy 33 = .ok (.getfield 11, 3) := by decide +kernel
theorem dX7_markBy_36 : decode cX7_markBy 36 = .ok (.iload_n 3, 1) := by decide +kernel
theorem dX7_markBy_37 : decode cX7_markBy 37 = .ok (.aaload, 1) := by decide +kernel
theorem dX7_markBy_38 : decode cX7_markBy 38 = .ok (.aload_n 1, 1) := by decide +kernel
theorem dX7_markBy_39 : decode cX7_markBy 39 = .ok (.invokevirtual 34, 3) := by decide +kernel
theorem dX7_markBy_42 : decode cX7_markBy 42 = .ok (.fadd, 1) := by decide +kernel
theorem dX7_markBy_43 : decode cX7_markBy 43 = .ok (.fstore_n 2, 1) := by decide +kernel
theorem dX7_markBy_44 : decode cX7_markBy 44 = .ok (.iinc 3 1, 3) := by decide +kernel
theorem dX7_markBy_47 : decode cX7_markBy 47 = .ok (.goto (-34), 3) := by decide +kernel
end
section
theorem dX7_markBy_50 : decode cX7_markBy 50 = .ok (.fload_n 2, 1) := by decide +kernel
theorem dX7_markBy_51 : decode cX7_markBy 51 = .ok (.aload_n 0, 1) := by decide +kernel
theorem dX7_markBy_52 : decode cX7_markBy 52 = .ok (.getfield 23, 3) := by decide +kernel
theorem dX7_markBy_55 : decode cX7_markBy 55 = .ok (.i2f, 1) := by decide +kernel
theorem dX7_markBy_56 : decode cX7_markBy 56 = .ok (.fdiv, 1) := by decide +kernel
theorem dX7_markBy_57 : decode cX7_markBy 57 = .ok (.freturn, 1) := by decide +kernel
set_option maxRecDepth 20000 in
theorem ggX8_init_X5_init : GoodIn wsX8_init wsX5_init := goodIn_r _ [24, 25, 2, 3, 26, 27, 50, 51] (by decide +kernel) (by decide +kernel)
set_option maxRecDepth 20000 in
theorem gX8_init_X5_init_n39 : GoodIn wsX8_init (wsX5_init) := ggX8_init_X5_init
set_option maxRecDepth 20000 in
theorem ggX8_init_X2_init : GoodIn wsX8_init wsX2_init := goodIn_r _ [29, 30, 2, 3] (by decide +kernel) (by decide +kernel)
set_option maxRecDepth 20000 in
theorem gX8_init_X2_init_n44 : GoodIn wsX8_init (wsX2_init) := ggX8_init_X2_init
set_option maxRecDepth 20000 in
theorem ggX8_init_X6_init : GoodIn wsX8_init wsX6_init := goodIn_r _ [32, 33, 2, 3] (by decide +kernel) (by decide +kernel)
set_option maxRecDepth 20000 in
theorem gX8_init_X6_init_n45 : GoodIn wsX8_init (wsX6_init) := ggX8_init_X6_init
set_option maxRecDepth 20000 in
theorem ggX8_init_X1_init : GoodIn wsX8_init wsX1_init := goodIn_r _ [36, 37, 2, 3, 38, 39, 58] (by decide +kernel) (by decide +kernel)
set_option maxRecDepth 20000 in
theorem gX8_init_X1_init : GoodIn wsX8_init (wsX1_init) := ggX8_init_X1_init
theorem dX8_init_0 : decode cX8_init 0 = .ok (.aload_n 0, 1) := by decide +kernel
theorem dX8_init_1 : decode cX8_init 1 = .ok (.invokespecial 1, 3) := by decide +kernel
theorem dX8_init_4 : decode cX8_init 4 = .ok (.aload_n 0, 1) := by decide +kernel
theorem dX8_init_5 : decode cX8_init 5 = .ok (.bipush 6, 2) := by decide +kernel
theorem dX8_init_7 : decode cX8_init 7 = .ok (.anewarray 9, 3) := by decide +kernel
theorem dX8_init_10 : decode cX8_init 10 = .ok (.putfield 11, 3) := by decide +kernel
theorem dX8_init_13 : decode cX8_init 13 = .ok (.aload_n 0, 1) := by decide +kernel
theorem dX8_init_14 : decode cX8_init 14 = .ok (.iconst 3, 1) := by decide +kernel
theorem dX8_init_15 : decode cX8_init 15 = .ok (.anewarray 15, 3) := by decide +kernel
theorem dX8_init_18 : decode cX8_init 18 = .ok (.putfield 17, 3) := by decide +kernel
theorem dX8_init_21 : decode cX8_init 21 = .ok (.aload_n 0, 1) := by decide +kernel
theorem dX8_init_22 : decode cX8_init 22 = .ok (.iconst 4, 1) := by decide +kernel
theorem dX8_init_23 : decode cX8_init 23 = .ok (.anewarray 21, 3) := by decide +kernel
theorem dX8_init_26 : decode cX8_init 26 = .ok (.putfield 23, 3) := by decide +kernel
theorem dX8_init_29 : decode cX8_init 29 = .ok (.aload_n 0, 1) := by decide +kernel
theorem dX8_init_30 : decode cX8_init 30 = .ok (.iconst 4, 1) := by decide +kernel
theorem dX8_init_31 : decode cX8_init 31 = .ok (.anewarray 27, 3) := by decide +kernel
theorem dX8_init_34 : decode cX8_init 34 = .ok (.putfield 29, 3) := by decide +kernel
theorem dX8_init_37 : decode cX8_init 37 = .ok (.aload_n 0, 1) := by decide +kernel
theorem dX8_init_38 : decode cX8_init 38 = .ok (.bipush 12, 2) := by decide +kernel
theorem dX8_init_40 : decode cX8_init 40 = .ok (.anewarray 33, 3) := by decide +kernel
theorem dX8_init_43 : decode cX8_init 43 = .ok (.putfield 35, 3) := by decide +kernel
theorem dX8_init_46 : decode cX8_init 46 = .ok (.aload_n 0, 1) := by decide +kernel
theorem dX8_init_47 : decode cX8_init 47 = .ok (.new 9, 3) := by decide +kernel
theorem dX8_init_50 : decode cX8_init 50 = .ok (.dup, 1) := by decide +kernel
theorem dX8_init_51 : decode cX8_init 51 = .ok (.invokespecial 39, 3) := by decide +kernel
theorem dX8_init_54 : decode cX8_init 54 = .ok (.putfield 40, 3) := by decide +kernel
theorem dX8_init_57 : decode cX8_init 57 = .ok (.iconst 0, 1) := by decide +kernel
theorem dX8_init_58 : decode cX8_init 58 = .ok (.istore_n 1, 1) := by decide +kernel
theorem dX8_init_59 : decode cX8_init 59 = .ok (.iload_n 1, 1) := by decide +kernel
theorem dX8_init_60 : decode cX8_init 60 = .ok (.aload_n 0, 1) := by decide +kernel
theorem dX8_init_61 : decode cX8_init 61 = .ok (.getfield 17, 3) := by decide +kernel
theorem dX8_init_64 : decode cX8_init 64 = .ok (.arraylength, 1) := by decide +kernel
theorem dX8_init_65 : decode cX8_init 65 = .ok (.if_icmp .ge 22, 3) := by decide +kernel
theorem dX8_init_68 : decode cX8_init 68 = .ok (.aload_n 0, 1) := by decide +kernel
theorem dX8_init_69 : decode cX8_init 69 = .ok (.getfield 17, 3) := by decide +kernel
theorem dX8_init_72 : decode cX8_init 72 = .ok (.iload_n 1, 1) := by decide +kernel
theorem dX8_init_73 : decode cX8_init 73 = .ok (.new 15, 3) := by decide +kernel
theorem dX8_init_76 : decode cX8_init 76 = .ok (.dup, 1) := by decide +kernel
theorem dX8_init_77 : decode cX8_init 77 = .ok (.invokespecial 44, 3) := by decide +kernel
theorem dX8_init_80 : decode cX8_init 80 = .ok (.aastore, 1) := by decide +kernel
theorem dX8_init_81 : decode cX8_init 81 = .ok (.iinc 1 1, 3) := by decide +kernel
theorem dX8_init_84 : decode cX8_init 84 = .ok (.goto (-25), 3) := by decide +kernel
theorem dX8_init_87 : decode cX8_init 87 = .ok (.iconst 0, 1) := by decide +kernel
theorem dX8_init_88 : decode cX8_init 88 = .ok (.istore_n 1, 1) := by decide +kernel
theorem dX8_init_89 : decode cX8_init 89 = .ok (.iload_n 1, 1) := by decide +kernel
theorem dX8_init_90 : decode cX8_init 90 = .ok (.aload_n 0, 1) := by decide +kernel
theorem dX8_init_91 : decode cX8_init 91 = .ok (.getfield 23, 3) := by decide +kernel
theorem dX8_init_94 : decode cX8_init 94 = .ok (.arraylength, 1) := by decide +kernel
theorem dX8_init_95 : decode cX8_init 95 = .ok (.if_icmp .ge 22, 3) := by decide +kernel
theorem dX8_init_98 : decode cX8_init 98 = .ok (.aload_n 0, 1) := by decide +kernel
theorem dX8_init_99 : decode cX8_init 99 = .ok (.getfield 23, 3) := by decide +kernel
theorem dX8_init_102 : decode cX8_init 102 = .ok (.iload_n 1, 1) := by decide +kernel
theorem dX8_init_103 : decode cX8_init 103 = .ok (.new 21, 3) := by decide +kernel
theorem dX8_init_106 : decode cX8_init 106 = .ok (.dup, 1) := by decide +kernel
theorem dX8_init_107 : decode cX8_init 107 = .ok (.invokespecial 45, 3) := by decide +kernel
theorem dX8_init_110 : decode cX8_init 110 = .ok (.aastore, 1) := by decide +kernel
theorem dX8_init_111 : decode cX8_init 111 = .ok (.iinc 1 1, 3) := by decide +kernel
theorem dX8_init_114 : decode cX8_init 114 = .ok (.goto (-25), 3) := by decide +kernel
theorem dX8_init_117 : decode cX8_init 117 = .ok (.iconst 0, 1) := by decide +kernel
theorem dX8_init_118 : decode cX8_init 118 = .ok (.istore_n 1, 1) := by decide +kernel
theorem dX8_init_119 : decode cX8_init 119 = .ok (.iload_n 1, 1) := by decide +kernel
theorem dX8_init_120 : decode cX8_init 120 = .ok (.aload_n 0, 1) := by decide +kernel
theorem dX8_init_121 : decode cX8_init 121 = .ok (.getfield 29, 3) := by decide +kernel
theorem dX8_init_124 : decode cX8_init 124 = .ok (.arraylength, 1) := by decide +kernel
theorem dX8_init_125 : decode cX8_init 125 = .ok (.if_icmp .ge 22, 3) := by decide +kernel
theorem dX8_init_128 : decode cX8_init 128 = .ok (.aload_n 0, 1) := by decide +kernel
theorem dX8_init_129 : decode cX8_init 129 = .ok (.getfield 29, 3) := by decide +kernel
theorem dX8_init_132 : decode cX8_init 132 = .ok (.iload_n 1, 1) := by decide +kernel
theorem dX8_init_133 : decode cX8_init 133 = .ok (.new 27, 3) := by decide +kernel
theorem dX8_init_136 : decode cX8_init 136 = .ok (.dup, 1) := by decide +kernel
theorem dX8_init_137 : decode cX8_init 137 = .ok (.invokespecial 46, 3) := by decide +kernel
theorem dX8_init_140 : decode cX8_init 140 = .ok (.aastore, 1) := by decide +kernel
theorem dX8_init_141 : decode cX8_init 141 = .ok (.iinc 1 1, 3) := by decide +kernel
theorem dX8_init_144 : decode cX8_init 144 = .ok (.goto (-25), 3) := by decide +kernel
theorem dX8_init_147 : decode cX8_init 147 = .ok (.return_, 1) := by decide +kernel
set_option maxRecDepth 20000 in
theorem ggX8_stroke_X8_isPlace : GoodIn wsX8_stroke wsX8_isPlace := goodIn_r _ [13, 14, 15, 12, 16] (by decide +kernel) (by decide +kernel)
set_option maxRecDepth 20000 in
theorem gX8_stroke_X8_isPlace : GoodIn wsX8_stroke (va_wsS RX8 47 yX8_isPlace wsX8_isPlace) := goodIn_app (goodIn_of _ (by decide +kernel)) ggX8_stroke_X8_isPlace
set_option maxRecDepth 20000 in
theorem ggX8_stroke_X4_init : GoodIn wsX8_stroke wsX4_init := goodIn_r _ [19, 20, 21, 22, 23, 24, 25, 26, 46, 47, 48, 49] (by decide +kernel) (by decide +kernel)
set_option maxRecDepth 20000 in
theorem gX8_stroke_X4_init : GoodIn wsX8_stroke (wsX4_init) := ggX8_stroke_X4_init
set_option maxRecDepth 20000 in
theorem ggX8_stroke_X5_add : GoodIn wsX8_stroke wsX5_add := goodIn_r _ [31, 32, 33, 44, 45] (by decide +kernel) (by decide +kernel)
set_option maxRecDepth 20000 in
theorem gX8_stroke_X5_add : GoodIn wsX8_stroke (wsV RX8 74 RX5 yX5_add wsX5_add) := goodIn_app (goodIn_of _ (by decide +kernel)) ggX8_stroke_X5_add
theorem dX8_stroke_0 : decode cX8_stroke 0 = .ok (.iload_n 1, 1) := by decide +kernel
theorem dX8_stroke_1 : decode cX8_stroke 1 = .ok (.iload_n 2, 1) := by decide +kernel
theorem dX8_stroke_2 : decode cX8_stroke 2 = .ok (.invokestatic 47, 3) := by decide +kernel
theorem dX8_stroke_5 : decode cX8_stroke 5 = .ok (.ifCond .eq 12, 3) := by decide +kernel
theorem dX8_stroke_8 : decode cX8_stroke 8 = .ok (.iload_n 3, 1) := by decide +kernel
theorem dX8_stroke_9 : decode cX8_stroke 9 = .ok (.iload 4, 2) := by decide +kernel
theorem dX8_stroke_11 : decode cX8_stroke 11 = .ok (.invokestatic 47, 3) := by decide +kernel
theorem dX8_stroke_14 : decode cX8_stroke 14 = .ok (.ifCond .ne 13, 3) := by decide +kernel
theorem dX8_stroke_17 : decode cX8_stroke 17 = .ok (.new 51, 3) := by decide +kernel
theorem dX8_stroke_20 : decode cX8_stroke 20 = .ok (.dup, 1) := by decide +kernel
theorem dX8_stroke_21 : decode cX8_stroke 21 = .ok (.ldc 53, 2) := by decide +kernel
theorem dX8_stroke_23 : decode cX8_stroke 23 = .ok (.invokespecial 55, 3) := by decide +kernel
theorem dX8_stroke_26 : decode cX8_stroke 26 = .ok (.athrow, 1) := by decide +kernel
theorem dX8_stroke_27 : decode cX8_stroke 27 = .ok (.iload_n 1, 1) := by decide +kernel
theorem dX8_stroke_28 : decode cX8_stroke 28 = .ok (.iload_n 3, 1) := by decide +kernel
theorem dX8_stroke_29 : decode cX8_stroke 29 = .ok (.if_icmp .ne 19, 3) := by decide +kernel
theorem dX8_stroke_32 : decode cX8_stroke 32 = .ok (.iload_n 2, 1) := by decide +kernel
theorem dX8_stroke_33 : decode cX8_stroke 33 = .ok (.iload 4, 2) := by decide +kernel
theorem dX8_stroke_35 : decode cX8_stroke 35 = .ok (.if_icmp .ne 13, 3) := by decide +kernel
theorem dX8_stroke_38 : decode cX8_stroke 38 = .ok (.new 51, 3) := by decide +kernel
theorem dX8_stroke_41 : decode cX8_stroke 41 = .ok (.dup, 1) := by decide +kernel
theorem dX8_stroke_42 : decode cX8_stroke 42 = .ok (.ldc 58, 2) := by decide +kernel
theorem dX8_stroke_44 : decode cX8_stroke 44 = .ok (.invokespecial 55, 3) := by decide +kernel
theorem dX8_stroke_47 : decode cX8_stroke 47 = .ok (.athrow, 1) := by decide +kernel
theorem dX8_stroke_48 : decode cX8_stroke 48 = .ok (.aload_n 0, 1) := by decide +kernel
theorem dX8_stroke_49 : decode cX8_stroke 49 = .ok (.getfield 40, 3) := by decide +kernel
theorem dX8_stroke_52 : decode cX8_stroke 52 = .ok (.getfield 60, 3) := by decide +kernel
theorem dX8_stroke_55 : decode cX8_stroke 55 = .ok (.bipush 8, 2) := by decide +kernel
theorem dX8_stroke_57 : decode cX8_stroke 57 = .ok (.if_icmp .lt 13, 3) := by decide +kernel
theorem dX8_stroke_60 : decode cX8_stroke 60 = .ok (.new 64, 3) := by decide +kernel
theorem dX8_stroke_63 : decode cX8_stroke 63 = .ok (.dup, 1) := by decide +kernel
theorem dX8_stroke_64 : decode cX8_stroke 64 = .ok (.ldc 66, 2) := by decide +kernel
theorem dX8_stroke_66 : decode cX8_stroke 66 = .ok (.invokespecial 68, 3) := by decide +kernel
theorem dX8_stroke_69 : decode cX8_stroke 69 = .ok (.athrow, 1) := by decide +kernel
theorem dX8_stroke_70 : decode cX8_stroke 70 = .ok (.aload_n 0, 1) := by decide +kernel
theorem dX8_stroke_71 : decode cX8_stroke 71 = .ok (.getfield 40, 3) := by decide +kernel
theorem dX8_stroke_74 : decode cX8_stroke 74 = .ok (.new 69, 3) := by decide +kernel
theorem dX8_stroke_77 : decode cX8_stroke 77 = .ok (.dup, 1) := by decide +kernel
theorem dX8_stroke_78 : decode cX8_stroke 78 = .ok (.iload_n 1, 1) := by decide +kernel
theorem dX8_stroke_79 : decode cX8_stroke 79 = .ok (.iload_n 2, 1) := by decide +kernel
theorem dX8_stroke_80 : decode cX8_stroke 80 = .ok (.iload_n 3, 1) := by decide +kernel
theorem dX8_stroke_81 : decode cX8_stroke 81 = .ok (.iload 4, 2) := by decide +kernel
theorem dX8_stroke_83 : decode cX8_stroke 83 = .ok (.invokespecial 71, 3) := by decide +kernel
theorem dX8_stroke_86 : decode cX8_stroke 86 = .ok (.invokevirtual 74, 3) := by decide +kernel
theorem dX8_stroke_89 : decode cX8_stroke 89 = .ok (.aload_n 0, 1) := by decide +kernel
theorem dX8_stroke_90 : decode cX8_stroke 90 = .ok (.getfield 40, 3) := by decide +kernel
theorem dX8_stroke_93 : decode cX8_stroke 93 = .ok (.getfield 60, 3) := by decide +kernel
theorem dX8_stroke_96 : decode cX8_stroke 96 = .ok (.ireturn, 1) := by decide +kernel
set_option maxRecDepth 20000 in
theorem ggX8_clear_X5_empty : GoodIn wsX8_clear wsX5_empty := goodIn_r _ [7, 8, 19, 20] (by decide +kernel) (by decide +kernel)
set_option maxRecDepth 20000 in
theorem gX8_clear_X5_empty : GoodIn wsX8_clear (wsV RX8 78 RX5 yX5_empty wsX5_empty) := goodIn_app (goodIn_of _ (by decide +kernel)) ggX8_clear_X5_empty
theorem dX8_clear_0 : decode cX8_clear 0 = .ok (.aload_n 0, 1) := by decide +kernel
theorem dX8_clear_1 : decode cX8_clear 1 = .ok (.getfield 40, 3) := by decide +kernel
theorem dX8_clear_4 : decode cX8_clear 4 = .ok (.getfield 60, 3) := by decide +kernel
theorem dX8_clear_7 : decode cX8_clear 7 = .ok (.istore_n 1, 1) := by decide +kernel
theorem dX8_clear_8 : decode cX8_clear 8 = .ok (.aload_n 0, 1) := by decide +kernel
theorem dX8_clear_9 : decode cX8_clear 9 = .ok (.getfield 40, 3) := by decide +kernel
theorem dX8_clear_12 : decode cX8_clear 12 = .ok (.invokevirtual 78, 3) := by decide +kernel
theorem dX8_clear_15 : decode cX8_clear 15 = .ok (.iload_n 1, 1) := by decide +kernel
theorem dX8_clear_16 : decode cX8_clear 16 = .ok (.ireturn, 1) := by decide +kernel
set_option maxRecDepth 20000 in
theorem ggX8_sign_X5_init : GoodIn wsX8_sign wsX5_init := goodIn_r _ [11, 12, 13, 14, 15, 16, 27, 28] (by decide +kernel) (by decide +kernel)
set_option maxRecDepth 20000 in
theorem gX8_sign_X5_init_n39 : GoodIn wsX8_sign (wsX5_init) := ggX8_sign_X5_init
theorem dX8_sign_0 : decode cX8_sign 0 = .ok (.aload_n 0, 1) := by decide +kernel
theorem dX8_sign_1 : decode cX8_sign 1 = .ok (.getfield 40, 3) := by decide +kernel
theorem dX8_sign_4 : decode cX8_sign 4 = .ok (.getfield 60, 3) := by decide +kernel
theorem dX8_sign_7 : decode cX8_sign 7 = .ok (.ifCond .eq 15, 3) := by decide +kernel
theorem dX8_sign_10 : decode cX8_sign 10 = .ok (.aload_n 0, 1) := by decide +kernel
theorem dX8_sign_11 : decode cX8_sign 11 = .ok (.getfield 40, 3) := by decide +kernel
theorem dX8_sign_14 : decode cX8_sign 14 = .ok (.getfield 60, 3) := by decide +kernel
theorem dX8_sign_17 : decode cX8_sign 17 = .ok (.bipush 6, 2) := by decide +kernel
theorem dX8_sign_19 : decode cX8_sign 19 = .ok (.if_icmp .le 13, 3) := by decide +kernel
theorem dX8_sign_22 : decode cX8_sign 22 = .ok (.new 64, 3) := by decide +kernel
theorem dX8_sign_25 : decode cX8_sign 25 = .ok (.dup, 1) := by decide +kernel
theorem dX8_sign_26 : decode cX8_sign 26 = .ok (.ldc 81, 2) := by decide +kernel
theorem dX8_sign_28 : decode cX8_sign 28 = .ok (.invokespecial 68, 3) := by decide +kernel
theorem dX8_sign_31 : decode cX8_sign 31 = .ok (.athrow, 1) := by decide +kernel
theorem dX8_sign_32 : decode cX8_sign 32 = .ok (.aload_n 0, 1) := by decide +kernel
theorem dX8_sign_33 : decode cX8_sign 33 = .ok (.getfield 83, 3) := by decide +kernel
theorem dX8_sign_36 : decode cX8_sign 36 = .ok (.aload_n 0, 1) := by decide +kernel
theorem dX8_sign_37 : decode cX8_sign 37 = .ok (.getfield 11, 3) := by decide +kernel
theorem dX8_sign_40 : decode cX8_sign 40 = .ok (.arraylength, 1) := by decide +kernel
theorem dX8_sign_41 : decode cX8_sign 41 = .ok (.if_icmp .lt 13, 3) := by decide +kernel
theorem dX8_sign_44 : decode cX8_sign 44 = .ok (.new 64, 3) := by decide +kernel
theorem dX8_sign_47 : decode cX8_sign 47 = .ok (.dup, 1) := by decide +kernel
theorem dX8_sign_48 : decode cX8_sign 48 = .ok (.ldc 86, 2) := by decide +kernel
theorem dX8_sign_50 : decode cX8_sign 50 = .ok (.invokespecial 68, 3) := by decide +kernel
theorem dX8_sign_53 : decode cX8_sign 53 = .ok (.athrow, 1) := by decide +kernel
theorem dX8_sign_54 : decode cX8_sign 54 = .ok (.aload_n 0, 1) := by decide +kernel
theorem dX8_sign_55 : decode cX8_sign 55 = .ok (.getfield 83, 3) := by decide +kernel
theorem dX8_sign_58 : decode cX8_sign 58 = .ok (.istore_n 1, 1) := by decide +kernel
theorem dX8_sign_59 : decode cX8_sign 59 = .ok (.aload_n 0, 1) := by decide +kernel
theorem dX8_sign_60 : decode cX8_sign 60 = .ok (.getfield 11, 3) := by decide +kernel
theorem dX8_sign_63 : decode cX8_sign 63 = .ok (.iload_n 1, 1) := by decide +kernel
theorem dX8_sign_64 : decode cX8_sign 64 = .ok (.aload_n 0, 1) := by decide +kernel
theorem dX8_sign_65 : decode cX8_sign 65 = .ok (.getfield 40, 3) := by decide +kernel
theorem dX8_sign_68 : decode cX8_sign 68 = .ok (.aastore, 1) := by decide +kernel
theorem dX8_sign_69 : decode cX8_sign 69 = .ok (.aload_n 0, 1) := by decide +kernel
theorem dX8_sign_70 : decode cX8_sign 70 = .ok (.dup, 1) := by decide +kernel
theorem dX8_sign_71 : decode cX8_sign 71 = .ok (.getfield 83, 3) := by decide +kernel
theorem dX8_sign_74 : decode cX8_sign 74 = .ok (.iconst 1, 1) := by decide +kernel
theorem dX8_sign_75 : decode cX8_sign 75 = .ok (.iadd, 1) := by decide +kernel
theorem dX8_sign_76 : decode cX8_sign 76 = .ok (.putfield 83, 3) := by decide +kernel
theorem dX8_sign_79 : decode cX8_sign 79 = .ok (.aload_n 0, 1) := by decide +kernel
theorem dX8_sign_80 : decode cX8_sign 80 = .ok (.new 9, 3) := by decide +kernel
theorem dX8_sign_83 : decode cX8_sign 83 = .ok (.dup, 1) := by decide +kernel
theorem dX8_sign_84 : decode cX8_sign 84 = .ok (.invokespecial 39, 3) := by decide +kernel
theorem dX8_sign_87 : decode cX8_sign 87 = .ok (.putfield 40, 3) := by decide +kernel
theorem dX8_sign_90 : decode cX8_sign 90 = .ok (.iload_n 1, 1) := by decide +kernel
theorem dX8_sign_91 : decode cX8_sign 91 = .ok (.ireturn, 1) := by decide +kernel
set_option maxRecDepth 20000 in
theorem ggX8_buy_X8_paperAt : GoodIn wsX8_buy wsX8_paperAt := goodIn_r _ [12, 13, 20, 21, 22, 23, 24, 25, 26, 27, 28, 29] (by decide +kernel) (by decide +kernel)
set_option maxRecDepth 20000 in
theorem gX8_buy_X8_paperAt : GoodIn wsX8_buy (wsV RX8 88 RX8 yX8_paperAt wsX8_paperAt) := goodIn_app (goodIn_of _ (by decide +kernel)) ggX8_buy_X8_paperAt
set_option maxRecDepth 20000 in
theorem ggX8_buy_X8_isWithin : GoodIn wsX8_buy wsX8_isWithin := goodIn_r _ [16] (by decide +kernel) (by decide +kernel)
set_option maxRecDepth 20000 in
theorem gX8_buy_X8_isWithin : GoodIn wsX8_buy (va_wsS RX8 97 yX8_isWithin wsX8_isWithin) := goodIn_app (goodIn_of _ (by decide +kernel)) ggX8_buy_X8_isWithin
theorem dX8_buy_0 : decode cX8_buy 0 = .ok (.aload_n 0, 1) := by decide +kernel
theorem dX8_buy_1 : decode cX8_buy 1 = .ok (.iload_n 1, 1) := by decide +kernel
theorem dX8_buy_2 : decode cX8_buy 2 = .ok (.invokevirtual 88, 3) := by decide +kernel
theorem dX8_buy_5 : decode cX8_buy 5 = .ok (.astore_n 3, 1) := by decide +kernel
theorem dX8_buy_6 : decode cX8_buy 6 = .ok (.aload_n 3, 1) := by decide +kernel
theorem dX8_buy_7 : decode cX8_buy 7 = .ok (.ifnonnull 13, 3) := by decide +kernel
theorem dX8_buy_10 : decode cX8_buy 10 = .ok (.new 92, 3) := by decide +kernel
theorem dX8_buy_13 : decode cX8_buy 13 = .ok (.dup, 1) := by decide +kernel
theorem dX8_buy_14 : decode cX8_buy 14 = .ok (.ldc 94, 2) := by decide +kernel
theorem dX8_buy_16 : decode cX8_buy 16 = .ok (.invokespecial 96, 3) := by decide +kernel
theorem dX8_buy_19 : decode cX8_buy 19 = .ok (.athrow, 1) := by decide +kernel
theorem dX8_buy_20 : decode cX8_buy 20 = .ok (.iload_n 2, 1) := by decide +kernel
theorem dX8_buy_21 : decode cX8_buy 21 = .ok (.iconst 1, 1) := by decide +kernel
theorem dX8_buy_22 : decode cX8_buy 22 = .ok (.bipush 100, 2) := by decide +kernel
theorem dX8_buy_24 : decode cX8_buy 24 = .ok (.invokestatic 97, 3) := by decide +kernel
theorem dX8_buy_27 : decode cX8_buy 27 = .ok (.ifCond .ne 13, 3) := by decide +kernel
theorem dX8_buy_30 : decode cX8_buy 30 = .ok (.new 51, 3) := by decide +kernel
theorem dX8_buy_33 : decode cX8_buy 33 = .ok (.dup, 1) := by decide +kernel
theorem dX8_buy_34 : decode cX8_buy 34 = .ok (.ldc 101, 2) := by decide +kernel
theorem dX8_buy_36 : decode cX8_buy 36 = .ok (.invokespecial 55, 3) := by decide +kernel
theorem dX8_buy_39 : decode cX8_buy 39 = .ok (.athrow, 1) := by decide +kernel
theorem dX8_buy_40 : decode cX8_buy 40 = .ok (.aload_n 3, 1) := by decide +kernel
theorem dX8_buy_41 : decode cX8_buy 41 = .ok (.getfield 103, 3) := by decide +kernel
theorem dX8_buy_44 : decode cX8_buy 44 = .ok (.iload_n 2, 1) := by decide +kernel
theorem dX8_buy_45 : decode cX8_buy 45 = .ok (.iadd, 1) := by decide +kernel
theorem dX8_buy_46 : decode cX8_buy 46 = .ok (.sipush 1000, 3) := by decide +kernel
theorem dX8_buy_49 : decode cX8_buy 49 = .ok (.if_icmp .le 13, 3) := by decide +kernel
theorem dX8_buy_52 : decode cX8_buy 52 = .ok (.new 64, 3) := by decide +kernel
theorem dX8_buy_55 : decode cX8_buy 55 = .ok (.dup, 1) := by decide +kernel
theorem dX8_buy_56 : decode cX8_buy 56 = .ok (.ldc 106, 2) := by decide +kernel
theorem dX8_buy_58 : decode cX8_buy 58 = .ok (.invokespecial 68, 3) := by decide +kernel
theorem dX8_buy_61 : decode cX8_buy 61 = .ok (.athrow, 1) := by decide +kernel
theorem dX8_buy_62 : decode cX8_buy 62 = .ok (.aload_n 3, 1) := by decide +kernel
theorem dX8_buy_63 : decode cX8_buy 63 = .ok (.dup, 1) := by decide +kernel
theorem dX8_buy_64 : decode cX8_buy 64 = .ok (.getfield 103, 3) := by decide +kernel
theorem dX8_buy_67 : decode cX8_buy 67 = .ok (.iload_n 2, 1) := by decide +kernel
theorem dX8_buy_68 : decode cX8_buy 68 = .ok (.iadd, 1) := by decide +kernel
theorem dX8_buy_69 : decode cX8_buy 69 = .ok (.putfield 103, 3) := by decide +kernel
theorem dX8_buy_72 : decode cX8_buy 72 = .ok (.aload_n 3, 1) := by decide +kernel
theorem dX8_buy_73 : decode cX8_buy 73 = .ok (.getfield 103, 3) := by decide +kernel
theorem dX8_buy_76 : decode cX8_buy 76 = .ok (.ireturn, 1) := by decide +kernel
set_option maxRecDepth 20000 in
theorem ggX8_rise_X8_paperAt : GoodIn wsX8_rise wsX8_paperAt := goodIn_r _ [11, 12, 19, 20, 21, 22, 23, 24, 25, 26, 27, 28] (by decide +kernel) (by decide +kernel)
set_option maxRecDepth 20000 in
theorem gX8_rise_X8_paperAt : GoodIn wsX8_rise (wsV RX8 88 RX8 yX8_paperAt wsX8_paperAt) := goodIn_app (goodIn_of _ (by decide +kernel)) ggX8_rise_X8_paperAt
set_option maxRecDepth 20000 in
theorem ggX8_rise_X8_isWithin : GoodIn wsX8_rise wsX8_isWithin := goodIn_r _ [15] (by decide +kernel) (by decide +kernel)
set_option maxRecDepth 20000 in
theorem gX8_rise_X8_isWithin : GoodIn wsX8_rise (va_wsS RX8 97 yX8_isWithin wsX8_isWithin) := goodIn_app (goodIn_of _ (by decide +kernel)) ggX8_rise_X8_isWithin
theorem dX8_rise_0 : decode cX8_rise 0 = .ok (.aload_n 0, 1) := by decide +kernel
theorem dX8_rise_1 : decode cX8_rise 1 = .ok (.iload_n 1, 1) := by decide +kernel
theorem dX8_rise_2 : decode cX8_rise 2 = .ok (.invokevirtual 88, 3) := by decide +kernel
theorem dX8_rise_5 : decode cX8_rise 5 = .ok (.astore_n 3, 1) := by decide +kernel
theorem dX8_rise_6 : decode cX8_rise 6 = .ok (.aload_n 3, 1) := by decide +kernel
theorem dX8_rise_7 : decode cX8_rise 7 = .ok (.ifnonnull 13, 3) := by decide +kernel
theorem dX8_rise_10 : decode cX8_rise 10 = .ok (.new 92, 3) := by decide +kernel
theorem dX8_rise_13 : decode cX8_rise 13 = .ok (.dup, 1) := by decide +kernel
theorem dX8_rise_14 : decode cX8_rise 14 = .ok (.ldc 94, 2) := by decide +kernel
theorem dX8_rise_16 : decode cX8_rise 16 = .ok (.invokespecial 96, 3) := by decide +kernel
theorem dX8_rise_19 : decode cX8_rise 19 = .ok (.athrow, 1) := by decide +kernel
theorem dX8_rise_20 : decode cX8_rise 20 = .ok (.iload_n 2, 1) := by decide +kernel
theorem dX8_rise_21 : decode cX8_rise 21 = .ok (.bipush (-10), 2) := by decide +kernel
theorem dX8_rise_23 : decode cX8_rise 23 = .ok (.bipush 10, 2) := by decide +kernel
theorem dX8_rise_25 : decode cX8_rise 25 = .ok (.invokestatic 97, 3) := by decide +kernel
theorem dX8_rise_28 : decode cX8_rise 28 = .ok (.ifCond .ne 13, 3) := by decide +kernel
theorem dX8_rise_31 : decode cX8_rise 31 = .ok (.new 51, 3) := by decide +kernel
theorem dX8_rise_34 : decode cX8_rise 34 = .ok (.dup, 1) := by decide +kernel
theorem dX8_rise_35 : decode cX8_rise 35 = .ok (.ldc 108, 2) := by decide +kernel
theorem dX8_rise_37 : decode cX8_rise 37 = .ok (.invokespecial 55, 3) := by decide +kernel
theorem dX8_rise_40 : decode cX8_rise 40 = .ok (.athrow, 1) := by decide +kernel
theorem dX8_rise_41 : decode cX8_rise 41 = .ok (.aload_n 3, 1) := by decide +kernel
theorem dX8_rise_42 : decode cX8_rise 42 = .ok (.iload_n 2, 1) := by decide +kernel
theorem dX8_rise_43 : decode cX8_rise 43 = .ok (.putfield 110, 3) := by decide +kernel
theorem dX8_rise_46 : decode cX8_rise 46 = .ok (.aload_n 3, 1) := by decide +kernel
theorem dX8_rise_47 : decode cX8_rise 47 = .ok (.getfield 113, 3) := by decide +kernel
theorem dX8_rise_50 : decode cX8_rise 50 = .ok (.ireturn, 1) := by decide +kernel
set_option maxRecDepth 20000 in
theorem ggX8_style_X8_styleAt : GoodIn wsX8_style wsX8_styleAt := goodIn_r _ [12, 13, 20, 21, 22, 23, 24, 25, 26, 27, 28, 29] (by decide +kernel) (by decide +kernel)
set_option maxRecDepth 20000 in
theorem gX8_style_X8_styleAt : GoodIn wsX8_style (wsV RX8 116 RX8 yX8_styleAt wsX8_styleAt) := goodIn_app (goodIn_of _ (by decide +kernel)) ggX8_style_X8_styleAt
set_option maxRecDepth 20000 in
theorem ggX8_style_X8_isWithin : GoodIn wsX8_style wsX8_isWithin := goodIn_r _ [16] (by decide +kernel) (by decide +kernel)
set_option maxRecDepth 20000 in
theorem gX8_style_X8_isWithin : GoodIn wsX8_style (va_wsS RX8 97 yX8_isWithin wsX8_isWithin) := goodIn_app (goodIn_of _ (by decide +kernel)) ggX8_style_X8_isWithin
theorem dX8_style_0 : decode cX8_style 0 = .ok (.aload_n 0, 1) := by decide +kernel
theorem dX8_style_1 : decode cX8_style 1 = .ok (.iload_n 1, 1) := by decide +kernel
theorem dX8_style_2 : decode cX8_style 2 = .ok (.invokevirtual 116, 3) := by decide +kernel
theorem dX8_style_5 : decode cX8_style 5 = .ok (.astore 5, 2) := by decide +kernel
theorem dX8_style_7 : decode cX8_style 7 = .ok (.aload 5, 2) := by decide +kernel
theorem dX8_style_9 : decode cX8_style 9 = .ok (.ifnonnull 13, 3) := by decide +kernel
theorem dX8_style_12 : decode cX8_style 12 = .ok (.new 92, 3) := by decide +kernel
theorem dX8_style_15 : decode cX8_style 15 = .ok (.dup, 1) := by decide +kernel
theorem dX8_style_16 : decode cX8_style 16 = .ok (.ldc 120, 2) := by decide +kernel
theorem dX8_style_18 : decode cX8_style 18 = .ok (.invokespecial 96, 3) := by decide +kernel
theorem dX8_style_21 : decode cX8_style 21 = .ok (.athrow, 1) := by decide +kernel
theorem dX8_style_22 : decode cX8_style 22 = .ok (.iload_n 2, 1) := by decide +kernel
theorem dX8_style_23 : decode cX8_style 23 = .ok (.iconst 0, 1) := by decide +kernel
theorem dX8_style_24 : decode cX8_style 24 = .ok (.bipush 100, 2) := by decide +kernel
theorem dX8_style_26 : decode cX8_style 26 = .ok (.invokestatic 97, 3) := by decide +kernel
theorem dX8_style_29 : decode cX8_style 29 = .ok (.ifCond .eq 24, 3) := by decide +kernel
theorem dX8_style_32 : decode cX8_style 32 = .ok (.iload_n 3, 1) := by decide +kernel
theorem dX8_style_33 : decode cX8_style 33 = .ok (.iconst 0, 1) := by decide +kernel
theorem dX8_style_34 : decode cX8_style 34 = .ok (.bipush 100, 2) := by decide +kernel
theorem dX8_style_36 : decode cX8_style 36 = .ok (.invokestatic 97, 3) := by decide +kernel
theorem dX8_style_39 : decode cX8_style 39 = .ok (.ifCond .eq 14, 3) := by decide +kernel
theorem dX8_style_42 : decode cX8_style 42 = .ok (.iload 4, 2) := by decide +kernel
theorem dX8_style_44 : decode cX8_style 44 = .ok (.iconst 0, 1) := by decide +kernel
theorem dX8_style_45 : decode cX8_style 45 = .ok (.bipush 100, 2) := by decide +kernel
theorem dX8_style_47 : decode cX8_style 47 = .ok (.invokestatic 97, 3) := by decide +kernel
theorem dX8_style_50 : decode cX8_style 50 = .ok (.ifCond .ne 13, 3) := by decide +kernel
theorem dX8_style_53 : decode cX8_style 53 = .ok (.new 51, 3) := by decide +kernel
theorem dX8_style_56 : decode cX8_style 56 = .ok (.dup, 1) := by decide +kernel
theorem dX8_style_57 : decode cX8_style 57 = .ok (.ldc 122, 2) := by decide +kernel
theorem dX8_style_59 : decode cX8_style 59 = .ok (.invokespecial 55, 3) := by decide +kernel
theorem dX8_style_62 : decode cX8_style 62 = .ok (.athrow, 1) := by decide +kernel
theorem dX8_style_63 : decode cX8_style 63 = .ok (.aload 5, 2) := by decide +kernel
theorem dX8_style_65 : decode cX8_style 65 = .ok (.iload_n 2, 1) := by decide +kernel
theorem dX8_style_66 : decode cX8_style 66 = .ok (.putfield 124, 3) := by decide +kernel
theorem dX8_style_69 : decode cX8_style 69 = .ok (.aload 5, 2) := by decide +kernel
theorem dX8_style_71 : decode cX8_style 71 = .ok (.iload_n 3, 1) := by decide +kernel
theorem dX8_style_72 : decode cX8_style 72 = .ok (.putfield 127, 3) := by decide +kernel
theorem dX8_style_75 : decode cX8_style 75 = .ok (.aload 5, 2) := by decide +kernel
theorem dX8_style_77 : decode cX8_style 77 = .ok (.iload 4, 2) := by decide +kernel
theorem dX8_style_79 : decode cX8_style 79 = .ok (.putfield 130, 3) := by decide +kernel
theorem dX8_style_82 : decode cX8_style 82 = .ok (.return_, 1) := by decide +kernel
set_option maxRecDepth 20000 in
theorem ggX8_learn_X8_judgeAt : GoodIn wsX8_learn wsX8_judgeAt := goodIn_r _ [10, 11, 31, 32, 33, 34, 35, 36, 37, 38, 39, 40] (by decide +kernel) (by decide +kernel)
set_option maxRecDepth 20000 in
theorem gX8_learn_X8_judgeAt : GoodIn wsX8_learn (wsV RX8 133 RX8 yX8_judgeAt wsX8_judgeAt) := goodIn_app (goodIn_of _ (by decide +kernel)) ggX8_learn_X8_judgeAt
set_option maxRecDepth 20000 in
theorem ggX8_learn_X8_styleAt : GoodIn wsX8_learn wsX8_styleAt := goodIn_r _ [15, 16, 31, 32, 33, 34, 35, 36, 37, 38, 39, 40] (by decide +kernel) (by decide +kernel)
set_option maxRecDepth 20000 in
theorem gX8_learn_X8_styleAt : GoodIn wsX8_learn (wsV RX8 116 RX8 yX8_styleAt wsX8_styleAt) := goodIn_app (goodIn_of _ (by decide +kernel)) ggX8_learn_X8_styleAt
set_option maxRecDepth 20000 in
theorem ggX8_learn_X1_knowsOn : GoodIn wsX8_learn wsX1_knowsOn := goodIn_r _ [21, 22, 41] (by decide +kernel) (by decide +kernel)
set_option maxRecDepth 20000 in
theorem gX8_learn_X1_knowsOn : GoodIn wsX8_learn (wsV RX8 142 RX1 yX1_knowsOn wsX1_knowsOn) := goodIn_app (goodIn_of _ (by decide +kernel)) ggX8_learn_X1_knowsOn
set_option maxRecDepth 20000 in
theorem ggX8_learn_X1_takeUp : GoodIn wsX8_learn wsX1_takeUp := goodIn_r _ [26, 22, 41] (by decide +kernel) (by decide +kernel)
set_option maxRecDepth 20000 in
theorem gX8_learn_X1_takeUp : GoodIn wsX8_learn (wsV RX8 147 RX1 yX1_takeUp wsX1_takeUp) := goodIn_app (goodIn_of _ (by decide +kernel)) ggX8_learn_X1_takeUp
set_option maxRecDepth 20000 in
theorem ggX8_learn_X1_countKnown : GoodIn wsX8_learn wsX1_countKnown := goodIn_r _ [30, 22, 41] (by decide +kernel) (by decide +kernel)
set_option maxRecDepth 20000 in
theorem gX8_learn_X1_countKnown : GoodIn wsX8_learn (wsV RX8 151 RX1 yX1_countKnown wsX1_countKnown) := goodIn_app (goodIn_of _ (by decide +kernel)) ggX8_learn_X1_countKnown
theorem dX8_learn_0 : decode cX8_learn 0 = .ok (.aload_n 0, 1) := by decide +kernel
theorem dX8_learn_1 : decode cX8_learn 1 = .ok (.iload_n 1, 1) := by decide +kernel
theorem dX8_learn_2 : decode cX8_learn 2 = .ok (.invokevirtual 133, 3) := by decide +kernel
theorem dX8_learn_5 : decode cX8_learn 5 = .ok (.astore_n 3, 1) := by decide +kernel
theorem dX8_learn_6 : decode cX8_learn 6 = .ok (.aload_n 3, 1) := by decide +kernel
theorem dX8_learn_7 : decode cX8_learn 7 = .ok (.ifnull 11, 3) := by decide +kernel
theorem dX8_learn_10 : decode cX8_learn 10 = .ok (.aload_n 0, 1) := by decide +kernel
theorem dX8_learn_11 : decode cX8_learn 11 = .ok (.iload_n 2, 1) := by decide +kernel
theorem dX8_learn_12 : decode cX8_learn 12 = .ok (.invokevirtual 116, 3) := by decide +kernel
theorem dX8_learn_15 : decode cX8_learn 15 = .ok (.ifnonnull 13, 3) := by decide +kernel
theorem dX8_learn_18 : decode cX8_learn 18 = .ok (.new 92, 3) := by decide +kernel
theorem dX8_learn_21 : decode cX8_learn 21 = .ok (.dup, 1) := by decide +kernel
theorem dX8_learn_22 : decode cX8_learn 22 = .ok (.ldc 137, 2) := by decide +kernel
theorem dX8_learn_24 : decode cX8_learn 24 = .ok (.invokespecial 96, 3) := by decide +kernel
theorem dX8_learn_27 : decode cX8_learn 27 = .ok (.athrow, 1) := by decide +kernel
theorem dX8_learn_28 : decode cX8_learn 28 = .ok (.aload_n 3, 1) := by decide +kernel
theorem dX8_learn_29 : decode cX8_learn 29 = .ok (.iload_n 2, 1) := by decide +kernel
theorem dX8_learn_30 : decode cX8_learn 30 = .ok (.aload_n 0, 1) := by decide +kernel
theorem dX8_learn_31 : decode cX8_learn 31 = .ok (.getfield 139, 3) := by decide +kernel
theorem dX8_learn_34 : decode cX8_learn 34 = .ok (.invokevirtual 142, 3) := by decide +kernel
theorem dX8_learn_37 : decode cX8_learn 37 = .ok (.ifCond .eq 13, 3) := by decide +kernel
theorem dX8_learn_40 : decode cX8_learn 40 = .ok (.new 64, 3) := by decide +kernel
theorem dX8_learn_43 : decode cX8_learn 43 = .ok (.dup, 1) := by decide +kernel
theorem dX8_learn_44 : decode cX8_learn 44 = .ok (.ldc 145, 2) := by decide +kernel
theorem dX8_learn_46 : decode cX8_learn 46 = .ok (.invokespecial 68, 3) := by decide +kernel
theorem dX8_learn_49 : decode cX8_learn 49 = .ok (.athrow, 1) := by decide +kernel
theorem dX8_learn_50 : decode cX8_learn 50 = .ok (.aload_n 3, 1) := by decide +kernel
theorem dX8_learn_51 : decode cX8_learn 51 = .ok (.iload_n 2, 1) := by decide +kernel
theorem dX8_learn_52 : decode cX8_learn 52 = .ok (.aload_n 0, 1) := by decide +kernel
theorem dX8_learn_53 : decode cX8_learn 53 = .ok (.getfield 139, 3) := by decide +kernel
theorem dX8_learn_56 : decode cX8_learn 56 = .ok (.invokevirtual 147, 3) := by decide +kernel
theorem dX8_learn_59 : decode cX8_learn 59 = .ok (.aload_n 3, 1) := by decide +kernel
theorem dX8_learn_60 : decode cX8_learn 60 = .ok (.invokevirtual 151, 3) := by decide +kernel
theorem dX8_learn_63 : decode cX8_learn 63 = .ok (.ireturn, 1) := by decide +kernel
set_option maxRecDepth 20000 in
theorem ggX8_pass_X8_isWithin : GoodIn wsX8_pass wsX8_isWithin := goodIn_r _ [10] (by decide +kernel) (by decide +kernel)
set_option maxRecDepth 20000 in
theorem gX8_pass_X8_isWithin : GoodIn wsX8_pass (va_wsS RX8 97 yX8_isWithin wsX8_isWithin) := goodIn_app (goodIn_of _ (by decide +kernel)) ggX8_pass_X8_isWithin
set_option maxRecDepth 20000 in
theorem ggX8_pass_X2_age : GoodIn wsX8_pass wsX2_age := goodIn_r _ [15, 16, 17, 18, 19, 20, 21, 22, 23, 24, 35, 36, 37] (by decide +kernel) (by decide +kernel)
set_option maxRecDepth 20000 in
theorem gX8_pass_X2_age : GoodIn wsX8_pass (wsV RX8 159 RX2 yX2_age wsX2_age) := goodIn_app (goodIn_of _ (by decide +kernel)) ggX8_pass_X2_age
theorem dX8_pass_0 : decode cX8_pass 0 = .ok (.iload_n 1, 1) := by decide +kernel
theorem dX8_pass_1 : decode cX8_pass 1 = .ok (.iconst 1, 1) := by decide +kernel
theorem dX8_pass_2 : decode cX8_pass 2 = .ok (.bipush 100, 2) := by decide +kernel
theorem dX8_pass_4 : decode cX8_pass 4 = .ok (.invokestatic 97, 3) := by decide +kernel
theorem dX8_pass_7 : decode cX8_pass 7 = .ok (.ifCond .ne 13, 3) := by decide +kernel
theorem dX8_pass_10 : decode cX8_pass 10 = .ok (.new 51, 3) := by decide +kernel
theorem dX8_pass_13 : decode cX8_pass 13 = .ok (.dup, 1) := by decide +kernel
theorem dX8_pass_14 : decode cX8_pass 14 = .ok (.ldc 155, 2) := by decide +kernel
theorem dX8_pass_16 : decode cX8_pass 16 = .ok (.invokespecial 55, 3) := by decide +kernel
theorem dX8_pass_19 : decode cX8_pass 19 = .ok (.athrow, 1) := by decide +kernel
theorem dX8_pass_20 : decode cX8_pass 20 = .ok (.aload_n 0, 1) := by decide +kernel
theorem dX8_pass_21 : decode cX8_pass 21 = .ok (.getfield 139, 3) := by decide +kernel
theorem dX8_pass_24 : decode cX8_pass 24 = .ok (.iload_n 1, 1) := by decide +kernel
theorem dX8_pass_25 : decode cX8_pass 25 = .ok (.iadd, 1) := by decide +kernel
theorem dX8_pass_26 : decode cX8_pass 26 = .ok (.sipush 5000, 3) := by decide +kernel
theorem dX8_pass_29 : decode cX8_pass 29 = .ok (.if_icmp .le 13, 3) := by decide +kernel
theorem dX8_pass_32 : decode cX8_pass 32 = .ok (.new 64, 3) := by decide +kernel
theorem dX8_pass_35 : decode cX8_pass 35 = .ok (.dup, 1) := by decide +kernel
theorem dX8_pass_36 : decode cX8_pass 36 = .ok (.ldc 157, 2) := by decide +kernel
theorem dX8_pass_38 : decode cX8_pass 38 = .ok (.invokespecial 68, 3) := by decide +kernel
theorem dX8_pass_41 : decode cX8_pass 41 = .ok (.athrow, 1) := by decide +kernel
theorem dX8_pass_42 : decode cX8_pass 42 = .ok (.aload_n 0, 1) := by decide +kernel
theorem dX8_pass_43 : decode cX8_pass 43 = .ok (.dup, 1) := by decide +kernel
theorem dX8_pass_44 : decode cX8_pass 44 = .ok (.getfield 139, 3) := by decide +kernel
theorem dX8_pass_47 : decode cX8_pass 47 = .ok (.iload_n 1, 1) := by decide +kernel
theorem dX8_pass_48 : decode cX8_pass 48 = .ok (.iadd, 1) := by decide +kernel
theorem dX8_pass_49 : decode cX8_pass 49 = .ok (.putfield 139, 3) := by decide +kernel
theorem dX8_pass_52 : decode cX8_pass 52 = .ok (.iconst 0, 1) := by decide +kernel
theorem dX8_pass_53 : decode cX8_pass 53 = .ok (.istore_n 2, 1) := by decide +kernel
theorem dX8_pass_54 : decode cX8_pass 54 = .ok (.iload_n 2, 1) := by decide +kernel
theorem dX8_pass_55 : decode cX8_pass 55 = .ok (.aload_n 0, 1) := by decide +kernel
theorem dX8_pass_56 : decode cX8_pass 56 = .ok (.getfield 17, 3) := by decide +kernel
theorem dX8_pass_59 : decode cX8_pass 59 = .ok (.arraylength, 1) := by decide +kernel
theorem dX8_pass_60 : decode cX8_pass 60 = .ok (.if_icmp .ge 28, 3) := by decide +kernel
theorem dX8_pass_63 : decode cX8_pass 63 = .ok (.aload_n 0, 1) := by decide +kernel
theorem dX8_pass_64 : decode cX8_pass 64 = .ok (.getfield 17, 3) := by decide +kernel
theorem dX8_pass_67 : decode cX8_pass 67 = .ok (.iload_n 2, 1) := by decide +kernel
theorem dX8_pass_68 : decode cX8_pass 68 = .ok (.aaload, 1) := by decide +kernel
theorem dX8_pass_69 : decode cX8_pass 69 = .ok (.ifnull 13, 3) := by decide +kernel
theorem dX8_pass_72 : decode cX8_pass 72 = .ok (.aload_n 0, 1) := by decide +kernel
theorem dX8_pass_73 : decode cX8_pass 73 = .ok (.getfield 17, 3) := by decide +kernel
theorem dX8_pass_76 : decode cX8_pass 76 = .ok (.iload_n 2, 1) := by decide +kernel
theorem dX8_pass_77 : decode cX8_pass 77 = .ok (.aaload, 1) := by decide +kernel
theorem dX8_pass_78 : decode cX8_pass 78 = .ok (.iload_n 1, 1) := by decide +kernel
theorem dX8_pass_79 : decode cX8_pass 79 = .ok (.invokevirtual 159, 3) := by decide +kernel
theorem dX8_pass_82 : decode cX8_pass 82 = .ok (.iinc 2 1, 3) := by decide +kernel
theorem dX8_pass_85 : decode cX8_pass 85 = .ok (.goto (-31), 3) := by decide +kernel
theorem dX8_pass_88 : decode cX8_pass 88 = .ok (.aload_n 0, 1) := by decide +kernel
theorem dX8_pass_89 : decode cX8_pass 89 = .ok (.getfield 139, 3) := by decide +kernel
theorem dX8_pass_92 : decode cX8_pass 92 = .ok (.ireturn, 1) := by decide +kernel
set_option maxRecDepth 20000 in
theorem ggX8_duel_X8_isWriter : GoodIn wsX8_duel wsX8_isWriter := goodIn_r _ [17, 18, 19, 16, 20] (by decide +kernel) (by decide +kernel)
set_option maxRecDepth 20000 in
theorem gX8_duel_X8_isWriter : GoodIn wsX8_duel (va_wsS RX8 163 yX8_isWriter wsX8_isWriter) := goodIn_app (goodIn_of _ (by decide +kernel)) ggX8_duel_X8_isWriter
set_option maxRecDepth 20000 in
theorem ggX8_duel_X8_judgeAt : GoodIn wsX8_duel wsX8_judgeAt := goodIn_r _ [24, 25, 52, 53, 54, 55, 56, 57, 58, 59, 60, 61] (by decide +kernel) (by decide +kernel)
set_option maxRecDepth 20000 in
theorem gX8_duel_X8_judgeAt : GoodIn wsX8_duel (wsV RX8 133 RX8 yX8_judgeAt wsX8_judgeAt) := goodIn_app (goodIn_of _ (by decide +kernel)) ggX8_duel_X8_judgeAt
set_option maxRecDepth 20000 in
theorem ggX8_duel_X8_paperAt : GoodIn wsX8_duel wsX8_paperAt := goodIn_r _ [29, 30, 52, 53, 54, 55, 56, 57, 58, 59, 60, 61] (by decide +kernel) (by decide +kernel)
set_option maxRecDepth 20000 in
theorem gX8_duel_X8_paperAt : GoodIn wsX8_duel (wsV RX8 88 RX8 yX8_paperAt wsX8_paperAt) := goodIn_app (goodIn_of _ (by decide +kernel)) ggX8_duel_X8_paperAt
set_option maxRecDepth 20000 in
theorem ggX8_duel_X8_isWithin : GoodIn wsX8_duel wsX8_isWithin := goodIn_r _ [20] (by decide +kernel) (by decide +kernel)
set_option maxRecDepth 20000 in
theorem gX8_duel_X8_isWithin : GoodIn wsX8_duel (va_wsS RX8 97 yX8_isWithin wsX8_isWithin) := goodIn_app (goodIn_of _ (by decide +kernel)) ggX8_duel_X8_isWithin
set_option maxRecDepth 20000 in
theorem ggX8_duel_X0_init : GoodIn wsX8_duel wsX0_init := goodIn_r _ [33, 34, 35, 36, 37, 38, 39, 40, 41, 42, 43, 44, 45, 46, 47, 62, 63, 64, 65, 66, 67, 68, 69, 70, 71] (by decide +kernel) (by decide +kernel)
set_option maxRecDepth 20000 in
theorem gX8_duel_X0_init : GoodIn wsX8_duel (wsX0_init) := ggX8_duel_X0_init
set_option maxRecDepth 20000 in
theorem ggX8_duel_X0_drawPrompts : GoodIn wsX8_duel wsX0_drawPrompts := goodIn_r _ [51, 38, 46, 62, 63, 64, 65, 66, 67, 68, 69, 70, 71] (by decide +kernel) (by decide +kernel)
set_option maxRecDepth 20000 in
theorem gX8_duel_X0_drawPrompts : GoodIn wsX8_duel (wsV RX8 183 RX0 yX0_drawPrompts wsX0_drawPrompts) := goodIn_app (goodIn_of _ (by decide +kernel)) ggX8_duel_X0_drawPrompts
theorem dX8_duel_0 : decode cX8_duel 0 = .ok (.iload_n 1, 1) := by decide +kernel
theorem dX8_duel_1 : decode cX8_duel 1 = .ok (.invokestatic 163, 3) := by decide +kernel
theorem dX8_duel_4 : decode cX8_duel 4 = .ok (.ifCond .eq 10, 3) := by decide +kernel
theorem dX8_duel_7 : decode cX8_duel 7 = .ok (.iload_n 2, 1) := by decide +kernel
theorem dX8_duel_8 : decode cX8_duel 8 = .ok (.invokestatic 163, 3) := by decide +kernel
theorem dX8_duel_11 : decode cX8_duel 11 = .ok (.ifCond .ne 13, 3) := by decide +kernel
theorem dX8_duel_14 : decode cX8_duel 14 = .ok (.new 92, 3) := by decide +kernel
theorem dX8_duel_17 : decode cX8_duel 17 = .ok (.dup, 1) := by decide +kernel
theorem dX8_duel_18 : decode cX8_duel 18 = .ok (.ldc 167, 2) := by decide +kernel
theorem dX8_duel_20 : decode cX8_duel 20 = .ok (.invokespecial 96, 3) := by decide +kernel
theorem dX8_duel_23 : decode cX8_duel 23 = .ok (.athrow, 1) := by decide +kernel
theorem dX8_duel_24 : decode cX8_duel 24 = .ok (.aload_n 0, 1) := by decide +kernel
theorem dX8_duel_25 : decode cX8_duel 25 = .ok (.iload_n 3, 1) := by decide +kernel
theorem dX8_duel_26 : decode cX8_duel 26 = .ok (.invokevirtual 133, 3) := by decide +kernel
theorem dX8_duel_29 : decode cX8_duel 29 = .ok (.ifnull 12, 3) := by decide +kernel
theorem dX8_duel_32 : decode cX8_duel 32 = .ok (.aload_n 0, 1) := by decide +kernel
theorem dX8_duel_33 : decode cX8_duel 33 = .ok (.iload 4, 2) := by decide +kernel
theorem dX8_duel_35 : decode cX8_duel 35 = .ok (.invokevirtual 88, 3) := by decide +kernel
theorem dX8_duel_38 : decode cX8_duel 38 = .ok (.ifnonnull 13, 3) := by decide +kernel
theorem dX8_duel_41 : decode cX8_duel 41 = .ok (.new 92, 3) := by decide +kernel
theorem dX8_duel_44 : decode cX8_duel 44 = .ok (.dup, 1) := by decide +kernel
theorem dX8_duel_45 : decode cX8_duel 45 = .ok (.ldc 169, 2) := by decide +kernel
theorem dX8_duel_47 : decode cX8_duel 47 = .ok (.invokespecial 96, 3) := by decide +kernel
theorem dX8_duel_50 : decode cX8_duel 50 = .ok (.athrow, 1) := by decide +kernel
theorem dX8_duel_51 : decode cX8_duel 51 = .ok (.iload_n 1, 1) := by decide +kernel
theorem dX8_duel_52 : decode cX8_duel 52 = .ok (.iload_n 2, 1) := by decide +kernel
theorem dX8_duel_53 : decode cX8_duel 53 = .ok (.if_icmp .ne 13, 3) := by decide +kernel
theorem dX8_duel_56 : decode cX8_duel 56 = .ok (.new 51, 3) := by decide +kernel
theorem dX8_duel_59 : decode cX8_duel 59 = .ok (.dup, 1) := by decide +kernel
theorem dX8_duel_60 : decode cX8_duel 60 = .ok (.ldc 171, 2) := by decide +kernel
theorem dX8_duel_62 : decode cX8_duel 62 = .ok (.invokespecial 55, 3) := by decide +kernel
theorem dX8_duel_65 : decode cX8_duel 65 = .ok (.athrow, 1) := by decide +kernel
theorem dX8_duel_66 : decode cX8_duel 66 = .ok (.iload 5, 2) := by decide +kernel
theorem dX8_duel_68 : decode cX8_duel 68 = .ok (.iconst 1, 1) := by decide +kernel
theorem dX8_duel_69 : decode cX8_duel 69 = .ok (.iconst 5, 1) := by decide +kernel
theorem dX8_duel_70 : decode cX8_duel 70 = .ok (.invokestatic 97, 3) := by decide +kernel
theorem dX8_duel_73 : decode cX8_duel 73 = .ok (.ifCond .eq 15, 3) := by decide +kernel
theorem dX8_duel_76 : decode cX8_duel 76 = .ok (.iload 6, 2) := by decide +kernel
theorem dX8_duel_78 : decode cX8_duel 78 = .ok (.iconst 0, 1) := by decide +kernel
theorem dX8_duel_79 : decode cX8_duel 79 = .ok (.sipush 999, 3) := by decide +kernel
theorem dX8_duel_82 : decode cX8_duel 82 = .ok (.invokestatic 97, 3) := by decide +kernel
theorem dX8_duel_85 : decode cX8_duel 85 = .ok (.ifCond .ne 13, 3) := by decide +kernel
theorem dX8_duel_88 : decode cX8_duel 88 = .ok (.new 51, 3) := by decide +kernel
theorem dX8_duel_91 : decode cX8_duel 91 = .ok (.dup, 1) := by decide +kernel
theorem dX8_duel_92 : decode cX8_duel 92 = .ok (.ldc 173, 2) := by decide +kernel
theorem dX8_duel_94 : decode cX8_duel 94 = .ok (.invokespecial 55, 3) := by decide +kernel
theorem dX8_duel_97 : decode cX8_duel 97 = .ok (.athrow, 1) := by decide +kernel
theorem dX8_duel_98 : decode cX8_duel 98 = .ok (.aload_n 0, 1) := by decide +kernel
theorem dX8_duel_99 : decode cX8_duel 99 = .ok (.getfield 83, 3) := by decide +kernel
theorem dX8_duel_102 : decode cX8_duel 102 = .ok (.ifCond .eq 15, 3) := by decide +kernel
theorem dX8_duel_105 : decode cX8_duel 105 = .ok (.aload_n 0, 1) := by decide +kernel
theorem dX8_duel_106 : decode cX8_duel 106 = .ok (.getfield 175, 3) := by decide +kernel
theorem dX8_duel_109 : decode cX8_duel 109 = .ok (.aload_n 0, 1) := by decide +kernel
theorem dX8_duel_110 : decode cX8_duel 110 = .ok (.getfield 35, 3) := by decide +kernel
theorem dX8_duel_113 : decode cX8_duel 113 = .ok (.arraylength, 1) := by decide +kernel
theorem dX8_duel_114 : decode cX8_duel 114 = .ok (.if_icmp .lt 13, 3) := by decide +kernel
theorem dX8_duel_117 : decode cX8_duel 117 = .ok (.new 64, 3) := by decide +kernel
theorem dX8_duel_120 : decode cX8_duel 120 = .ok (.dup, 1) := by decide +kernel
theorem dX8_duel_121 : decode cX8_duel 121 = .ok (.ldc 178, 2) := by decide +kernel
theorem dX8_duel_123 : decode cX8_duel 123 = .ok (.invokespecial 68, 3) := by decide +kernel
theorem dX8_duel_126 : decode cX8_duel 126 = .ok (.athrow, 1) := by decide +kernel
theorem dX8_duel_127 : decode cX8_duel 127 = .ok (.aload_n 0, 1) := by decide +kernel
theorem dX8_duel_128 : decode cX8_duel 128 = .ok (.getfield 175, 3) := by decide +kernel
theorem dX8_duel_131 : decode cX8_duel 131 = .ok (.istore 7, 2) := by decide +kernel
theorem dX8_duel_133 : decode cX8_duel 133 = .ok (.new 33, 3) := by decide +kernel
theorem dX8_duel_136 : decode cX8_duel 136 = .ok (.dup, 1) := by decide +kernel
theorem dX8_duel_137 : decode cX8_duel 137 = .ok (.iload_n 1, 1) := by decide +kernel
theorem dX8_duel_138 : decode cX8_duel 138 = .ok (.iload_n 2, 1) := by decide +kernel
theorem dX8_duel_139 : decode cX8_duel 139 = .ok (.iload_n 3, 1) := by decide +kernel
theorem dX8_duel_140 : decode cX8_duel 140 = .ok (.iload 4, 2) := by decide +kernel
theorem dX8_duel_142 : decode cX8_duel 142 = .ok (.iload 5, 2) := by decide +kernel
theorem dX8_duel_144 : decode cX8_duel 144 = .ok (.aload_n 0, 1) := by decide +kernel
theorem dX8_duel_145 : decode cX8_duel 145 = .ok (.getfield 139, 3) := by decide +kernel
theorem dX8_duel_148 : decode cX8_duel 148 = .ok (.invokespecial 180, 3) := by decide +kernel
theorem dX8_duel_151 : decode cX8_duel 151 = .ok (.astore 8, 2) := by decide +kernel
theorem dX8_duel_153 : decode cX8_duel 153 = .ok (.aload 8, 2) := by decide +kernel
theorem dX8_duel_155 : decode cX8_duel 155 = .ok (.iload 6, 2) := by decide +kernel
theorem dX8_duel_157 : decode cX8_duel 157 = .ok (.aload_n 0, 1) := by decide +kernel
theorem dX8_duel_158 : decode cX8_duel 158 = .ok (.getfield 83, 3) := by decide +kernel
theorem dX8_duel_161 : decode cX8_duel 161 = .ok (.invokevirtual 183, 3) := by decide +kernel
theorem dX8_duel_164 : decode cX8_duel 164 = .ok (.aload_n 0, 1) := by decide +kernel
theorem dX8_duel_165 : decode cX8_duel 165 = .ok (.getfield 35, 3) := by decide +kernel
theorem dX8_duel_168 : decode cX8_duel 168 = .ok (.iload 7, 2) := by decide +kernel
theorem dX8_duel_170 : decode cX8_duel 170 = .ok (.aload 8, 2) := by decide +kernel
theorem dX8_duel_172 : decode cX8_duel 172 = .ok (.aastore, 1) := by decide +kernel
theorem dX8_duel_173 : decode cX8_duel 173 = .ok (.aload_n 0, 1) := by decide +kernel
theorem dX8_duel_174 : decode cX8_duel 174 = .ok (.dup, 1) := by decide +kernel
theorem dX8_duel_175 : decode cX8_duel 175 = .ok (.getfield 175, 3) := by decide +kernel
theorem dX8_duel_178 : decode cX8_duel 178 = .ok (.iconst 1, 1) := by decide +kernel
theorem dX8_duel_179 : decode cX8_duel 179 = .ok (.iadd, 1) := by decide +kernel
theorem dX8_duel_180 : decode cX8_duel 180 = .ok (.putfield 175, 3) := by decide +kernel
theorem dX8_duel_183 : decode cX8_duel 183 = .ok (.iload 7, 2) := by decide +kernel
theorem dX8_duel_185 : decode cX8_duel 185 = .ok (.ireturn, 1) := by decide +kernel
set_option maxRecDepth 20000 in
theorem ggX8_hand_X8_duelAt : GoodIn wsX8_hand wsX8_duelAt := goodIn_r _ [21, 22, 132, 133, 134, 135, 136, 137, 138, 139, 140, 141] (by decide +kernel) (by decide +kernel)
set_option maxRecDepth 20000 in
theorem gX8_hand_X8_duelAt : GoodIn wsX8_hand (wsV RX8 186 RX8 yX8_duelAt wsX8_duelAt) := goodIn_app (goodIn_of _ (by decide +kernel)) ggX8_hand_X8_duelAt
set_option maxRecDepth 20000 in
theorem ggX8_hand_X8_isWithin : GoodIn wsX8_hand wsX8_isWithin := goodIn_r _ [25] (by decide +kernel) (by decide +kernel)
set_option maxRecDepth 20000 in
theorem gX8_hand_X8_isWithin : GoodIn wsX8_hand (va_wsS RX8 97 yX8_isWithin wsX8_isWithin) := goodIn_app (goodIn_of _ (by decide +kernel)) ggX8_hand_X8_isWithin
set_option maxRecDepth 20000 in
theorem ggX8_hand_X0_promptAt : GoodIn wsX8_hand wsX0_promptAt := goodIn_r _ [30, 31, 122, 123, 124, 125, 126, 127, 128, 129, 130, 131] (by decide +kernel) (by decide +kernel)
set_option maxRecDepth 20000 in
theorem gX8_hand_X0_promptAt : GoodIn wsX8_hand (wsV RX8 197 RX0 yX0_promptAt wsX0_promptAt) := goodIn_app (goodIn_of _ (by decide +kernel)) ggX8_hand_X0_promptAt
set_option maxRecDepth 20000 in
theorem ggX8_hand_X8_signAt : GoodIn wsX8_hand wsX8_signAt := goodIn_r _ [35, 36, 132, 133, 134, 135, 136, 137, 138, 139, 140, 141] (by decide +kernel) (by decide +kernel)
set_option maxRecDepth 20000 in
theorem gX8_hand_X8_signAt : GoodIn wsX8_hand (wsV RX8 201 RX8 yX8_signAt wsX8_signAt) := goodIn_app (goodIn_of _ (by decide +kernel)) ggX8_hand_X8_signAt
set_option maxRecDepth 20000 in
theorem ggX8_hand_X0_isOver : GoodIn wsX8_hand wsX0_isOver := goodIn_r _ [40, 41, 42, 122, 123, 124, 125, 126, 127, 128, 129, 130, 131] (by decide +kernel) (by decide +kernel)
set_option maxRecDepth 20000 in
theorem gX8_hand_X0_isOver : GoodIn wsX8_hand (wsV RX8 205 RX0 yX0_isOver wsX0_isOver) := goodIn_app (goodIn_of _ (by decide +kernel)) ggX8_hand_X0_isOver
set_option maxRecDepth 20000 in
theorem ggX8_hand_X8_paperAt : GoodIn wsX8_hand wsX8_paperAt := goodIn_r _ [46, 47, 132, 133, 134, 135, 136, 137, 138, 139, 140, 141] (by decide +kernel) (by decide +kernel)
set_option maxRecDepth 20000 in
theorem gX8_hand_X8_paperAt : GoodIn wsX8_hand (wsV RX8 88 RX8 yX8_paperAt wsX8_paperAt) := goodIn_app (goodIn_of _ (by decide +kernel)) ggX8_hand_X8_paperAt
set_option maxRecDepth 20000 in
theorem ggX8_hand_X0_nextWriter : GoodIn wsX8_hand wsX0_nextWriter := goodIn_r _ [51, 41, 52, 53, 122, 123, 124, 125, 126, 127, 128, 129, 130, 131] (by decide +kernel) (by decide +kernel)
set_option maxRecDepth 20000 in
theorem gX8_hand_X0_nextWriter : GoodIn wsX8_hand (wsV RX8 219 RX0 yX0_nextWriter wsX0_nextWriter) := goodIn_app (goodIn_of _ (by decide +kernel)) ggX8_hand_X0_nextWriter
set_option maxRecDepth 20000 in
theorem ggX8_hand_X8_rightSeal : GoodIn wsX8_hand wsX8_rightSeal := goodIn_r _ [56] (by decide +kernel) (by decide +kernel)
set_option maxRecDepth 20000 in
theorem gX8_hand_X8_rightSeal : GoodIn wsX8_hand (va_wsS RX8 222 yX8_rightSeal wsX8_rightSeal) := goodIn_app (goodIn_of _ (by decide +kernel)) ggX8_hand_X8_rightSeal
set_option maxRecDepth 20000 in
theorem ggX8_hand_X7_init : GoodIn wsX8_hand wsX7_init := goodIn_r _ [59, 60, 61, 62, 63, 64, 65, 66, 67, 68, 69, 70, 71, 72, 73, 74, 75, 76, 77, 78, 79, 80, 81, 82, 83, 84, 85, 86, 87, 88, 89, 90, 91, 92, 93, 94, 95, 96, 97, 98, 99, 100, 101, 102, 103, 104, 105, 106, 107, 108, 109, 110, 111, 112, 147, 148, 149, 150, 142, 143, 151, 152, 153, 154, 155, 156, 157] (by decide +kernel) (by decide +kernel)
set_option maxRecDepth 20000 in
theorem gX8_hand_X7_init : GoodIn wsX8_hand (wsX7_init) := ggX8_hand_X7_init
set_option maxRecDepth 20000 in
theorem ggX8_hand_X0_add : GoodIn wsX8_hand wsX0_add := goodIn_r _ [116, 41, 117, 122, 123, 124, 125, 126, 127, 128, 129, 130, 131] (by decide +kernel) (by decide +kernel)
set_option maxRecDepth 20000 in
theorem gX8_hand_X0_add : GoodIn wsX8_hand (wsV RX8 231 RX0 yX0_add wsX0_add) := goodIn_app (goodIn_of _ (by decide +kernel)) ggX8_hand_X0_add
set_option maxRecDepth 20000 in
theorem ggX8_hand_X5_empty : GoodIn wsX8_hand wsX5_empty := goodIn_r _ [121, 81, 142, 143] (by decide +kernel) (by decide +kernel)
end
section
set_option maxRecDepth 20000 in
theorem gX8_hand_X5_empty : GoodIn wsX8_hand (wsV RX8 78 RX5 yX5_empty wsX5_empty) := goodIn_app (goodIn_of _ (by decide +kernel)) ggX8_hand_X5_empty
theorem dX8_hand_0 : decode cX8_hand 0 = .ok (.aload_n 0, 1) := by decide +kernel
theorem dX8_hand_1 : decode cX8_hand 1 = .ok (.iload_n 1, 1) := by decide +kernel
theorem dX8_hand_2 : decode cX8_hand 2 = .ok (.invokevirtual 186, 3) := by decide +kernel
theorem dX8_hand_5 : decode cX8_hand 5 = .ok (.astore_n 3, 1) := by decide +kernel
theorem dX8_hand_6 : decode cX8_hand 6 = .ok (.aload_n 3, 1) := by decide +kernel
theorem dX8_hand_7 : decode cX8_hand 7 = .ok (.ifnonnull 13, 3) := by decide +kernel
theorem dX8_hand_10 : decode cX8_hand 10 = .ok (.new 92, 3) := by decide +kernel
theorem dX8_hand_13 : decode cX8_hand 13 = .ok (.dup, 1) := by decide +kernel
theorem dX8_hand_14 : decode cX8_hand 14 = .ok (.ldc 190, 2) := by decide +kernel
theorem dX8_hand_16 : decode cX8_hand 16 = .ok (.invokespecial 96, 3) := by decide +kernel
theorem dX8_hand_19 : decode cX8_hand 19 = .ok (.athrow, 1) := by decide +kernel
theorem dX8_hand_20 : decode cX8_hand 20 = .ok (.iload_n 2, 1) := by decide +kernel
theorem dX8_hand_21 : decode cX8_hand 21 = .ok (.iconst 0, 1) := by decide +kernel
theorem dX8_hand_22 : decode cX8_hand 22 = .ok (.sipush 999, 3) := by decide +kernel
theorem dX8_hand_25 : decode cX8_hand 25 = .ok (.invokestatic 97, 3) := by decide +kernel
theorem dX8_hand_28 : decode cX8_hand 28 = .ok (.ifCond .ne 13, 3) := by decide +kernel
theorem dX8_hand_31 : decode cX8_hand 31 = .ok (.new 51, 3) := by decide +kernel
theorem dX8_hand_34 : decode cX8_hand 34 = .ok (.dup, 1) := by decide +kernel
theorem dX8_hand_35 : decode cX8_hand 35 = .ok (.ldc 192, 2) := by decide +kernel
theorem dX8_hand_37 : decode cX8_hand 37 = .ok (.invokespecial 55, 3) := by decide +kernel
theorem dX8_hand_40 : decode cX8_hand 40 = .ok (.athrow, 1) := by decide +kernel
theorem dX8_hand_41 : decode cX8_hand 41 = .ok (.aload_n 0, 1) := by decide +kernel
theorem dX8_hand_42 : decode cX8_hand 42 = .ok (.aload_n 3, 1) := by decide +kernel
theorem dX8_hand_43 : decode cX8_hand 43 = .ok (.aload_n 3, 1) := by decide +kernel
theorem dX8_hand_44 : decode cX8_hand 44 = .ok (.getfield 194, 3) := by decide +kernel
theorem dX8_hand_47 : decode cX8_hand 47 = .ok (.iconst 2, 1) := by decide +kernel
theorem dX8_hand_48 : decode cX8_hand 48 = .ok (.idiv, 1) := by decide +kernel
theorem dX8_hand_49 : decode cX8_hand 49 = .ok (.invokevirtual 197, 3) := by decide +kernel
theorem dX8_hand_52 : decode cX8_hand 52 = .ok (.invokevirtual 201, 3) := by decide +kernel
theorem dX8_hand_55 : decode cX8_hand 55 = .ok (.astore 4, 2) := by decide +kernel
theorem dX8_hand_57 : decode cX8_hand 57 = .ok (.aload_n 3, 1) := by decide +kernel
theorem dX8_hand_58 : decode cX8_hand 58 = .ok (.invokevirtual 205, 3) := by decide +kernel
theorem dX8_hand_61 : decode cX8_hand 61 = .ok (.ifCond .ne 8, 3) := by decide +kernel
theorem dX8_hand_64 : decode cX8_hand 64 = .ok (.aload 4, 2) := by decide +kernel
theorem dX8_hand_66 : decode cX8_hand 66 = .ok (.ifnonnull 13, 3) := by decide +kernel
theorem dX8_hand_69 : decode cX8_hand 69 = .ok (.new 64, 3) := by decide +kernel
theorem dX8_hand_72 : decode cX8_hand 72 = .ok (.dup, 1) := by decide +kernel
theorem dX8_hand_73 : decode cX8_hand 73 = .ok (.ldc 209, 2) := by decide +kernel
theorem dX8_hand_75 : decode cX8_hand 75 = .ok (.invokespecial 68, 3) := by decide +kernel
theorem dX8_hand_78 : decode cX8_hand 78 = .ok (.athrow, 1) := by decide +kernel
theorem dX8_hand_79 : decode cX8_hand 79 = .ok (.aload_n 0, 1) := by decide +kernel
theorem dX8_hand_80 : decode cX8_hand 80 = .ok (.aload_n 3, 1) := by decide +kernel
theorem dX8_hand_81 : decode cX8_hand 81 = .ok (.getfield 211, 3) := by decide +kernel
theorem dX8_hand_84 : decode cX8_hand 84 = .ok (.invokevirtual 88, 3) := by decide +kernel
theorem dX8_hand_87 : decode cX8_hand 87 = .ok (.astore 5, 2) := by decide +kernel
theorem dX8_hand_89 : decode cX8_hand 89 = .ok (.aload_n 0, 1) := by decide +kernel
theorem dX8_hand_90 : decode cX8_hand 90 = .ok (.getfield 40, 3) := by decide +kernel
theorem dX8_hand_93 : decode cX8_hand 93 = .ok (.getfield 60, 3) := by decide +kernel
theorem dX8_hand_96 : decode cX8_hand 96 = .ok (.ifCond .eq 16, 3) := by decide +kernel
theorem dX8_hand_99 : decode cX8_hand 99 = .ok (.aload 5, 2) := by decide +kernel
theorem dX8_hand_101 : decode cX8_hand 101 = .ok (.ifnull 11, 3) := by decide +kernel
theorem dX8_hand_104 : decode cX8_hand 104 = .ok (.aload 5, 2) := by decide +kernel
theorem dX8_hand_106 : decode cX8_hand 106 = .ok (.getfield 103, 3) := by decide +kernel
theorem dX8_hand_109 : decode cX8_hand 109 = .ok (.ifCond .gt 13, 3) := by decide +kernel
theorem dX8_hand_112 : decode cX8_hand 112 = .ok (.new 64, 3) := by decide +kernel
theorem dX8_hand_115 : decode cX8_hand 115 = .ok (.dup, 1) := by decide +kernel
theorem dX8_hand_116 : decode cX8_hand 116 = .ok (.ldc 214, 2) := by decide +kernel
theorem dX8_hand_118 : decode cX8_hand 118 = .ok (.invokespecial 68, 3) := by decide +kernel
theorem dX8_hand_121 : decode cX8_hand 121 = .ok (.athrow, 1) := by decide +kernel
theorem dX8_hand_122 : decode cX8_hand 122 = .ok (.aload 5, 2) := by decide +kernel
theorem dX8_hand_124 : decode cX8_hand 124 = .ok (.dup, 1) := by decide +kernel
theorem dX8_hand_125 : decode cX8_hand 125 = .ok (.getfield 103, 3) := by decide +kernel
theorem dX8_hand_128 : decode cX8_hand 128 = .ok (.iconst 1, 1) := by decide +kernel
theorem dX8_hand_129 : decode cX8_hand 129 = .ok (.isub, 1) := by decide +kernel
theorem dX8_hand_130 : decode cX8_hand 130 = .ok (.putfield 103, 3) := by decide +kernel
theorem dX8_hand_133 : decode cX8_hand 133 = .ok (.aload_n 0, 1) := by decide +kernel
theorem dX8_hand_134 : decode cX8_hand 134 = .ok (.dup, 1) := by decide +kernel
theorem dX8_hand_135 : decode cX8_hand 135 = .ok (.getfield 216, 3) := by decide +kernel
theorem dX8_hand_138 : decode cX8_hand 138 = .ok (.iconst 1, 1) := by decide +kernel
theorem dX8_hand_139 : decode cX8_hand 139 = .ok (.iadd, 1) := by decide +kernel
theorem dX8_hand_140 : decode cX8_hand 140 = .ok (.putfield 216, 3) := by decide +kernel
theorem dX8_hand_143 : decode cX8_hand 143 = .ok (.iload_n 2, 1) := by decide +kernel
theorem dX8_hand_144 : decode cX8_hand 144 = .ok (.aload_n 3, 1) := by decide +kernel
theorem dX8_hand_145 : decode cX8_hand 145 = .ok (.invokevirtual 219, 3) := by decide +kernel
theorem dX8_hand_148 : decode cX8_hand 148 = .ok (.aload_n 0, 1) := by decide +kernel
theorem dX8_hand_149 : decode cX8_hand 149 = .ok (.getfield 216, 3) := by decide +kernel
theorem dX8_hand_152 : decode cX8_hand 152 = .ok (.invokestatic 222, 3) := by decide +kernel
theorem dX8_hand_155 : decode cX8_hand 155 = .ok (.if_icmp .eq 7, 3) := by decide +kernel
theorem dX8_hand_158 : decode cX8_hand 158 = .ok (.iconst 1, 1) := by decide +kernel
theorem dX8_hand_159 : decode cX8_hand 159 = .ok (.goto 4, 3) := by decide +kernel
theorem dX8_hand_162 : decode cX8_hand 162 = .ok (.iconst 0, 1) := by decide +kernel
theorem dX8_hand_163 : decode cX8_hand 163 = .ok (.istore 6, 2) := by decide +kernel
theorem dX8_hand_165 : decode cX8_hand 165 = .ok (.aload_n 3, 1) := by decide +kernel
theorem dX8_hand_166 : decode cX8_hand 166 = .ok (.new 226, 3) := by decide +kernel
theorem dX8_hand_169 : decode cX8_hand 169 = .ok (.dup, 1) := by decide +kernel
theorem dX8_hand_170 : decode cX8_hand 170 = .ok (.aload_n 0, 1) := by decide +kernel
theorem dX8_hand_171 : decode cX8_hand 171 = .ok (.getfield 40, 3) := by decide +kernel
theorem dX8_hand_174 : decode cX8_hand 174 = .ok (.aload 4, 2) := by decide +kernel
theorem dX8_hand_176 : decode cX8_hand 176 = .ok (.aload 5, 2) := by decide +kernel
theorem dX8_hand_178 : decode cX8_hand 178 = .ok (.getfield 113, 3) := by decide +kernel
theorem dX8_hand_181 : decode cX8_hand 181 = .ok (.iload 6, 2) := by decide +kernel
theorem dX8_hand_183 : decode cX8_hand 183 = .ok (.invokespecial 228, 3) := by decide +kernel
theorem dX8_hand_186 : decode cX8_hand 186 = .ok (.invokevirtual 231, 3) := by decide +kernel
theorem dX8_hand_189 : decode cX8_hand 189 = .ok (.aload_n 0, 1) := by decide +kernel
theorem dX8_hand_190 : decode cX8_hand 190 = .ok (.getfield 40, 3) := by decide +kernel
theorem dX8_hand_193 : decode cX8_hand 193 = .ok (.invokevirtual 78, 3) := by decide +kernel
theorem dX8_hand_196 : decode cX8_hand 196 = .ok (.aload_n 0, 1) := by decide +kernel
theorem dX8_hand_197 : decode cX8_hand 197 = .ok (.getfield 216, 3) := by decide +kernel
theorem dX8_hand_200 : decode cX8_hand 200 = .ok (.ireturn, 1) := by decide +kernel
set_option maxRecDepth 20000 in
theorem ggX8_look_X8_duelAt : GoodIn wsX8_look wsX8_duelAt := goodIn_r _ [9, 10, 21, 22, 23, 24, 25, 26, 27, 28, 29, 30] (by decide +kernel) (by decide +kernel)
set_option maxRecDepth 20000 in
theorem gX8_look_X8_duelAt : GoodIn wsX8_look (wsV RX8 186 RX8 yX8_duelAt wsX8_duelAt) := goodIn_app (goodIn_of _ (by decide +kernel)) ggX8_look_X8_duelAt
set_option maxRecDepth 20000 in
theorem ggX8_look_X0_writingAt : GoodIn wsX8_look wsX0_writingAt := goodIn_r _ [15, 16, 31, 32, 33, 34, 35, 36, 37, 38, 39, 40] (by decide +kernel) (by decide +kernel)
set_option maxRecDepth 20000 in
theorem gX8_look_X0_writingAt : GoodIn wsX8_look (wsV RX8 234 RX0 yX0_writingAt wsX0_writingAt) := goodIn_app (goodIn_of _ (by decide +kernel)) ggX8_look_X0_writingAt
theorem dX8_look_0 : decode cX8_look 0 = .ok (.aload_n 0, 1) := by decide +kernel
theorem dX8_look_1 : decode cX8_look 1 = .ok (.iload_n 1, 1) := by decide +kernel
theorem dX8_look_2 : decode cX8_look 2 = .ok (.invokevirtual 186, 3) := by decide +kernel
theorem dX8_look_5 : decode cX8_look 5 = .ok (.astore 4, 2) := by decide +kernel
theorem dX8_look_7 : decode cX8_look 7 = .ok (.aload 4, 2) := by decide +kernel
theorem dX8_look_9 : decode cX8_look 9 = .ok (.ifnonnull 7, 3) := by decide +kernel
theorem dX8_look_12 : decode cX8_look 12 = .ok (.aconst_null, 1) := by decide +kernel
theorem dX8_look_13 : decode cX8_look 13 = .ok (.goto 10, 3) := by decide +kernel
theorem dX8_look_16 : decode cX8_look 16 = .ok (.aload 4, 2) := by decide +kernel
theorem dX8_look_18 : decode cX8_look 18 = .ok (.iload_n 2, 1) := by decide +kernel
theorem dX8_look_19 : decode cX8_look 19 = .ok (.iload_n 3, 1) := by decide +kernel
theorem dX8_look_20 : decode cX8_look 20 = .ok (.invokevirtual 234, 3) := by decide +kernel
theorem dX8_look_23 : decode cX8_look 23 = .ok (.astore 5, 2) := by decide +kernel
theorem dX8_look_25 : decode cX8_look 25 = .ok (.aload 5, 2) := by decide +kernel
theorem dX8_look_27 : decode cX8_look 27 = .ok (.ifnonnull 13, 3) := by decide +kernel
theorem dX8_look_30 : decode cX8_look 30 = .ok (.new 92, 3) := by decide +kernel
theorem dX8_look_33 : decode cX8_look 33 = .ok (.dup, 1) := by decide +kernel
theorem dX8_look_34 : decode cX8_look 34 = .ok (.ldc 238, 2) := by decide +kernel
theorem dX8_look_36 : decode cX8_look 36 = .ok (.invokespecial 96, 3) := by decide +kernel
theorem dX8_look_39 : decode cX8_look 39 = .ok (.athrow, 1) := by decide +kernel
theorem dX8_look_40 : decode cX8_look 40 = .ok (.aload 5, 2) := by decide +kernel
theorem dX8_look_42 : decode cX8_look 42 = .ok (.aload 5, 2) := by decide +kernel
theorem dX8_look_44 : decode cX8_look 44 = .ok (.getfield 240, 3) := by decide +kernel
theorem dX8_look_47 : decode cX8_look 47 = .ok (.putfield 244, 3) := by decide +kernel
theorem dX8_look_50 : decode cX8_look 50 = .ok (.aload 5, 2) := by decide +kernel
theorem dX8_look_52 : decode cX8_look 52 = .ok (.getfield 240, 3) := by decide +kernel
theorem dX8_look_55 : decode cX8_look 55 = .ok (.ireturn, 1) := by decide +kernel
set_option maxRecDepth 20000 in
theorem ggX8_appeal_X8_duelAt : GoodIn wsX8_appeal wsX8_duelAt := goodIn_r _ [11, 12, 86, 87, 88, 89, 90, 91, 92, 93, 94, 95] (by decide +kernel) (by decide +kernel)
set_option maxRecDepth 20000 in
theorem gX8_appeal_X8_duelAt : GoodIn wsX8_appeal (wsV RX8 186 RX8 yX8_duelAt wsX8_duelAt) := goodIn_app (goodIn_of _ (by decide +kernel)) ggX8_appeal_X8_duelAt
set_option maxRecDepth 20000 in
theorem ggX8_appeal_X8_judgeAt : GoodIn wsX8_appeal wsX8_judgeAt := goodIn_r _ [16, 17, 86, 87, 88, 89, 90, 91, 92, 93, 94, 95] (by decide +kernel) (by decide +kernel)
set_option maxRecDepth 20000 in
theorem gX8_appeal_X8_judgeAt : GoodIn wsX8_appeal (wsV RX8 133 RX8 yX8_judgeAt wsX8_judgeAt) := goodIn_app (goodIn_of _ (by decide +kernel)) ggX8_appeal_X8_judgeAt
set_option maxRecDepth 20000 in
theorem ggX8_appeal_X0_isOver : GoodIn wsX8_appeal wsX0_isOver := goodIn_r _ [22, 23, 24, 76, 77, 78, 79, 80, 81, 82, 83, 84, 85] (by decide +kernel) (by decide +kernel)
set_option maxRecDepth 20000 in
theorem gX8_appeal_X0_isOver : GoodIn wsX8_appeal (wsV RX8 205 RX0 yX0_isOver wsX0_isOver) := goodIn_app (goodIn_of _ (by decide +kernel)) ggX8_appeal_X0_isOver
set_option maxRecDepth 20000 in
theorem ggX8_appeal_X8_winnerOf : GoodIn wsX8_appeal wsX8_winnerOf := goodIn_r _ [28, 29, 30, 18, 19, 20, 21, 22, 23, 24, 31, 32, 33, 10, 34, 35, 36, 37, 38, 39, 40, 41, 42, 43, 44, 6, 45, 5, 13, 14, 15, 16, 17, 46, 47, 48, 49, 50, 51, 52, 53, 54, 55, 56, 57, 58, 59, 60, 61, 62, 63, 64, 65, 66, 67, 68, 69, 70, 71, 72, 73, 74, 75, 76, 77, 78, 79, 80, 81, 82, 83, 84, 85, 96, 97, 98, 99, 86, 87, 88, 89, 90, 91, 92, 93, 94, 95, 100, 101, 102, 103, 104, 105, 106] (by decide +kernel) (by decide +kernel)
set_option maxRecDepth 20000 in
theorem gX8_appeal_X8_winnerOf : GoodIn wsX8_appeal (wsV RX8 257 RX8 yX8_winnerOf wsX8_winnerOf) := goodIn_app (goodIn_of _ (by decide +kernel)) ggX8_appeal_X8_winnerOf
theorem dX8_appeal_0 : decode cX8_appeal 0 = .ok (.aload_n 0, 1) := by decide +kernel
theorem dX8_appeal_1 : decode cX8_appeal 1 = .ok (.iload_n 1, 1) := by decide +kernel
theorem dX8_appeal_2 : decode cX8_appeal 2 = .ok (.invokevirtual 186, 3) := by decide +kernel
theorem dX8_appeal_5 : decode cX8_appeal 5 = .ok (.astore_n 3, 1) := by decide +kernel
theorem dX8_appeal_6 : decode cX8_appeal 6 = .ok (.aload_n 3, 1) := by decide +kernel
theorem dX8_appeal_7 : decode cX8_appeal 7 = .ok (.ifnull 11, 3) := by decide +kernel
theorem dX8_appeal_10 : decode cX8_appeal 10 = .ok (.aload_n 0, 1) := by decide +kernel
theorem dX8_appeal_11 : decode cX8_appeal 11 = .ok (.iload_n 2, 1) := by decide +kernel
theorem dX8_appeal_12 : decode cX8_appeal 12 = .ok (.invokevirtual 133, 3) := by decide +kernel
theorem dX8_appeal_15 : decode cX8_appeal 15 = .ok (.ifnonnull 13, 3) := by decide +kernel
theorem dX8_appeal_18 : decode cX8_appeal 18 = .ok (.new 92, 3) := by decide +kernel
theorem dX8_appeal_21 : decode cX8_appeal 21 = .ok (.dup, 1) := by decide +kernel
theorem dX8_appeal_22 : decode cX8_appeal 22 = .ok (.ldc 247, 2) := by decide +kernel
theorem dX8_appeal_24 : decode cX8_appeal 24 = .ok (.invokespecial 96, 3) := by decide +kernel
theorem dX8_appeal_27 : decode cX8_appeal 27 = .ok (.athrow, 1) := by decide +kernel
theorem dX8_appeal_28 : decode cX8_appeal 28 = .ok (.aload_n 3, 1) := by decide +kernel
theorem dX8_appeal_29 : decode cX8_appeal 29 = .ok (.invokevirtual 205, 3) := by decide +kernel
theorem dX8_appeal_32 : decode cX8_appeal 32 = .ok (.ifCond .eq 19, 3) := by decide +kernel
theorem dX8_appeal_35 : decode cX8_appeal 35 = .ok (.aload_n 3, 1) := by decide +kernel
theorem dX8_appeal_36 : decode cX8_appeal 36 = .ok (.getfield 249, 3) := by decide +kernel
theorem dX8_appeal_39 : decode cX8_appeal 39 = .ok (.iconst (-1), 1) := by decide +kernel
theorem dX8_appeal_40 : decode cX8_appeal 40 = .ok (.if_icmp .ne 11, 3) := by decide +kernel
theorem dX8_appeal_43 : decode cX8_appeal 43 = .ok (.iload_n 2, 1) := by decide +kernel
theorem dX8_appeal_44 : decode cX8_appeal 44 = .ok (.aload_n 3, 1) := by decide +kernel
theorem dX8_appeal_45 : decode cX8_appeal 45 = .ok (.getfield 252, 3) := by decide +kernel
theorem dX8_appeal_48 : decode cX8_appeal 48 = .ok (.if_icmp .ne 13, 3) := by decide +kernel
theorem dX8_appeal_51 : decode cX8_appeal 51 = .ok (.new 64, 3) := by decide +kernel
theorem dX8_appeal_54 : decode cX8_appeal 54 = .ok (.dup, 1) := by decide +kernel
theorem dX8_appeal_55 : decode cX8_appeal 55 = .ok (.ldc 255, 2) := by decide +kernel
theorem dX8_appeal_57 : decode cX8_appeal 57 = .ok (.invokespecial 68, 3) := by decide +kernel
theorem dX8_appeal_60 : decode cX8_appeal 60 = .ok (.athrow, 1) := by decide +kernel
theorem dX8_appeal_61 : decode cX8_appeal 61 = .ok (.aload_n 3, 1) := by decide +kernel
theorem dX8_appeal_62 : decode cX8_appeal 62 = .ok (.iload_n 2, 1) := by decide +kernel
theorem dX8_appeal_63 : decode cX8_appeal 63 = .ok (.putfield 249, 3) := by decide +kernel
theorem dX8_appeal_66 : decode cX8_appeal 66 = .ok (.aload_n 0, 1) := by decide +kernel
theorem dX8_appeal_67 : decode cX8_appeal 67 = .ok (.aload_n 3, 1) := by decide +kernel
theorem dX8_appeal_68 : decode cX8_appeal 68 = .ok (.invokevirtual 257, 3) := by decide +kernel
theorem dX8_appeal_71 : decode cX8_appeal 71 = .ok (.ireturn, 1) := by decide +kernel
set_option maxRecDepth 20000 in
theorem ggX8_prompt_X8_duelAt : GoodIn wsX8_prompt wsX8_duelAt := goodIn_r _ [7, 8, 15, 16, 17, 18, 19, 20, 21, 22, 23, 24] (by decide +kernel) (by decide +kernel)
set_option maxRecDepth 20000 in
theorem gX8_prompt_X8_duelAt : GoodIn wsX8_prompt (wsV RX8 186 RX8 yX8_duelAt wsX8_duelAt) := goodIn_app (goodIn_of _ (by decide +kernel)) ggX8_prompt_X8_duelAt
set_option maxRecDepth 20000 in
theorem ggX8_prompt_X0_promptAt : GoodIn wsX8_prompt wsX0_promptAt := goodIn_r _ [13, 14, 25, 26, 27, 28, 29, 30, 31, 32, 33, 34] (by decide +kernel) (by decide +kernel)
set_option maxRecDepth 20000 in
theorem gX8_prompt_X0_promptAt : GoodIn wsX8_prompt (wsV RX8 197 RX0 yX0_promptAt wsX0_promptAt) := goodIn_app (goodIn_of _ (by decide +kernel)) ggX8_prompt_X0_promptAt
theorem dX8_prompt_0 : decode cX8_prompt 0 = .ok (.aload_n 0, 1) := by decide +kernel
theorem dX8_prompt_1 : decode cX8_prompt 1 = .ok (.iload_n 1, 1) := by decide +kernel
theorem dX8_prompt_2 : decode cX8_prompt 2 = .ok (.invokevirtual 186, 3) := by decide +kernel
theorem dX8_prompt_5 : decode cX8_prompt 5 = .ok (.astore_n 3, 1) := by decide +kernel
theorem dX8_prompt_6 : decode cX8_prompt 6 = .ok (.aload_n 3, 1) := by decide +kernel
theorem dX8_prompt_7 : decode cX8_prompt 7 = .ok (.ifnonnull 7, 3) := by decide +kernel
theorem dX8_prompt_10 : decode cX8_prompt 10 = .ok (.iconst (-1), 1) := by decide +kernel
theorem dX8_prompt_11 : decode cX8_prompt 11 = .ok (.goto 8, 3) := by decide +kernel
theorem dX8_prompt_14 : decode cX8_prompt 14 = .ok (.aload_n 3, 1) := by decide +kernel
theorem dX8_prompt_15 : decode cX8_prompt 15 = .ok (.iload_n 2, 1) := by decide +kernel
theorem dX8_prompt_16 : decode cX8_prompt 16 = .ok (.invokevirtual 197, 3) := by decide +kernel
theorem dX8_prompt_19 : decode cX8_prompt 19 = .ok (.istore 4, 2) := by decide +kernel
theorem dX8_prompt_21 : decode cX8_prompt 21 = .ok (.iload 4, 2) := by decide +kernel
theorem dX8_prompt_23 : decode cX8_prompt 23 = .ok (.iconst (-1), 1) := by decide +kernel
theorem dX8_prompt_24 : decode cX8_prompt 24 = .ok (.if_icmp .ne 14, 3) := by decide +kernel
theorem dX8_prompt_27 : decode cX8_prompt 27 = .ok (.new 92, 3) := by decide +kernel
theorem dX8_prompt_30 : decode cX8_prompt 30 = .ok (.dup, 1) := by decide +kernel
theorem dX8_prompt_31 : decode cX8_prompt 31 = .ok (.ldc_w 261, 3) := by decide +kernel
theorem dX8_prompt_34 : decode cX8_prompt 34 = .ok (.invokespecial 96, 3) := by decide +kernel
theorem dX8_prompt_37 : decode cX8_prompt 37 = .ok (.athrow, 1) := by decide +kernel
theorem dX8_prompt_38 : decode cX8_prompt 38 = .ok (.iload 4, 2) := by decide +kernel
theorem dX8_prompt_40 : decode cX8_prompt 40 = .ok (.ireturn, 1) := by decide +kernel
set_option maxRecDepth 20000 in
theorem ggX8_mark_X8_signAt : GoodIn wsX8_mark wsX8_signAt := goodIn_r _ [11, 12, 90, 91, 92, 93, 94, 95, 96, 97, 98, 99] (by decide +kernel) (by decide +kernel)
set_option maxRecDepth 20000 in
theorem gX8_mark_X8_signAt : GoodIn wsX8_mark (wsV RX8 201 RX8 yX8_signAt wsX8_signAt) := goodIn_app (goodIn_of _ (by decide +kernel)) ggX8_mark_X8_signAt
set_option maxRecDepth 20000 in
theorem ggX8_mark_X8_styleAt : GoodIn wsX8_mark wsX8_styleAt := goodIn_r _ [16, 17, 90, 91, 92, 93, 94, 95, 96, 97, 98, 99] (by decide +kernel) (by decide +kernel)
set_option maxRecDepth 20000 in
theorem gX8_mark_X8_styleAt : GoodIn wsX8_mark (wsV RX8 116 RX8 yX8_styleAt wsX8_styleAt) := goodIn_app (goodIn_of _ (by decide +kernel)) ggX8_mark_X8_styleAt
set_option maxRecDepth 20000 in
theorem ggX8_mark_X7_init : GoodIn wsX8_mark wsX7_init := goodIn_r _ [20, 21, 22, 23, 24, 25, 26, 27, 28, 29, 30, 31, 32, 33, 34, 35, 36, 37, 38, 39, 40, 41, 42, 43, 44, 45, 46, 47, 48, 49, 50, 51, 52, 53, 54, 55, 56, 57, 58, 59, 60, 61, 62, 63, 64, 65, 66, 67, 68, 69, 70, 71, 72, 73, 86, 87, 88, 89, 100, 101, 102, 103, 104, 105, 106, 107, 108] (by decide +kernel) (by decide +kernel)
set_option maxRecDepth 20000 in
theorem gX8_mark_X7_init : GoodIn wsX8_mark (wsX7_init) := ggX8_mark_X7_init
set_option maxRecDepth 20000 in
theorem ggX8_mark_X7_markBy : GoodIn wsX8_mark wsX7_markBy := goodIn_r _ [77, 27, 25, 78, 79, 80, 31, 81, 82, 71, 83, 72, 84, 73, 85, 86, 87, 88, 89, 109, 110, 111, 102, 103, 104] (by decide +kernel) (by decide +kernel)
set_option maxRecDepth 20000 in
theorem gX8_mark_X7_markBy : GoodIn wsX8_mark (wsV RX8 265 RX7 yX7_markBy wsX7_markBy) := goodIn_app (goodIn_of _ (by decide +kernel)) ggX8_mark_X7_markBy
theorem dX8_mark_0 : decode cX8_mark 0 = .ok (.aload_n 0, 1) := by decide +kernel
theorem dX8_mark_1 : decode cX8_mark 1 = .ok (.iload_n 1, 1) := by decide +kernel
theorem dX8_mark_2 : decode cX8_mark 2 = .ok (.invokevirtual 201, 3) := by decide +kernel
theorem dX8_mark_5 : decode cX8_mark 5 = .ok (.astore_n 3, 1) := by decide +kernel
theorem dX8_mark_6 : decode cX8_mark 6 = .ok (.aload_n 0, 1) := by decide +kernel
theorem dX8_mark_7 : decode cX8_mark 7 = .ok (.iload_n 2, 1) := by decide +kernel
theorem dX8_mark_8 : decode cX8_mark 8 = .ok (.invokevirtual 116, 3) := by decide +kernel
theorem dX8_mark_11 : decode cX8_mark 11 = .ok (.astore 4, 2) := by decide +kernel
theorem dX8_mark_13 : decode cX8_mark 13 = .ok (.aload_n 3, 1) := by decide +kernel
theorem dX8_mark_14 : decode cX8_mark 14 = .ok (.ifnull 8, 3) := by decide +kernel
theorem dX8_mark_17 : decode cX8_mark 17 = .ok (.aload 4, 2) := by decide +kernel
theorem dX8_mark_19 : decode cX8_mark 19 = .ok (.ifnonnull 14, 3) := by decide +kernel
theorem dX8_mark_22 : decode cX8_mark 22 = .ok (.new 92, 3) := by decide +kernel
theorem dX8_mark_25 : decode cX8_mark 25 = .ok (.dup, 1) := by decide +kernel
theorem dX8_mark_26 : decode cX8_mark 26 = .ok (.ldc_w 263, 3) := by decide +kernel
theorem dX8_mark_29 : decode cX8_mark 29 = .ok (.invokespecial 96, 3) := by decide +kernel
theorem dX8_mark_32 : decode cX8_mark 32 = .ok (.athrow, 1) := by decide +kernel
theorem dX8_mark_33 : decode cX8_mark 33 = .ok (.new 226, 3) := by decide +kernel
theorem dX8_mark_36 : decode cX8_mark 36 = .ok (.dup, 1) := by decide +kernel
theorem dX8_mark_37 : decode cX8_mark 37 = .ok (.aload_n 0, 1) := by decide +kernel
theorem dX8_mark_38 : decode cX8_mark 38 = .ok (.getfield 40, 3) := by decide +kernel
theorem dX8_mark_41 : decode cX8_mark 41 = .ok (.aload_n 3, 1) := by decide +kernel
theorem dX8_mark_42 : decode cX8_mark 42 = .ok (.iconst 0, 1) := by decide +kernel
theorem dX8_mark_43 : decode cX8_mark 43 = .ok (.iconst 0, 1) := by decide +kernel
theorem dX8_mark_44 : decode cX8_mark 44 = .ok (.invokespecial 228, 3) := by decide +kernel
theorem dX8_mark_47 : decode cX8_mark 47 = .ok (.aload 4, 2) := by decide +kernel
theorem dX8_mark_49 : decode cX8_mark 49 = .ok (.invokevirtual 265, 3) := by decide +kernel
theorem dX8_mark_52 : decode cX8_mark 52 = .ok (.freturn, 1) := by decide +kernel
set_option maxRecDepth 20000 in
theorem ggX8_part_X8_signAt : GoodIn wsX8_part wsX8_signAt := goodIn_r _ [13, 14, 62, 63, 64, 65, 66, 67, 68, 69, 70, 71] (by decide +kernel) (by decide +kernel)
set_option maxRecDepth 20000 in
theorem gX8_part_X8_signAt : GoodIn wsX8_part (wsV RX8 201 RX8 yX8_signAt wsX8_signAt) := goodIn_app (goodIn_of _ (by decide +kernel)) ggX8_part_X8_signAt
set_option maxRecDepth 20000 in
theorem ggX8_part_X3_between : GoodIn wsX8_part wsX3_between := goodIn_r _ [18, 19, 20, 21, 22, 17, 23, 24, 25, 26, 27, 28, 29, 30, 31, 32, 33, 34, 35, 36, 37, 38, 39, 40, 41, 42, 43, 44, 45, 46, 47, 48, 49, 50, 51, 52, 53, 54, 55, 56, 57, 58, 59, 60, 61, 75, 76, 72, 73, 74, 77, 78, 79, 80] (by decide +kernel) (by decide +kernel)
set_option maxRecDepth 20000 in
theorem gX8_part_X3_between : GoodIn wsX8_part (va_wsS RX8 269 yX3_between wsX3_between) := goodIn_app (goodIn_of _ (by decide +kernel)) ggX8_part_X3_between
theorem dX8_part_0 : decode cX8_part 0 = .ok (.aload_n 0, 1) := by decide +kernel
theorem dX8_part_1 : decode cX8_part 1 = .ok (.iload_n 1, 1) := by decide +kernel
theorem dX8_part_2 : decode cX8_part 2 = .ok (.invokevirtual 201, 3) := by decide +kernel
theorem dX8_part_5 : decode cX8_part 5 = .ok (.astore 4, 2) := by decide +kernel
theorem dX8_part_7 : decode cX8_part 7 = .ok (.aload 4, 2) := by decide +kernel
theorem dX8_part_9 : decode cX8_part 9 = .ok (.ifnonnull 7, 3) := by decide +kernel
theorem dX8_part_12 : decode cX8_part 12 = .ok (.aconst_null, 1) := by decide +kernel
theorem dX8_part_13 : decode cX8_part 13 = .ok (.goto 14, 3) := by decide +kernel
theorem dX8_part_16 : decode cX8_part 16 = .ok (.aload_n 0, 1) := by decide +kernel
theorem dX8_part_17 : decode cX8_part 17 = .ok (.getfield 40, 3) := by decide +kernel
theorem dX8_part_20 : decode cX8_part 20 = .ok (.aload 4, 2) := by decide +kernel
theorem dX8_part_22 : decode cX8_part 22 = .ok (.iload_n 2, 1) := by decide +kernel
theorem dX8_part_23 : decode cX8_part 23 = .ok (.iconst 0, 1) := by decide +kernel
theorem dX8_part_24 : decode cX8_part 24 = .ok (.invokestatic 269, 3) := by decide +kernel
theorem dX8_part_27 : decode cX8_part 27 = .ok (.astore 5, 2) := by decide +kernel
theorem dX8_part_29 : decode cX8_part 29 = .ok (.aload 5, 2) := by decide +kernel
theorem dX8_part_31 : decode cX8_part 31 = .ok (.ifnonnull 14, 3) := by decide +kernel
theorem dX8_part_34 : decode cX8_part 34 = .ok (.new 92, 3) := by decide +kernel
theorem dX8_part_37 : decode cX8_part 37 = .ok (.dup, 1) := by decide +kernel
theorem dX8_part_38 : decode cX8_part 38 = .ok (.ldc_w 275, 3) := by decide +kernel
theorem dX8_part_41 : decode cX8_part 41 = .ok (.invokespecial 96, 3) := by decide +kernel
theorem dX8_part_44 : decode cX8_part 44 = .ok (.athrow, 1) := by decide +kernel
theorem dX8_part_45 : decode cX8_part 45 = .ok (.iload_n 3, 1) := by decide +kernel
theorem dX8_part_46 : decode cX8_part 46 = .ok (.tableswitch 44 0 2 #[26, 32, 38], 26) := by decide +kernel
theorem dX8_part_72 : decode cX8_part 72 = .ok (.aload 5, 2) := by decide +kernel
theorem dX8_part_74 : decode cX8_part 74 = .ok (.getfield 277, 3) := by decide +kernel
theorem dX8_part_77 : decode cX8_part 77 = .ok (.freturn, 1) := by decide +kernel
theorem dX8_part_78 : decode cX8_part 78 = .ok (.aload 5, 2) := by decide +kernel
theorem dX8_part_80 : decode cX8_part 80 = .ok (.getfield 280, 3) := by decide +kernel
theorem dX8_part_83 : decode cX8_part 83 = .ok (.freturn, 1) := by decide +kernel
theorem dX8_part_84 : decode cX8_part 84 = .ok (.aload 5, 2) := by decide +kernel
theorem dX8_part_86 : decode cX8_part 86 = .ok (.getfield 282, 3) := by decide +kernel
theorem dX8_part_89 : decode cX8_part 89 = .ok (.freturn, 1) := by decide +kernel
theorem dX8_part_90 : decode cX8_part 90 = .ok (.new 51, 3) := by decide +kernel
theorem dX8_part_93 : decode cX8_part 93 = .ok (.dup, 1) := by decide +kernel
theorem dX8_part_94 : decode cX8_part 94 = .ok (.ldc_w 284, 3) := by decide +kernel
theorem dX8_part_97 : decode cX8_part 97 = .ok (.invokespecial 55, 3) := by decide +kernel
theorem dX8_part_100 : decode cX8_part 100 = .ok (.athrow, 1) := by decide +kernel
set_option maxRecDepth 20000 in
theorem ggX8_marked_X8_duelAt : GoodIn wsX8_marked wsX8_duelAt := goodIn_r _ [7, 8, 57, 58, 59, 60, 61, 62, 63, 64, 65, 66] (by decide +kernel) (by decide +kernel)
set_option maxRecDepth 20000 in
theorem gX8_marked_X8_duelAt : GoodIn wsX8_marked (wsV RX8 186 RX8 yX8_duelAt wsX8_duelAt) := goodIn_app (goodIn_of _ (by decide +kernel)) ggX8_marked_X8_duelAt
set_option maxRecDepth 20000 in
theorem ggX8_marked_X0_writingAt : GoodIn wsX8_marked wsX0_writingAt := goodIn_r _ [13, 14, 67, 68, 69, 70, 71, 72, 73, 74, 75, 76] (by decide +kernel) (by decide +kernel)
set_option maxRecDepth 20000 in
theorem gX8_marked_X0_writingAt : GoodIn wsX8_marked (wsV RX8 234 RX0 yX0_writingAt wsX0_writingAt) := goodIn_app (goodIn_of _ (by decide +kernel)) ggX8_marked_X0_writingAt
set_option maxRecDepth 20000 in
theorem ggX8_marked_X8_judgedMark : GoodIn wsX8_marked wsX8_judgedMark := goodIn_r _ [18, 19, 20, 21, 22, 23, 24, 6, 25, 26, 27, 28, 29, 30, 31, 32, 33, 34, 35, 36, 37, 38, 39, 40, 41, 42, 43, 44, 45, 46, 47, 48, 49, 50, 51, 52, 53, 54, 55, 56, 67, 68, 69, 70, 71, 72, 73, 74, 75, 76, 57, 58, 59, 60, 61, 62, 63, 64, 65, 66, 77, 78, 79, 80, 81, 82, 83, 84, 85, 86, 87] (by decide +kernel) (by decide +kernel)
set_option maxRecDepth 20000 in
theorem gX8_marked_X8_judgedMark : GoodIn wsX8_marked (wsV RX8 286 RX8 yX8_judgedMark wsX8_judgedMark) := goodIn_app (goodIn_of _ (by decide +kernel)) ggX8_marked_X8_judgedMark
theorem dX8_marked_0 : decode cX8_marked 0 = .ok (.aload_n 0, 1) := by decide +kernel
theorem dX8_marked_1 : decode cX8_marked 1 = .ok (.iload_n 1, 1) := by decide +kernel
theorem dX8_marked_2 : decode cX8_marked 2 = .ok (.invokevirtual 186, 3) := by decide +kernel
theorem dX8_marked_5 : decode cX8_marked 5 = .ok (.astore 4, 2) := by decide +kernel
theorem dX8_marked_7 : decode cX8_marked 7 = .ok (.aload 4, 2) := by decide +kernel
theorem dX8_marked_9 : decode cX8_marked 9 = .ok (.ifnonnull 7, 3) := by decide +kernel
theorem dX8_marked_12 : decode cX8_marked 12 = .ok (.aconst_null, 1) := by decide +kernel
theorem dX8_marked_13 : decode cX8_marked 13 = .ok (.goto 10, 3) := by decide +kernel
theorem dX8_marked_16 : decode cX8_marked 16 = .ok (.aload 4, 2) := by decide +kernel
theorem dX8_marked_18 : decode cX8_marked 18 = .ok (.iload_n 2, 1) := by decide +kernel
theorem dX8_marked_19 : decode cX8_marked 19 = .ok (.iload_n 3, 1) := by decide +kernel
theorem dX8_marked_20 : decode cX8_marked 20 = .ok (.invokevirtual 234, 3) := by decide +kernel
theorem dX8_marked_23 : decode cX8_marked 23 = .ok (.astore 5, 2) := by decide +kernel
theorem dX8_marked_25 : decode cX8_marked 25 = .ok (.aload 5, 2) := by decide +kernel
theorem dX8_marked_27 : decode cX8_marked 27 = .ok (.ifnonnull 13, 3) := by decide +kernel
theorem dX8_marked_30 : decode cX8_marked 30 = .ok (.new 92, 3) := by decide +kernel
theorem dX8_marked_33 : decode cX8_marked 33 = .ok (.dup, 1) := by decide +kernel
theorem dX8_marked_34 : decode cX8_marked 34 = .ok (.ldc 238, 2) := by decide +kernel
theorem dX8_marked_36 : decode cX8_marked 36 = .ok (.invokespecial 96, 3) := by decide +kernel
theorem dX8_marked_39 : decode cX8_marked 39 = .ok (.athrow, 1) := by decide +kernel
theorem dX8_marked_40 : decode cX8_marked 40 = .ok (.aload_n 0, 1) := by decide +kernel
theorem dX8_marked_41 : decode cX8_marked 41 = .ok (.aload 4, 2) := by decide +kernel
theorem dX8_marked_43 : decode cX8_marked 43 = .ok (.aload 5, 2) := by decide +kernel
theorem dX8_marked_45 : decode cX8_marked 45 = .ok (.invokevirtual 286, 3) := by decide +kernel
theorem dX8_marked_48 : decode cX8_marked 48 = .ok (.freturn, 1) := by decide +kernel
set_option maxRecDepth 20000 in
theorem ggX8_of_X8_duelAt : GoodIn wsX8_of wsX8_duelAt := goodIn_r _ [12, 13, 91, 92, 93, 94, 95, 96, 97, 98, 99, 100] (by decide +kernel) (by decide +kernel)
set_option maxRecDepth 20000 in
theorem gX8_of_X8_duelAt : GoodIn wsX8_of (wsV RX8 186 RX8 yX8_duelAt wsX8_duelAt) := goodIn_app (goodIn_of _ (by decide +kernel)) ggX8_of_X8_duelAt
set_option maxRecDepth 20000 in
theorem ggX8_of_X8_countRounds : GoodIn wsX8_of wsX8_countRounds := goodIn_r _ [17, 18, 19, 20, 11, 21, 22, 23, 24, 25, 26, 27, 28, 29, 30, 31, 32, 33, 6, 7, 34, 35, 36, 37, 38, 39, 40, 41, 42, 43, 44, 45, 46, 47, 48, 49, 50, 51, 52, 53, 54, 55, 56, 57, 58, 59, 60, 61, 62, 63, 64, 65, 66, 67, 68, 101, 102, 103, 104, 81, 82, 83, 84, 85, 86, 87, 88, 89, 90, 91, 92, 93, 94, 95, 96, 97, 98, 99, 100, 105, 106, 107, 108, 109, 110, 111] (by decide +kernel) (by decide +kernel)
set_option maxRecDepth 20000 in
theorem gX8_of_X8_countRounds : GoodIn wsX8_of (wsV RX8 290 RX8 yX8_countRounds wsX8_countRounds) := goodIn_app (goodIn_of _ (by decide +kernel)) ggX8_of_X8_countRounds
set_option maxRecDepth 20000 in
theorem ggX8_of_X8_winnerOf : GoodIn wsX8_of wsX8_winnerOf := goodIn_r _ [72, 73, 74, 75, 76, 77, 26, 78, 79, 80, 18, 19, 20, 11, 21, 22, 23, 24, 25, 27, 28, 29, 30, 31, 32, 33, 6, 7, 34, 35, 36, 37, 38, 39, 40, 41, 42, 43, 44, 45, 46, 47, 48, 49, 50, 51, 52, 53, 54, 55, 56, 57, 58, 59, 60, 61, 62, 63, 64, 65, 66, 67, 68, 81, 82, 83, 84, 85, 86, 87, 88, 89, 90, 101, 102, 103, 104, 91, 92, 93, 94, 95, 96, 97, 98, 99, 100, 105, 106, 107, 108, 109, 110, 111] (by decide +kernel) (by decide +kernel)
set_option maxRecDepth 20000 in
theorem gX8_of_X8_winnerOf : GoodIn wsX8_of (wsV RX8 257 RX8 yX8_winnerOf wsX8_winnerOf) := goodIn_app (goodIn_of _ (by decide +kernel)) ggX8_of_X8_winnerOf
theorem dX8_of_0 : decode cX8_of 0 = .ok (.aload_n 0, 1) := by decide +kernel
theorem dX8_of_1 : decode cX8_of 1 = .ok (.iload_n 1, 1) := by decide +kernel
theorem dX8_of_2 : decode cX8_of 2 = .ok (.invokevirtual 186, 3) := by decide +kernel
theorem dX8_of_5 : decode cX8_of 5 = .ok (.astore_n 3, 1) := by decide +kernel
theorem dX8_of_6 : decode cX8_of 6 = .ok (.aload_n 3, 1) := by decide +kernel
theorem dX8_of_7 : decode cX8_of 7 = .ok (.ifnonnull 13, 3) := by decide +kernel
theorem dX8_of_10 : decode cX8_of 10 = .ok (.new 92, 3) := by decide +kernel
theorem dX8_of_13 : decode cX8_of 13 = .ok (.dup, 1) := by decide +kernel
theorem dX8_of_14 : decode cX8_of 14 = .ok (.ldc 190, 2) := by decide +kernel
theorem dX8_of_16 : decode cX8_of 16 = .ok (.invokespecial 96, 3) := by decide +kernel
theorem dX8_of_19 : decode cX8_of 19 = .ok (.athrow, 1) := by decide +kernel
theorem dX8_of_20 : decode cX8_of 20 = .ok (.iload_n 2, 1) := by decide +kernel
theorem dX8_of_21 : decode cX8_of 21 = .ok (.tableswitch 74 0 5 #[39, 44, 51, 58, 64, 69], 39) := by decide +kernel
theorem dX8_of_60 : decode cX8_of 60 = .ok (.aload_n 3, 1) := by decide +kernel
theorem dX8_of_61 : decode cX8_of 61 = .ok (.getfield 194, 3) := by decide +kernel
theorem dX8_of_64 : decode cX8_of 64 = .ok (.ireturn, 1) := by decide +kernel
theorem dX8_of_65 : decode cX8_of 65 = .ok (.aload_n 0, 1) := by decide +kernel
theorem dX8_of_66 : decode cX8_of 66 = .ok (.aload_n 3, 1) := by decide +kernel
theorem dX8_of_67 : decode cX8_of 67 = .ok (.iconst 1, 1) := by decide +kernel
theorem dX8_of_68 : decode cX8_of 68 = .ok (.invokevirtual 290, 3) := by decide +kernel
theorem dX8_of_71 : decode cX8_of 71 = .ok (.ireturn, 1) := by decide +kernel
theorem dX8_of_72 : decode cX8_of 72 = .ok (.aload_n 0, 1) := by decide +kernel
theorem dX8_of_73 : decode cX8_of 73 = .ok (.aload_n 3, 1) := by decide +kernel
theorem dX8_of_74 : decode cX8_of 74 = .ok (.iconst (-1), 1) := by decide +kernel
theorem dX8_of_75 : decode cX8_of 75 = .ok (.invokevirtual 290, 3) := by decide +kernel
theorem dX8_of_78 : decode cX8_of 78 = .ok (.ireturn, 1) := by decide +kernel
theorem dX8_of_79 : decode cX8_of 79 = .ok (.aload_n 0, 1) := by decide +kernel
theorem dX8_of_80 : decode cX8_of 80 = .ok (.aload_n 3, 1) := by decide +kernel
theorem dX8_of_81 : decode cX8_of 81 = .ok (.invokevirtual 257, 3) := by decide +kernel
theorem dX8_of_84 : decode cX8_of 84 = .ok (.ireturn, 1) := by decide +kernel
theorem dX8_of_85 : decode cX8_of 85 = .ok (.aload_n 3, 1) := by decide +kernel
theorem dX8_of_86 : decode cX8_of 86 = .ok (.getfield 294, 3) := by decide +kernel
theorem dX8_of_89 : decode cX8_of 89 = .ok (.ireturn, 1) := by decide +kernel
theorem dX8_of_90 : decode cX8_of 90 = .ok (.aload_n 3, 1) := by decide +kernel
theorem dX8_of_91 : decode cX8_of 91 = .ok (.getfield 249, 3) := by decide +kernel
theorem dX8_of_94 : decode cX8_of 94 = .ok (.ireturn, 1) := by decide +kernel
theorem dX8_of_95 : decode cX8_of 95 = .ok (.new 51, 3) := by decide +kernel
theorem dX8_of_98 : decode cX8_of 98 = .ok (.dup, 1) := by decide +kernel
theorem dX8_of_99 : decode cX8_of 99 = .ok (.ldc_w 284, 3) := by decide +kernel
theorem dX8_of_102 : decode cX8_of 102 = .ok (.invokespecial 55, 3) := by decide +kernel
theorem dX8_of_105 : decode cX8_of 105 = .ok (.athrow, 1) := by decide +kernel
set_option maxRecDepth 20000 in
theorem ggX8_paper_X8_paperAt : GoodIn wsX8_paper wsX8_paperAt := goodIn_r _ [11, 12, 16, 17, 18, 19, 20, 21, 22, 23, 24, 25] (by decide +kernel) (by decide +kernel)
set_option maxRecDepth 20000 in
theorem gX8_paper_X8_paperAt : GoodIn wsX8_paper (wsV RX8 88 RX8 yX8_paperAt wsX8_paperAt) := goodIn_app (goodIn_of _ (by decide +kernel)) ggX8_paper_X8_paperAt
theorem dX8_paper_0 : decode cX8_paper 0 = .ok (.aload_n 0, 1) := by decide +kernel
theorem dX8_paper_1 : decode cX8_paper 1 = .ok (.iload_n 1, 1) := by decide +kernel
theorem dX8_paper_2 : decode cX8_paper 2 = .ok (.invokevirtual 88, 3) := by decide +kernel
theorem dX8_paper_5 : decode cX8_paper 5 = .ok (.astore_n 3, 1) := by decide +kernel
theorem dX8_paper_6 : decode cX8_paper 6 = .ok (.aload_n 3, 1) := by decide +kernel
theorem dX8_paper_7 : decode cX8_paper 7 = .ok (.ifnonnull 13, 3) := by decide +kernel
theorem dX8_paper_10 : decode cX8_paper 10 = .ok (.new 92, 3) := by decide +kernel
theorem dX8_paper_13 : decode cX8_paper 13 = .ok (.dup, 1) := by decide +kernel
theorem dX8_paper_14 : decode cX8_paper 14 = .ok (.ldc 94, 2) := by decide +kernel
theorem dX8_paper_16 : decode cX8_paper 16 = .ok (.invokespecial 96, 3) := by decide +kernel
theorem dX8_paper_19 : decode cX8_paper 19 = .ok (.athrow, 1) := by decide +kernel
theorem dX8_paper_20 : decode cX8_paper 20 = .ok (.iload_n 2, 1) := by decide +kernel
theorem dX8_paper_21 : decode cX8_paper 21 = .ok (.lookupswitch 37 #[(0, 27), (1, 32)], 27) := by decide +kernel
theorem dX8_paper_48 : decode cX8_paper 48 = .ok (.aload_n 3, 1) := by decide +kernel
theorem dX8_paper_49 : decode cX8_paper 49 = .ok (.getfield 103, 3) := by decide +kernel
theorem dX8_paper_52 : decode cX8_paper 52 = .ok (.ireturn, 1) := by decide +kernel
theorem dX8_paper_53 : decode cX8_paper 53 = .ok (.aload_n 3, 1) := by decide +kernel
theorem dX8_paper_54 : decode cX8_paper 54 = .ok (.getfield 113, 3) := by decide +kernel
theorem dX8_paper_57 : decode cX8_paper 57 = .ok (.ireturn, 1) := by decide +kernel
theorem dX8_paper_58 : decode cX8_paper 58 = .ok (.new 51, 3) := by decide +kernel
theorem dX8_paper_61 : decode cX8_paper 61 = .ok (.dup, 1) := by decide +kernel
theorem dX8_paper_62 : decode cX8_paper 62 = .ok (.ldc_w 284, 3) := by decide +kernel
theorem dX8_paper_65 : decode cX8_paper 65 = .ok (.invokespecial 55, 3) := by decide +kernel
theorem dX8_paper_68 : decode cX8_paper 68 = .ok (.athrow, 1) := by decide +kernel
set_option maxRecDepth 20000 in
theorem ggX8_won_X8_isWriter : GoodIn wsX8_won wsX8_isWriter := goodIn_r _ [7, 8, 9, 6, 10] (by decide +kernel) (by decide +kernel)
set_option maxRecDepth 20000 in
theorem gX8_won_X8_isWriter : GoodIn wsX8_won (va_wsS RX8 163 yX8_isWriter wsX8_isWriter) := goodIn_app (goodIn_of _ (by decide +kernel)) ggX8_won_X8_isWriter
set_option maxRecDepth 20000 in
theorem ggX8_won_X8_winnerOf : GoodIn wsX8_won wsX8_winnerOf := goodIn_r _ [14, 15, 16, 17, 18, 19, 20, 21, 22, 23, 24, 25, 26, 6, 27, 28, 29, 30, 31, 32, 33, 34, 35, 36, 37, 38, 39, 40, 41, 42, 43, 44, 45, 46, 47, 48, 49, 50, 51, 52, 53, 54, 55, 56, 57, 58, 59, 60, 61, 62, 63, 64, 65, 66, 67, 68, 69, 70, 71, 72, 73, 74, 75, 86, 87, 88, 89, 90, 91, 92, 93, 94, 95, 96, 97, 98, 99, 76, 77, 78, 79, 80, 81, 82, 83, 84, 85, 100, 101, 102, 103, 104, 105, 106] (by decide +kernel) (by decide +kernel)
set_option maxRecDepth 20000 in
theorem gX8_won_X8_winnerOf : GoodIn wsX8_won (wsV RX8 257 RX8 yX8_winnerOf wsX8_winnerOf) := goodIn_app (goodIn_of _ (by decide +kernel)) ggX8_won_X8_winnerOf
theorem dX8_won_0 : decode cX8_won 0 = .ok (.iload_n 1, 1) := by decide +kernel
theorem dX8_won_1 : decode cX8_won 1 = .ok (.invokestatic 163, 3) := by decide +kernel
theorem dX8_won_4 : decode cX8_won 4 = .ok (.ifCond .ne 13, 3) := by decide +kernel
theorem dX8_won_7 : decode cX8_won 7 = .ok (.new 92, 3) := by decide +kernel
theorem dX8_won_10 : decode cX8_won 10 = .ok (.dup, 1) := by decide +kernel
theorem dX8_won_11 : decode cX8_won 11 = .ok (.ldc 167, 2) := by decide +kernel
theorem dX8_won_13 : decode cX8_won 13 = .ok (.invokespecial 96, 3) := by decide +kernel
theorem dX8_won_16 : decode cX8_won 16 = .ok (.athrow, 1) := by decide +kernel
theorem dX8_won_17 : decode cX8_won 17 = .ok (.iconst 0, 1) := by decide +kernel
theorem dX8_won_18 : decode cX8_won 18 = .ok (.istore_n 2, 1) := by decide +kernel
theorem dX8_won_19 : decode cX8_won 19 = .ok (.iconst 0, 1) := by decide +kernel
theorem dX8_won_20 : decode cX8_won 20 = .ok (.istore_n 3, 1) := by decide +kernel
theorem dX8_won_21 : decode cX8_won 21 = .ok (.iload_n 3, 1) := by decide +kernel
theorem dX8_won_22 : decode cX8_won 22 = .ok (.aload_n 0, 1) := by decide +kernel
theorem dX8_won_23 : decode cX8_won 23 = .ok (.getfield 35, 3) := by decide +kernel
theorem dX8_won_26 : decode cX8_won 26 = .ok (.arraylength, 1) := by decide +kernel
theorem dX8_won_27 : decode cX8_won 27 = .ok (.if_icmp .ge 35, 3) := by decide +kernel
theorem dX8_won_30 : decode cX8_won 30 = .ok (.aload_n 0, 1) := by decide +kernel
theorem dX8_won_31 : decode cX8_won 31 = .ok (.getfield 35, 3) := by decide +kernel
theorem dX8_won_34 : decode cX8_won 34 = .ok (.iload_n 3, 1) := by decide +kernel
theorem dX8_won_35 : decode cX8_won 35 = .ok (.aaload, 1) := by decide +kernel
theorem dX8_won_36 : decode cX8_won 36 = .ok (.ifnull 20, 3) := by decide +kernel
theorem dX8_won_39 : decode cX8_won 39 = .ok (.aload_n 0, 1) := by decide +kernel
theorem dX8_won_40 : decode cX8_won 40 = .ok (.aload_n 0, 1) := by decide +kernel
theorem dX8_won_41 : decode cX8_won 41 = .ok (.getfield 35, 3) := by decide +kernel
theorem dX8_won_44 : decode cX8_won 44 = .ok (.iload_n 3, 1) := by decide +kernel
theorem dX8_won_45 : decode cX8_won 45 = .ok (.aaload, 1) := by decide +kernel
theorem dX8_won_46 : decode cX8_won 46 = .ok (.invokevirtual 257, 3) := by decide +kernel
theorem dX8_won_49 : decode cX8_won 49 = .ok (.iload_n 1, 1) := by decide +kernel
theorem dX8_won_50 : decode cX8_won 50 = .ok (.if_icmp .ne 6, 3) := by decide +kernel
theorem dX8_won_53 : decode cX8_won 53 = .ok (.iinc 2 1, 3) := by decide +kernel
theorem dX8_won_56 : decode cX8_won 56 = .ok (.iinc 3 1, 3) := by decide +kernel
theorem dX8_won_59 : decode cX8_won 59 = .ok (.goto (-38), 3) := by decide +kernel
theorem dX8_won_62 : decode cX8_won 62 = .ok (.iload_n 2, 1) := by decide +kernel
theorem dX8_won_63 : decode cX8_won 63 = .ok (.ireturn, 1) := by decide +kernel
theorem dX8_isWithin_0 : decode cX8_isWithin 0 = .ok (.iload_n 0, 1) := by decide +kernel
theorem dX8_isWithin_1 : decode cX8_isWithin 1 = .ok (.iload_n 1, 1) := by decide +kernel
theorem dX8_isWithin_2 : decode cX8_isWithin 2 = .ok (.if_icmp .lt 12, 3) := by decide +kernel
theorem dX8_isWithin_5 : decode cX8_isWithin 5 = .ok (.iload_n 0, 1) := by decide +kernel
theorem dX8_isWithin_6 : decode cX8_isWithin 6 = .ok (.iload_n 2, 1) := by decide +kernel
theorem dX8_isWithin_7 : decode cX8_isWithin 7 = .ok (.if_icmp .gt 7, 3) := by decide +kernel
theorem dX8_isWithin_10 : decode cX8_isWithin 10 = .ok (.iconst 1, 1) := by decide +kernel
theorem dX8_isWithin_11 : decode cX8_isWithin 11 = .ok (.goto 4, 3) := by decide +kernel
theorem dX8_isWithin_14 : decode cX8_isWithin 14 = .ok (.iconst 0, 1) := by decide +kernel
theorem dX8_isWithin_15 : decode cX8_isWithin 15 = .ok (.ireturn, 1) := by decide +kernel
set_option maxRecDepth 20000 in
theorem ggX8_isPlace_X8_isWithin : GoodIn wsX8_isPlace wsX8_isWithin := goodIn_r _ [4] (by decide +kernel) (by decide +kernel)
set_option maxRecDepth 20000 in
theorem gX8_isPlace_X8_isWithin : GoodIn wsX8_isPlace (va_wsS RX8 97 yX8_isWithin wsX8_isWithin) := goodIn_app (goodIn_of _ (by decide +kernel)) ggX8_isPlace_X8_isWithin
theorem dX8_isPlace_0 : decode cX8_isPlace 0 = .ok (.iload_n 0, 1) := by decide +kernel
theorem dX8_isPlace_1 : decode cX8_isPlace 1 = .ok (.iconst 0, 1) := by decide +kernel
theorem dX8_isPlace_2 : decode cX8_isPlace 2 = .ok (.bipush 99, 2) := by decide +kernel
theorem dX8_isPlace_4 : decode cX8_isPlace 4 = .ok (.invokestatic 97, 3) := by decide +kernel
theorem dX8_isPlace_7 : decode cX8_isPlace 7 = .ok (.ifCond .eq 17, 3) := by decide +kernel
theorem dX8_isPlace_10 : decode cX8_isPlace 10 = .ok (.iload_n 1, 1) := by decide +kernel
theorem dX8_isPlace_11 : decode cX8_isPlace 11 = .ok (.iconst 0, 1) := by decide +kernel
theorem dX8_isPlace_12 : decode cX8_isPlace 12 = .ok (.bipush 99, 2) := by decide +kernel
theorem dX8_isPlace_14 : decode cX8_isPlace 14 = .ok (.invokestatic 97, 3) := by decide +kernel
theorem dX8_isPlace_17 : decode cX8_isPlace 17 = .ok (.ifCond .eq 7, 3) := by decide +kernel
theorem dX8_isPlace_20 : decode cX8_isPlace 20 = .ok (.iconst 1, 1) := by decide +kernel
theorem dX8_isPlace_21 : decode cX8_isPlace 21 = .ok (.goto 4, 3) := by decide +kernel
theorem dX8_isPlace_24 : decode cX8_isPlace 24 = .ok (.iconst 0, 1) := by decide +kernel
theorem dX8_isPlace_25 : decode cX8_isPlace 25 = .ok (.ireturn, 1) := by decide +kernel
set_option maxRecDepth 20000 in
theorem ggX8_isWriter_X8_isWithin : GoodIn wsX8_isWriter wsX8_isWithin := goodIn_r _ [4] (by decide +kernel) (by decide +kernel)
set_option maxRecDepth 20000 in
theorem gX8_isWriter_X8_isWithin : GoodIn wsX8_isWriter (va_wsS RX8 97 yX8_isWithin wsX8_isWithin) := goodIn_app (goodIn_of _ (by decide +kernel)) ggX8_isWriter_X8_isWithin
theorem dX8_isWriter_0 : decode cX8_isWriter 0 = .ok (.iload_n 0, 1) := by decide +kernel
theorem dX8_isWriter_1 : decode cX8_isWriter 1 = .ok (.iconst 0, 1) := by decide +kernel
theorem dX8_isWriter_2 : decode cX8_isWriter 2 = .ok (.bipush 7, 2) := by decide +kernel
theorem dX8_isWriter_4 : decode cX8_isWriter 4 = .ok (.invokestatic 97, 3) := by decide +kernel
theorem dX8_isWriter_7 : decode cX8_isWriter 7 = .ok (.ireturn, 1) := by decide +kernel
theorem dX8_signAt_0 : decode cX8_signAt 0 = .ok (.iload_n 1, 1) := by decide +kernel
theorem dX8_signAt_1 : decode cX8_signAt 1 = .ok (.ifCond .lt 21, 3) := by decide +kernel
theorem dX8_signAt_4 : decode cX8_signAt 4 = .ok (.iload_n 1, 1) := by decide +kernel
theorem dX8_signAt_5 : decode cX8_signAt 5 = .ok (.aload_n 0, 1) := by decide +kernel
theorem dX8_signAt_6 : decode cX8_signAt 6 = .ok (.getfield 11, 3) := by decide +kernel
theorem dX8_signAt_9 : decode cX8_signAt 9 = .ok (.arraylength, 1) := by decide +kernel
theorem dX8_signAt_10 : decode cX8_signAt 10 = .ok (.if_icmp .ge 12, 3) := by decide +kernel
theorem dX8_signAt_13 : decode cX8_signAt 13 = .ok (.aload_n 0, 1) := by decide +kernel
theorem dX8_signAt_14 : decode cX8_signAt 14 = .ok (.getfield 11, 3) := by decide +kernel
theorem dX8_signAt_17 : decode cX8_signAt 17 = .ok (.iload_n 1, 1) := by decide +kernel
theorem dX8_signAt_18 : decode cX8_signAt 18 = .ok (.aaload, 1) := by decide +kernel
theorem dX8_signAt_19 : decode cX8_signAt 19 = .ok (.goto 4, 3) := by decide +kernel
theorem dX8_signAt_22 : decode cX8_signAt 22 = .ok (.aconst_null, 1) := by decide +kernel
theorem dX8_signAt_23 : decode cX8_signAt 23 = .ok (.areturn, 1) := by decide +kernel
theorem dX8_paperAt_0 : decode cX8_paperAt 0 = .ok (.iload_n 1, 1) := by decide +kernel
theorem dX8_paperAt_1 : decode cX8_paperAt 1 = .ok (.ifCond .lt 21, 3) := by decide +kernel
theorem dX8_paperAt_4 : decode cX8_paperAt 4 = .ok (.iload_n 1, 1) := by decide +kernel
theorem dX8_paperAt_5 : decode cX8_paperAt 5 = .ok (.aload_n 0, 1) := by decide +kernel
theorem dX8_paperAt_6 : decode cX8_paperAt 6 = .ok (.getfield 17, 3) := by decide +kernel
theorem dX8_paperAt_9 : decode cX8_paperAt 9 = .ok (.arraylength, 1) := by decide +kernel
theorem dX8_paperAt_10 : decode cX8_paperAt 10 = .ok (.if_icmp .ge 12, 3) := by decide +kernel
theorem dX8_paperAt_13 : decode cX8_paperAt 13 = .ok (.aload_n 0, 1) := by decide +kernel
theorem dX8_paperAt_14 : decode cX8_paperAt 14 = .ok (.getfield 17, 3) := by decide +kernel
theorem dX8_paperAt_17 : decode cX8_paperAt 17 = .ok (.iload_n 1, 1) := by decide +kernel
theorem dX8_paperAt_18 : decode cX8_paperAt 18 = .ok (.aaload, 1) := by decide +kernel
theorem dX8_paperAt_19 : decode cX8_paperAt 19 = .ok (.goto 4, 3) := by decide +kernel
theorem dX8_paperAt_22 : decode cX8_paperAt 22 = .ok (.aconst_null, 1) := by decide +kernel
theorem dX8_paperAt_23 : decode cX8_paperAt 23 = .ok (.areturn, 1) := by decide +kernel
theorem dX8_styleAt_0 : decode cX8_styleAt 0 = .ok (.iload_n 1, 1) := by decide +kernel
theorem dX8_styleAt_1 : decode cX8_styleAt 1 = .ok (.ifCond .lt 21, 3) := by decide +kernel
theorem dX8_styleAt_4 : decode cX8_styleAt 4 = .ok (.iload_n 1, 1) := by decide +kernel
theorem dX8_styleAt_5 : decode cX8_styleAt 5 = .ok (.aload_n 0, 1) := by decide +kernel
theorem dX8_styleAt_6 : decode cX8_styleAt 6 = .ok (.getfield 23, 3) := by decide +kernel
theorem dX8_styleAt_9 : decode cX8_styleAt 9 = .ok (.arraylength, 1) := by decide +kernel
theorem dX8_styleAt_10 : decode cX8_styleAt 10 = .ok (.if_icmp .ge 12, 3) := by decide +kernel
theorem dX8_styleAt_13 : decode cX8_styleAt 13 = .ok (.aload_n 0, 1) := by decide +kernel
theorem dX8_styleAt_14 : decode cX8_styleAt 14 = .ok (.getfield 23, 3) := by decide +kernel
theorem dX8_styleAt_17 : decode cX8_styleAt 17 = .ok (.iload_n 1, 1) := by decide +kernel
theorem dX8_styleAt_18 : decode cX8_styleAt 18 = .ok (.aaload, 1) := by decide +kernel
theorem dX8_styleAt_19 : decode cX8_styleAt 19 = .ok (.goto 4, 3) := by decide +kernel
theorem dX8_styleAt_22 : decode cX8_styleAt 22 = .ok (.aconst_null, 1) := by decide +kernel
theorem dX8_styleAt_23 : decode cX8_styleAt 23 = .ok (.areturn, 1) := by decide +kernel
theorem dX8_judgeAt_0 : decode cX8_judgeAt 0 = .ok (.iload_n 1, 1) := by decide +kernel
theorem dX8_judgeAt_1 : decode cX8_judgeAt 1 = .ok (.ifCond .lt 21, 3) := by decide +kernel
theorem dX8_judgeAt_4 : decode cX8_judgeAt 4 = .ok (.iload_n 1, 1) := by decide +kernel
theorem dX8_judgeAt_5 : decode cX8_judgeAt 5 = .ok (.aload_n 0, 1) := by decide +kernel
theorem dX8_judgeAt_6 : decode cX8_judgeAt 6 = .ok (.getfield 29, 3) := by decide +kernel
theorem dX8_judgeAt_9 : decode cX8_judgeAt 9 = .ok (.arraylength, 1) := by decide +kernel
theorem dX8_judgeAt_10 : decode cX8_judgeAt 10 = .ok (.if_icmp .ge 12, 3) := by decide +kernel
theorem dX8_judgeAt_13 : decode cX8_judgeAt 13 = .ok (.aload_n 0, 1) := by decide +kernel
theorem dX8_judgeAt_14 : decode cX8_judgeAt 14 = .ok (.getfield 29, 3) := by decide +kernel
theorem dX8_judgeAt_17 : decode cX8_judgeAt 17 = .ok (.iload_n 1, 1) := by decide +kernel
theorem dX8_judgeAt_18 : decode cX8_judgeAt 18 = .ok (.aaload, 1) := by decide +kernel
theorem dX8_judgeAt_19 : decode cX8_judgeAt 19 = .ok (.goto 4, 3) := by decide +kernel
theorem dX8_judgeAt_22 : decode cX8_judgeAt 22 = .ok (.aconst_null, 1) := by decide +kernel
theorem dX8_judgeAt_23 : decode cX8_judgeAt 23 = .ok (.areturn, 1) := by decide +kernel
theorem dX8_duelAt_0 : decode cX8_duelAt 0 = .ok (.iload_n 1, 1) := by decide +kernel
theorem dX8_duelAt_1 : decode cX8_duelAt 1 = .ok (.ifCond .lt 21, 3) := by decide +kernel
theorem dX8_duelAt_4 : decode cX8_duelAt 4 = .ok (.iload_n 1, 1) := by decide +kernel
theorem dX8_duelAt_5 : decode cX8_duelAt 5 = .ok (.aload_n 0, 1) := by decide +kernel
theorem dX8_duelAt_6 : decode cX8_duelAt 6 = .ok (.getfield 35, 3) := by decide +kernel
theorem dX8_duelAt_9 : decode cX8_duelAt 9 = .ok (.arraylength, 1) := by decide +kernel
theorem dX8_duelAt_10 : decode cX8_duelAt 10 = .ok (.if_icmp .ge 12, 3) := by decide +kernel
theorem dX8_duelAt_13 : decode cX8_duelAt 13 = .ok (.aload_n 0, 1) := by decide +kernel
theorem dX8_duelAt_14 : decode cX8_duelAt 14 = .ok (.getfield 35, 3) := by decide +kernel
theorem dX8_duelAt_17 : decode cX8_duelAt 17 = .ok (.iload_n 1, 1) := by decide +kernel
theorem dX8_duelAt_18 : decode cX8_duelAt 18 = .ok (.aaload, 1) := by decide +kernel
theorem dX8_duelAt_19 : decode cX8_duelAt 19 = .ok (.goto 4, 3) := by decide +kernel
theorem dX8_duelAt_22 : decode cX8_duelAt 22 = .ok (.aconst_null, 1) := by decide +kernel
theorem dX8_duelAt_23 : decode cX8_duelAt 23 = .ok (.areturn, 1) := by decide +kernel
theorem dX8_rightSeal_0 : decode cX8_rightSeal 0 = .ok (.bipush 101, 2) := by decide +kernel
theorem dX8_rightSeal_2 : decode cX8_rightSeal 2 = .ok (.iload_n 0, 1) := by decide +kernel
theorem dX8_rightSeal_3 : decode cX8_rightSeal 3 = .ok (.imul, 1) := by decide +kernel
theorem dX8_rightSeal_4 : decode cX8_rightSeal 4 = .ok (.bipush 37, 2) := by decide +kernel
theorem dX8_rightSeal_6 : decode cX8_rightSeal 6 = .ok (.iload_n 1, 1) := by decide +kernel
theorem dX8_rightSeal_7 : decode cX8_rightSeal 7 = .ok (.imul, 1) := by decide +kernel
theorem dX8_rightSeal_8 : decode cX8_rightSeal 8 = .ok (.iadd, 1) := by decide +kernel
theorem dX8_rightSeal_9 : decode cX8_rightSeal 9 = .ok (.sipush 1000, 3) := by decide +kernel
theorem dX8_rightSeal_12 : decode cX8_rightSeal 12 = .ok (.irem, 1) := by decide +kernel
theorem dX8_rightSeal_13 : decode cX8_rightSeal 13 = .ok (.ireturn, 1) := by decide +kernel
set_option maxRecDepth 20000 in
theorem ggX8_judgedMark_X8_judgeAt : GoodIn wsX8_judgedMark wsX8_judgeAt := goodIn_r _ [8, 9, 50, 51, 52, 53, 54, 55, 56, 57, 58, 59] (by decide +kernel) (by decide +kernel)
set_option maxRecDepth 20000 in
theorem gX8_judgedMark_X8_judgeAt : GoodIn wsX8_judgedMark (wsV RX8 133 RX8 yX8_judgeAt wsX8_judgeAt) := goodIn_app (goodIn_of _ (by decide +kernel)) ggX8_judgedMark_X8_judgeAt
set_option maxRecDepth 20000 in
theorem ggX8_judgedMark_X8_markByJudge : GoodIn wsX8_judgedMark wsX8_markByJudge := goodIn_r _ [13, 14, 15, 16, 17, 18, 19, 20, 21, 22, 23, 24, 25, 26, 27, 28, 29, 30, 31, 32, 33, 34, 35, 36, 37, 38, 39, 50, 51, 52, 53, 54, 55, 56, 57, 58, 59, 60, 61, 62, 63, 64, 65, 66, 67, 68, 69, 70] (by decide +kernel) (by decide +kernel)
set_option maxRecDepth 20000 in
theorem gX8_judgedMark_X8_markByJudge : GoodIn wsX8_judgedMark (wsV RX8 295 RX8 yX8_markByJudge wsX8_markByJudge) := goodIn_app (goodIn_of _ (by decide +kernel)) ggX8_judgedMark_X8_markByJudge
theorem dX8_judgedMark_0 : decode cX8_judgedMark 0 = .ok (.aload_n 0, 1) := by decide +kernel
theorem dX8_judgedMark_1 : decode cX8_judgedMark 1 = .ok (.aload_n 0, 1) := by decide +kernel
theorem dX8_judgedMark_2 : decode cX8_judgedMark 2 = .ok (.aload_n 1, 1) := by decide +kernel
theorem dX8_judgedMark_3 : decode cX8_judgedMark 3 = .ok (.getfield 252, 3) := by decide +kernel
theorem dX8_judgedMark_6 : decode cX8_judgedMark 6 = .ok (.invokevirtual 133, 3) := by decide +kernel
theorem dX8_judgedMark_9 : decode cX8_judgedMark 9 = .ok (.aload_n 1, 1) := by decide +kernel
theorem dX8_judgedMark_10 : decode cX8_judgedMark 10 = .ok (.getfield 294, 3) := by decide +kernel
theorem dX8_judgedMark_13 : decode cX8_judgedMark 13 = .ok (.aload_n 2, 1) := by decide +kernel
theorem dX8_judgedMark_14 : decode cX8_judgedMark 14 = .ok (.invokevirtual 295, 3) := by decide +kernel
theorem dX8_judgedMark_17 : decode cX8_judgedMark 17 = .ok (.fstore_n 3, 1) := by decide +kernel
theorem dX8_judgedMark_18 : decode cX8_judgedMark 18 = .ok (.aload_n 1, 1) := by decide +kernel
theorem dX8_judgedMark_19 : decode cX8_judgedMark 19 = .ok (.getfield 249, 3) := by decide +kernel
theorem dX8_judgedMark_22 : decode cX8_judgedMark 22 = .ok (.iconst (-1), 1) := by decide +kernel
theorem dX8_judgedMark_23 : decode cX8_judgedMark 23 = .ok (.if_icmp .ne 5, 3) := by decide +kernel
theorem dX8_judgedMark_26 : decode cX8_judgedMark 26 = .ok (.fload_n 3, 1) := by decide +kernel
theorem dX8_judgedMark_27 : decode cX8_judgedMark 27 = .ok (.freturn, 1) := by decide +kernel
theorem dX8_judgedMark_28 : decode cX8_judgedMark 28 = .ok (.aload_n 0, 1) := by decide +kernel
theorem dX8_judgedMark_29 : decode cX8_judgedMark 29 = .ok (.aload_n 0, 1) := by decide +kernel
theorem dX8_judgedMark_30 : decode cX8_judgedMark 30 = .ok (.aload_n 1, 1) := by decide +kernel
theorem dX8_judgedMark_31 : decode cX8_judgedMark 31 = .ok (.getfield 249, 3) := by decide +kernel
theorem dX8_judgedMark_34 : decode cX8_judgedMark 34 = .ok (.invokevirtual 133, 3) := by decide +kernel
theorem dX8_judgedMark_37 : decode cX8_judgedMark 37 = .ok (.aload_n 1, 1) := by decide +kernel
theorem dX8_judgedMark_38 : decode cX8_judgedMark 38 = .ok (.getfield 294, 3) := by decide +kernel
theorem dX8_judgedMark_41 : decode cX8_judgedMark 41 = .ok (.aload_n 2, 1) := by decide +kernel
theorem dX8_judgedMark_42 : decode cX8_judgedMark 42 = .ok (.invokevirtual 295, 3) := by decide +kernel
theorem dX8_judgedMark_45 : decode cX8_judgedMark 45 = .ok (.fstore 4, 2) := by decide +kernel
theorem dX8_judgedMark_47 : decode cX8_judgedMark 47 = .ok (.fload_n 3, 1) := by decide +kernel
theorem dX8_judgedMark_48 : decode cX8_judgedMark 48 = .ok (.fload 4, 2) := by decide +kernel
theorem dX8_judgedMark_50 : decode cX8_judgedMark 50 = .ok (.fadd, 1) := by decide +kernel
theorem dX8_judgedMark_51 : decode cX8_judgedMark 51 = .ok (.fconst 2, 1) := by decide +kernel
theorem dX8_judgedMark_52 : decode cX8_judgedMark 52 = .ok (.fdiv, 1) := by decide +kernel
end
section
theorem dX8_judgedMark_53 : decode cX8_judgedMark 53 = .ok (.freturn, 1) := by decide +kernel
set_option maxRecDepth 20000 in
theorem ggX8_markByJudge_X1_knowsOn : GoodIn wsX8_markByJudge wsX1_knowsOn := goodIn_r _ [6, 7, 37] (by decide +kernel) (by decide +kernel)
set_option maxRecDepth 20000 in
theorem gX8_markByJudge_X1_knowsOn : GoodIn wsX8_markByJudge (wsV RX8 142 RX1 yX1_knowsOn wsX1_knowsOn) := goodIn_app (goodIn_of _ (by decide +kernel)) ggX8_markByJudge_X1_knowsOn
set_option maxRecDepth 20000 in
theorem ggX8_markByJudge_X7_markBy : GoodIn wsX8_markByJudge wsX7_markBy := goodIn_r _ [12, 13, 14, 15, 16, 17, 18, 19, 20, 21, 22, 23, 24, 25, 26, 38, 39, 40, 41, 42, 43, 44, 45, 46, 47] (by decide +kernel) (by decide +kernel)
set_option maxRecDepth 20000 in
theorem gX8_markByJudge_X7_markBy : GoodIn wsX8_markByJudge (wsV RX8 265 RX7 yX7_markBy wsX7_markBy) := goodIn_app (goodIn_of _ (by decide +kernel)) ggX8_markByJudge_X7_markBy
theorem dX8_markByJudge_0 : decode cX8_markByJudge 0 = .ok (.fconst 0, 1) := by decide +kernel
theorem dX8_markByJudge_1 : decode cX8_markByJudge 1 = .ok (.fstore 4, 2) := by decide +kernel
theorem dX8_markByJudge_3 : decode cX8_markByJudge 3 = .ok (.aload_n 1, 1) := by decide +kernel
theorem dX8_markByJudge_4 : decode cX8_markByJudge 4 = .ok (.ifnonnull 6, 3) := by decide +kernel
theorem dX8_markByJudge_7 : decode cX8_markByJudge 7 = .ok (.fload 4, 2) := by decide +kernel
theorem dX8_markByJudge_9 : decode cX8_markByJudge 9 = .ok (.freturn, 1) := by decide +kernel
theorem dX8_markByJudge_10 : decode cX8_markByJudge 10 = .ok (.iconst 0, 1) := by decide +kernel
theorem dX8_markByJudge_11 : decode cX8_markByJudge 11 = .ok (.istore 5, 2) := by decide +kernel
theorem dX8_markByJudge_13 : decode cX8_markByJudge 13 = .ok (.iload 5, 2) := by decide +kernel
theorem dX8_markByJudge_15 : decode cX8_markByJudge 15 = .ok (.aload_n 0, 1) := by decide +kernel
theorem dX8_markByJudge_16 : decode cX8_markByJudge 16 = .ok (.getfield 23, 3) := by decide +kernel
theorem dX8_markByJudge_19 : decode cX8_markByJudge 19 = .ok (.arraylength, 1) := by decide +kernel
theorem dX8_markByJudge_20 : decode cX8_markByJudge 20 = .ok (.if_icmp .ge 59, 3) := by decide +kernel
theorem dX8_markByJudge_23 : decode cX8_markByJudge 23 = .ok (.aload_n 0, 1) := by decide +kernel
theorem dX8_markByJudge_24 : decode cX8_markByJudge 24 = .ok (.getfield 23, 3) := by decide +kernel
theorem dX8_markByJudge_27 : decode cX8_markByJudge 27 = .ok (.iload 5, 2) := by decide +kernel
theorem dX8_markByJudge_29 : decode cX8_markByJudge 29 = .ok (.aaload, 1) := by decide +kernel
theorem dX8_markByJudge_30 : decode cX8_markByJudge 30 = .ok (.ifnull 43, 3) := by decide +kernel
theorem dX8_markByJudge_33 : decode cX8_markByJudge 33 = .ok (.aload_n 1, 1) := by decide +kernel
theorem dX8_markByJudge_34 : decode cX8_markByJudge 34 = .ok (.iload 5, 2) := by decide +kernel
theorem dX8_markByJudge_36 : decode cX8_markByJudge 36 = .ok (.iload_n 2, 1) := by decide +kernel
theorem dX8_markByJudge_37 : decode cX8_markByJudge 37 = .ok (.invokevirtual 142, 3) := by decide +kernel
theorem dX8_markByJudge_40 : decode cX8_markByJudge 40 = .ok (.ifCond .eq 33, 3) := by decide +kernel
theorem dX8_markByJudge_43 : decode cX8_markByJudge 43 = .ok (.aload_n 3, 1) := by decide +kernel
theorem dX8_markByJudge_44 : decode cX8_markByJudge 44 = .ok (.aload_n 0, 1) := by decide +kernel
theorem dX8_markByJudge_45 : decode cX8_markByJudge 45 = .ok (.getfield 23, 3) := by decide +kernel
theorem dX8_markByJudge_48 : decode cX8_markByJudge 48 = .ok (.iload 5, 2) := by decide +kernel
theorem dX8_markByJudge_50 : decode cX8_markByJudge 50 = .ok (.aaload, 1) := by decide +kernel
theorem dX8_markByJudge_51 : decode cX8_markByJudge 51 = .ok (.invokevirtual 265, 3) := by decide +kernel
theorem dX8_markByJudge_54 : decode cX8_markByJudge 54 = .ok (.fstore 6, 2) := by decide +kernel
theorem dX8_markByJudge_56 : decode cX8_markByJudge 56 = .ok (.fload 6, 2) := by decide +kernel
theorem dX8_markByJudge_58 : decode cX8_markByJudge 58 = .ok (.fload 4, 2) := by decide +kernel
theorem dX8_markByJudge_60 : decode cX8_markByJudge 60 = .ok (.fcmp .l, 1) := by decide +kernel
theorem dX8_markByJudge_61 : decode cX8_markByJudge 61 = .ok (.ifCond .le 8, 3) := by decide +kernel
theorem dX8_markByJudge_64 : decode cX8_markByJudge 64 = .ok (.fload 6, 2) := by decide +kernel
theorem dX8_markByJudge_66 : decode cX8_markByJudge 66 = .ok (.goto 5, 3) := by decide +kernel
theorem dX8_markByJudge_69 : decode cX8_markByJudge 69 = .ok (.fload 4, 2) := by decide +kernel
theorem dX8_markByJudge_71 : decode cX8_markByJudge 71 = .ok (.fstore 4, 2) := by decide +kernel
theorem dX8_markByJudge_73 : decode cX8_markByJudge 73 = .ok (.iinc 5 1, 3) := by decide +kernel
theorem dX8_markByJudge_76 : decode cX8_markByJudge 76 = .ok (.goto (-63), 3) := by decide +kernel
theorem dX8_markByJudge_79 : decode cX8_markByJudge 79 = .ok (.fload 4, 2) := by decide +kernel
theorem dX8_markByJudge_81 : decode cX8_markByJudge 81 = .ok (.freturn, 1) := by decide +kernel
set_option maxRecDepth 20000 in
theorem ggX8_roundGoesTo_X0_writingAt : GoodIn wsX8_roundGoesTo wsX0_writingAt := goodIn_r _ [6, 7, 55, 56, 57, 58, 59, 60, 61, 62, 63, 64] (by decide +kernel) (by decide +kernel)
set_option maxRecDepth 20000 in
theorem gX8_roundGoesTo_X0_writingAt : GoodIn wsX8_roundGoesTo (wsV RX8 234 RX0 yX0_writingAt wsX0_writingAt) := goodIn_app (goodIn_of _ (by decide +kernel)) ggX8_roundGoesTo_X0_writingAt
set_option maxRecDepth 20000 in
theorem ggX8_roundGoesTo_X8_judgedMark : GoodIn wsX8_roundGoesTo wsX8_judgedMark := goodIn_r _ [12, 13, 14, 15, 16, 17, 18, 11, 19, 20, 21, 22, 23, 24, 25, 26, 27, 28, 29, 30, 31, 32, 33, 34, 35, 36, 37, 38, 39, 40, 41, 42, 43, 44, 45, 46, 47, 48, 49, 50, 55, 56, 57, 58, 59, 60, 61, 62, 63, 64, 65, 66, 67, 68, 69, 70, 71, 72, 73, 74, 75, 51, 52, 53, 54, 76, 77, 78, 79, 80, 81] (by decide +kernel) (by decide +kernel)
set_option maxRecDepth 20000 in
theorem gX8_roundGoesTo_X8_judgedMark : GoodIn wsX8_roundGoesTo (wsV RX8 286 RX8 yX8_judgedMark wsX8_judgedMark) := goodIn_app (goodIn_of _ (by decide +kernel)) ggX8_roundGoesTo_X8_judgedMark
theorem dX8_roundGoesTo_0 : decode cX8_roundGoesTo 0 = .ok (.aload_n 1, 1) := by decide +kernel
theorem dX8_roundGoesTo_1 : decode cX8_roundGoesTo 1 = .ok (.iload_n 2, 1) := by decide +kernel
theorem dX8_roundGoesTo_2 : decode cX8_roundGoesTo 2 = .ok (.iconst 0, 1) := by decide +kernel
theorem dX8_roundGoesTo_3 : decode cX8_roundGoesTo 3 = .ok (.invokevirtual 234, 3) := by decide +kernel
theorem dX8_roundGoesTo_6 : decode cX8_roundGoesTo 6 = .ok (.astore_n 3, 1) := by decide +kernel
theorem dX8_roundGoesTo_7 : decode cX8_roundGoesTo 7 = .ok (.aload_n 1, 1) := by decide +kernel
theorem dX8_roundGoesTo_8 : decode cX8_roundGoesTo 8 = .ok (.iload_n 2, 1) := by decide +kernel
theorem dX8_roundGoesTo_9 : decode cX8_roundGoesTo 9 = .ok (.iconst 1, 1) := by decide +kernel
theorem dX8_roundGoesTo_10 : decode cX8_roundGoesTo 10 = .ok (.invokevirtual 234, 3) := by decide +kernel
theorem dX8_roundGoesTo_13 : decode cX8_roundGoesTo 13 = .ok (.astore 4, 2) := by decide +kernel
theorem dX8_roundGoesTo_15 : decode cX8_roundGoesTo 15 = .ok (.aload_n 3, 1) := by decide +kernel
theorem dX8_roundGoesTo_16 : decode cX8_roundGoesTo 16 = .ok (.ifnull 23, 3) := by decide +kernel
theorem dX8_roundGoesTo_19 : decode cX8_roundGoesTo 19 = .ok (.aload 4, 2) := by decide +kernel
theorem dX8_roundGoesTo_21 : decode cX8_roundGoesTo 21 = .ok (.ifnull 18, 3) := by decide +kernel
theorem dX8_roundGoesTo_24 : decode cX8_roundGoesTo 24 = .ok (.aload_n 3, 1) := by decide +kernel
theorem dX8_roundGoesTo_25 : decode cX8_roundGoesTo 25 = .ok (.getfield 244, 3) := by decide +kernel
theorem dX8_roundGoesTo_28 : decode cX8_roundGoesTo 28 = .ok (.ifCond .eq 13, 3) := by decide +kernel
theorem dX8_roundGoesTo_31 : decode cX8_roundGoesTo 31 = .ok (.aload 4, 2) := by decide +kernel
theorem dX8_roundGoesTo_33 : decode cX8_roundGoesTo 33 = .ok (.getfield 244, 3) := by decide +kernel
theorem dX8_roundGoesTo_36 : decode cX8_roundGoesTo 36 = .ok (.ifCond .eq 5, 3) := by decide +kernel
theorem dX8_roundGoesTo_39 : decode cX8_roundGoesTo 39 = .ok (.iconst 0, 1) := by decide +kernel
theorem dX8_roundGoesTo_40 : decode cX8_roundGoesTo 40 = .ok (.ireturn, 1) := by decide +kernel
theorem dX8_roundGoesTo_41 : decode cX8_roundGoesTo 41 = .ok (.aload_n 3, 1) := by decide +kernel
theorem dX8_roundGoesTo_42 : decode cX8_roundGoesTo 42 = .ok (.getfield 244, 3) := by decide +kernel
theorem dX8_roundGoesTo_45 : decode cX8_roundGoesTo 45 = .ok (.ifCond .eq 5, 3) := by decide +kernel
theorem dX8_roundGoesTo_48 : decode cX8_roundGoesTo 48 = .ok (.iconst (-1), 1) := by decide +kernel
theorem dX8_roundGoesTo_49 : decode cX8_roundGoesTo 49 = .ok (.ireturn, 1) := by decide +kernel
theorem dX8_roundGoesTo_50 : decode cX8_roundGoesTo 50 = .ok (.aload 4, 2) := by decide +kernel
theorem dX8_roundGoesTo_52 : decode cX8_roundGoesTo 52 = .ok (.getfield 244, 3) := by decide +kernel
theorem dX8_roundGoesTo_55 : decode cX8_roundGoesTo 55 = .ok (.ifCond .eq 5, 3) := by decide +kernel
theorem dX8_roundGoesTo_58 : decode cX8_roundGoesTo 58 = .ok (.iconst 1, 1) := by decide +kernel
theorem dX8_roundGoesTo_59 : decode cX8_roundGoesTo 59 = .ok (.ireturn, 1) := by decide +kernel
theorem dX8_roundGoesTo_60 : decode cX8_roundGoesTo 60 = .ok (.aload_n 0, 1) := by decide +kernel
theorem dX8_roundGoesTo_61 : decode cX8_roundGoesTo 61 = .ok (.aload_n 1, 1) := by decide +kernel
theorem dX8_roundGoesTo_62 : decode cX8_roundGoesTo 62 = .ok (.aload_n 3, 1) := by decide +kernel
theorem dX8_roundGoesTo_63 : decode cX8_roundGoesTo 63 = .ok (.invokevirtual 286, 3) := by decide +kernel
theorem dX8_roundGoesTo_66 : decode cX8_roundGoesTo 66 = .ok (.fstore 5, 2) := by decide +kernel
theorem dX8_roundGoesTo_68 : decode cX8_roundGoesTo 68 = .ok (.aload_n 0, 1) := by decide +kernel
theorem dX8_roundGoesTo_69 : decode cX8_roundGoesTo 69 = .ok (.aload_n 1, 1) := by decide +kernel
theorem dX8_roundGoesTo_70 : decode cX8_roundGoesTo 70 = .ok (.aload 4, 2) := by decide +kernel
theorem dX8_roundGoesTo_72 : decode cX8_roundGoesTo 72 = .ok (.invokevirtual 286, 3) := by decide +kernel
theorem dX8_roundGoesTo_75 : decode cX8_roundGoesTo 75 = .ok (.fstore 6, 2) := by decide +kernel
theorem dX8_roundGoesTo_77 : decode cX8_roundGoesTo 77 = .ok (.fload 5, 2) := by decide +kernel
theorem dX8_roundGoesTo_79 : decode cX8_roundGoesTo 79 = .ok (.fload 6, 2) := by decide +kernel
theorem dX8_roundGoesTo_81 : decode cX8_roundGoesTo 81 = .ok (.fcmp .l, 1) := by decide +kernel
theorem dX8_roundGoesTo_82 : decode cX8_roundGoesTo 82 = .ok (.ifCond .ne 5, 3) := by decide +kernel
theorem dX8_roundGoesTo_85 : decode cX8_roundGoesTo 85 = .ok (.iconst 0, 1) := by decide +kernel
theorem dX8_roundGoesTo_86 : decode cX8_roundGoesTo 86 = .ok (.ireturn, 1) := by decide +kernel
theorem dX8_roundGoesTo_87 : decode cX8_roundGoesTo 87 = .ok (.fload 5, 2) := by decide +kernel
theorem dX8_roundGoesTo_89 : decode cX8_roundGoesTo 89 = .ok (.fload 6, 2) := by decide +kernel
theorem dX8_roundGoesTo_91 : decode cX8_roundGoesTo 91 = .ok (.fcmp .l, 1) := by decide +kernel
theorem dX8_roundGoesTo_92 : decode cX8_roundGoesTo 92 = .ok (.ifCond .le 7, 3) := by decide +kernel
theorem dX8_roundGoesTo_95 : decode cX8_roundGoesTo 95 = .ok (.iconst 1, 1) := by decide +kernel
theorem dX8_roundGoesTo_96 : decode cX8_roundGoesTo 96 = .ok (.goto 4, 3) := by decide +kernel
theorem dX8_roundGoesTo_99 : decode cX8_roundGoesTo 99 = .ok (.iconst (-1), 1) := by decide +kernel
theorem dX8_roundGoesTo_100 : decode cX8_roundGoesTo 100 = .ok (.ireturn, 1) := by decide +kernel
set_option maxRecDepth 20000 in
theorem ggX8_countRounds_X8_roundGoesTo : GoodIn wsX8_countRounds wsX8_roundGoesTo := goodIn_r _ [5, 6, 7, 8, 9, 10, 11, 12, 13, 14, 15, 4, 16, 17, 18, 19, 20, 21, 22, 23, 24, 25, 26, 27, 28, 29, 30, 31, 32, 33, 34, 35, 36, 37, 38, 39, 40, 41, 42, 43, 44, 45, 46, 47, 48, 49, 50, 51, 52, 53, 54, 55, 56, 57, 58, 59, 60, 61, 62, 63, 64, 65, 66, 67, 68, 69, 70, 71, 72, 73, 74, 75, 76, 77, 78, 79, 80, 81, 82, 83, 84, 85] (by decide +kernel) (by decide +kernel)
set_option maxRecDepth 20000 in
theorem gX8_countRounds_X8_roundGoesTo : GoodIn wsX8_countRounds (wsV RX8 299 RX8 yX8_roundGoesTo wsX8_roundGoesTo) := goodIn_app (goodIn_of _ (by decide +kernel)) ggX8_countRounds_X8_roundGoesTo
theorem dX8_countRounds_0 : decode cX8_countRounds 0 = .ok (.iconst 0, 1) := by decide +kernel
theorem dX8_countRounds_1 : decode cX8_countRounds 1 = .ok (.istore_n 3, 1) := by decide +kernel
theorem dX8_countRounds_2 : decode cX8_countRounds 2 = .ok (.iconst 0, 1) := by decide +kernel
theorem dX8_countRounds_3 : decode cX8_countRounds 3 = .ok (.istore 4, 2) := by decide +kernel
theorem dX8_countRounds_5 : decode cX8_countRounds 5 = .ok (.iload 4, 2) := by decide +kernel
theorem dX8_countRounds_7 : decode cX8_countRounds 7 = .ok (.iconst 5, 1) := by decide +kernel
theorem dX8_countRounds_8 : decode cX8_countRounds 8 = .ok (.if_icmp .ge 23, 3) := by decide +kernel
theorem dX8_countRounds_11 : decode cX8_countRounds 11 = .ok (.aload_n 0, 1) := by decide +kernel
theorem dX8_countRounds_12 : decode cX8_countRounds 12 = .ok (.aload_n 1, 1) := by decide +kernel
theorem dX8_countRounds_13 : decode cX8_countRounds 13 = .ok (.iload 4, 2) := by decide +kernel
theorem dX8_countRounds_15 : decode cX8_countRounds 15 = .ok (.invokevirtual 299, 3) := by decide +kernel
theorem dX8_countRounds_18 : decode cX8_countRounds 18 = .ok (.iload_n 2, 1) := by decide +kernel
theorem dX8_countRounds_19 : decode cX8_countRounds 19 = .ok (.if_icmp .ne 6, 3) := by decide +kernel
theorem dX8_countRounds_22 : decode cX8_countRounds 22 = .ok (.iinc 3 1, 3) := by decide +kernel
theorem dX8_countRounds_25 : decode cX8_countRounds 25 = .ok (.iinc 4 1, 3) := by decide +kernel
theorem dX8_countRounds_28 : decode cX8_countRounds 28 = .ok (.goto (-23), 3) := by decide +kernel
theorem dX8_countRounds_31 : decode cX8_countRounds 31 = .ok (.iload_n 3, 1) := by decide +kernel
theorem dX8_countRounds_32 : decode cX8_countRounds 32 = .ok (.ireturn, 1) := by decide +kernel
set_option maxRecDepth 20000 in
theorem ggX8_winnerOf_X0_isOver : GoodIn wsX8_winnerOf wsX0_isOver := goodIn_r _ [7, 8, 9, 63, 64, 65, 66, 67, 68, 69, 70, 71, 72] (by decide +kernel) (by decide +kernel)
set_option maxRecDepth 20000 in
theorem gX8_winnerOf_X0_isOver : GoodIn wsX8_winnerOf (wsV RX8 205 RX0 yX0_isOver wsX0_isOver) := goodIn_app (goodIn_of _ (by decide +kernel)) ggX8_winnerOf_X0_isOver
set_option maxRecDepth 20000 in
theorem ggX8_winnerOf_X8_roundGoesTo : GoodIn wsX8_winnerOf wsX8_roundGoesTo := goodIn_r _ [14, 15, 16, 17, 18, 6, 19, 20, 21, 22, 23, 13, 24, 25, 26, 27, 28, 29, 30, 31, 32, 33, 34, 35, 36, 37, 38, 39, 40, 41, 42, 43, 44, 45, 46, 47, 48, 49, 50, 51, 52, 53, 54, 55, 56, 57, 58, 59, 60, 61, 62, 73, 74, 75, 76, 63, 64, 65, 66, 67, 68, 69, 70, 71, 72, 77, 78, 79, 80, 81, 82, 83, 84, 85, 86, 87, 88, 89, 90, 91, 92, 93] (by decide +kernel) (by decide +kernel)
set_option maxRecDepth 20000 in
theorem gX8_winnerOf_X8_roundGoesTo : GoodIn wsX8_winnerOf (wsV RX8 299 RX8 yX8_roundGoesTo wsX8_roundGoesTo) := goodIn_app (goodIn_of _ (by decide +kernel)) ggX8_winnerOf_X8_roundGoesTo
theorem dX8_winnerOf_0 : decode cX8_winnerOf 0 = .ok (.aload_n 1, 1) := by decide +kernel
theorem dX8_winnerOf_1 : decode cX8_winnerOf 1 = .ok (.invokevirtual 205, 3) := by decide +kernel
theorem dX8_winnerOf_4 : decode cX8_winnerOf 4 = .ok (.ifCond .ne 5, 3) := by decide +kernel
theorem dX8_winnerOf_7 : decode cX8_winnerOf 7 = .ok (.iconst (-1), 1) := by decide +kernel
theorem dX8_winnerOf_8 : decode cX8_winnerOf 8 = .ok (.ireturn, 1) := by decide +kernel
theorem dX8_winnerOf_9 : decode cX8_winnerOf 9 = .ok (.iconst 0, 1) := by decide +kernel
theorem dX8_winnerOf_10 : decode cX8_winnerOf 10 = .ok (.istore_n 2, 1) := by decide +kernel
theorem dX8_winnerOf_11 : decode cX8_winnerOf 11 = .ok (.iconst 0, 1) := by decide +kernel
theorem dX8_winnerOf_12 : decode cX8_winnerOf 12 = .ok (.istore_n 3, 1) := by decide +kernel
theorem dX8_winnerOf_13 : decode cX8_winnerOf 13 = .ok (.iload_n 3, 1) := by decide +kernel
theorem dX8_winnerOf_14 : decode cX8_winnerOf 14 = .ok (.iconst 5, 1) := by decide +kernel
theorem dX8_winnerOf_15 : decode cX8_winnerOf 15 = .ok (.if_icmp .ge 18, 3) := by decide +kernel
theorem dX8_winnerOf_18 : decode cX8_winnerOf 18 = .ok (.iload_n 2, 1) := by decide +kernel
theorem dX8_winnerOf_19 : decode cX8_winnerOf 19 = .ok (.aload_n 0, 1) := by decide +kernel
theorem dX8_winnerOf_20 : decode cX8_winnerOf 20 = .ok (.aload_n 1, 1) := by decide +kernel
theorem dX8_winnerOf_21 : decode cX8_winnerOf 21 = .ok (.iload_n 3, 1) := by decide +kernel
theorem dX8_winnerOf_22 : decode cX8_winnerOf 22 = .ok (.invokevirtual 299, 3) := by decide +kernel
theorem dX8_winnerOf_25 : decode cX8_winnerOf 25 = .ok (.iadd, 1) := by decide +kernel
theorem dX8_winnerOf_26 : decode cX8_winnerOf 26 = .ok (.istore_n 2, 1) := by decide +kernel
theorem dX8_winnerOf_27 : decode cX8_winnerOf 27 = .ok (.iinc 3 1, 3) := by decide +kernel
theorem dX8_winnerOf_30 : decode cX8_winnerOf 30 = .ok (.goto (-17), 3) := by decide +kernel
theorem dX8_winnerOf_33 : decode cX8_winnerOf 33 = .ok (.iload_n 2, 1) := by decide +kernel
theorem dX8_winnerOf_34 : decode cX8_winnerOf 34 = .ok (.ifCond .ne 5, 3) := by decide +kernel
theorem dX8_winnerOf_37 : decode cX8_winnerOf 37 = .ok (.iconst (-1), 1) := by decide +kernel
theorem dX8_winnerOf_38 : decode cX8_winnerOf 38 = .ok (.ireturn, 1) := by decide +kernel
theorem dX8_winnerOf_39 : decode cX8_winnerOf 39 = .ok (.iload_n 2, 1) := by decide +kernel
theorem dX8_winnerOf_40 : decode cX8_winnerOf 40 = .ok (.ifCond .le 10, 3) := by decide +kernel
theorem dX8_winnerOf_43 : decode cX8_winnerOf 43 = .ok (.aload_n 1, 1) := by decide +kernel
theorem dX8_winnerOf_44 : decode cX8_winnerOf 44 = .ok (.getfield 302, 3) := by decide +kernel
theorem dX8_winnerOf_47 : decode cX8_winnerOf 47 = .ok (.goto 7, 3) := by decide +kernel
theorem dX8_winnerOf_50 : decode cX8_winnerOf 50 = .ok (.aload_n 1, 1) := by decide +kernel
theorem dX8_winnerOf_51 : decode cX8_winnerOf 51 = .ok (.getfield 305, 3) := by decide +kernel
theorem dX8_winnerOf_54 : decode cX8_winnerOf 54 = .ok (.ireturn, 1) := by decide +kernel
theorem dX9_init_0 : decode cX9_init 0 = .ok (.aload_n 0, 1) := by decide +kernel
theorem dX9_init_1 : decode cX9_init 1 = .ok (.invokespecial 1, 3) := by decide +kernel
theorem dX9_init_4 : decode cX9_init 4 = .ok (.aload_n 0, 1) := by decide +kernel
theorem dX9_init_5 : decode cX9_init 5 = .ok (.bipush 32, 2) := by decide +kernel
theorem dX9_init_7 : decode cX9_init 7 = .ok (.newarray .int, 2) := by decide +kernel
theorem dX9_init_9 : decode cX9_init 9 = .ok (.putfield 7, 3) := by decide +kernel
theorem dX9_init_12 : decode cX9_init 12 = .ok (.aload_n 0, 1) := by decide +kernel
theorem dX9_init_13 : decode cX9_init 13 = .ok (.bipush 6, 2) := by decide +kernel
theorem dX9_init_15 : decode cX9_init 15 = .ok (.newarray .int, 2) := by decide +kernel
theorem dX9_init_17 : decode cX9_init 17 = .ok (.putfield 13, 3) := by decide +kernel
theorem dX9_init_20 : decode cX9_init 20 = .ok (.aload_n 0, 1) := by decide +kernel
theorem dX9_init_21 : decode cX9_init 21 = .ok (.sipush 144, 3) := by decide +kernel
theorem dX9_init_24 : decode cX9_init 24 = .ok (.newarray .int, 2) := by decide +kernel
theorem dX9_init_26 : decode cX9_init 26 = .ok (.putfield 16, 3) := by decide +kernel
theorem dX9_init_29 : decode cX9_init 29 = .ok (.aload_n 0, 1) := by decide +kernel
theorem dX9_init_30 : decode cX9_init 30 = .ok (.iconst 3, 1) := by decide +kernel
theorem dX9_init_31 : decode cX9_init 31 = .ok (.newarray .int, 2) := by decide +kernel
theorem dX9_init_33 : decode cX9_init 33 = .ok (.putfield 19, 3) := by decide +kernel
theorem dX9_init_36 : decode cX9_init 36 = .ok (.aload_n 0, 1) := by decide +kernel
theorem dX9_init_37 : decode cX9_init 37 = .ok (.iconst 3, 1) := by decide +kernel
theorem dX9_init_38 : decode cX9_init 38 = .ok (.newarray .int, 2) := by decide +kernel
theorem dX9_init_40 : decode cX9_init 40 = .ok (.putfield 22, 3) := by decide +kernel
theorem dX9_init_43 : decode cX9_init 43 = .ok (.aload_n 0, 1) := by decide +kernel
theorem dX9_init_44 : decode cX9_init 44 = .ok (.iconst 3, 1) := by decide +kernel
theorem dX9_init_45 : decode cX9_init 45 = .ok (.newarray .int, 2) := by decide +kernel
theorem dX9_init_47 : decode cX9_init 47 = .ok (.putfield 25, 3) := by decide +kernel
theorem dX9_init_50 : decode cX9_init 50 = .ok (.aload_n 0, 1) := by decide +kernel
theorem dX9_init_51 : decode cX9_init 51 = .ok (.bipush 12, 2) := by decide +kernel
theorem dX9_init_53 : decode cX9_init 53 = .ok (.newarray .int, 2) := by decide +kernel
theorem dX9_init_55 : decode cX9_init 55 = .ok (.putfield 28, 3) := by decide +kernel
theorem dX9_init_58 : decode cX9_init 58 = .ok (.aload_n 0, 1) := by decide +kernel
theorem dX9_init_59 : decode cX9_init 59 = .ok (.bipush 16, 2) := by decide +kernel
theorem dX9_init_61 : decode cX9_init 61 = .ok (.newarray .int, 2) := by decide +kernel
theorem dX9_init_63 : decode cX9_init 63 = .ok (.putfield 31, 3) := by decide +kernel
theorem dX9_init_66 : decode cX9_init 66 = .ok (.aload_n 0, 1) := by decide +kernel
theorem dX9_init_67 : decode cX9_init 67 = .ok (.bipush 12, 2) := by decide +kernel
theorem dX9_init_69 : decode cX9_init 69 = .ok (.newarray .int, 2) := by decide +kernel
theorem dX9_init_71 : decode cX9_init 71 = .ok (.putfield 34, 3) := by decide +kernel
theorem dX9_init_74 : decode cX9_init 74 = .ok (.aload_n 0, 1) := by decide +kernel
theorem dX9_init_75 : decode cX9_init 75 = .ok (.bipush 12, 2) := by decide +kernel
theorem dX9_init_77 : decode cX9_init 77 = .ok (.newarray .int, 2) := by decide +kernel
theorem dX9_init_79 : decode cX9_init 79 = .ok (.putfield 37, 3) := by decide +kernel
theorem dX9_init_82 : decode cX9_init 82 = .ok (.aload_n 0, 1) := by decide +kernel
theorem dX9_init_83 : decode cX9_init 83 = .ok (.bipush 12, 2) := by decide +kernel
theorem dX9_init_85 : decode cX9_init 85 = .ok (.newarray .int, 2) := by decide +kernel
theorem dX9_init_87 : decode cX9_init 87 = .ok (.putfield 40, 3) := by decide +kernel
theorem dX9_init_90 : decode cX9_init 90 = .ok (.aload_n 0, 1) := by decide +kernel
theorem dX9_init_91 : decode cX9_init 91 = .ok (.bipush 12, 2) := by decide +kernel
theorem dX9_init_93 : decode cX9_init 93 = .ok (.newarray .int, 2) := by decide +kernel
theorem dX9_init_95 : decode cX9_init 95 = .ok (.putfield 43, 3) := by decide +kernel
theorem dX9_init_98 : decode cX9_init 98 = .ok (.aload_n 0, 1) := by decide +kernel
theorem dX9_init_99 : decode cX9_init 99 = .ok (.bipush 12, 2) := by decide +kernel
theorem dX9_init_101 : decode cX9_init 101 = .ok (.newarray .int, 2) := by decide +kernel
theorem dX9_init_103 : decode cX9_init 103 = .ok (.putfield 46, 3) := by decide +kernel
theorem dX9_init_106 : decode cX9_init 106 = .ok (.aload_n 0, 1) := by decide +kernel
theorem dX9_init_107 : decode cX9_init 107 = .ok (.bipush 12, 2) := by decide +kernel
theorem dX9_init_109 : decode cX9_init 109 = .ok (.newarray .int, 2) := by decide +kernel
theorem dX9_init_111 : decode cX9_init 111 = .ok (.putfield 49, 3) := by decide +kernel
theorem dX9_init_114 : decode cX9_init 114 = .ok (.aload_n 0, 1) := by decide +kernel
theorem dX9_init_115 : decode cX9_init 115 = .ok (.bipush 12, 2) := by decide +kernel
theorem dX9_init_117 : decode cX9_init 117 = .ok (.newarray .int, 2) := by decide +kernel
theorem dX9_init_119 : decode cX9_init 119 = .ok (.putfield 52, 3) := by decide +kernel
theorem dX9_init_122 : decode cX9_init 122 = .ok (.aload_n 0, 1) := by decide +kernel
theorem dX9_init_123 : decode cX9_init 123 = .ok (.bipush 12, 2) := by decide +kernel
theorem dX9_init_125 : decode cX9_init 125 = .ok (.newarray .int, 2) := by decide +kernel
theorem dX9_init_127 : decode cX9_init 127 = .ok (.putfield 55, 3) := by decide +kernel
theorem dX9_init_130 : decode cX9_init 130 = .ok (.aload_n 0, 1) := by decide +kernel
theorem dX9_init_131 : decode cX9_init 131 = .ok (.bipush 12, 2) := by decide +kernel
theorem dX9_init_133 : decode cX9_init 133 = .ok (.newarray .int, 2) := by decide +kernel
theorem dX9_init_135 : decode cX9_init 135 = .ok (.putfield 58, 3) := by decide +kernel
theorem dX9_init_138 : decode cX9_init 138 = .ok (.aload_n 0, 1) := by decide +kernel
theorem dX9_init_139 : decode cX9_init 139 = .ok (.bipush 12, 2) := by decide +kernel
theorem dX9_init_141 : decode cX9_init 141 = .ok (.newarray .int, 2) := by decide +kernel
theorem dX9_init_143 : decode cX9_init 143 = .ok (.putfield 61, 3) := by decide +kernel
theorem dX9_init_146 : decode cX9_init 146 = .ok (.aload_n 0, 1) := by decide +kernel
theorem dX9_init_147 : decode cX9_init 147 = .ok (.bipush 120, 2) := by decide +kernel
theorem dX9_init_149 : decode cX9_init 149 = .ok (.newarray .int, 2) := by decide +kernel
theorem dX9_init_151 : decode cX9_init 151 = .ok (.putfield 64, 3) := by decide +kernel
theorem dX9_init_154 : decode cX9_init 154 = .ok (.aload_n 0, 1) := by decide +kernel
theorem dX9_init_155 : decode cX9_init 155 = .ok (.bipush 120, 2) := by decide +kernel
theorem dX9_init_157 : decode cX9_init 157 = .ok (.newarray .int, 2) := by decide +kernel
theorem dX9_init_159 : decode cX9_init 159 = .ok (.putfield 67, 3) := by decide +kernel
theorem dX9_init_162 : decode cX9_init 162 = .ok (.aload_n 0, 1) := by decide +kernel
theorem dX9_init_163 : decode cX9_init 163 = .ok (.bipush 120, 2) := by decide +kernel
theorem dX9_init_165 : decode cX9_init 165 = .ok (.newarray .boolean, 2) := by decide +kernel
theorem dX9_init_167 : decode cX9_init 167 = .ok (.putfield 70, 3) := by decide +kernel
theorem dX9_init_170 : decode cX9_init 170 = .ok (.aload_n 0, 1) := by decide +kernel
theorem dX9_init_171 : decode cX9_init 171 = .ok (.bipush 120, 2) := by decide +kernel
theorem dX9_init_173 : decode cX9_init 173 = .ok (.newarray .boolean, 2) := by decide +kernel
theorem dX9_init_175 : decode cX9_init 175 = .ok (.putfield 74, 3) := by decide +kernel
theorem dX9_init_178 : decode cX9_init 178 = .ok (.aload_n 0, 1) := by decide +kernel
theorem dX9_init_179 : decode cX9_init 179 = .ok (.sipush 3840, 3) := by decide +kernel
theorem dX9_init_182 : decode cX9_init 182 = .ok (.newarray .int, 2) := by decide +kernel
theorem dX9_init_184 : decode cX9_init 184 = .ok (.putfield 77, 3) := by decide +kernel
theorem dX9_init_187 : decode cX9_init 187 = .ok (.iconst 0, 1) := by decide +kernel
theorem dX9_init_188 : decode cX9_init 188 = .ok (.istore_n 1, 1) := by decide +kernel
theorem dX9_init_189 : decode cX9_init 189 = .ok (.iload_n 1, 1) := by decide +kernel
theorem dX9_init_190 : decode cX9_init 190 = .ok (.bipush 16, 2) := by decide +kernel
theorem dX9_init_192 : decode cX9_init 192 = .ok (.if_icmp .ge 16, 3) := by decide +kernel
theorem dX9_init_195 : decode cX9_init 195 = .ok (.aload_n 0, 1) := by decide +kernel
theorem dX9_init_196 : decode cX9_init 196 = .ok (.getfield 31, 3) := by decide +kernel
theorem dX9_init_199 : decode cX9_init 199 = .ok (.iload_n 1, 1) := by decide +kernel
theorem dX9_init_200 : decode cX9_init 200 = .ok (.iconst (-1), 1) := by decide +kernel
theorem dX9_init_201 : decode cX9_init 201 = .ok (.iastore, 1) := by decide +kernel
theorem dX9_init_202 : decode cX9_init 202 = .ok (.iinc 1 1, 3) := by decide +kernel
theorem dX9_init_205 : decode cX9_init 205 = .ok (.goto (-16), 3) := by decide +kernel
theorem dX9_init_208 : decode cX9_init 208 = .ok (.return_, 1) := by decide +kernel
theorem dX9_thrown_0 : decode cX9_thrown 0 = .ok (.aload_n 0, 1) := by decide +kernel
theorem dX9_thrown_1 : decode cX9_thrown 1 = .ok (.getfield 80, 3) := by decide +kernel
theorem dX9_thrown_4 : decode cX9_thrown 4 = .ok (.ireturn, 1) := by decide +kernel
theorem dX9_in_0 : decode cX9_in 0 = .ok (.iload_n 0, 1) := by decide +kernel
theorem dX9_in_1 : decode cX9_in 1 = .ok (.iload_n 1, 1) := by decide +kernel
theorem dX9_in_2 : decode cX9_in 2 = .ok (.if_icmp .lt 12, 3) := by decide +kernel
theorem dX9_in_5 : decode cX9_in 5 = .ok (.iload_n 0, 1) := by decide +kernel
theorem dX9_in_6 : decode cX9_in 6 = .ok (.iload_n 2, 1) := by decide +kernel
theorem dX9_in_7 : decode cX9_in 7 = .ok (.if_icmp .gt 7, 3) := by decide +kernel
theorem dX9_in_10 : decode cX9_in 10 = .ok (.iconst 1, 1) := by decide +kernel
theorem dX9_in_11 : decode cX9_in 11 = .ok (.goto 4, 3) := by decide +kernel
theorem dX9_in_14 : decode cX9_in 14 = .ok (.iconst 0, 1) := by decide +kernel
theorem dX9_in_15 : decode cX9_in 15 = .ok (.ireturn, 1) := by decide +kernel
theorem dX9_goes_0 : decode cX9_goes 0 = .ok (.aload_n 0, 1) := by decide +kernel
theorem dX9_goes_1 : decode cX9_goes 1 = .ok (.iload_n 1, 1) := by decide +kernel
theorem dX9_goes_2 : decode cX9_goes 2 = .ok (.ifCond .ne 7, 3) := by decide +kernel
theorem dX9_goes_5 : decode cX9_goes 5 = .ok (.iconst 1, 1) := by decide +kernel
theorem dX9_goes_6 : decode cX9_goes 6 = .ok (.goto 20, 3) := by decide +kernel
theorem dX9_goes_9 : decode cX9_goes 9 = .ok (.iload_n 2, 1) := by decide +kernel
theorem dX9_goes_10 : decode cX9_goes 10 = .ok (.ifCond .ne 7, 3) := by decide +kernel
theorem dX9_goes_13 : decode cX9_goes 13 = .ok (.iconst 2, 1) := by decide +kernel
theorem dX9_goes_14 : decode cX9_goes 14 = .ok (.goto 12, 3) := by decide +kernel
theorem dX9_goes_17 : decode cX9_goes 17 = .ok (.iload_n 3, 1) := by decide +kernel
theorem dX9_goes_18 : decode cX9_goes 18 = .ok (.ifCond .ne 7, 3) := by decide +kernel
theorem dX9_goes_21 : decode cX9_goes 21 = .ok (.iconst 3, 1) := by decide +kernel
theorem dX9_goes_22 : decode cX9_goes 22 = .ok (.goto 4, 3) := by decide +kernel
theorem dX9_goes_25 : decode cX9_goes 25 = .ok (.iconst 0, 1) := by decide +kernel
theorem dX9_goes_26 : decode cX9_goes 26 = .ok (.putfield 80, 3) := by decide +kernel
theorem dX9_goes_29 : decode cX9_goes 29 = .ok (.aload_n 0, 1) := by decide +kernel
theorem dX9_goes_30 : decode cX9_goes 30 = .ok (.getfield 80, 3) := by decide +kernel
theorem dX9_goes_33 : decode cX9_goes 33 = .ok (.ifCond .ne 7, 3) := by decide +kernel
theorem dX9_goes_36 : decode cX9_goes 36 = .ok (.iconst 1, 1) := by decide +kernel
theorem dX9_goes_37 : decode cX9_goes 37 = .ok (.goto 4, 3) := by decide +kernel
theorem dX9_goes_40 : decode cX9_goes 40 = .ok (.iconst 0, 1) := by decide +kernel
theorem dX9_goes_41 : decode cX9_goes 41 = .ok (.ireturn, 1) := by decide +kernel
set_option maxRecDepth 20000 in
theorem ggX9_isDuel_X9_in : GoodIn wsX9_isDuel wsX9_in := goodIn_r _ [5] (by decide +kernel) (by decide +kernel)
set_option maxRecDepth 20000 in
theorem gX9_isDuel_X9_in : GoodIn wsX9_isDuel (va_wsS RX9 87 yX9_in wsX9_in) := goodIn_app (goodIn_of _ (by decide +kernel)) ggX9_isDuel_X9_in
theorem dX9_isDuel_0 : decode cX9_isDuel 0 = .ok (.iload_n 1, 1) := by decide +kernel
theorem dX9_isDuel_1 : decode cX9_isDuel 1 = .ok (.iconst 0, 1) := by decide +kernel
theorem dX9_isDuel_2 : decode cX9_isDuel 2 = .ok (.aload_n 0, 1) := by decide +kernel
theorem dX9_isDuel_3 : decode cX9_isDuel 3 = .ok (.getfield 84, 3) := by decide +kernel
theorem dX9_isDuel_6 : decode cX9_isDuel 6 = .ok (.iconst 1, 1) := by decide +kernel
theorem dX9_isDuel_7 : decode cX9_isDuel 7 = .ok (.isub, 1) := by decide +kernel
theorem dX9_isDuel_8 : decode cX9_isDuel 8 = .ok (.invokestatic 87, 3) := by decide +kernel
theorem dX9_isDuel_11 : decode cX9_isDuel 11 = .ok (.ireturn, 1) := by decide +kernel
set_option maxRecDepth 20000 in
theorem ggX9_isSign_X9_in : GoodIn wsX9_isSign wsX9_in := goodIn_r _ [5] (by decide +kernel) (by decide +kernel)
set_option maxRecDepth 20000 in
theorem gX9_isSign_X9_in : GoodIn wsX9_isSign (va_wsS RX9 87 yX9_in wsX9_in) := goodIn_app (goodIn_of _ (by decide +kernel)) ggX9_isSign_X9_in
theorem dX9_isSign_0 : decode cX9_isSign 0 = .ok (.iload_n 1, 1) := by decide +kernel
theorem dX9_isSign_1 : decode cX9_isSign 1 = .ok (.iconst 0, 1) := by decide +kernel
theorem dX9_isSign_2 : decode cX9_isSign 2 = .ok (.aload_n 0, 1) := by decide +kernel
theorem dX9_isSign_3 : decode cX9_isSign 3 = .ok (.getfield 91, 3) := by decide +kernel
theorem dX9_isSign_6 : decode cX9_isSign 6 = .ok (.iconst 1, 1) := by decide +kernel
theorem dX9_isSign_7 : decode cX9_isSign 7 = .ok (.isub, 1) := by decide +kernel
theorem dX9_isSign_8 : decode cX9_isSign 8 = .ok (.invokestatic 87, 3) := by decide +kernel
theorem dX9_isSign_11 : decode cX9_isSign 11 = .ok (.ireturn, 1) := by decide +kernel
set_option maxRecDepth 20000 in
theorem ggX9_stroke_X9_in : GoodIn wsX9_stroke wsX9_in := goodIn_r _ [6] (by decide +kernel) (by decide +kernel)
set_option maxRecDepth 20000 in
theorem gX9_stroke_X9_in : GoodIn wsX9_stroke (va_wsS RX9 87 yX9_in wsX9_in) := goodIn_app (goodIn_of _ (by decide +kernel)) ggX9_stroke_X9_in
set_option maxRecDepth 20000 in
theorem ggX9_stroke_X9_goes : GoodIn wsX9_stroke wsX9_goes := goodIn_r _ [10, 11, 12, 13, 14, 15, 16, 17, 18, 19, 20, 21, 22, 23, 24, 25, 26, 27, 28, 29, 30, 31, 32, 33, 34, 35, 36, 37, 38, 39, 40] (by decide +kernel) (by decide +kernel)
set_option maxRecDepth 20000 in
theorem gX9_stroke_X9_goes : GoodIn wsX9_stroke (wsV RX9 97 RX9 yX9_goes wsX9_goes) := goodIn_app (goodIn_of _ (by decide +kernel)) ggX9_stroke_X9_goes
theorem dX9_stroke_0 : decode cX9_stroke 0 = .ok (.iload_n 1, 1) := by decide +kernel
theorem dX9_stroke_1 : decode cX9_stroke 1 = .ok (.iconst 0, 1) := by decide +kernel
theorem dX9_stroke_2 : decode cX9_stroke 2 = .ok (.bipush 99, 2) := by decide +kernel
theorem dX9_stroke_4 : decode cX9_stroke 4 = .ok (.invokestatic 87, 3) := by decide +kernel
theorem dX9_stroke_7 : decode cX9_stroke 7 = .ok (.ifCond .eq 49, 3) := by decide +kernel
theorem dX9_stroke_10 : decode cX9_stroke 10 = .ok (.iload_n 2, 1) := by decide +kernel
theorem dX9_stroke_11 : decode cX9_stroke 11 = .ok (.iconst 0, 1) := by decide +kernel
theorem dX9_stroke_12 : decode cX9_stroke 12 = .ok (.bipush 99, 2) := by decide +kernel
theorem dX9_stroke_14 : decode cX9_stroke 14 = .ok (.invokestatic 87, 3) := by decide +kernel
theorem dX9_stroke_17 : decode cX9_stroke 17 = .ok (.ifCond .eq 39, 3) := by decide +kernel
theorem dX9_stroke_20 : decode cX9_stroke 20 = .ok (.iload_n 3, 1) := by decide +kernel
theorem dX9_stroke_21 : decode cX9_stroke 21 = .ok (.iconst 0, 1) := by decide +kernel
theorem dX9_stroke_22 : decode cX9_stroke 22 = .ok (.bipush 99, 2) := by decide +kernel
theorem dX9_stroke_24 : decode cX9_stroke 24 = .ok (.invokestatic 87, 3) := by decide +kernel
theorem dX9_stroke_27 : decode cX9_stroke 27 = .ok (.ifCond .eq 29, 3) := by decide +kernel
theorem dX9_stroke_30 : decode cX9_stroke 30 = .ok (.iload 4, 2) := by decide +kernel
theorem dX9_stroke_32 : decode cX9_stroke 32 = .ok (.iconst 0, 1) := by decide +kernel
theorem dX9_stroke_33 : decode cX9_stroke 33 = .ok (.bipush 99, 2) := by decide +kernel
theorem dX9_stroke_35 : decode cX9_stroke 35 = .ok (.invokestatic 87, 3) := by decide +kernel
theorem dX9_stroke_38 : decode cX9_stroke 38 = .ok (.ifCond .eq 18, 3) := by decide +kernel
theorem dX9_stroke_41 : decode cX9_stroke 41 = .ok (.iload_n 1, 1) := by decide +kernel
theorem dX9_stroke_42 : decode cX9_stroke 42 = .ok (.iload_n 3, 1) := by decide +kernel
theorem dX9_stroke_43 : decode cX9_stroke 43 = .ok (.if_icmp .ne 9, 3) := by decide +kernel
theorem dX9_stroke_46 : decode cX9_stroke 46 = .ok (.iload_n 2, 1) := by decide +kernel
theorem dX9_stroke_47 : decode cX9_stroke 47 = .ok (.iload 4, 2) := by decide +kernel
theorem dX9_stroke_49 : decode cX9_stroke 49 = .ok (.if_icmp .eq 7, 3) := by decide +kernel
theorem dX9_stroke_52 : decode cX9_stroke 52 = .ok (.iconst 1, 1) := by decide +kernel
theorem dX9_stroke_53 : decode cX9_stroke 53 = .ok (.goto 4, 3) := by decide +kernel
theorem dX9_stroke_56 : decode cX9_stroke 56 = .ok (.iconst 0, 1) := by decide +kernel
theorem dX9_stroke_57 : decode cX9_stroke 57 = .ok (.istore 5, 2) := by decide +kernel
theorem dX9_stroke_59 : decode cX9_stroke 59 = .ok (.aload_n 0, 1) := by decide +kernel
theorem dX9_stroke_60 : decode cX9_stroke 60 = .ok (.iload 5, 2) := by decide +kernel
theorem dX9_stroke_62 : decode cX9_stroke 62 = .ok (.aload_n 0, 1) := by decide +kernel
theorem dX9_stroke_63 : decode cX9_stroke 63 = .ok (.getfield 94, 3) := by decide +kernel
theorem dX9_stroke_66 : decode cX9_stroke 66 = .ok (.bipush 8, 2) := by decide +kernel
theorem dX9_stroke_68 : decode cX9_stroke 68 = .ok (.if_icmp .ge 7, 3) := by decide +kernel
theorem dX9_stroke_71 : decode cX9_stroke 71 = .ok (.iconst 1, 1) := by decide +kernel
theorem dX9_stroke_72 : decode cX9_stroke 72 = .ok (.goto 4, 3) := by decide +kernel
theorem dX9_stroke_75 : decode cX9_stroke 75 = .ok (.iconst 0, 1) := by decide +kernel
theorem dX9_stroke_76 : decode cX9_stroke 76 = .ok (.iconst 1, 1) := by decide +kernel
theorem dX9_stroke_77 : decode cX9_stroke 77 = .ok (.invokevirtual 97, 3) := by decide +kernel
theorem dX9_stroke_80 : decode cX9_stroke 80 = .ok (.ifCond .ne 5, 3) := by decide +kernel
theorem dX9_stroke_83 : decode cX9_stroke 83 = .ok (.iconst 0, 1) := by decide +kernel
theorem dX9_stroke_84 : decode cX9_stroke 84 = .ok (.ireturn, 1) := by decide +kernel
theorem dX9_stroke_85 : decode cX9_stroke 85 = .ok (.aload_n 0, 1) := by decide +kernel
theorem dX9_stroke_86 : decode cX9_stroke 86 = .ok (.getfield 7, 3) := by decide +kernel
theorem dX9_stroke_89 : decode cX9_stroke 89 = .ok (.iconst 4, 1) := by decide +kernel
theorem dX9_stroke_90 : decode cX9_stroke 90 = .ok (.aload_n 0, 1) := by decide +kernel
theorem dX9_stroke_91 : decode cX9_stroke 91 = .ok (.getfield 94, 3) := by decide +kernel
theorem dX9_stroke_94 : decode cX9_stroke 94 = .ok (.imul, 1) := by decide +kernel
theorem dX9_stroke_95 : decode cX9_stroke 95 = .ok (.iload_n 1, 1) := by decide +kernel
theorem dX9_stroke_96 : decode cX9_stroke 96 = .ok (.iastore, 1) := by decide +kernel
theorem dX9_stroke_97 : decode cX9_stroke 97 = .ok (.aload_n 0, 1) := by decide +kernel
theorem dX9_stroke_98 : decode cX9_stroke 98 = .ok (.getfield 7, 3) := by decide +kernel
theorem dX9_stroke_101 : decode cX9_stroke 101 = .ok (.iconst 4, 1) := by decide +kernel
theorem dX9_stroke_102 : decode cX9_stroke 102 = .ok (.aload_n 0, 1) := by decide +kernel
theorem dX9_stroke_103 : decode cX9_stroke 103 = .ok (.getfield 94, 3) := by decide +kernel
theorem dX9_stroke_106 : decode cX9_stroke 106 = .ok (.imul, 1) := by decide +kernel
theorem dX9_stroke_107 : decode cX9_stroke 107 = .ok (.iconst 1, 1) := by decide +kernel
theorem dX9_stroke_108 : decode cX9_stroke 108 = .ok (.iadd, 1) := by decide +kernel
theorem dX9_stroke_109 : decode cX9_stroke 109 = .ok (.iload_n 2, 1) := by decide +kernel
theorem dX9_stroke_110 : decode cX9_stroke 110 = .ok (.iastore, 1) := by decide +kernel
theorem dX9_stroke_111 : decode cX9_stroke 111 = .ok (.aload_n 0, 1) := by decide +kernel
theorem dX9_stroke_112 : decode cX9_stroke 112 = .ok (.getfield 7, 3) := by decide +kernel
theorem dX9_stroke_115 : decode cX9_stroke 115 = .ok (.iconst 4, 1) := by decide +kernel
theorem dX9_stroke_116 : decode cX9_stroke 116 = .ok (.aload_n 0, 1) := by decide +kernel
theorem dX9_stroke_117 : decode cX9_stroke 117 = .ok (.getfield 94, 3) := by decide +kernel
theorem dX9_stroke_120 : decode cX9_stroke 120 = .ok (.imul, 1) := by decide +kernel
theorem dX9_stroke_121 : decode cX9_stroke 121 = .ok (.iconst 2, 1) := by decide +kernel
theorem dX9_stroke_122 : decode cX9_stroke 122 = .ok (.iadd, 1) := by decide +kernel
theorem dX9_stroke_123 : decode cX9_stroke 123 = .ok (.iload_n 3, 1) := by decide +kernel
theorem dX9_stroke_124 : decode cX9_stroke 124 = .ok (.iastore, 1) := by decide +kernel
theorem dX9_stroke_125 : decode cX9_stroke 125 = .ok (.aload_n 0, 1) := by decide +kernel
theorem dX9_stroke_126 : decode cX9_stroke 126 = .ok (.getfield 7, 3) := by decide +kernel
theorem dX9_stroke_129 : decode cX9_stroke 129 = .ok (.iconst 4, 1) := by decide +kernel
theorem dX9_stroke_130 : decode cX9_stroke 130 = .ok (.aload_n 0, 1) := by decide +kernel
theorem dX9_stroke_131 : decode cX9_stroke 131 = .ok (.getfield 94, 3) := by decide +kernel
theorem dX9_stroke_134 : decode cX9_stroke 134 = .ok (.imul, 1) := by decide +kernel
theorem dX9_stroke_135 : decode cX9_stroke 135 = .ok (.iconst 3, 1) := by decide +kernel
theorem dX9_stroke_136 : decode cX9_stroke 136 = .ok (.iadd, 1) := by decide +kernel
theorem dX9_stroke_137 : decode cX9_stroke 137 = .ok (.iload 4, 2) := by decide +kernel
theorem dX9_stroke_139 : decode cX9_stroke 139 = .ok (.iastore, 1) := by decide +kernel
theorem dX9_stroke_140 : decode cX9_stroke 140 = .ok (.aload_n 0, 1) := by decide +kernel
theorem dX9_stroke_141 : decode cX9_stroke 141 = .ok (.dup, 1) := by decide +kernel
theorem dX9_stroke_142 : decode cX9_stroke 142 = .ok (.getfield 94, 3) := by decide +kernel
theorem dX9_stroke_145 : decode cX9_stroke 145 = .ok (.iconst 1, 1) := by decide +kernel
theorem dX9_stroke_146 : decode cX9_stroke 146 = .ok (.iadd, 1) := by decide +kernel
theorem dX9_stroke_147 : decode cX9_stroke 147 = .ok (.putfield 94, 3) := by decide +kernel
theorem dX9_stroke_150 : decode cX9_stroke 150 = .ok (.aload_n 0, 1) := by decide +kernel
theorem dX9_stroke_151 : decode cX9_stroke 151 = .ok (.getfield 94, 3) := by decide +kernel
theorem dX9_stroke_154 : decode cX9_stroke 154 = .ok (.ireturn, 1) := by decide +kernel
theorem dX9_clear_0 : decode cX9_clear 0 = .ok (.aload_n 0, 1) := by decide +kernel
theorem dX9_clear_1 : decode cX9_clear 1 = .ok (.iconst 0, 1) := by decide +kernel
theorem dX9_clear_2 : decode cX9_clear 2 = .ok (.putfield 80, 3) := by decide +kernel
theorem dX9_clear_5 : decode cX9_clear 5 = .ok (.aload_n 0, 1) := by decide +kernel
theorem dX9_clear_6 : decode cX9_clear 6 = .ok (.getfield 94, 3) := by decide +kernel
theorem dX9_clear_9 : decode cX9_clear 9 = .ok (.istore_n 1, 1) := by decide +kernel
theorem dX9_clear_10 : decode cX9_clear 10 = .ok (.aload_n 0, 1) := by decide +kernel
theorem dX9_clear_11 : decode cX9_clear 11 = .ok (.iconst 0, 1) := by decide +kernel
theorem dX9_clear_12 : decode cX9_clear 12 = .ok (.putfield 94, 3) := by decide +kernel
theorem dX9_clear_15 : decode cX9_clear 15 = .ok (.iload_n 1, 1) := by decide +kernel
theorem dX9_clear_16 : decode cX9_clear 16 = .ok (.ireturn, 1) := by decide +kernel
set_option maxRecDepth 20000 in
theorem ggX9_sign_X9_in : GoodIn wsX9_sign wsX9_in := goodIn_r _ [9] (by decide +kernel) (by decide +kernel)
set_option maxRecDepth 20000 in
theorem gX9_sign_X9_in : GoodIn wsX9_sign (va_wsS RX9 87 yX9_in wsX9_in) := goodIn_app (goodIn_of _ (by decide +kernel)) ggX9_sign_X9_in
set_option maxRecDepth 20000 in
theorem ggX9_sign_X9_goes : GoodIn wsX9_sign wsX9_goes := goodIn_r _ [13, 14, 15, 16, 17, 18, 19, 20, 21, 22, 23, 24, 25, 26, 27, 28, 29, 30, 31, 32, 33, 34, 35, 36, 37, 38, 39, 40, 41, 42, 43] (by decide +kernel) (by decide +kernel)
set_option maxRecDepth 20000 in
theorem gX9_sign_X9_goes : GoodIn wsX9_sign (wsV RX9 97 RX9 yX9_goes wsX9_goes) := goodIn_app (goodIn_of _ (by decide +kernel)) ggX9_sign_X9_goes
theorem dX9_sign_0 : decode cX9_sign 0 = .ok (.aload_n 0, 1) := by decide +kernel
theorem dX9_sign_1 : decode cX9_sign 1 = .ok (.aload_n 0, 1) := by decide +kernel
theorem dX9_sign_2 : decode cX9_sign 2 = .ok (.getfield 94, 3) := by decide +kernel
theorem dX9_sign_5 : decode cX9_sign 5 = .ok (.iconst 1, 1) := by decide +kernel
theorem dX9_sign_6 : decode cX9_sign 6 = .ok (.bipush 6, 2) := by decide +kernel
theorem dX9_sign_8 : decode cX9_sign 8 = .ok (.invokestatic 87, 3) := by decide +kernel
theorem dX9_sign_11 : decode cX9_sign 11 = .ok (.ifCond .eq 16, 3) := by decide +kernel
theorem dX9_sign_14 : decode cX9_sign 14 = .ok (.aload_n 0, 1) := by decide +kernel
theorem dX9_sign_15 : decode cX9_sign 15 = .ok (.getfield 91, 3) := by decide +kernel
theorem dX9_sign_18 : decode cX9_sign 18 = .ok (.bipush 6, 2) := by decide +kernel
theorem dX9_sign_20 : decode cX9_sign 20 = .ok (.if_icmp .ge 7, 3) := by decide +kernel
theorem dX9_sign_23 : decode cX9_sign 23 = .ok (.iconst 1, 1) := by decide +kernel
theorem dX9_sign_24 : decode cX9_sign 24 = .ok (.goto 4, 3) := by decide +kernel
theorem dX9_sign_27 : decode cX9_sign 27 = .ok (.iconst 0, 1) := by decide +kernel
theorem dX9_sign_28 : decode cX9_sign 28 = .ok (.iconst 1, 1) := by decide +kernel
theorem dX9_sign_29 : decode cX9_sign 29 = .ok (.iconst 1, 1) := by decide +kernel
theorem dX9_sign_30 : decode cX9_sign 30 = .ok (.invokevirtual 97, 3) := by decide +kernel
theorem dX9_sign_33 : decode cX9_sign 33 = .ok (.ifCond .ne 5, 3) := by decide +kernel
theorem dX9_sign_36 : decode cX9_sign 36 = .ok (.iconst 0, 1) := by decide +kernel
theorem dX9_sign_37 : decode cX9_sign 37 = .ok (.ireturn, 1) := by decide +kernel
theorem dX9_sign_38 : decode cX9_sign 38 = .ok (.iconst 0, 1) := by decide +kernel
theorem dX9_sign_39 : decode cX9_sign 39 = .ok (.istore_n 1, 1) := by decide +kernel
theorem dX9_sign_40 : decode cX9_sign 40 = .ok (.iload_n 1, 1) := by decide +kernel
theorem dX9_sign_41 : decode cX9_sign 41 = .ok (.iconst 4, 1) := by decide +kernel
theorem dX9_sign_42 : decode cX9_sign 42 = .ok (.aload_n 0, 1) := by decide +kernel
theorem dX9_sign_43 : decode cX9_sign 43 = .ok (.getfield 94, 3) := by decide +kernel
theorem dX9_sign_46 : decode cX9_sign 46 = .ok (.imul, 1) := by decide +kernel
theorem dX9_sign_47 : decode cX9_sign 47 = .ok (.if_icmp .ge 29, 3) := by decide +kernel
theorem dX9_sign_50 : decode cX9_sign 50 = .ok (.aload_n 0, 1) := by decide +kernel
theorem dX9_sign_51 : decode cX9_sign 51 = .ok (.getfield 16, 3) := by decide +kernel
theorem dX9_sign_54 : decode cX9_sign 54 = .ok (.bipush 24, 2) := by decide +kernel
theorem dX9_sign_56 : decode cX9_sign 56 = .ok (.aload_n 0, 1) := by decide +kernel
theorem dX9_sign_57 : decode cX9_sign 57 = .ok (.getfield 91, 3) := by decide +kernel
theorem dX9_sign_60 : decode cX9_sign 60 = .ok (.imul, 1) := by decide +kernel
theorem dX9_sign_61 : decode cX9_sign 61 = .ok (.iload_n 1, 1) := by decide +kernel
theorem dX9_sign_62 : decode cX9_sign 62 = .ok (.iadd, 1) := by decide +kernel
theorem dX9_sign_63 : decode cX9_sign 63 = .ok (.aload_n 0, 1) := by decide +kernel
theorem dX9_sign_64 : decode cX9_sign 64 = .ok (.getfield 7, 3) := by decide +kernel
theorem dX9_sign_67 : decode cX9_sign 67 = .ok (.iload_n 1, 1) := by decide +kernel
theorem dX9_sign_68 : decode cX9_sign 68 = .ok (.iaload, 1) := by decide +kernel
theorem dX9_sign_69 : decode cX9_sign 69 = .ok (.iastore, 1) := by decide +kernel
theorem dX9_sign_70 : decode cX9_sign 70 = .ok (.iinc 1 1, 3) := by decide +kernel
theorem dX9_sign_73 : decode cX9_sign 73 = .ok (.goto (-33), 3) := by decide +kernel
theorem dX9_sign_76 : decode cX9_sign 76 = .ok (.aload_n 0, 1) := by decide +kernel
theorem dX9_sign_77 : decode cX9_sign 77 = .ok (.getfield 13, 3) := by decide +kernel
theorem dX9_sign_80 : decode cX9_sign 80 = .ok (.aload_n 0, 1) := by decide +kernel
theorem dX9_sign_81 : decode cX9_sign 81 = .ok (.getfield 91, 3) := by decide +kernel
theorem dX9_sign_84 : decode cX9_sign 84 = .ok (.aload_n 0, 1) := by decide +kernel
theorem dX9_sign_85 : decode cX9_sign 85 = .ok (.getfield 94, 3) := by decide +kernel
theorem dX9_sign_88 : decode cX9_sign 88 = .ok (.iastore, 1) := by decide +kernel
theorem dX9_sign_89 : decode cX9_sign 89 = .ok (.aload_n 0, 1) := by decide +kernel
theorem dX9_sign_90 : decode cX9_sign 90 = .ok (.iconst 0, 1) := by decide +kernel
theorem dX9_sign_91 : decode cX9_sign 91 = .ok (.putfield 94, 3) := by decide +kernel
theorem dX9_sign_94 : decode cX9_sign 94 = .ok (.aload_n 0, 1) := by decide +kernel
theorem dX9_sign_95 : decode cX9_sign 95 = .ok (.dup, 1) := by decide +kernel
theorem dX9_sign_96 : decode cX9_sign 96 = .ok (.getfield 91, 3) := by decide +kernel
theorem dX9_sign_99 : decode cX9_sign 99 = .ok (.iconst 1, 1) := by decide +kernel
theorem dX9_sign_100 : decode cX9_sign 100 = .ok (.iadd, 1) := by decide +kernel
theorem dX9_sign_101 : decode cX9_sign 101 = .ok (.putfield 91, 3) := by decide +kernel
theorem dX9_sign_104 : decode cX9_sign 104 = .ok (.aload_n 0, 1) := by decide +kernel
theorem dX9_sign_105 : decode cX9_sign 105 = .ok (.getfield 91, 3) := by decide +kernel
theorem dX9_sign_108 : decode cX9_sign 108 = .ok (.iconst 1, 1) := by decide +kernel
theorem dX9_sign_109 : decode cX9_sign 109 = .ok (.isub, 1) := by decide +kernel
theorem dX9_sign_110 : decode cX9_sign 110 = .ok (.ireturn, 1) := by decide +kernel
set_option maxRecDepth 20000 in
theorem ggX9_isPaper_X9_in : GoodIn wsX9_isPaper wsX9_in := goodIn_r _ [4] (by decide +kernel) (by decide +kernel)
set_option maxRecDepth 20000 in
theorem gX9_isPaper_X9_in : GoodIn wsX9_isPaper (va_wsS RX9 87 yX9_in wsX9_in) := goodIn_app (goodIn_of _ (by decide +kernel)) ggX9_isPaper_X9_in
theorem dX9_isPaper_0 : decode cX9_isPaper 0 = .ok (.iload_n 0, 1) := by decide +kernel
theorem dX9_isPaper_1 : decode cX9_isPaper 1 = .ok (.iconst 0, 1) := by decide +kernel
theorem dX9_isPaper_2 : decode cX9_isPaper 2 = .ok (.iconst 2, 1) := by decide +kernel
theorem dX9_isPaper_3 : decode cX9_isPaper 3 = .ok (.invokestatic 87, 3) := by decide +kernel
theorem dX9_isPaper_6 : decode cX9_isPaper 6 = .ok (.ireturn, 1) := by decide +kernel
set_option maxRecDepth 20000 in
theorem ggX9_buy_X9_isPaper : GoodIn wsX9_buy wsX9_isPaper := goodIn_r _ [5, 6, 7, 4, 8] (by decide +kernel) (by decide +kernel)
set_option maxRecDepth 20000 in
theorem gX9_buy_X9_isPaper : GoodIn wsX9_buy (va_wsS RX9 101 yX9_isPaper wsX9_isPaper) := goodIn_app (goodIn_of _ (by decide +kernel)) ggX9_buy_X9_isPaper
set_option maxRecDepth 20000 in
theorem ggX9_buy_X9_in : GoodIn wsX9_buy wsX9_in := goodIn_r _ [8] (by decide +kernel) (by decide +kernel)
set_option maxRecDepth 20000 in
theorem gX9_buy_X9_in : GoodIn wsX9_buy (va_wsS RX9 87 yX9_in wsX9_in) := goodIn_app (goodIn_of _ (by decide +kernel)) ggX9_buy_X9_in
set_option maxRecDepth 20000 in
theorem ggX9_buy_X9_goes : GoodIn wsX9_buy wsX9_goes := goodIn_r _ [12, 13, 14, 15, 16, 17, 18, 19, 20, 21, 22, 23, 24, 25, 26, 27, 28, 29, 30, 31, 32, 33, 34, 35, 36, 37, 38, 39, 40, 41, 42] (by decide +kernel) (by decide +kernel)
set_option maxRecDepth 20000 in
theorem gX9_buy_X9_goes : GoodIn wsX9_buy (wsV RX9 97 RX9 yX9_goes wsX9_goes) := goodIn_app (goodIn_of _ (by decide +kernel)) ggX9_buy_X9_goes
theorem dX9_buy_0 : decode cX9_buy 0 = .ok (.iload_n 1, 1) := by decide +kernel
theorem dX9_buy_1 : decode cX9_buy 1 = .ok (.invokestatic 101, 3) := by decide +kernel
theorem dX9_buy_4 : decode cX9_buy 4 = .ok (.istore_n 3, 1) := by decide +kernel
theorem dX9_buy_5 : decode cX9_buy 5 = .ok (.aload_n 0, 1) := by decide +kernel
theorem dX9_buy_6 : decode cX9_buy 6 = .ok (.iload_n 3, 1) := by decide +kernel
theorem dX9_buy_7 : decode cX9_buy 7 = .ok (.iload_n 2, 1) := by decide +kernel
theorem dX9_buy_8 : decode cX9_buy 8 = .ok (.iconst 1, 1) := by decide +kernel
theorem dX9_buy_9 : decode cX9_buy 9 = .ok (.bipush 100, 2) := by decide +kernel
theorem dX9_buy_11 : decode cX9_buy 11 = .ok (.invokestatic 87, 3) := by decide +kernel
theorem dX9_buy_14 : decode cX9_buy 14 = .ok (.iload_n 3, 1) := by decide +kernel
theorem dX9_buy_15 : decode cX9_buy 15 = .ok (.ifCond .eq 29, 3) := by decide +kernel
theorem dX9_buy_18 : decode cX9_buy 18 = .ok (.aload_n 0, 1) := by decide +kernel
theorem dX9_buy_19 : decode cX9_buy 19 = .ok (.getfield 19, 3) := by decide +kernel
theorem dX9_buy_22 : decode cX9_buy 22 = .ok (.iload_n 3, 1) := by decide +kernel
theorem dX9_buy_23 : decode cX9_buy 23 = .ok (.ifCond .eq 7, 3) := by decide +kernel
theorem dX9_buy_26 : decode cX9_buy 26 = .ok (.iload_n 1, 1) := by decide +kernel
theorem dX9_buy_27 : decode cX9_buy 27 = .ok (.goto 4, 3) := by decide +kernel
theorem dX9_buy_30 : decode cX9_buy 30 = .ok (.iconst 0, 1) := by decide +kernel
theorem dX9_buy_31 : decode cX9_buy 31 = .ok (.iaload, 1) := by decide +kernel
theorem dX9_buy_32 : decode cX9_buy 32 = .ok (.iload_n 2, 1) := by decide +kernel
theorem dX9_buy_33 : decode cX9_buy 33 = .ok (.iadd, 1) := by decide +kernel
theorem dX9_buy_34 : decode cX9_buy 34 = .ok (.sipush 1000, 3) := by decide +kernel
theorem dX9_buy_37 : decode cX9_buy 37 = .ok (.if_icmp .gt 7, 3) := by decide +kernel
theorem dX9_buy_40 : decode cX9_buy 40 = .ok (.iconst 1, 1) := by decide +kernel
theorem dX9_buy_41 : decode cX9_buy 41 = .ok (.goto 4, 3) := by decide +kernel
theorem dX9_buy_44 : decode cX9_buy 44 = .ok (.iconst 0, 1) := by decide +kernel
theorem dX9_buy_45 : decode cX9_buy 45 = .ok (.invokevirtual 97, 3) := by decide +kernel
theorem dX9_buy_48 : decode cX9_buy 48 = .ok (.ifCond .ne 5, 3) := by decide +kernel
theorem dX9_buy_51 : decode cX9_buy 51 = .ok (.iconst 0, 1) := by decide +kernel
theorem dX9_buy_52 : decode cX9_buy 52 = .ok (.ireturn, 1) := by decide +kernel
theorem dX9_buy_53 : decode cX9_buy 53 = .ok (.aload_n 0, 1) := by decide +kernel
theorem dX9_buy_54 : decode cX9_buy 54 = .ok (.getfield 19, 3) := by decide +kernel
theorem dX9_buy_57 : decode cX9_buy 57 = .ok (.iload_n 1, 1) := by decide +kernel
theorem dX9_buy_58 : decode cX9_buy 58 = .ok (.dup2, 1) := by decide +kernel
theorem dX9_buy_59 : decode cX9_buy 59 = .ok (.iaload, 1) := by decide +kernel
theorem dX9_buy_60 : decode cX9_buy 60 = .ok (.iload_n 2, 1) := by decide +kernel
theorem dX9_buy_61 : decode cX9_buy 61 = .ok (.iadd, 1) := by decide +kernel
theorem dX9_buy_62 : decode cX9_buy 62 = .ok (.iastore, 1) := by decide +kernel
theorem dX9_buy_63 : decode cX9_buy 63 = .ok (.aload_n 0, 1) := by decide +kernel
theorem dX9_buy_64 : decode cX9_buy 64 = .ok (.getfield 19, 3) := by decide +kernel
theorem dX9_buy_67 : decode cX9_buy 67 = .ok (.iload_n 1, 1) := by decide +kernel
theorem dX9_buy_68 : decode cX9_buy 68 = .ok (.iaload, 1) := by decide +kernel
theorem dX9_buy_69 : decode cX9_buy 69 = .ok (.ireturn, 1) := by decide +kernel
set_option maxRecDepth 20000 in
theorem ggX9_rise_X9_isPaper : GoodIn wsX9_rise wsX9_isPaper := goodIn_r _ [6, 7, 8, 5, 9] (by decide +kernel) (by decide +kernel)
set_option maxRecDepth 20000 in
theorem gX9_rise_X9_isPaper : GoodIn wsX9_rise (va_wsS RX9 101 yX9_isPaper wsX9_isPaper) := goodIn_app (goodIn_of _ (by decide +kernel)) ggX9_rise_X9_isPaper
set_option maxRecDepth 20000 in
theorem ggX9_rise_X9_in : GoodIn wsX9_rise wsX9_in := goodIn_r _ [9] (by decide +kernel) (by decide +kernel)
set_option maxRecDepth 20000 in
theorem gX9_rise_X9_in : GoodIn wsX9_rise (va_wsS RX9 87 yX9_in wsX9_in) := goodIn_app (goodIn_of _ (by decide +kernel)) ggX9_rise_X9_in
set_option maxRecDepth 20000 in
theorem ggX9_rise_X9_goes : GoodIn wsX9_rise wsX9_goes := goodIn_r _ [13, 14, 15, 16, 17, 18, 19, 20, 21, 22, 23, 24, 25, 26, 27, 28, 29, 30, 31, 32, 33, 34, 35, 36, 37, 38, 39, 40, 41, 42, 43] (by decide +kernel) (by decide +kernel)
set_option maxRecDepth 20000 in
theorem gX9_rise_X9_goes : GoodIn wsX9_rise (wsV RX9 97 RX9 yX9_goes wsX9_goes) := goodIn_app (goodIn_of _ (by decide +kernel)) ggX9_rise_X9_goes
theorem dX9_rise_0 : decode cX9_rise 0 = .ok (.aload_n 0, 1) := by decide +kernel
theorem dX9_rise_1 : decode cX9_rise 1 = .ok (.iload_n 1, 1) := by decide +kernel
theorem dX9_rise_2 : decode cX9_rise 2 = .ok (.invokestatic 101, 3) := by decide +kernel
theorem dX9_rise_5 : decode cX9_rise 5 = .ok (.iload_n 2, 1) := by decide +kernel
theorem dX9_rise_6 : decode cX9_rise 6 = .ok (.bipush (-10), 2) := by decide +kernel
theorem dX9_rise_8 : decode cX9_rise 8 = .ok (.bipush 10, 2) := by decide +kernel
theorem dX9_rise_10 : decode cX9_rise 10 = .ok (.invokestatic 87, 3) := by decide +kernel
theorem dX9_rise_13 : decode cX9_rise 13 = .ok (.iconst 1, 1) := by decide +kernel
theorem dX9_rise_14 : decode cX9_rise 14 = .ok (.invokevirtual 97, 3) := by decide +kernel
theorem dX9_rise_17 : decode cX9_rise 17 = .ok (.ifCond .ne 5, 3) := by decide +kernel
theorem dX9_rise_20 : decode cX9_rise 20 = .ok (.iconst 0, 1) := by decide +kernel
theorem dX9_rise_21 : decode cX9_rise 21 = .ok (.ireturn, 1) := by decide +kernel
theorem dX9_rise_22 : decode cX9_rise 22 = .ok (.aload_n 0, 1) := by decide +kernel
theorem dX9_rise_23 : decode cX9_rise 23 = .ok (.getfield 25, 3) := by decide +kernel
theorem dX9_rise_26 : decode cX9_rise 26 = .ok (.iload_n 1, 1) := by decide +kernel
theorem dX9_rise_27 : decode cX9_rise 27 = .ok (.iload_n 2, 1) := by decide +kernel
theorem dX9_rise_28 : decode cX9_rise 28 = .ok (.iastore, 1) := by decide +kernel
theorem dX9_rise_29 : decode cX9_rise 29 = .ok (.aload_n 0, 1) := by decide +kernel
theorem dX9_rise_30 : decode cX9_rise 30 = .ok (.getfield 22, 3) := by decide +kernel
theorem dX9_rise_33 : decode cX9_rise 33 = .ok (.iload_n 1, 1) := by decide +kernel
theorem dX9_rise_34 : decode cX9_rise 34 = .ok (.iaload, 1) := by decide +kernel
theorem dX9_rise_35 : decode cX9_rise 35 = .ok (.ireturn, 1) := by decide +kernel
set_option maxRecDepth 20000 in
theorem ggX9_style_X9_in : GoodIn wsX9_style wsX9_in := goodIn_r _ [5] (by decide +kernel) (by decide +kernel)
end
section
set_option maxRecDepth 20000 in
theorem gX9_style_X9_in : GoodIn wsX9_style (va_wsS RX9 87 yX9_in wsX9_in) := goodIn_app (goodIn_of _ (by decide +kernel)) ggX9_style_X9_in
set_option maxRecDepth 20000 in
theorem ggX9_style_X9_goes : GoodIn wsX9_style wsX9_goes := goodIn_r _ [9, 10, 11, 12, 13, 14, 15, 16, 17, 18, 19, 20, 21, 22, 23, 24, 25, 26, 27, 28, 29, 30, 31, 32, 33, 34, 35, 36, 37, 38, 39] (by decide +kernel) (by decide +kernel)
set_option maxRecDepth 20000 in
theorem gX9_style_X9_goes : GoodIn wsX9_style (wsV RX9 97 RX9 yX9_goes wsX9_goes) := goodIn_app (goodIn_of _ (by decide +kernel)) ggX9_style_X9_goes
theorem dX9_style_0 : decode cX9_style 0 = .ok (.aload_n 0, 1) := by decide +kernel
theorem dX9_style_1 : decode cX9_style 1 = .ok (.iload_n 1, 1) := by decide +kernel
theorem dX9_style_2 : decode cX9_style 2 = .ok (.iconst 0, 1) := by decide +kernel
theorem dX9_style_3 : decode cX9_style 3 = .ok (.iconst 3, 1) := by decide +kernel
theorem dX9_style_4 : decode cX9_style 4 = .ok (.invokestatic 87, 3) := by decide +kernel
theorem dX9_style_7 : decode cX9_style 7 = .ok (.iload_n 2, 1) := by decide +kernel
theorem dX9_style_8 : decode cX9_style 8 = .ok (.iconst 0, 1) := by decide +kernel
theorem dX9_style_9 : decode cX9_style 9 = .ok (.bipush 100, 2) := by decide +kernel
theorem dX9_style_11 : decode cX9_style 11 = .ok (.invokestatic 87, 3) := by decide +kernel
theorem dX9_style_14 : decode cX9_style 14 = .ok (.ifCond .eq 28, 3) := by decide +kernel
theorem dX9_style_17 : decode cX9_style 17 = .ok (.iload_n 3, 1) := by decide +kernel
theorem dX9_style_18 : decode cX9_style 18 = .ok (.iconst 0, 1) := by decide +kernel
theorem dX9_style_19 : decode cX9_style 19 = .ok (.bipush 100, 2) := by decide +kernel
theorem dX9_style_21 : decode cX9_style 21 = .ok (.invokestatic 87, 3) := by decide +kernel
theorem dX9_style_24 : decode cX9_style 24 = .ok (.ifCond .eq 18, 3) := by decide +kernel
theorem dX9_style_27 : decode cX9_style 27 = .ok (.iload 4, 2) := by decide +kernel
theorem dX9_style_29 : decode cX9_style 29 = .ok (.iconst 0, 1) := by decide +kernel
theorem dX9_style_30 : decode cX9_style 30 = .ok (.bipush 100, 2) := by decide +kernel
theorem dX9_style_32 : decode cX9_style 32 = .ok (.invokestatic 87, 3) := by decide +kernel
theorem dX9_style_35 : decode cX9_style 35 = .ok (.ifCond .eq 7, 3) := by decide +kernel
theorem dX9_style_38 : decode cX9_style 38 = .ok (.iconst 1, 1) := by decide +kernel
theorem dX9_style_39 : decode cX9_style 39 = .ok (.goto 4, 3) := by decide +kernel
theorem dX9_style_42 : decode cX9_style 42 = .ok (.iconst 0, 1) := by decide +kernel
theorem dX9_style_43 : decode cX9_style 43 = .ok (.iconst 1, 1) := by decide +kernel
theorem dX9_style_44 : decode cX9_style 44 = .ok (.invokevirtual 97, 3) := by decide +kernel
theorem dX9_style_47 : decode cX9_style 47 = .ok (.ifCond .eq 35, 3) := by decide +kernel
theorem dX9_style_50 : decode cX9_style 50 = .ok (.aload_n 0, 1) := by decide +kernel
theorem dX9_style_51 : decode cX9_style 51 = .ok (.getfield 28, 3) := by decide +kernel
theorem dX9_style_54 : decode cX9_style 54 = .ok (.iconst 3, 1) := by decide +kernel
theorem dX9_style_55 : decode cX9_style 55 = .ok (.iload_n 1, 1) := by decide +kernel
theorem dX9_style_56 : decode cX9_style 56 = .ok (.imul, 1) := by decide +kernel
theorem dX9_style_57 : decode cX9_style 57 = .ok (.iload_n 2, 1) := by decide +kernel
theorem dX9_style_58 : decode cX9_style 58 = .ok (.iastore, 1) := by decide +kernel
theorem dX9_style_59 : decode cX9_style 59 = .ok (.aload_n 0, 1) := by decide +kernel
theorem dX9_style_60 : decode cX9_style 60 = .ok (.getfield 28, 3) := by decide +kernel
theorem dX9_style_63 : decode cX9_style 63 = .ok (.iconst 3, 1) := by decide +kernel
theorem dX9_style_64 : decode cX9_style 64 = .ok (.iload_n 1, 1) := by decide +kernel
theorem dX9_style_65 : decode cX9_style 65 = .ok (.imul, 1) := by decide +kernel
theorem dX9_style_66 : decode cX9_style 66 = .ok (.iconst 1, 1) := by decide +kernel
theorem dX9_style_67 : decode cX9_style 67 = .ok (.iadd, 1) := by decide +kernel
theorem dX9_style_68 : decode cX9_style 68 = .ok (.iload_n 3, 1) := by decide +kernel
theorem dX9_style_69 : decode cX9_style 69 = .ok (.iastore, 1) := by decide +kernel
theorem dX9_style_70 : decode cX9_style 70 = .ok (.aload_n 0, 1) := by decide +kernel
theorem dX9_style_71 : decode cX9_style 71 = .ok (.getfield 28, 3) := by decide +kernel
theorem dX9_style_74 : decode cX9_style 74 = .ok (.iconst 3, 1) := by decide +kernel
theorem dX9_style_75 : decode cX9_style 75 = .ok (.iload_n 1, 1) := by decide +kernel
theorem dX9_style_76 : decode cX9_style 76 = .ok (.imul, 1) := by decide +kernel
theorem dX9_style_77 : decode cX9_style 77 = .ok (.iconst 2, 1) := by decide +kernel
theorem dX9_style_78 : decode cX9_style 78 = .ok (.iadd, 1) := by decide +kernel
theorem dX9_style_79 : decode cX9_style 79 = .ok (.iload 4, 2) := by decide +kernel
theorem dX9_style_81 : decode cX9_style 81 = .ok (.iastore, 1) := by decide +kernel
theorem dX9_style_82 : decode cX9_style 82 = .ok (.return_, 1) := by decide +kernel
set_option maxRecDepth 20000 in
theorem ggX9_learn_X9_in : GoodIn wsX9_learn wsX9_in := goodIn_r _ [6] (by decide +kernel) (by decide +kernel)
set_option maxRecDepth 20000 in
theorem gX9_learn_X9_in : GoodIn wsX9_learn (va_wsS RX9 87 yX9_in wsX9_in) := goodIn_app (goodIn_of _ (by decide +kernel)) ggX9_learn_X9_in
set_option maxRecDepth 20000 in
theorem ggX9_learn_X9_goes : GoodIn wsX9_learn wsX9_goes := goodIn_r _ [10, 11, 12, 13, 14, 15, 16, 17, 18, 19, 20, 21, 22, 23, 24, 25, 26, 27, 28, 29, 30, 31, 32, 33, 34, 35, 36, 37, 38, 39, 40] (by decide +kernel) (by decide +kernel)
set_option maxRecDepth 20000 in
theorem gX9_learn_X9_goes : GoodIn wsX9_learn (wsV RX9 97 RX9 yX9_goes wsX9_goes) := goodIn_app (goodIn_of _ (by decide +kernel)) ggX9_learn_X9_goes
theorem dX9_learn_0 : decode cX9_learn 0 = .ok (.iload_n 1, 1) := by decide +kernel
theorem dX9_learn_1 : decode cX9_learn 1 = .ok (.iconst 0, 1) := by decide +kernel
theorem dX9_learn_2 : decode cX9_learn 2 = .ok (.iconst 3, 1) := by decide +kernel
theorem dX9_learn_3 : decode cX9_learn 3 = .ok (.invokestatic 87, 3) := by decide +kernel
theorem dX9_learn_6 : decode cX9_learn 6 = .ok (.ifCond .eq 16, 3) := by decide +kernel
theorem dX9_learn_9 : decode cX9_learn 9 = .ok (.iload_n 2, 1) := by decide +kernel
theorem dX9_learn_10 : decode cX9_learn 10 = .ok (.iconst 0, 1) := by decide +kernel
theorem dX9_learn_11 : decode cX9_learn 11 = .ok (.iconst 3, 1) := by decide +kernel
theorem dX9_learn_12 : decode cX9_learn 12 = .ok (.invokestatic 87, 3) := by decide +kernel
theorem dX9_learn_15 : decode cX9_learn 15 = .ok (.ifCond .eq 7, 3) := by decide +kernel
theorem dX9_learn_18 : decode cX9_learn 18 = .ok (.iconst 1, 1) := by decide +kernel
theorem dX9_learn_19 : decode cX9_learn 19 = .ok (.goto 4, 3) := by decide +kernel
theorem dX9_learn_22 : decode cX9_learn 22 = .ok (.iconst 0, 1) := by decide +kernel
theorem dX9_learn_23 : decode cX9_learn 23 = .ok (.istore_n 3, 1) := by decide +kernel
theorem dX9_learn_24 : decode cX9_learn 24 = .ok (.aload_n 0, 1) := by decide +kernel
theorem dX9_learn_25 : decode cX9_learn 25 = .ok (.iload_n 3, 1) := by decide +kernel
theorem dX9_learn_26 : decode cX9_learn 26 = .ok (.iload_n 3, 1) := by decide +kernel
theorem dX9_learn_27 : decode cX9_learn 27 = .ok (.ifCond .eq 29, 3) := by decide +kernel
theorem dX9_learn_30 : decode cX9_learn 30 = .ok (.aload_n 0, 1) := by decide +kernel
theorem dX9_learn_31 : decode cX9_learn 31 = .ok (.getfield 31, 3) := by decide +kernel
theorem dX9_learn_34 : decode cX9_learn 34 = .ok (.iload_n 3, 1) := by decide +kernel
theorem dX9_learn_35 : decode cX9_learn 35 = .ok (.ifCond .eq 11, 3) := by decide +kernel
theorem dX9_learn_38 : decode cX9_learn 38 = .ok (.iconst 4, 1) := by decide +kernel
theorem dX9_learn_39 : decode cX9_learn 39 = .ok (.iload_n 1, 1) := by decide +kernel
theorem dX9_learn_40 : decode cX9_learn 40 = .ok (.imul, 1) := by decide +kernel
theorem dX9_learn_41 : decode cX9_learn 41 = .ok (.iload_n 2, 1) := by decide +kernel
theorem dX9_learn_42 : decode cX9_learn 42 = .ok (.iadd, 1) := by decide +kernel
theorem dX9_learn_43 : decode cX9_learn 43 = .ok (.goto 4, 3) := by decide +kernel
theorem dX9_learn_46 : decode cX9_learn 46 = .ok (.iconst 0, 1) := by decide +kernel
theorem dX9_learn_47 : decode cX9_learn 47 = .ok (.iaload, 1) := by decide +kernel
theorem dX9_learn_48 : decode cX9_learn 48 = .ok (.iconst (-1), 1) := by decide +kernel
theorem dX9_learn_49 : decode cX9_learn 49 = .ok (.if_icmp .ne 7, 3) := by decide +kernel
theorem dX9_learn_52 : decode cX9_learn 52 = .ok (.iconst 1, 1) := by decide +kernel
theorem dX9_learn_53 : decode cX9_learn 53 = .ok (.goto 4, 3) := by decide +kernel
theorem dX9_learn_56 : decode cX9_learn 56 = .ok (.iconst 0, 1) := by decide +kernel
theorem dX9_learn_57 : decode cX9_learn 57 = .ok (.iconst 1, 1) := by decide +kernel
theorem dX9_learn_58 : decode cX9_learn 58 = .ok (.invokevirtual 97, 3) := by decide +kernel
theorem dX9_learn_61 : decode cX9_learn 61 = .ok (.ifCond .ne 5, 3) := by decide +kernel
theorem dX9_learn_64 : decode cX9_learn 64 = .ok (.iconst 0, 1) := by decide +kernel
theorem dX9_learn_65 : decode cX9_learn 65 = .ok (.ireturn, 1) := by decide +kernel
theorem dX9_learn_66 : decode cX9_learn 66 = .ok (.aload_n 0, 1) := by decide +kernel
theorem dX9_learn_67 : decode cX9_learn 67 = .ok (.getfield 31, 3) := by decide +kernel
theorem dX9_learn_70 : decode cX9_learn 70 = .ok (.iconst 4, 1) := by decide +kernel
theorem dX9_learn_71 : decode cX9_learn 71 = .ok (.iload_n 1, 1) := by decide +kernel
theorem dX9_learn_72 : decode cX9_learn 72 = .ok (.imul, 1) := by decide +kernel
theorem dX9_learn_73 : decode cX9_learn 73 = .ok (.iload_n 2, 1) := by decide +kernel
theorem dX9_learn_74 : decode cX9_learn 74 = .ok (.iadd, 1) := by decide +kernel
theorem dX9_learn_75 : decode cX9_learn 75 = .ok (.aload_n 0, 1) := by decide +kernel
theorem dX9_learn_76 : decode cX9_learn 76 = .ok (.getfield 105, 3) := by decide +kernel
theorem dX9_learn_79 : decode cX9_learn 79 = .ok (.iastore, 1) := by decide +kernel
theorem dX9_learn_80 : decode cX9_learn 80 = .ok (.iconst 0, 1) := by decide +kernel
theorem dX9_learn_81 : decode cX9_learn 81 = .ok (.istore 4, 2) := by decide +kernel
theorem dX9_learn_83 : decode cX9_learn 83 = .ok (.iconst 0, 1) := by decide +kernel
theorem dX9_learn_84 : decode cX9_learn 84 = .ok (.istore 5, 2) := by decide +kernel
theorem dX9_learn_86 : decode cX9_learn 86 = .ok (.iload 5, 2) := by decide +kernel
theorem dX9_learn_88 : decode cX9_learn 88 = .ok (.iconst 4, 1) := by decide +kernel
theorem dX9_learn_89 : decode cX9_learn 89 = .ok (.if_icmp .ge 34, 3) := by decide +kernel
theorem dX9_learn_92 : decode cX9_learn 92 = .ok (.iload 4, 2) := by decide +kernel
theorem dX9_learn_94 : decode cX9_learn 94 = .ok (.aload_n 0, 1) := by decide +kernel
theorem dX9_learn_95 : decode cX9_learn 95 = .ok (.getfield 31, 3) := by decide +kernel
theorem dX9_learn_98 : decode cX9_learn 98 = .ok (.iconst 4, 1) := by decide +kernel
theorem dX9_learn_99 : decode cX9_learn 99 = .ok (.iload_n 1, 1) := by decide +kernel
theorem dX9_learn_100 : decode cX9_learn 100 = .ok (.imul, 1) := by decide +kernel
theorem dX9_learn_101 : decode cX9_learn 101 = .ok (.iload 5, 2) := by decide +kernel
theorem dX9_learn_103 : decode cX9_learn 103 = .ok (.iadd, 1) := by decide +kernel
theorem dX9_learn_104 : decode cX9_learn 104 = .ok (.iaload, 1) := by decide +kernel
theorem dX9_learn_105 : decode cX9_learn 105 = .ok (.iconst (-1), 1) := by decide +kernel
theorem dX9_learn_106 : decode cX9_learn 106 = .ok (.if_icmp .ne 7, 3) := by decide +kernel
theorem dX9_learn_109 : decode cX9_learn 109 = .ok (.iconst 0, 1) := by decide +kernel
theorem dX9_learn_110 : decode cX9_learn 110 = .ok (.goto 4, 3) := by decide +kernel
theorem dX9_learn_113 : decode cX9_learn 113 = .ok (.iconst 1, 1) := by decide +kernel
theorem dX9_learn_114 : decode cX9_learn 114 = .ok (.iadd, 1) := by decide +kernel
theorem dX9_learn_115 : decode cX9_learn 115 = .ok (.istore 4, 2) := by decide +kernel
theorem dX9_learn_117 : decode cX9_learn 117 = .ok (.iinc 5 1, 3) := by decide +kernel
theorem dX9_learn_120 : decode cX9_learn 120 = .ok (.goto (-34), 3) := by decide +kernel
theorem dX9_learn_123 : decode cX9_learn 123 = .ok (.iload 4, 2) := by decide +kernel
theorem dX9_learn_125 : decode cX9_learn 125 = .ok (.ireturn, 1) := by decide +kernel
set_option maxRecDepth 20000 in
theorem ggX9_pass_X9_in : GoodIn wsX9_pass wsX9_in := goodIn_r _ [7] (by decide +kernel) (by decide +kernel)
set_option maxRecDepth 20000 in
theorem gX9_pass_X9_in : GoodIn wsX9_pass (va_wsS RX9 87 yX9_in wsX9_in) := goodIn_app (goodIn_of _ (by decide +kernel)) ggX9_pass_X9_in
set_option maxRecDepth 20000 in
theorem ggX9_pass_X9_goes : GoodIn wsX9_pass wsX9_goes := goodIn_r _ [11, 12, 13, 14, 15, 16, 17, 18, 19, 20, 21, 22, 23, 24, 25, 26, 27, 28, 29, 30, 31, 32, 33, 34, 35, 36, 37, 38, 39, 40, 41] (by decide +kernel) (by decide +kernel)
set_option maxRecDepth 20000 in
theorem gX9_pass_X9_goes : GoodIn wsX9_pass (wsV RX9 97 RX9 yX9_goes wsX9_goes) := goodIn_app (goodIn_of _ (by decide +kernel)) ggX9_pass_X9_goes
theorem dX9_pass_0 : decode cX9_pass 0 = .ok (.aload_n 0, 1) := by decide +kernel
theorem dX9_pass_1 : decode cX9_pass 1 = .ok (.iload_n 1, 1) := by decide +kernel
theorem dX9_pass_2 : decode cX9_pass 2 = .ok (.iconst 1, 1) := by decide +kernel
theorem dX9_pass_3 : decode cX9_pass 3 = .ok (.bipush 100, 2) := by decide +kernel
theorem dX9_pass_5 : decode cX9_pass 5 = .ok (.invokestatic 87, 3) := by decide +kernel
theorem dX9_pass_8 : decode cX9_pass 8 = .ok (.aload_n 0, 1) := by decide +kernel
theorem dX9_pass_9 : decode cX9_pass 9 = .ok (.getfield 105, 3) := by decide +kernel
theorem dX9_pass_12 : decode cX9_pass 12 = .ok (.iload_n 1, 1) := by decide +kernel
theorem dX9_pass_13 : decode cX9_pass 13 = .ok (.iadd, 1) := by decide +kernel
theorem dX9_pass_14 : decode cX9_pass 14 = .ok (.sipush 5000, 3) := by decide +kernel
theorem dX9_pass_17 : decode cX9_pass 17 = .ok (.if_icmp .gt 7, 3) := by decide +kernel
theorem dX9_pass_20 : decode cX9_pass 20 = .ok (.iconst 1, 1) := by decide +kernel
theorem dX9_pass_21 : decode cX9_pass 21 = .ok (.goto 4, 3) := by decide +kernel
theorem dX9_pass_24 : decode cX9_pass 24 = .ok (.iconst 0, 1) := by decide +kernel
theorem dX9_pass_25 : decode cX9_pass 25 = .ok (.iconst 1, 1) := by decide +kernel
theorem dX9_pass_26 : decode cX9_pass 26 = .ok (.invokevirtual 97, 3) := by decide +kernel
theorem dX9_pass_29 : decode cX9_pass 29 = .ok (.ifCond .ne 5, 3) := by decide +kernel
theorem dX9_pass_32 : decode cX9_pass 32 = .ok (.iconst 0, 1) := by decide +kernel
theorem dX9_pass_33 : decode cX9_pass 33 = .ok (.ireturn, 1) := by decide +kernel
theorem dX9_pass_34 : decode cX9_pass 34 = .ok (.iconst 0, 1) := by decide +kernel
theorem dX9_pass_35 : decode cX9_pass 35 = .ok (.istore_n 2, 1) := by decide +kernel
theorem dX9_pass_36 : decode cX9_pass 36 = .ok (.iload_n 2, 1) := by decide +kernel
theorem dX9_pass_37 : decode cX9_pass 37 = .ok (.iload_n 1, 1) := by decide +kernel
theorem dX9_pass_38 : decode cX9_pass 38 = .ok (.if_icmp .ge 66, 3) := by decide +kernel
theorem dX9_pass_41 : decode cX9_pass 41 = .ok (.iconst 0, 1) := by decide +kernel
theorem dX9_pass_42 : decode cX9_pass 42 = .ok (.istore_n 3, 1) := by decide +kernel
theorem dX9_pass_43 : decode cX9_pass 43 = .ok (.iload_n 3, 1) := by decide +kernel
theorem dX9_pass_44 : decode cX9_pass 44 = .ok (.iconst 3, 1) := by decide +kernel
theorem dX9_pass_45 : decode cX9_pass 45 = .ok (.if_icmp .ge 53, 3) := by decide +kernel
theorem dX9_pass_48 : decode cX9_pass 48 = .ok (.aload_n 0, 1) := by decide +kernel
theorem dX9_pass_49 : decode cX9_pass 49 = .ok (.getfield 22, 3) := by decide +kernel
theorem dX9_pass_52 : decode cX9_pass 52 = .ok (.iload_n 3, 1) := by decide +kernel
theorem dX9_pass_53 : decode cX9_pass 53 = .ok (.iaload, 1) := by decide +kernel
theorem dX9_pass_54 : decode cX9_pass 54 = .ok (.aload_n 0, 1) := by decide +kernel
theorem dX9_pass_55 : decode cX9_pass 55 = .ok (.getfield 25, 3) := by decide +kernel
theorem dX9_pass_58 : decode cX9_pass 58 = .ok (.iload_n 3, 1) := by decide +kernel
theorem dX9_pass_59 : decode cX9_pass 59 = .ok (.iaload, 1) := by decide +kernel
theorem dX9_pass_60 : decode cX9_pass 60 = .ok (.iadd, 1) := by decide +kernel
theorem dX9_pass_61 : decode cX9_pass 61 = .ok (.istore 4, 2) := by decide +kernel
theorem dX9_pass_63 : decode cX9_pass 63 = .ok (.aload_n 0, 1) := by decide +kernel
theorem dX9_pass_64 : decode cX9_pass 64 = .ok (.getfield 22, 3) := by decide +kernel
theorem dX9_pass_67 : decode cX9_pass 67 = .ok (.iload_n 3, 1) := by decide +kernel
theorem dX9_pass_68 : decode cX9_pass 68 = .ok (.iload 4, 2) := by decide +kernel
theorem dX9_pass_70 : decode cX9_pass 70 = .ok (.ifCond .ge 7, 3) := by decide +kernel
theorem dX9_pass_73 : decode cX9_pass 73 = .ok (.iconst 0, 1) := by decide +kernel
theorem dX9_pass_74 : decode cX9_pass 74 = .ok (.goto 17, 3) := by decide +kernel
theorem dX9_pass_77 : decode cX9_pass 77 = .ok (.iload 4, 2) := by decide +kernel
theorem dX9_pass_79 : decode cX9_pass 79 = .ok (.bipush 100, 2) := by decide +kernel
theorem dX9_pass_81 : decode cX9_pass 81 = .ok (.if_icmp .le 8, 3) := by decide +kernel
theorem dX9_pass_84 : decode cX9_pass 84 = .ok (.bipush 100, 2) := by decide +kernel
theorem dX9_pass_86 : decode cX9_pass 86 = .ok (.goto 5, 3) := by decide +kernel
theorem dX9_pass_89 : decode cX9_pass 89 = .ok (.iload 4, 2) := by decide +kernel
theorem dX9_pass_91 : decode cX9_pass 91 = .ok (.iastore, 1) := by decide +kernel
theorem dX9_pass_92 : decode cX9_pass 92 = .ok (.iinc 3 1, 3) := by decide +kernel
theorem dX9_pass_95 : decode cX9_pass 95 = .ok (.goto (-52), 3) := by decide +kernel
theorem dX9_pass_98 : decode cX9_pass 98 = .ok (.iinc 2 1, 3) := by decide +kernel
theorem dX9_pass_101 : decode cX9_pass 101 = .ok (.goto (-65), 3) := by decide +kernel
theorem dX9_pass_104 : decode cX9_pass 104 = .ok (.aload_n 0, 1) := by decide +kernel
theorem dX9_pass_105 : decode cX9_pass 105 = .ok (.dup, 1) := by decide +kernel
theorem dX9_pass_106 : decode cX9_pass 106 = .ok (.getfield 105, 3) := by decide +kernel
theorem dX9_pass_109 : decode cX9_pass 109 = .ok (.iload_n 1, 1) := by decide +kernel
theorem dX9_pass_110 : decode cX9_pass 110 = .ok (.iadd, 1) := by decide +kernel
theorem dX9_pass_111 : decode cX9_pass 111 = .ok (.putfield 105, 3) := by decide +kernel
theorem dX9_pass_114 : decode cX9_pass 114 = .ok (.aload_n 0, 1) := by decide +kernel
theorem dX9_pass_115 : decode cX9_pass 115 = .ok (.getfield 105, 3) := by decide +kernel
theorem dX9_pass_118 : decode cX9_pass 118 = .ok (.ireturn, 1) := by decide +kernel
set_option maxRecDepth 20000 in
theorem ggX9_duel_X9_in : GoodIn wsX9_duel wsX9_in := goodIn_r _ [16] (by decide +kernel) (by decide +kernel)
set_option maxRecDepth 20000 in
theorem gX9_duel_X9_in : GoodIn wsX9_duel (va_wsS RX9 87 yX9_in wsX9_in) := goodIn_app (goodIn_of _ (by decide +kernel)) ggX9_duel_X9_in
set_option maxRecDepth 20000 in
theorem ggX9_duel_X9_isPaper : GoodIn wsX9_duel wsX9_isPaper := goodIn_r _ [19, 13, 14, 15, 16] (by decide +kernel) (by decide +kernel)
set_option maxRecDepth 20000 in
theorem gX9_duel_X9_isPaper : GoodIn wsX9_duel (va_wsS RX9 101 yX9_isPaper wsX9_isPaper) := goodIn_app (goodIn_of _ (by decide +kernel)) ggX9_duel_X9_isPaper
set_option maxRecDepth 20000 in
theorem ggX9_duel_X9_goes : GoodIn wsX9_duel wsX9_goes := goodIn_r _ [23, 24, 25, 26, 27, 28, 29, 30, 31, 32, 33, 34, 35, 36, 37, 38, 39, 40, 41, 42, 43, 44, 45, 46, 47, 48, 49, 50, 51, 52, 53] (by decide +kernel) (by decide +kernel)
set_option maxRecDepth 20000 in
theorem gX9_duel_X9_goes : GoodIn wsX9_duel (wsV RX9 97 RX9 yX9_goes wsX9_goes) := goodIn_app (goodIn_of _ (by decide +kernel)) ggX9_duel_X9_goes
theorem dX9_duel_0 : decode cX9_duel 0 = .ok (.iload_n 1, 1) := by decide +kernel
theorem dX9_duel_1 : decode cX9_duel 1 = .ok (.iconst 0, 1) := by decide +kernel
theorem dX9_duel_2 : decode cX9_duel 2 = .ok (.bipush 7, 2) := by decide +kernel
theorem dX9_duel_4 : decode cX9_duel 4 = .ok (.invokestatic 87, 3) := by decide +kernel
theorem dX9_duel_7 : decode cX9_duel 7 = .ok (.ifCond .eq 34, 3) := by decide +kernel
theorem dX9_duel_10 : decode cX9_duel 10 = .ok (.iload_n 2, 1) := by decide +kernel
theorem dX9_duel_11 : decode cX9_duel 11 = .ok (.iconst 0, 1) := by decide +kernel
theorem dX9_duel_12 : decode cX9_duel 12 = .ok (.bipush 7, 2) := by decide +kernel
theorem dX9_duel_14 : decode cX9_duel 14 = .ok (.invokestatic 87, 3) := by decide +kernel
theorem dX9_duel_17 : decode cX9_duel 17 = .ok (.ifCond .eq 24, 3) := by decide +kernel
theorem dX9_duel_20 : decode cX9_duel 20 = .ok (.iload_n 3, 1) := by decide +kernel
theorem dX9_duel_21 : decode cX9_duel 21 = .ok (.iconst 0, 1) := by decide +kernel
theorem dX9_duel_22 : decode cX9_duel 22 = .ok (.iconst 3, 1) := by decide +kernel
theorem dX9_duel_23 : decode cX9_duel 23 = .ok (.invokestatic 87, 3) := by decide +kernel
theorem dX9_duel_26 : decode cX9_duel 26 = .ok (.ifCond .eq 15, 3) := by decide +kernel
theorem dX9_duel_29 : decode cX9_duel 29 = .ok (.iload 4, 2) := by decide +kernel
theorem dX9_duel_31 : decode cX9_duel 31 = .ok (.invokestatic 101, 3) := by decide +kernel
theorem dX9_duel_34 : decode cX9_duel 34 = .ok (.ifCond .eq 7, 3) := by decide +kernel
theorem dX9_duel_37 : decode cX9_duel 37 = .ok (.iconst 1, 1) := by decide +kernel
theorem dX9_duel_38 : decode cX9_duel 38 = .ok (.goto 4, 3) := by decide +kernel
theorem dX9_duel_41 : decode cX9_duel 41 = .ok (.iconst 0, 1) := by decide +kernel
theorem dX9_duel_42 : decode cX9_duel 42 = .ok (.istore 7, 2) := by decide +kernel
theorem dX9_duel_44 : decode cX9_duel 44 = .ok (.aload_n 0, 1) := by decide +kernel
theorem dX9_duel_45 : decode cX9_duel 45 = .ok (.iload 7, 2) := by decide +kernel
theorem dX9_duel_47 : decode cX9_duel 47 = .ok (.iload_n 1, 1) := by decide +kernel
theorem dX9_duel_48 : decode cX9_duel 48 = .ok (.iload_n 2, 1) := by decide +kernel
theorem dX9_duel_49 : decode cX9_duel 49 = .ok (.if_icmp .eq 29, 3) := by decide +kernel
theorem dX9_duel_52 : decode cX9_duel 52 = .ok (.iload 5, 2) := by decide +kernel
theorem dX9_duel_54 : decode cX9_duel 54 = .ok (.iconst 1, 1) := by decide +kernel
theorem dX9_duel_55 : decode cX9_duel 55 = .ok (.iconst 5, 1) := by decide +kernel
theorem dX9_duel_56 : decode cX9_duel 56 = .ok (.invokestatic 87, 3) := by decide +kernel
theorem dX9_duel_59 : decode cX9_duel 59 = .ok (.ifCond .eq 19, 3) := by decide +kernel
theorem dX9_duel_62 : decode cX9_duel 62 = .ok (.iload 6, 2) := by decide +kernel
theorem dX9_duel_64 : decode cX9_duel 64 = .ok (.iconst 0, 1) := by decide +kernel
theorem dX9_duel_65 : decode cX9_duel 65 = .ok (.sipush 999, 3) := by decide +kernel
theorem dX9_duel_68 : decode cX9_duel 68 = .ok (.invokestatic 87, 3) := by decide +kernel
theorem dX9_duel_71 : decode cX9_duel 71 = .ok (.ifCond .eq 7, 3) := by decide +kernel
theorem dX9_duel_74 : decode cX9_duel 74 = .ok (.iconst 1, 1) := by decide +kernel
theorem dX9_duel_75 : decode cX9_duel 75 = .ok (.goto 4, 3) := by decide +kernel
theorem dX9_duel_78 : decode cX9_duel 78 = .ok (.iconst 0, 1) := by decide +kernel
theorem dX9_duel_79 : decode cX9_duel 79 = .ok (.aload_n 0, 1) := by decide +kernel
theorem dX9_duel_80 : decode cX9_duel 80 = .ok (.getfield 91, 3) := by decide +kernel
theorem dX9_duel_83 : decode cX9_duel 83 = .ok (.ifCond .le 16, 3) := by decide +kernel
theorem dX9_duel_86 : decode cX9_duel 86 = .ok (.aload_n 0, 1) := by decide +kernel
theorem dX9_duel_87 : decode cX9_duel 87 = .ok (.getfield 84, 3) := by decide +kernel
theorem dX9_duel_90 : decode cX9_duel 90 = .ok (.bipush 12, 2) := by decide +kernel
theorem dX9_duel_92 : decode cX9_duel 92 = .ok (.if_icmp .ge 7, 3) := by decide +kernel
theorem dX9_duel_95 : decode cX9_duel 95 = .ok (.iconst 1, 1) := by decide +kernel
theorem dX9_duel_96 : decode cX9_duel 96 = .ok (.goto 4, 3) := by decide +kernel
theorem dX9_duel_99 : decode cX9_duel 99 = .ok (.iconst 0, 1) := by decide +kernel
theorem dX9_duel_100 : decode cX9_duel 100 = .ok (.invokevirtual 97, 3) := by decide +kernel
theorem dX9_duel_103 : decode cX9_duel 103 = .ok (.ifCond .ne 5, 3) := by decide +kernel
theorem dX9_duel_106 : decode cX9_duel 106 = .ok (.iconst 0, 1) := by decide +kernel
theorem dX9_duel_107 : decode cX9_duel 107 = .ok (.ireturn, 1) := by decide +kernel
theorem dX9_duel_108 : decode cX9_duel 108 = .ok (.aload_n 0, 1) := by decide +kernel
theorem dX9_duel_109 : decode cX9_duel 109 = .ok (.getfield 34, 3) := by decide +kernel
theorem dX9_duel_112 : decode cX9_duel 112 = .ok (.aload_n 0, 1) := by decide +kernel
theorem dX9_duel_113 : decode cX9_duel 113 = .ok (.getfield 84, 3) := by decide +kernel
theorem dX9_duel_116 : decode cX9_duel 116 = .ok (.iload_n 1, 1) := by decide +kernel
theorem dX9_duel_117 : decode cX9_duel 117 = .ok (.iastore, 1) := by decide +kernel
theorem dX9_duel_118 : decode cX9_duel 118 = .ok (.aload_n 0, 1) := by decide +kernel
theorem dX9_duel_119 : decode cX9_duel 119 = .ok (.getfield 37, 3) := by decide +kernel
theorem dX9_duel_122 : decode cX9_duel 122 = .ok (.aload_n 0, 1) := by decide +kernel
theorem dX9_duel_123 : decode cX9_duel 123 = .ok (.getfield 84, 3) := by decide +kernel
theorem dX9_duel_126 : decode cX9_duel 126 = .ok (.iload_n 2, 1) := by decide +kernel
theorem dX9_duel_127 : decode cX9_duel 127 = .ok (.iastore, 1) := by decide +kernel
theorem dX9_duel_128 : decode cX9_duel 128 = .ok (.aload_n 0, 1) := by decide +kernel
theorem dX9_duel_129 : decode cX9_duel 129 = .ok (.getfield 40, 3) := by decide +kernel
theorem dX9_duel_132 : decode cX9_duel 132 = .ok (.aload_n 0, 1) := by decide +kernel
theorem dX9_duel_133 : decode cX9_duel 133 = .ok (.getfield 84, 3) := by decide +kernel
theorem dX9_duel_136 : decode cX9_duel 136 = .ok (.iload_n 3, 1) := by decide +kernel
theorem dX9_duel_137 : decode cX9_duel 137 = .ok (.iastore, 1) := by decide +kernel
theorem dX9_duel_138 : decode cX9_duel 138 = .ok (.aload_n 0, 1) := by decide +kernel
theorem dX9_duel_139 : decode cX9_duel 139 = .ok (.getfield 43, 3) := by decide +kernel
theorem dX9_duel_142 : decode cX9_duel 142 = .ok (.aload_n 0, 1) := by decide +kernel
theorem dX9_duel_143 : decode cX9_duel 143 = .ok (.getfield 84, 3) := by decide +kernel
theorem dX9_duel_146 : decode cX9_duel 146 = .ok (.iconst (-1), 1) := by decide +kernel
theorem dX9_duel_147 : decode cX9_duel 147 = .ok (.iastore, 1) := by decide +kernel
theorem dX9_duel_148 : decode cX9_duel 148 = .ok (.aload_n 0, 1) := by decide +kernel
theorem dX9_duel_149 : decode cX9_duel 149 = .ok (.getfield 46, 3) := by decide +kernel
theorem dX9_duel_152 : decode cX9_duel 152 = .ok (.aload_n 0, 1) := by decide +kernel
theorem dX9_duel_153 : decode cX9_duel 153 = .ok (.getfield 84, 3) := by decide +kernel
theorem dX9_duel_156 : decode cX9_duel 156 = .ok (.iload 4, 2) := by decide +kernel
theorem dX9_duel_158 : decode cX9_duel 158 = .ok (.iastore, 1) := by decide +kernel
theorem dX9_duel_159 : decode cX9_duel 159 = .ok (.aload_n 0, 1) := by decide +kernel
theorem dX9_duel_160 : decode cX9_duel 160 = .ok (.getfield 49, 3) := by decide +kernel
theorem dX9_duel_163 : decode cX9_duel 163 = .ok (.aload_n 0, 1) := by decide +kernel
theorem dX9_duel_164 : decode cX9_duel 164 = .ok (.getfield 84, 3) := by decide +kernel
theorem dX9_duel_167 : decode cX9_duel 167 = .ok (.iload 5, 2) := by decide +kernel
theorem dX9_duel_169 : decode cX9_duel 169 = .ok (.iastore, 1) := by decide +kernel
theorem dX9_duel_170 : decode cX9_duel 170 = .ok (.aload_n 0, 1) := by decide +kernel
theorem dX9_duel_171 : decode cX9_duel 171 = .ok (.getfield 52, 3) := by decide +kernel
theorem dX9_duel_174 : decode cX9_duel 174 = .ok (.aload_n 0, 1) := by decide +kernel
theorem dX9_duel_175 : decode cX9_duel 175 = .ok (.getfield 84, 3) := by decide +kernel
theorem dX9_duel_178 : decode cX9_duel 178 = .ok (.iload 6, 2) := by decide +kernel
theorem dX9_duel_180 : decode cX9_duel 180 = .ok (.iastore, 1) := by decide +kernel
theorem dX9_duel_181 : decode cX9_duel 181 = .ok (.aload_n 0, 1) := by decide +kernel
theorem dX9_duel_182 : decode cX9_duel 182 = .ok (.getfield 55, 3) := by decide +kernel
theorem dX9_duel_185 : decode cX9_duel 185 = .ok (.aload_n 0, 1) := by decide +kernel
theorem dX9_duel_186 : decode cX9_duel 186 = .ok (.getfield 84, 3) := by decide +kernel
theorem dX9_duel_189 : decode cX9_duel 189 = .ok (.aload_n 0, 1) := by decide +kernel
theorem dX9_duel_190 : decode cX9_duel 190 = .ok (.getfield 91, 3) := by decide +kernel
theorem dX9_duel_193 : decode cX9_duel 193 = .ok (.iastore, 1) := by decide +kernel
theorem dX9_duel_194 : decode cX9_duel 194 = .ok (.aload_n 0, 1) := by decide +kernel
theorem dX9_duel_195 : decode cX9_duel 195 = .ok (.getfield 58, 3) := by decide +kernel
theorem dX9_duel_198 : decode cX9_duel 198 = .ok (.aload_n 0, 1) := by decide +kernel
theorem dX9_duel_199 : decode cX9_duel 199 = .ok (.getfield 84, 3) := by decide +kernel
theorem dX9_duel_202 : decode cX9_duel 202 = .ok (.aload_n 0, 1) := by decide +kernel
theorem dX9_duel_203 : decode cX9_duel 203 = .ok (.getfield 105, 3) := by decide +kernel
theorem dX9_duel_206 : decode cX9_duel 206 = .ok (.iastore, 1) := by decide +kernel
theorem dX9_duel_207 : decode cX9_duel 207 = .ok (.aload_n 0, 1) := by decide +kernel
theorem dX9_duel_208 : decode cX9_duel 208 = .ok (.dup, 1) := by decide +kernel
theorem dX9_duel_209 : decode cX9_duel 209 = .ok (.getfield 84, 3) := by decide +kernel
theorem dX9_duel_212 : decode cX9_duel 212 = .ok (.iconst 1, 1) := by decide +kernel
theorem dX9_duel_213 : decode cX9_duel 213 = .ok (.iadd, 1) := by decide +kernel
theorem dX9_duel_214 : decode cX9_duel 214 = .ok (.putfield 84, 3) := by decide +kernel
theorem dX9_duel_217 : decode cX9_duel 217 = .ok (.aload_n 0, 1) := by decide +kernel
theorem dX9_duel_218 : decode cX9_duel 218 = .ok (.getfield 84, 3) := by decide +kernel
theorem dX9_duel_221 : decode cX9_duel 221 = .ok (.iconst 1, 1) := by decide +kernel
theorem dX9_duel_222 : decode cX9_duel 222 = .ok (.isub, 1) := by decide +kernel
theorem dX9_duel_223 : decode cX9_duel 223 = .ok (.ireturn, 1) := by decide +kernel
theorem dX9_isOver_0 : decode cX9_isOver 0 = .ok (.aload_n 0, 1) := by decide +kernel
theorem dX9_isOver_1 : decode cX9_isOver 1 = .ok (.getfield 61, 3) := by decide +kernel
theorem dX9_isOver_4 : decode cX9_isOver 4 = .ok (.iload_n 1, 1) := by decide +kernel
theorem dX9_isOver_5 : decode cX9_isOver 5 = .ok (.iaload, 1) := by decide +kernel
theorem dX9_isOver_6 : decode cX9_isOver 6 = .ok (.iconst 2, 1) := by decide +kernel
theorem dX9_isOver_7 : decode cX9_isOver 7 = .ok (.aload_n 0, 1) := by decide +kernel
theorem dX9_isOver_8 : decode cX9_isOver 8 = .ok (.getfield 49, 3) := by decide +kernel
theorem dX9_isOver_11 : decode cX9_isOver 11 = .ok (.iload_n 1, 1) := by decide +kernel
theorem dX9_isOver_12 : decode cX9_isOver 12 = .ok (.iaload, 1) := by decide +kernel
theorem dX9_isOver_13 : decode cX9_isOver 13 = .ok (.imul, 1) := by decide +kernel
theorem dX9_isOver_14 : decode cX9_isOver 14 = .ok (.if_icmp .ne 7, 3) := by decide +kernel
theorem dX9_isOver_17 : decode cX9_isOver 17 = .ok (.iconst 1, 1) := by decide +kernel
theorem dX9_isOver_18 : decode cX9_isOver 18 = .ok (.goto 4, 3) := by decide +kernel
theorem dX9_isOver_21 : decode cX9_isOver 21 = .ok (.iconst 0, 1) := by decide +kernel
theorem dX9_isOver_22 : decode cX9_isOver 22 = .ok (.ireturn, 1) := by decide +kernel
set_option maxRecDepth 20000 in
theorem ggX9_hand_X9_isDuel : GoodIn wsX9_hand wsX9_isDuel := goodIn_r _ [18, 19, 20, 21, 17, 22, 33, 34, 35, 36, 37, 38, 39, 40, 41, 42, 43, 44, 45, 46, 47, 48, 49, 50, 51, 52, 53, 54, 55, 56, 57, 58, 59, 60, 61] (by decide +kernel) (by decide +kernel)
set_option maxRecDepth 20000 in
theorem gX9_hand_X9_isDuel : GoodIn wsX9_hand (wsV RX9 108 RX9 yX9_isDuel wsX9_isDuel) := goodIn_app (goodIn_of _ (by decide +kernel)) ggX9_hand_X9_isDuel
set_option maxRecDepth 20000 in
theorem ggX9_hand_X9_in : GoodIn wsX9_hand wsX9_in := goodIn_r _ [22] (by decide +kernel) (by decide +kernel)
set_option maxRecDepth 20000 in
theorem gX9_hand_X9_in : GoodIn wsX9_hand (va_wsS RX9 87 yX9_in wsX9_in) := goodIn_app (goodIn_of _ (by decide +kernel)) ggX9_hand_X9_in
set_option maxRecDepth 20000 in
theorem ggX9_hand_X9_isOver : GoodIn wsX9_hand wsX9_isOver := goodIn_r _ [26, 4, 27, 33, 34, 35, 36, 37, 38, 39, 40, 41, 42, 43, 44, 45, 46, 47, 48, 49, 50, 51, 52, 53, 54, 55, 56, 57, 58, 59, 60, 61] (by decide +kernel) (by decide +kernel)
set_option maxRecDepth 20000 in
theorem gX9_hand_X9_isOver : GoodIn wsX9_hand (wsV RX9 111 RX9 yX9_isOver wsX9_isOver) := goodIn_app (goodIn_of _ (by decide +kernel)) ggX9_hand_X9_isOver
set_option maxRecDepth 20000 in
theorem ggX9_hand_X9_goes : GoodIn wsX9_hand wsX9_goes := goodIn_r _ [31, 32, 33, 34, 35, 36, 37, 38, 39, 40, 41, 42, 43, 44, 45, 46, 47, 48, 49, 50, 51, 52, 53, 54, 55, 56, 57, 58, 59, 60, 61] (by decide +kernel) (by decide +kernel)
set_option maxRecDepth 20000 in
theorem gX9_hand_X9_goes : GoodIn wsX9_hand (wsV RX9 97 RX9 yX9_goes wsX9_goes) := goodIn_app (goodIn_of _ (by decide +kernel)) ggX9_hand_X9_goes
theorem dX9_hand_0 : decode cX9_hand 0 = .ok (.aload_n 0, 1) := by decide +kernel
theorem dX9_hand_1 : decode cX9_hand 1 = .ok (.iload_n 1, 1) := by decide +kernel
theorem dX9_hand_2 : decode cX9_hand 2 = .ok (.invokevirtual 108, 3) := by decide +kernel
theorem dX9_hand_5 : decode cX9_hand 5 = .ok (.istore_n 3, 1) := by decide +kernel
theorem dX9_hand_6 : decode cX9_hand 6 = .ok (.aload_n 0, 1) := by decide +kernel
theorem dX9_hand_7 : decode cX9_hand 7 = .ok (.iload_n 3, 1) := by decide +kernel
theorem dX9_hand_8 : decode cX9_hand 8 = .ok (.iload_n 2, 1) := by decide +kernel
theorem dX9_hand_9 : decode cX9_hand 9 = .ok (.iconst 0, 1) := by decide +kernel
theorem dX9_hand_10 : decode cX9_hand 10 = .ok (.sipush 999, 3) := by decide +kernel
theorem dX9_hand_13 : decode cX9_hand 13 = .ok (.invokestatic 87, 3) := by decide +kernel
theorem dX9_hand_16 : decode cX9_hand 16 = .ok (.iload_n 3, 1) := by decide +kernel
theorem dX9_hand_17 : decode cX9_hand 17 = .ok (.ifCond .eq 36, 3) := by decide +kernel
theorem dX9_hand_20 : decode cX9_hand 20 = .ok (.aload_n 0, 1) := by decide +kernel
theorem dX9_hand_21 : decode cX9_hand 21 = .ok (.iload_n 1, 1) := by decide +kernel
theorem dX9_hand_22 : decode cX9_hand 22 = .ok (.invokevirtual 111, 3) := by decide +kernel
theorem dX9_hand_25 : decode cX9_hand 25 = .ok (.ifCond .ne 28, 3) := by decide +kernel
theorem dX9_hand_28 : decode cX9_hand 28 = .ok (.aload_n 0, 1) := by decide +kernel
theorem dX9_hand_29 : decode cX9_hand 29 = .ok (.getfield 94, 3) := by decide +kernel
theorem dX9_hand_32 : decode cX9_hand 32 = .ok (.ifCond .le 21, 3) := by decide +kernel
theorem dX9_hand_35 : decode cX9_hand 35 = .ok (.aload_n 0, 1) := by decide +kernel
theorem dX9_hand_36 : decode cX9_hand 36 = .ok (.getfield 19, 3) := by decide +kernel
theorem dX9_hand_39 : decode cX9_hand 39 = .ok (.aload_n 0, 1) := by decide +kernel
theorem dX9_hand_40 : decode cX9_hand 40 = .ok (.getfield 46, 3) := by decide +kernel
theorem dX9_hand_43 : decode cX9_hand 43 = .ok (.iload_n 1, 1) := by decide +kernel
theorem dX9_hand_44 : decode cX9_hand 44 = .ok (.iaload, 1) := by decide +kernel
theorem dX9_hand_45 : decode cX9_hand 45 = .ok (.iaload, 1) := by decide +kernel
theorem dX9_hand_46 : decode cX9_hand 46 = .ok (.ifCond .le 7, 3) := by decide +kernel
theorem dX9_hand_49 : decode cX9_hand 49 = .ok (.iconst 1, 1) := by decide +kernel
theorem dX9_hand_50 : decode cX9_hand 50 = .ok (.goto 4, 3) := by decide +kernel
theorem dX9_hand_53 : decode cX9_hand 53 = .ok (.iconst 0, 1) := by decide +kernel
theorem dX9_hand_54 : decode cX9_hand 54 = .ok (.invokevirtual 97, 3) := by decide +kernel
theorem dX9_hand_57 : decode cX9_hand 57 = .ok (.ifCond .ne 5, 3) := by decide +kernel
theorem dX9_hand_60 : decode cX9_hand 60 = .ok (.iconst 0, 1) := by decide +kernel
theorem dX9_hand_61 : decode cX9_hand 61 = .ok (.ireturn, 1) := by decide +kernel
theorem dX9_hand_62 : decode cX9_hand 62 = .ok (.bipush 10, 2) := by decide +kernel
theorem dX9_hand_64 : decode cX9_hand 64 = .ok (.iload_n 1, 1) := by decide +kernel
theorem dX9_hand_65 : decode cX9_hand 65 = .ok (.imul, 1) := by decide +kernel
theorem dX9_hand_66 : decode cX9_hand 66 = .ok (.aload_n 0, 1) := by decide +kernel
theorem dX9_hand_67 : decode cX9_hand 67 = .ok (.getfield 61, 3) := by decide +kernel
theorem dX9_hand_70 : decode cX9_hand 70 = .ok (.iload_n 1, 1) := by decide +kernel
theorem dX9_hand_71 : decode cX9_hand 71 = .ok (.iaload, 1) := by decide +kernel
theorem dX9_hand_72 : decode cX9_hand 72 = .ok (.iadd, 1) := by decide +kernel
theorem dX9_hand_73 : decode cX9_hand 73 = .ok (.istore 4, 2) := by decide +kernel
theorem dX9_hand_75 : decode cX9_hand 75 = .ok (.aload_n 0, 1) := by decide +kernel
theorem dX9_hand_76 : decode cX9_hand 76 = .ok (.getfield 19, 3) := by decide +kernel
theorem dX9_hand_79 : decode cX9_hand 79 = .ok (.aload_n 0, 1) := by decide +kernel
theorem dX9_hand_80 : decode cX9_hand 80 = .ok (.getfield 46, 3) := by decide +kernel
theorem dX9_hand_83 : decode cX9_hand 83 = .ok (.iload_n 1, 1) := by decide +kernel
theorem dX9_hand_84 : decode cX9_hand 84 = .ok (.iaload, 1) := by decide +kernel
theorem dX9_hand_85 : decode cX9_hand 85 = .ok (.dup2, 1) := by decide +kernel
theorem dX9_hand_86 : decode cX9_hand 86 = .ok (.iaload, 1) := by decide +kernel
theorem dX9_hand_87 : decode cX9_hand 87 = .ok (.iconst 1, 1) := by decide +kernel
theorem dX9_hand_88 : decode cX9_hand 88 = .ok (.isub, 1) := by decide +kernel
theorem dX9_hand_89 : decode cX9_hand 89 = .ok (.iastore, 1) := by decide +kernel
theorem dX9_hand_90 : decode cX9_hand 90 = .ok (.aload_n 0, 1) := by decide +kernel
theorem dX9_hand_91 : decode cX9_hand 91 = .ok (.dup, 1) := by decide +kernel
theorem dX9_hand_92 : decode cX9_hand 92 = .ok (.getfield 114, 3) := by decide +kernel
theorem dX9_hand_95 : decode cX9_hand 95 = .ok (.iconst 1, 1) := by decide +kernel
theorem dX9_hand_96 : decode cX9_hand 96 = .ok (.iadd, 1) := by decide +kernel
theorem dX9_hand_97 : decode cX9_hand 97 = .ok (.putfield 114, 3) := by decide +kernel
theorem dX9_hand_100 : decode cX9_hand 100 = .ok (.aload_n 0, 1) := by decide +kernel
theorem dX9_hand_101 : decode cX9_hand 101 = .ok (.getfield 61, 3) := by decide +kernel
theorem dX9_hand_104 : decode cX9_hand 104 = .ok (.iload_n 1, 1) := by decide +kernel
theorem dX9_hand_105 : decode cX9_hand 105 = .ok (.iaload, 1) := by decide +kernel
theorem dX9_hand_106 : decode cX9_hand 106 = .ok (.iconst 2, 1) := by decide +kernel
theorem dX9_hand_107 : decode cX9_hand 107 = .ok (.irem, 1) := by decide +kernel
theorem dX9_hand_108 : decode cX9_hand 108 = .ok (.ifCond .ne 12, 3) := by decide +kernel
theorem dX9_hand_111 : decode cX9_hand 111 = .ok (.aload_n 0, 1) := by decide +kernel
theorem dX9_hand_112 : decode cX9_hand 112 = .ok (.getfield 34, 3) := by decide +kernel
theorem dX9_hand_115 : decode cX9_hand 115 = .ok (.iload_n 1, 1) := by decide +kernel
theorem dX9_hand_116 : decode cX9_hand 116 = .ok (.iaload, 1) := by decide +kernel
theorem dX9_hand_117 : decode cX9_hand 117 = .ok (.goto 9, 3) := by decide +kernel
theorem dX9_hand_120 : decode cX9_hand 120 = .ok (.aload_n 0, 1) := by decide +kernel
theorem dX9_hand_121 : decode cX9_hand 121 = .ok (.getfield 37, 3) := by decide +kernel
theorem dX9_hand_124 : decode cX9_hand 124 = .ok (.iload_n 1, 1) := by decide +kernel
theorem dX9_hand_125 : decode cX9_hand 125 = .ok (.iaload, 1) := by decide +kernel
theorem dX9_hand_126 : decode cX9_hand 126 = .ok (.istore 5, 2) := by decide +kernel
theorem dX9_hand_128 : decode cX9_hand 128 = .ok (.iconst 0, 1) := by decide +kernel
theorem dX9_hand_129 : decode cX9_hand 129 = .ok (.istore 6, 2) := by decide +kernel
theorem dX9_hand_131 : decode cX9_hand 131 = .ok (.iload 6, 2) := by decide +kernel
theorem dX9_hand_133 : decode cX9_hand 133 = .ok (.iconst 4, 1) := by decide +kernel
theorem dX9_hand_134 : decode cX9_hand 134 = .ok (.aload_n 0, 1) := by decide +kernel
theorem dX9_hand_135 : decode cX9_hand 135 = .ok (.getfield 94, 3) := by decide +kernel
theorem dX9_hand_138 : decode cX9_hand 138 = .ok (.imul, 1) := by decide +kernel
theorem dX9_hand_139 : decode cX9_hand 139 = .ok (.if_icmp .ge 29, 3) := by decide +kernel
theorem dX9_hand_142 : decode cX9_hand 142 = .ok (.aload_n 0, 1) := by decide +kernel
theorem dX9_hand_143 : decode cX9_hand 143 = .ok (.getfield 77, 3) := by decide +kernel
theorem dX9_hand_146 : decode cX9_hand 146 = .ok (.bipush 32, 2) := by decide +kernel
theorem dX9_hand_148 : decode cX9_hand 148 = .ok (.iload 4, 2) := by decide +kernel
theorem dX9_hand_150 : decode cX9_hand 150 = .ok (.imul, 1) := by decide +kernel
theorem dX9_hand_151 : decode cX9_hand 151 = .ok (.iload 6, 2) := by decide +kernel
theorem dX9_hand_153 : decode cX9_hand 153 = .ok (.iadd, 1) := by decide +kernel
theorem dX9_hand_154 : decode cX9_hand 154 = .ok (.aload_n 0, 1) := by decide +kernel
theorem dX9_hand_155 : decode cX9_hand 155 = .ok (.getfield 7, 3) := by decide +kernel
theorem dX9_hand_158 : decode cX9_hand 158 = .ok (.iload 6, 2) := by decide +kernel
theorem dX9_hand_160 : decode cX9_hand 160 = .ok (.iaload, 1) := by decide +kernel
theorem dX9_hand_161 : decode cX9_hand 161 = .ok (.iastore, 1) := by decide +kernel
theorem dX9_hand_162 : decode cX9_hand 162 = .ok (.iinc 6 1, 3) := by decide +kernel
theorem dX9_hand_165 : decode cX9_hand 165 = .ok (.goto (-34), 3) := by decide +kernel
theorem dX9_hand_168 : decode cX9_hand 168 = .ok (.aload_n 0, 1) := by decide +kernel
theorem dX9_hand_169 : decode cX9_hand 169 = .ok (.getfield 64, 3) := by decide +kernel
theorem dX9_hand_172 : decode cX9_hand 172 = .ok (.iload 4, 2) := by decide +kernel
theorem dX9_hand_174 : decode cX9_hand 174 = .ok (.aload_n 0, 1) := by decide +kernel
theorem dX9_hand_175 : decode cX9_hand 175 = .ok (.getfield 94, 3) := by decide +kernel
theorem dX9_hand_178 : decode cX9_hand 178 = .ok (.iastore, 1) := by decide +kernel
theorem dX9_hand_179 : decode cX9_hand 179 = .ok (.aload_n 0, 1) := by decide +kernel
theorem dX9_hand_180 : decode cX9_hand 180 = .ok (.getfield 67, 3) := by decide +kernel
theorem dX9_hand_183 : decode cX9_hand 183 = .ok (.iload 4, 2) := by decide +kernel
theorem dX9_hand_185 : decode cX9_hand 185 = .ok (.aload_n 0, 1) := by decide +kernel
theorem dX9_hand_186 : decode cX9_hand 186 = .ok (.getfield 22, 3) := by decide +kernel
theorem dX9_hand_189 : decode cX9_hand 189 = .ok (.aload_n 0, 1) := by decide +kernel
theorem dX9_hand_190 : decode cX9_hand 190 = .ok (.getfield 46, 3) := by decide +kernel
theorem dX9_hand_193 : decode cX9_hand 193 = .ok (.iload_n 1, 1) := by decide +kernel
theorem dX9_hand_194 : decode cX9_hand 194 = .ok (.iaload, 1) := by decide +kernel
theorem dX9_hand_195 : decode cX9_hand 195 = .ok (.iaload, 1) := by decide +kernel
theorem dX9_hand_196 : decode cX9_hand 196 = .ok (.iastore, 1) := by decide +kernel
theorem dX9_hand_197 : decode cX9_hand 197 = .ok (.aload_n 0, 1) := by decide +kernel
theorem dX9_hand_198 : decode cX9_hand 198 = .ok (.getfield 70, 3) := by decide +kernel
theorem dX9_hand_201 : decode cX9_hand 201 = .ok (.iload 4, 2) := by decide +kernel
theorem dX9_hand_203 : decode cX9_hand 203 = .ok (.iload_n 2, 1) := by decide +kernel
theorem dX9_hand_204 : decode cX9_hand 204 = .ok (.bipush 101, 2) := by decide +kernel
theorem dX9_hand_206 : decode cX9_hand 206 = .ok (.iload 5, 2) := by decide +kernel
theorem dX9_hand_208 : decode cX9_hand 208 = .ok (.imul, 1) := by decide +kernel
theorem dX9_hand_209 : decode cX9_hand 209 = .ok (.bipush 37, 2) := by decide +kernel
theorem dX9_hand_211 : decode cX9_hand 211 = .ok (.aload_n 0, 1) := by decide +kernel
theorem dX9_hand_212 : decode cX9_hand 212 = .ok (.getfield 114, 3) := by decide +kernel
theorem dX9_hand_215 : decode cX9_hand 215 = .ok (.imul, 1) := by decide +kernel
theorem dX9_hand_216 : decode cX9_hand 216 = .ok (.iadd, 1) := by decide +kernel
theorem dX9_hand_217 : decode cX9_hand 217 = .ok (.sipush 1000, 3) := by decide +kernel
theorem dX9_hand_220 : decode cX9_hand 220 = .ok (.irem, 1) := by decide +kernel
theorem dX9_hand_221 : decode cX9_hand 221 = .ok (.if_icmp .eq 7, 3) := by decide +kernel
theorem dX9_hand_224 : decode cX9_hand 224 = .ok (.iconst 1, 1) := by decide +kernel
theorem dX9_hand_225 : decode cX9_hand 225 = .ok (.goto 4, 3) := by decide +kernel
theorem dX9_hand_228 : decode cX9_hand 228 = .ok (.iconst 0, 1) := by decide +kernel
theorem dX9_hand_229 : decode cX9_hand 229 = .ok (.bastore, 1) := by decide +kernel
theorem dX9_hand_230 : decode cX9_hand 230 = .ok (.aload_n 0, 1) := by decide +kernel
theorem dX9_hand_231 : decode cX9_hand 231 = .ok (.iconst 0, 1) := by decide +kernel
theorem dX9_hand_232 : decode cX9_hand 232 = .ok (.putfield 94, 3) := by decide +kernel
theorem dX9_hand_235 : decode cX9_hand 235 = .ok (.aload_n 0, 1) := by decide +kernel
theorem dX9_hand_236 : decode cX9_hand 236 = .ok (.getfield 61, 3) := by decide +kernel
theorem dX9_hand_239 : decode cX9_hand 239 = .ok (.iload_n 1, 1) := by decide +kernel
theorem dX9_hand_240 : decode cX9_hand 240 = .ok (.dup2, 1) := by decide +kernel
theorem dX9_hand_241 : decode cX9_hand 241 = .ok (.iaload, 1) := by decide +kernel
theorem dX9_hand_242 : decode cX9_hand 242 = .ok (.iconst 1, 1) := by decide +kernel
theorem dX9_hand_243 : decode cX9_hand 243 = .ok (.iadd, 1) := by decide +kernel
theorem dX9_hand_244 : decode cX9_hand 244 = .ok (.iastore, 1) := by decide +kernel
theorem dX9_hand_245 : decode cX9_hand 245 = .ok (.aload_n 0, 1) := by decide +kernel
theorem dX9_hand_246 : decode cX9_hand 246 = .ok (.getfield 114, 3) := by decide +kernel
theorem dX9_hand_249 : decode cX9_hand 249 = .ok (.ireturn, 1) := by decide +kernel
set_option maxRecDepth 20000 in
theorem ggX9_isHanded_X9_isDuel : GoodIn wsX9_isHanded wsX9_isDuel := goodIn_r _ [6, 7, 8, 9, 5, 10, 11, 12, 13, 14, 15, 16, 17, 18, 19, 20, 21, 22, 23, 24, 25, 26, 27, 28, 29, 30, 31, 32, 33, 34, 35, 36, 37, 38, 39] (by decide +kernel) (by decide +kernel)
set_option maxRecDepth 20000 in
theorem gX9_isHanded_X9_isDuel : GoodIn wsX9_isHanded (wsV RX9 108 RX9 yX9_isDuel wsX9_isDuel) := goodIn_app (goodIn_of _ (by decide +kernel)) ggX9_isHanded_X9_isDuel
set_option maxRecDepth 20000 in
theorem ggX9_isHanded_X9_in : GoodIn wsX9_isHanded wsX9_in := goodIn_r _ [10] (by decide +kernel) (by decide +kernel)
set_option maxRecDepth 20000 in
theorem gX9_isHanded_X9_in : GoodIn wsX9_isHanded (va_wsS RX9 87 yX9_in wsX9_in) := goodIn_app (goodIn_of _ (by decide +kernel)) ggX9_isHanded_X9_in
theorem dX9_isHanded_0 : decode cX9_isHanded 0 = .ok (.aload_n 0, 1) := by decide +kernel
theorem dX9_isHanded_1 : decode cX9_isHanded 1 = .ok (.iload_n 1, 1) := by decide +kernel
theorem dX9_isHanded_2 : decode cX9_isHanded 2 = .ok (.invokevirtual 108, 3) := by decide +kernel
theorem dX9_isHanded_5 : decode cX9_isHanded 5 = .ok (.ifCond .eq 38, 3) := by decide +kernel
theorem dX9_isHanded_8 : decode cX9_isHanded 8 = .ok (.iload_n 2, 1) := by decide +kernel
theorem dX9_isHanded_9 : decode cX9_isHanded 9 = .ok (.iconst 0, 1) := by decide +kernel
theorem dX9_isHanded_10 : decode cX9_isHanded 10 = .ok (.iconst 4, 1) := by decide +kernel
theorem dX9_isHanded_11 : decode cX9_isHanded 11 = .ok (.invokestatic 87, 3) := by decide +kernel
theorem dX9_isHanded_14 : decode cX9_isHanded 14 = .ok (.ifCond .eq 29, 3) := by decide +kernel
theorem dX9_isHanded_17 : decode cX9_isHanded 17 = .ok (.iconst 2, 1) := by decide +kernel
theorem dX9_isHanded_18 : decode cX9_isHanded 18 = .ok (.iload_n 2, 1) := by decide +kernel
theorem dX9_isHanded_19 : decode cX9_isHanded 19 = .ok (.imul, 1) := by decide +kernel
theorem dX9_isHanded_20 : decode cX9_isHanded 20 = .ok (.iload_n 3, 1) := by decide +kernel
theorem dX9_isHanded_21 : decode cX9_isHanded 21 = .ok (.ifCond .eq 7, 3) := by decide +kernel
theorem dX9_isHanded_24 : decode cX9_isHanded 24 = .ok (.iconst 1, 1) := by decide +kernel
theorem dX9_isHanded_25 : decode cX9_isHanded 25 = .ok (.goto 4, 3) := by decide +kernel
theorem dX9_isHanded_28 : decode cX9_isHanded 28 = .ok (.iconst 0, 1) := by decide +kernel
theorem dX9_isHanded_29 : decode cX9_isHanded 29 = .ok (.iadd, 1) := by decide +kernel
theorem dX9_isHanded_30 : decode cX9_isHanded 30 = .ok (.aload_n 0, 1) := by decide +kernel
theorem dX9_isHanded_31 : decode cX9_isHanded 31 = .ok (.getfield 61, 3) := by decide +kernel
theorem dX9_isHanded_34 : decode cX9_isHanded 34 = .ok (.iload_n 1, 1) := by decide +kernel
theorem dX9_isHanded_35 : decode cX9_isHanded 35 = .ok (.iaload, 1) := by decide +kernel
theorem dX9_isHanded_36 : decode cX9_isHanded 36 = .ok (.if_icmp .ge 7, 3) := by decide +kernel
theorem dX9_isHanded_39 : decode cX9_isHanded 39 = .ok (.iconst 1, 1) := by decide +kernel
theorem dX9_isHanded_40 : decode cX9_isHanded 40 = .ok (.goto 4, 3) := by decide +kernel
theorem dX9_isHanded_43 : decode cX9_isHanded 43 = .ok (.iconst 0, 1) := by decide +kernel
theorem dX9_isHanded_44 : decode cX9_isHanded 44 = .ok (.ireturn, 1) := by decide +kernel
theorem dX9_writing_0 : decode cX9_writing 0 = .ok (.bipush 10, 2) := by decide +kernel
theorem dX9_writing_2 : decode cX9_writing 2 = .ok (.iload_n 0, 1) := by decide +kernel
theorem dX9_writing_3 : decode cX9_writing 3 = .ok (.imul, 1) := by decide +kernel
theorem dX9_writing_4 : decode cX9_writing 4 = .ok (.iconst 2, 1) := by decide +kernel
theorem dX9_writing_5 : decode cX9_writing 5 = .ok (.iload_n 1, 1) := by decide +kernel
theorem dX9_writing_6 : decode cX9_writing 6 = .ok (.imul, 1) := by decide +kernel
theorem dX9_writing_7 : decode cX9_writing 7 = .ok (.iadd, 1) := by decide +kernel
theorem dX9_writing_8 : decode cX9_writing 8 = .ok (.iload_n 2, 1) := by decide +kernel
theorem dX9_writing_9 : decode cX9_writing 9 = .ok (.ifCond .eq 7, 3) := by decide +kernel
theorem dX9_writing_12 : decode cX9_writing 12 = .ok (.iconst 1, 1) := by decide +kernel
theorem dX9_writing_13 : decode cX9_writing 13 = .ok (.goto 4, 3) := by decide +kernel
theorem dX9_writing_16 : decode cX9_writing 16 = .ok (.iconst 0, 1) := by decide +kernel
theorem dX9_writing_17 : decode cX9_writing 17 = .ok (.iadd, 1) := by decide +kernel
theorem dX9_writing_18 : decode cX9_writing 18 = .ok (.ireturn, 1) := by decide +kernel
set_option maxRecDepth 20000 in
theorem ggX9_look_X9_isHanded : GoodIn wsX9_look wsX9_isHanded := goodIn_r _ [7, 8, 9, 10, 11, 6, 12, 13, 14, 15, 16, 25, 26, 27, 28, 29, 30, 31, 32, 33, 34, 35, 36, 37, 38, 39, 40, 41, 42, 43, 44, 45, 46, 47, 48, 49, 50, 51, 52, 53] (by decide +kernel) (by decide +kernel)
set_option maxRecDepth 20000 in
theorem gX9_look_X9_isHanded : GoodIn wsX9_look (wsV RX9 117 RX9 yX9_isHanded wsX9_isHanded) := goodIn_app (goodIn_of _ (by decide +kernel)) ggX9_look_X9_isHanded
set_option maxRecDepth 20000 in
theorem ggX9_look_X9_goes : GoodIn wsX9_look wsX9_goes := goodIn_r _ [20, 21, 25, 26, 27, 28, 29, 30, 31, 32, 33, 34, 35, 36, 37, 38, 39, 40, 41, 42, 43, 44, 45, 46, 47, 48, 49, 50, 51, 52, 53] (by decide +kernel) (by decide +kernel)
set_option maxRecDepth 20000 in
theorem gX9_look_X9_goes : GoodIn wsX9_look (wsV RX9 97 RX9 yX9_goes wsX9_goes) := goodIn_app (goodIn_of _ (by decide +kernel)) ggX9_look_X9_goes
set_option maxRecDepth 20000 in
theorem ggX9_look_X9_writing : GoodIn wsX9_look wsX9_writing := goodIn_r _ [24] (by decide +kernel) (by decide +kernel)
set_option maxRecDepth 20000 in
theorem gX9_look_X9_writing : GoodIn wsX9_look (va_wsS RX9 121 yX9_writing wsX9_writing) := goodIn_app (goodIn_of _ (by decide +kernel)) ggX9_look_X9_writing
theorem dX9_look_0 : decode cX9_look 0 = .ok (.aload_n 0, 1) := by decide +kernel
theorem dX9_look_1 : decode cX9_look 1 = .ok (.aload_n 0, 1) := by decide +kernel
theorem dX9_look_2 : decode cX9_look 2 = .ok (.iload_n 1, 1) := by decide +kernel
theorem dX9_look_3 : decode cX9_look 3 = .ok (.iload_n 2, 1) := by decide +kernel
theorem dX9_look_4 : decode cX9_look 4 = .ok (.iload_n 3, 1) := by decide +kernel
theorem dX9_look_5 : decode cX9_look 5 = .ok (.invokevirtual 117, 3) := by decide +kernel
theorem dX9_look_8 : decode cX9_look 8 = .ok (.iconst 1, 1) := by decide +kernel
theorem dX9_look_9 : decode cX9_look 9 = .ok (.iconst 1, 1) := by decide +kernel
theorem dX9_look_10 : decode cX9_look 10 = .ok (.invokevirtual 97, 3) := by decide +kernel
theorem dX9_look_13 : decode cX9_look 13 = .ok (.ifCond .ne 5, 3) := by decide +kernel
theorem dX9_look_16 : decode cX9_look 16 = .ok (.iconst 0, 1) := by decide +kernel
theorem dX9_look_17 : decode cX9_look 17 = .ok (.ireturn, 1) := by decide +kernel
theorem dX9_look_18 : decode cX9_look 18 = .ok (.iload_n 1, 1) := by decide +kernel
theorem dX9_look_19 : decode cX9_look 19 = .ok (.iload_n 2, 1) := by decide +kernel
theorem dX9_look_20 : decode cX9_look 20 = .ok (.iload_n 3, 1) := by decide +kernel
theorem dX9_look_21 : decode cX9_look 21 = .ok (.invokestatic 121, 3) := by decide +kernel
theorem dX9_look_24 : decode cX9_look 24 = .ok (.istore 4, 2) := by decide +kernel
theorem dX9_look_26 : decode cX9_look 26 = .ok (.aload_n 0, 1) := by decide +kernel
theorem dX9_look_27 : decode cX9_look 27 = .ok (.getfield 74, 3) := by decide +kernel
theorem dX9_look_30 : decode cX9_look 30 = .ok (.iload 4, 2) := by decide +kernel
theorem dX9_look_32 : decode cX9_look 32 = .ok (.aload_n 0, 1) := by decide +kernel
theorem dX9_look_33 : decode cX9_look 33 = .ok (.getfield 70, 3) := by decide +kernel
theorem dX9_look_36 : decode cX9_look 36 = .ok (.iload 4, 2) := by decide +kernel
theorem dX9_look_38 : decode cX9_look 38 = .ok (.baload, 1) := by decide +kernel
theorem dX9_look_39 : decode cX9_look 39 = .ok (.bastore, 1) := by decide +kernel
theorem dX9_look_40 : decode cX9_look 40 = .ok (.aload_n 0, 1) := by decide +kernel
theorem dX9_look_41 : decode cX9_look 41 = .ok (.getfield 70, 3) := by decide +kernel
theorem dX9_look_44 : decode cX9_look 44 = .ok (.iload 4, 2) := by decide +kernel
theorem dX9_look_46 : decode cX9_look 46 = .ok (.baload, 1) := by decide +kernel
theorem dX9_look_47 : decode cX9_look 47 = .ok (.ireturn, 1) := by decide +kernel
theorem dX9_promptOf_0 : decode cX9_promptOf 0 = .ok (.aload_n 0, 1) := by decide +kernel
theorem dX9_promptOf_1 : decode cX9_promptOf 1 = .ok (.getfield 52, 3) := by decide +kernel
theorem dX9_promptOf_4 : decode cX9_promptOf 4 = .ok (.iload_n 1, 1) := by decide +kernel
theorem dX9_promptOf_5 : decode cX9_promptOf 5 = .ok (.iaload, 1) := by decide +kernel
theorem dX9_promptOf_6 : decode cX9_promptOf 6 = .ok (.bipush 17, 2) := by decide +kernel
theorem dX9_promptOf_8 : decode cX9_promptOf 8 = .ok (.iload_n 2, 1) := by decide +kernel
end
section
theorem dX9_promptOf_9 : decode cX9_promptOf 9 = .ok (.imul, 1) := by decide +kernel
theorem dX9_promptOf_10 : decode cX9_promptOf 10 = .ok (.iadd, 1) := by decide +kernel
theorem dX9_promptOf_11 : decode cX9_promptOf 11 = .ok (.aload_n 0, 1) := by decide +kernel
theorem dX9_promptOf_12 : decode cX9_promptOf 12 = .ok (.getfield 55, 3) := by decide +kernel
theorem dX9_promptOf_15 : decode cX9_promptOf 15 = .ok (.iload_n 1, 1) := by decide +kernel
theorem dX9_promptOf_16 : decode cX9_promptOf 16 = .ok (.iaload, 1) := by decide +kernel
theorem dX9_promptOf_17 : decode cX9_promptOf 17 = .ok (.irem, 1) := by decide +kernel
theorem dX9_promptOf_18 : decode cX9_promptOf 18 = .ok (.ireturn, 1) := by decide +kernel
theorem dX9_amount_0 : decode cX9_amount 0 = .ok (.iload_n 0, 1) := by decide +kernel
theorem dX9_amount_1 : decode cX9_amount 1 = .ok (.ifCond .ge 8, 3) := by decide +kernel
theorem dX9_amount_4 : decode cX9_amount 4 = .ok (.iload_n 0, 1) := by decide +kernel
theorem dX9_amount_5 : decode cX9_amount 5 = .ok (.ineg, 1) := by decide +kernel
theorem dX9_amount_6 : decode cX9_amount 6 = .ok (.goto 4, 3) := by decide +kernel
theorem dX9_amount_9 : decode cX9_amount 9 = .ok (.iload_n 0, 1) := by decide +kernel
theorem dX9_amount_10 : decode cX9_amount 10 = .ok (.ireturn, 1) := by decide +kernel
theorem dX9_above_0 : decode cX9_above 0 = .ok (.fload_n 0, 1) := by decide +kernel
theorem dX9_above_1 : decode cX9_above 1 = .ok (.fconst 0, 1) := by decide +kernel
theorem dX9_above_2 : decode cX9_above 2 = .ok (.fcmp .l, 1) := by decide +kernel
theorem dX9_above_3 : decode cX9_above 3 = .ok (.ifCond .le 7, 3) := by decide +kernel
theorem dX9_above_6 : decode cX9_above 6 = .ok (.fload_n 0, 1) := by decide +kernel
theorem dX9_above_7 : decode cX9_above 7 = .ok (.goto 4, 3) := by decide +kernel
theorem dX9_above_10 : decode cX9_above 10 = .ok (.fconst 0, 1) := by decide +kernel
theorem dX9_above_11 : decode cX9_above 11 = .ok (.freturn, 1) := by decide +kernel
set_option maxRecDepth 20000 in
theorem ggX9_nearness_X9_amount : GoodIn wsX9_nearness wsX9_amount := goodIn_r _ [6] (by decide +kernel) (by decide +kernel)
set_option maxRecDepth 20000 in
theorem gX9_nearness_X9_amount : GoodIn wsX9_nearness (va_wsS RX9 125 yX9_amount wsX9_amount) := goodIn_app (goodIn_of _ (by decide +kernel)) ggX9_nearness_X9_amount
set_option maxRecDepth 20000 in
theorem ggX9_nearness_X9_above : GoodIn wsX9_nearness wsX9_above := goodIn_r _ [9] (by decide +kernel) (by decide +kernel)
set_option maxRecDepth 20000 in
theorem gX9_nearness_X9_above : GoodIn wsX9_nearness (va_wsS RX9 130 yX9_above wsX9_above) := goodIn_app (goodIn_of _ (by decide +kernel)) ggX9_nearness_X9_above
theorem dX9_nearness_0 : decode cX9_nearness 0 = .ok (.iconst 0, 1) := by decide +kernel
theorem dX9_nearness_1 : decode cX9_nearness 1 = .ok (.istore 5, 2) := by decide +kernel
theorem dX9_nearness_3 : decode cX9_nearness 3 = .ok (.iconst 0, 1) := by decide +kernel
theorem dX9_nearness_4 : decode cX9_nearness 4 = .ok (.istore 6, 2) := by decide +kernel
theorem dX9_nearness_6 : decode cX9_nearness 6 = .ok (.iload 6, 2) := by decide +kernel
theorem dX9_nearness_8 : decode cX9_nearness 8 = .ok (.iconst 4, 1) := by decide +kernel
theorem dX9_nearness_9 : decode cX9_nearness 9 = .ok (.if_icmp .ge 30, 3) := by decide +kernel
theorem dX9_nearness_12 : decode cX9_nearness 12 = .ok (.iload 5, 2) := by decide +kernel
theorem dX9_nearness_14 : decode cX9_nearness 14 = .ok (.aload_n 0, 1) := by decide +kernel
theorem dX9_nearness_15 : decode cX9_nearness 15 = .ok (.iload_n 1, 1) := by decide +kernel
theorem dX9_nearness_16 : decode cX9_nearness 16 = .ok (.iload 6, 2) := by decide +kernel
theorem dX9_nearness_18 : decode cX9_nearness 18 = .ok (.iadd, 1) := by decide +kernel
theorem dX9_nearness_19 : decode cX9_nearness 19 = .ok (.iaload, 1) := by decide +kernel
theorem dX9_nearness_20 : decode cX9_nearness 20 = .ok (.aload_n 2, 1) := by decide +kernel
theorem dX9_nearness_21 : decode cX9_nearness 21 = .ok (.iload_n 3, 1) := by decide +kernel
theorem dX9_nearness_22 : decode cX9_nearness 22 = .ok (.iload 6, 2) := by decide +kernel
theorem dX9_nearness_24 : decode cX9_nearness 24 = .ok (.iadd, 1) := by decide +kernel
theorem dX9_nearness_25 : decode cX9_nearness 25 = .ok (.iaload, 1) := by decide +kernel
theorem dX9_nearness_26 : decode cX9_nearness 26 = .ok (.isub, 1) := by decide +kernel
theorem dX9_nearness_27 : decode cX9_nearness 27 = .ok (.invokestatic 125, 3) := by decide +kernel
theorem dX9_nearness_30 : decode cX9_nearness 30 = .ok (.iadd, 1) := by decide +kernel
theorem dX9_nearness_31 : decode cX9_nearness 31 = .ok (.istore 5, 2) := by decide +kernel
theorem dX9_nearness_33 : decode cX9_nearness 33 = .ok (.iinc 6 1, 3) := by decide +kernel
theorem dX9_nearness_36 : decode cX9_nearness 36 = .ok (.goto (-30), 3) := by decide +kernel
theorem dX9_nearness_39 : decode cX9_nearness 39 = .ok (.ldc 129, 2) := by decide +kernel
theorem dX9_nearness_41 : decode cX9_nearness 41 = .ok (.iload 5, 2) := by decide +kernel
theorem dX9_nearness_43 : decode cX9_nearness 43 = .ok (.i2f, 1) := by decide +kernel
theorem dX9_nearness_44 : decode cX9_nearness 44 = .ok (.ldc 129, 2) := by decide +kernel
theorem dX9_nearness_46 : decode cX9_nearness 46 = .ok (.fdiv, 1) := by decide +kernel
theorem dX9_nearness_47 : decode cX9_nearness 47 = .ok (.fsub, 1) := by decide +kernel
theorem dX9_nearness_48 : decode cX9_nearness 48 = .ok (.invokestatic 130, 3) := by decide +kernel
theorem dX9_nearness_51 : decode cX9_nearness 51 = .ok (.fconst 1, 1) := by decide +kernel
theorem dX9_nearness_52 : decode cX9_nearness 52 = .ok (.iload 4, 2) := by decide +kernel
theorem dX9_nearness_54 : decode cX9_nearness 54 = .ok (.i2f, 1) := by decide +kernel
theorem dX9_nearness_55 : decode cX9_nearness 55 = .ok (.ldc 134, 2) := by decide +kernel
theorem dX9_nearness_57 : decode cX9_nearness 57 = .ok (.fdiv, 1) := by decide +kernel
theorem dX9_nearness_58 : decode cX9_nearness 58 = .ok (.fsub, 1) := by decide +kernel
theorem dX9_nearness_59 : decode cX9_nearness 59 = .ok (.fmul, 1) := by decide +kernel
theorem dX9_nearness_60 : decode cX9_nearness 60 = .ok (.freturn, 1) := by decide +kernel
set_option maxRecDepth 20000 in
theorem ggX9_slope_X9_amount : GoodIn wsX9_slope wsX9_amount := goodIn_r _ [5] (by decide +kernel) (by decide +kernel)
set_option maxRecDepth 20000 in
theorem gX9_slope_X9_amount : GoodIn wsX9_slope (va_wsS RX9 125 yX9_amount wsX9_amount) := goodIn_app (goodIn_of _ (by decide +kernel)) ggX9_slope_X9_amount
set_option maxRecDepth 20000 in
theorem ggX9_slope_X9_above : GoodIn wsX9_slope wsX9_above := goodIn_r _ [8] (by decide +kernel) (by decide +kernel)
set_option maxRecDepth 20000 in
theorem gX9_slope_X9_above : GoodIn wsX9_slope (va_wsS RX9 130 yX9_above wsX9_above) := goodIn_app (goodIn_of _ (by decide +kernel)) ggX9_slope_X9_above
theorem dX9_slope_0 : decode cX9_slope 0 = .ok (.aload_n 0, 1) := by decide +kernel
theorem dX9_slope_1 : decode cX9_slope 1 = .ok (.iload_n 1, 1) := by decide +kernel
theorem dX9_slope_2 : decode cX9_slope 2 = .ok (.iconst 2, 1) := by decide +kernel
theorem dX9_slope_3 : decode cX9_slope 3 = .ok (.iadd, 1) := by decide +kernel
theorem dX9_slope_4 : decode cX9_slope 4 = .ok (.iaload, 1) := by decide +kernel
theorem dX9_slope_5 : decode cX9_slope 5 = .ok (.aload_n 0, 1) := by decide +kernel
theorem dX9_slope_6 : decode cX9_slope 6 = .ok (.iload_n 1, 1) := by decide +kernel
theorem dX9_slope_7 : decode cX9_slope 7 = .ok (.iaload, 1) := by decide +kernel
theorem dX9_slope_8 : decode cX9_slope 8 = .ok (.isub, 1) := by decide +kernel
theorem dX9_slope_9 : decode cX9_slope 9 = .ok (.istore 4, 2) := by decide +kernel
theorem dX9_slope_11 : decode cX9_slope 11 = .ok (.aload_n 0, 1) := by decide +kernel
theorem dX9_slope_12 : decode cX9_slope 12 = .ok (.iload_n 1, 1) := by decide +kernel
theorem dX9_slope_13 : decode cX9_slope 13 = .ok (.iconst 3, 1) := by decide +kernel
theorem dX9_slope_14 : decode cX9_slope 14 = .ok (.iadd, 1) := by decide +kernel
theorem dX9_slope_15 : decode cX9_slope 15 = .ok (.iaload, 1) := by decide +kernel
theorem dX9_slope_16 : decode cX9_slope 16 = .ok (.aload_n 0, 1) := by decide +kernel
theorem dX9_slope_17 : decode cX9_slope 17 = .ok (.iload_n 1, 1) := by decide +kernel
theorem dX9_slope_18 : decode cX9_slope 18 = .ok (.iconst 1, 1) := by decide +kernel
theorem dX9_slope_19 : decode cX9_slope 19 = .ok (.iadd, 1) := by decide +kernel
theorem dX9_slope_20 : decode cX9_slope 20 = .ok (.iaload, 1) := by decide +kernel
theorem dX9_slope_21 : decode cX9_slope 21 = .ok (.isub, 1) := by decide +kernel
theorem dX9_slope_22 : decode cX9_slope 22 = .ok (.istore 5, 2) := by decide +kernel
theorem dX9_slope_24 : decode cX9_slope 24 = .ok (.aload_n 2, 1) := by decide +kernel
theorem dX9_slope_25 : decode cX9_slope 25 = .ok (.iload_n 3, 1) := by decide +kernel
theorem dX9_slope_26 : decode cX9_slope 26 = .ok (.iconst 2, 1) := by decide +kernel
theorem dX9_slope_27 : decode cX9_slope 27 = .ok (.iadd, 1) := by decide +kernel
theorem dX9_slope_28 : decode cX9_slope 28 = .ok (.iaload, 1) := by decide +kernel
theorem dX9_slope_29 : decode cX9_slope 29 = .ok (.aload_n 2, 1) := by decide +kernel
theorem dX9_slope_30 : decode cX9_slope 30 = .ok (.iload_n 3, 1) := by decide +kernel
theorem dX9_slope_31 : decode cX9_slope 31 = .ok (.iaload, 1) := by decide +kernel
theorem dX9_slope_32 : decode cX9_slope 32 = .ok (.isub, 1) := by decide +kernel
theorem dX9_slope_33 : decode cX9_slope 33 = .ok (.istore 6, 2) := by decide +kernel
theorem dX9_slope_35 : decode cX9_slope 35 = .ok (.aload_n 2, 1) := by decide +kernel
theorem dX9_slope_36 : decode cX9_slope 36 = .ok (.iload_n 3, 1) := by decide +kernel
theorem dX9_slope_37 : decode cX9_slope 37 = .ok (.iconst 3, 1) := by decide +kernel
theorem dX9_slope_38 : decode cX9_slope 38 = .ok (.iadd, 1) := by decide +kernel
theorem dX9_slope_39 : decode cX9_slope 39 = .ok (.iaload, 1) := by decide +kernel
theorem dX9_slope_40 : decode cX9_slope 40 = .ok (.aload_n 2, 1) := by decide +kernel
theorem dX9_slope_41 : decode cX9_slope 41 = .ok (.iload_n 3, 1) := by decide +kernel
theorem dX9_slope_42 : decode cX9_slope 42 = .ok (.iconst 1, 1) := by decide +kernel
theorem dX9_slope_43 : decode cX9_slope 43 = .ok (.iadd, 1) := by decide +kernel
theorem dX9_slope_44 : decode cX9_slope 44 = .ok (.iaload, 1) := by decide +kernel
theorem dX9_slope_45 : decode cX9_slope 45 = .ok (.isub, 1) := by decide +kernel
theorem dX9_slope_46 : decode cX9_slope 46 = .ok (.istore 7, 2) := by decide +kernel
theorem dX9_slope_48 : decode cX9_slope 48 = .ok (.iload 4, 2) := by decide +kernel
theorem dX9_slope_50 : decode cX9_slope 50 = .ok (.iload 6, 2) := by decide +kernel
theorem dX9_slope_52 : decode cX9_slope 52 = .ok (.imul, 1) := by decide +kernel
theorem dX9_slope_53 : decode cX9_slope 53 = .ok (.iload 5, 2) := by decide +kernel
theorem dX9_slope_55 : decode cX9_slope 55 = .ok (.iload 7, 2) := by decide +kernel
theorem dX9_slope_57 : decode cX9_slope 57 = .ok (.imul, 1) := by decide +kernel
theorem dX9_slope_58 : decode cX9_slope 58 = .ok (.iadd, 1) := by decide +kernel
theorem dX9_slope_59 : decode cX9_slope 59 = .ok (.istore 8, 2) := by decide +kernel
theorem dX9_slope_61 : decode cX9_slope 61 = .ok (.iload 8, 2) := by decide +kernel
theorem dX9_slope_63 : decode cX9_slope 63 = .ok (.i2f, 1) := by decide +kernel
theorem dX9_slope_64 : decode cX9_slope 64 = .ok (.iload 8, 2) := by decide +kernel
theorem dX9_slope_66 : decode cX9_slope 66 = .ok (.invokestatic 125, 3) := by decide +kernel
theorem dX9_slope_69 : decode cX9_slope 69 = .ok (.i2f, 1) := by decide +kernel
theorem dX9_slope_70 : decode cX9_slope 70 = .ok (.fmul, 1) := by decide +kernel
theorem dX9_slope_71 : decode cX9_slope 71 = .ok (.iload 4, 2) := by decide +kernel
theorem dX9_slope_73 : decode cX9_slope 73 = .ok (.iload 4, 2) := by decide +kernel
theorem dX9_slope_75 : decode cX9_slope 75 = .ok (.imul, 1) := by decide +kernel
theorem dX9_slope_76 : decode cX9_slope 76 = .ok (.iload 5, 2) := by decide +kernel
theorem dX9_slope_78 : decode cX9_slope 78 = .ok (.iload 5, 2) := by decide +kernel
theorem dX9_slope_80 : decode cX9_slope 80 = .ok (.imul, 1) := by decide +kernel
theorem dX9_slope_81 : decode cX9_slope 81 = .ok (.iadd, 1) := by decide +kernel
theorem dX9_slope_82 : decode cX9_slope 82 = .ok (.i2f, 1) := by decide +kernel
theorem dX9_slope_83 : decode cX9_slope 83 = .ok (.fdiv, 1) := by decide +kernel
theorem dX9_slope_84 : decode cX9_slope 84 = .ok (.iload 6, 2) := by decide +kernel
theorem dX9_slope_86 : decode cX9_slope 86 = .ok (.iload 6, 2) := by decide +kernel
theorem dX9_slope_88 : decode cX9_slope 88 = .ok (.imul, 1) := by decide +kernel
theorem dX9_slope_89 : decode cX9_slope 89 = .ok (.iload 7, 2) := by decide +kernel
theorem dX9_slope_91 : decode cX9_slope 91 = .ok (.iload 7, 2) := by decide +kernel
theorem dX9_slope_93 : decode cX9_slope 93 = .ok (.imul, 1) := by decide +kernel
theorem dX9_slope_94 : decode cX9_slope 94 = .ok (.iadd, 1) := by decide +kernel
theorem dX9_slope_95 : decode cX9_slope 95 = .ok (.i2f, 1) := by decide +kernel
theorem dX9_slope_96 : decode cX9_slope 96 = .ok (.fdiv, 1) := by decide +kernel
theorem dX9_slope_97 : decode cX9_slope 97 = .ok (.ldc 129, 2) := by decide +kernel
theorem dX9_slope_99 : decode cX9_slope 99 = .ok (.fmul, 1) := by decide +kernel
theorem dX9_slope_100 : decode cX9_slope 100 = .ok (.invokestatic 130, 3) := by decide +kernel
theorem dX9_slope_103 : decode cX9_slope 103 = .ok (.freturn, 1) := by decide +kernel
theorem dX9_order_0 : decode cX9_order 0 = .ok (.iload_n 0, 1) := by decide +kernel
theorem dX9_order_1 : decode cX9_order 1 = .ok (.iload_n 1, 1) := by decide +kernel
theorem dX9_order_2 : decode cX9_order 2 = .ok (.if_icmp .ne 8, 3) := by decide +kernel
theorem dX9_order_5 : decode cX9_order 5 = .ok (.ldc 129, 2) := by decide +kernel
theorem dX9_order_7 : decode cX9_order 7 = .ok (.goto 4, 3) := by decide +kernel
theorem dX9_order_10 : decode cX9_order 10 = .ok (.fconst 0, 1) := by decide +kernel
theorem dX9_order_11 : decode cX9_order 11 = .ok (.freturn, 1) := by decide +kernel
set_option maxRecDepth 20000 in
theorem ggX9_markOf_X9_nearness : GoodIn wsX9_markOf wsX9_nearness := goodIn_r _ [8, 9, 10, 11, 12, 7, 13, 14, 15, 16] (by decide +kernel) (by decide +kernel)
set_option maxRecDepth 20000 in
theorem gX9_markOf_X9_nearness : GoodIn wsX9_markOf (va_wsS RX9 135 yX9_nearness wsX9_nearness) := goodIn_app (goodIn_of _ (by decide +kernel)) ggX9_markOf_X9_nearness
set_option maxRecDepth 20000 in
theorem ggX9_markOf_X9_slope : GoodIn wsX9_markOf wsX9_slope := goodIn_r _ [19, 9, 11, 12, 7, 13, 14, 15, 16] (by decide +kernel) (by decide +kernel)
set_option maxRecDepth 20000 in
theorem gX9_markOf_X9_slope : GoodIn wsX9_markOf (va_wsS RX9 139 yX9_slope wsX9_slope) := goodIn_app (goodIn_of _ (by decide +kernel)) ggX9_markOf_X9_slope
set_option maxRecDepth 20000 in
theorem ggX9_markOf_X9_order : GoodIn wsX9_markOf wsX9_order := goodIn_r _ [22, 9] (by decide +kernel) (by decide +kernel)
set_option maxRecDepth 20000 in
theorem gX9_markOf_X9_order : GoodIn wsX9_markOf (va_wsS RX9 143 yX9_order wsX9_order) := goodIn_app (goodIn_of _ (by decide +kernel)) ggX9_markOf_X9_order
theorem dX9_markOf_0 : decode cX9_markOf 0 = .ok (.aload_n 0, 1) := by decide +kernel
theorem dX9_markOf_1 : decode cX9_markOf 1 = .ok (.getfield 13, 3) := by decide +kernel
theorem dX9_markOf_4 : decode cX9_markOf 4 = .ok (.iload 4, 2) := by decide +kernel
theorem dX9_markOf_6 : decode cX9_markOf 6 = .ok (.iaload, 1) := by decide +kernel
theorem dX9_markOf_7 : decode cX9_markOf 7 = .ok (.istore 7, 2) := by decide +kernel
theorem dX9_markOf_9 : decode cX9_markOf 9 = .ok (.fconst 0, 1) := by decide +kernel
theorem dX9_markOf_10 : decode cX9_markOf 10 = .ok (.fstore 8, 2) := by decide +kernel
theorem dX9_markOf_12 : decode cX9_markOf 12 = .ok (.iconst 0, 1) := by decide +kernel
theorem dX9_markOf_13 : decode cX9_markOf 13 = .ok (.istore 9, 2) := by decide +kernel
theorem dX9_markOf_15 : decode cX9_markOf 15 = .ok (.iload 9, 2) := by decide +kernel
theorem dX9_markOf_17 : decode cX9_markOf 17 = .ok (.iload_n 3, 1) := by decide +kernel
theorem dX9_markOf_18 : decode cX9_markOf 18 = .ok (.if_icmp .ge 133, 3) := by decide +kernel
theorem dX9_markOf_21 : decode cX9_markOf 21 = .ok (.iload 9, 2) := by decide +kernel
theorem dX9_markOf_23 : decode cX9_markOf 23 = .ok (.iload 7, 2) := by decide +kernel
theorem dX9_markOf_25 : decode cX9_markOf 25 = .ok (.if_icmp .ge 126, 3) := by decide +kernel
theorem dX9_markOf_28 : decode cX9_markOf 28 = .ok (.bipush 24, 2) := by decide +kernel
theorem dX9_markOf_30 : decode cX9_markOf 30 = .ok (.iload 4, 2) := by decide +kernel
theorem dX9_markOf_32 : decode cX9_markOf 32 = .ok (.imul, 1) := by decide +kernel
theorem dX9_markOf_33 : decode cX9_markOf 33 = .ok (.iconst 4, 1) := by decide +kernel
theorem dX9_markOf_34 : decode cX9_markOf 34 = .ok (.iload 9, 2) := by decide +kernel
theorem dX9_markOf_36 : decode cX9_markOf 36 = .ok (.imul, 1) := by decide +kernel
theorem dX9_markOf_37 : decode cX9_markOf 37 = .ok (.iadd, 1) := by decide +kernel
theorem dX9_markOf_38 : decode cX9_markOf 38 = .ok (.istore 10, 2) := by decide +kernel
theorem dX9_markOf_40 : decode cX9_markOf 40 = .ok (.fconst 0, 1) := by decide +kernel
theorem dX9_markOf_41 : decode cX9_markOf 41 = .ok (.fstore 11, 2) := by decide +kernel
theorem dX9_markOf_43 : decode cX9_markOf 43 = .ok (.fload 11, 2) := by decide +kernel
theorem dX9_markOf_45 : decode cX9_markOf 45 = .ok (.aload_n 0, 1) := by decide +kernel
theorem dX9_markOf_46 : decode cX9_markOf 46 = .ok (.getfield 28, 3) := by decide +kernel
theorem dX9_markOf_49 : decode cX9_markOf 49 = .ok (.iconst 3, 1) := by decide +kernel
theorem dX9_markOf_50 : decode cX9_markOf 50 = .ok (.iload 5, 2) := by decide +kernel
theorem dX9_markOf_52 : decode cX9_markOf 52 = .ok (.imul, 1) := by decide +kernel
theorem dX9_markOf_53 : decode cX9_markOf 53 = .ok (.iaload, 1) := by decide +kernel
theorem dX9_markOf_54 : decode cX9_markOf 54 = .ok (.i2f, 1) := by decide +kernel
theorem dX9_markOf_55 : decode cX9_markOf 55 = .ok (.aload_n 1, 1) := by decide +kernel
theorem dX9_markOf_56 : decode cX9_markOf 56 = .ok (.iload_n 2, 1) := by decide +kernel
theorem dX9_markOf_57 : decode cX9_markOf 57 = .ok (.iconst 4, 1) := by decide +kernel
theorem dX9_markOf_58 : decode cX9_markOf 58 = .ok (.iload 9, 2) := by decide +kernel
theorem dX9_markOf_60 : decode cX9_markOf 60 = .ok (.imul, 1) := by decide +kernel
theorem dX9_markOf_61 : decode cX9_markOf 61 = .ok (.iadd, 1) := by decide +kernel
theorem dX9_markOf_62 : decode cX9_markOf 62 = .ok (.aload_n 0, 1) := by decide +kernel
theorem dX9_markOf_63 : decode cX9_markOf 63 = .ok (.getfield 16, 3) := by decide +kernel
theorem dX9_markOf_66 : decode cX9_markOf 66 = .ok (.iload 10, 2) := by decide +kernel
theorem dX9_markOf_68 : decode cX9_markOf 68 = .ok (.iload 6, 2) := by decide +kernel
theorem dX9_markOf_70 : decode cX9_markOf 70 = .ok (.invokestatic 135, 3) := by decide +kernel
theorem dX9_markOf_73 : decode cX9_markOf 73 = .ok (.fmul, 1) := by decide +kernel
theorem dX9_markOf_74 : decode cX9_markOf 74 = .ok (.fadd, 1) := by decide +kernel
theorem dX9_markOf_75 : decode cX9_markOf 75 = .ok (.fstore 11, 2) := by decide +kernel
theorem dX9_markOf_77 : decode cX9_markOf 77 = .ok (.fload 11, 2) := by decide +kernel
theorem dX9_markOf_79 : decode cX9_markOf 79 = .ok (.aload_n 0, 1) := by decide +kernel
theorem dX9_markOf_80 : decode cX9_markOf 80 = .ok (.getfield 28, 3) := by decide +kernel
theorem dX9_markOf_83 : decode cX9_markOf 83 = .ok (.iconst 3, 1) := by decide +kernel
theorem dX9_markOf_84 : decode cX9_markOf 84 = .ok (.iload 5, 2) := by decide +kernel
theorem dX9_markOf_86 : decode cX9_markOf 86 = .ok (.imul, 1) := by decide +kernel
theorem dX9_markOf_87 : decode cX9_markOf 87 = .ok (.iconst 1, 1) := by decide +kernel
theorem dX9_markOf_88 : decode cX9_markOf 88 = .ok (.iadd, 1) := by decide +kernel
theorem dX9_markOf_89 : decode cX9_markOf 89 = .ok (.iaload, 1) := by decide +kernel
theorem dX9_markOf_90 : decode cX9_markOf 90 = .ok (.i2f, 1) := by decide +kernel
theorem dX9_markOf_91 : decode cX9_markOf 91 = .ok (.aload_n 1, 1) := by decide +kernel
theorem dX9_markOf_92 : decode cX9_markOf 92 = .ok (.iload_n 2, 1) := by decide +kernel
theorem dX9_markOf_93 : decode cX9_markOf 93 = .ok (.iconst 4, 1) := by decide +kernel
theorem dX9_markOf_94 : decode cX9_markOf 94 = .ok (.iload 9, 2) := by decide +kernel
theorem dX9_markOf_96 : decode cX9_markOf 96 = .ok (.imul, 1) := by decide +kernel
theorem dX9_markOf_97 : decode cX9_markOf 97 = .ok (.iadd, 1) := by decide +kernel
theorem dX9_markOf_98 : decode cX9_markOf 98 = .ok (.aload_n 0, 1) := by decide +kernel
theorem dX9_markOf_99 : decode cX9_markOf 99 = .ok (.getfield 16, 3) := by decide +kernel
theorem dX9_markOf_102 : decode cX9_markOf 102 = .ok (.iload 10, 2) := by decide +kernel
theorem dX9_markOf_104 : decode cX9_markOf 104 = .ok (.invokestatic 139, 3) := by decide +kernel
theorem dX9_markOf_107 : decode cX9_markOf 107 = .ok (.fmul, 1) := by decide +kernel
theorem dX9_markOf_108 : decode cX9_markOf 108 = .ok (.fadd, 1) := by decide +kernel
theorem dX9_markOf_109 : decode cX9_markOf 109 = .ok (.fstore 11, 2) := by decide +kernel
theorem dX9_markOf_111 : decode cX9_markOf 111 = .ok (.fload 11, 2) := by decide +kernel
theorem dX9_markOf_113 : decode cX9_markOf 113 = .ok (.aload_n 0, 1) := by decide +kernel
theorem dX9_markOf_114 : decode cX9_markOf 114 = .ok (.getfield 28, 3) := by decide +kernel
theorem dX9_markOf_117 : decode cX9_markOf 117 = .ok (.iconst 3, 1) := by decide +kernel
theorem dX9_markOf_118 : decode cX9_markOf 118 = .ok (.iload 5, 2) := by decide +kernel
theorem dX9_markOf_120 : decode cX9_markOf 120 = .ok (.imul, 1) := by decide +kernel
theorem dX9_markOf_121 : decode cX9_markOf 121 = .ok (.iconst 2, 1) := by decide +kernel
theorem dX9_markOf_122 : decode cX9_markOf 122 = .ok (.iadd, 1) := by decide +kernel
theorem dX9_markOf_123 : decode cX9_markOf 123 = .ok (.iaload, 1) := by decide +kernel
theorem dX9_markOf_124 : decode cX9_markOf 124 = .ok (.i2f, 1) := by decide +kernel
theorem dX9_markOf_125 : decode cX9_markOf 125 = .ok (.iload_n 3, 1) := by decide +kernel
theorem dX9_markOf_126 : decode cX9_markOf 126 = .ok (.iload 7, 2) := by decide +kernel
theorem dX9_markOf_128 : decode cX9_markOf 128 = .ok (.invokestatic 143, 3) := by decide +kernel
theorem dX9_markOf_131 : decode cX9_markOf 131 = .ok (.fmul, 1) := by decide +kernel
theorem dX9_markOf_132 : decode cX9_markOf 132 = .ok (.fadd, 1) := by decide +kernel
theorem dX9_markOf_133 : decode cX9_markOf 133 = .ok (.fstore 11, 2) := by decide +kernel
theorem dX9_markOf_135 : decode cX9_markOf 135 = .ok (.fload 8, 2) := by decide +kernel
theorem dX9_markOf_137 : decode cX9_markOf 137 = .ok (.fload 11, 2) := by decide +kernel
theorem dX9_markOf_139 : decode cX9_markOf 139 = .ok (.ldc 147, 2) := by decide +kernel
theorem dX9_markOf_141 : decode cX9_markOf 141 = .ok (.fdiv, 1) := by decide +kernel
theorem dX9_markOf_142 : decode cX9_markOf 142 = .ok (.fadd, 1) := by decide +kernel
theorem dX9_markOf_143 : decode cX9_markOf 143 = .ok (.fstore 8, 2) := by decide +kernel
theorem dX9_markOf_145 : decode cX9_markOf 145 = .ok (.iinc 9 1, 3) := by decide +kernel
theorem dX9_markOf_148 : decode cX9_markOf 148 = .ok (.goto (-133), 3) := by decide +kernel
theorem dX9_markOf_151 : decode cX9_markOf 151 = .ok (.fload 8, 2) := by decide +kernel
theorem dX9_markOf_153 : decode cX9_markOf 153 = .ok (.iload 7, 2) := by decide +kernel
theorem dX9_markOf_155 : decode cX9_markOf 155 = .ok (.i2f, 1) := by decide +kernel
theorem dX9_markOf_156 : decode cX9_markOf 156 = .ok (.fdiv, 1) := by decide +kernel
theorem dX9_markOf_157 : decode cX9_markOf 157 = .ok (.freturn, 1) := by decide +kernel
set_option maxRecDepth 20000 in
theorem ggX9_byJudge_X9_promptOf : GoodIn wsX9_byJudge wsX9_promptOf := goodIn_r _ [10, 11, 12, 38, 39, 40, 41, 42, 43, 44, 45, 46, 47, 48, 49, 50, 51, 52, 53, 54, 55, 56, 57, 58, 59, 60, 61, 62, 63, 64, 65, 66] (by decide +kernel) (by decide +kernel)
set_option maxRecDepth 20000 in
theorem gX9_byJudge_X9_promptOf : GoodIn wsX9_byJudge (wsV RX9 148 RX9 yX9_promptOf wsX9_promptOf) := goodIn_app (goodIn_of _ (by decide +kernel)) ggX9_byJudge_X9_promptOf
set_option maxRecDepth 20000 in
theorem ggX9_byJudge_X9_markOf : GoodIn wsX9_byJudge wsX9_markOf := goodIn_r _ [16, 17, 18, 19, 20, 21, 22, 9, 23, 24, 25, 26, 27, 28, 29, 30, 31, 32, 33, 34, 35, 36, 37, 38, 39, 40, 41, 42, 43, 44, 45, 46, 47, 48, 49, 50, 51, 52, 53, 54, 55, 56, 57, 58, 59, 60, 61, 62, 63, 64, 65, 66] (by decide +kernel) (by decide +kernel)
set_option maxRecDepth 20000 in
theorem gX9_byJudge_X9_markOf : GoodIn wsX9_byJudge (wsV RX9 152 RX9 yX9_markOf wsX9_markOf) := goodIn_app (goodIn_of _ (by decide +kernel)) ggX9_byJudge_X9_markOf
theorem dX9_byJudge_0 : decode cX9_byJudge 0 = .ok (.aload_n 0, 1) := by decide +kernel
theorem dX9_byJudge_1 : decode cX9_byJudge 1 = .ok (.iload_n 1, 1) := by decide +kernel
theorem dX9_byJudge_2 : decode cX9_byJudge 2 = .ok (.iload_n 2, 1) := by decide +kernel
theorem dX9_byJudge_3 : decode cX9_byJudge 3 = .ok (.bipush 10, 2) := by decide +kernel
theorem dX9_byJudge_5 : decode cX9_byJudge 5 = .ok (.irem, 1) := by decide +kernel
theorem dX9_byJudge_6 : decode cX9_byJudge 6 = .ok (.iconst 2, 1) := by decide +kernel
theorem dX9_byJudge_7 : decode cX9_byJudge 7 = .ok (.idiv, 1) := by decide +kernel
theorem dX9_byJudge_8 : decode cX9_byJudge 8 = .ok (.invokevirtual 148, 3) := by decide +kernel
theorem dX9_byJudge_11 : decode cX9_byJudge 11 = .ok (.istore 4, 2) := by decide +kernel
theorem dX9_byJudge_13 : decode cX9_byJudge 13 = .ok (.fconst 0, 1) := by decide +kernel
theorem dX9_byJudge_14 : decode cX9_byJudge 14 = .ok (.fstore 5, 2) := by decide +kernel
theorem dX9_byJudge_16 : decode cX9_byJudge 16 = .ok (.iconst 0, 1) := by decide +kernel
theorem dX9_byJudge_17 : decode cX9_byJudge 17 = .ok (.istore 6, 2) := by decide +kernel
theorem dX9_byJudge_19 : decode cX9_byJudge 19 = .ok (.iload 6, 2) := by decide +kernel
theorem dX9_byJudge_21 : decode cX9_byJudge 21 = .ok (.iconst 4, 1) := by decide +kernel
theorem dX9_byJudge_22 : decode cX9_byJudge 22 = .ok (.if_icmp .ge 86, 3) := by decide +kernel
theorem dX9_byJudge_25 : decode cX9_byJudge 25 = .ok (.aload_n 0, 1) := by decide +kernel
theorem dX9_byJudge_26 : decode cX9_byJudge 26 = .ok (.getfield 31, 3) := by decide +kernel
theorem dX9_byJudge_29 : decode cX9_byJudge 29 = .ok (.iconst 4, 1) := by decide +kernel
theorem dX9_byJudge_30 : decode cX9_byJudge 30 = .ok (.iload_n 3, 1) := by decide +kernel
theorem dX9_byJudge_31 : decode cX9_byJudge 31 = .ok (.imul, 1) := by decide +kernel
theorem dX9_byJudge_32 : decode cX9_byJudge 32 = .ok (.iload 6, 2) := by decide +kernel
theorem dX9_byJudge_34 : decode cX9_byJudge 34 = .ok (.iadd, 1) := by decide +kernel
theorem dX9_byJudge_35 : decode cX9_byJudge 35 = .ok (.iaload, 1) := by decide +kernel
theorem dX9_byJudge_36 : decode cX9_byJudge 36 = .ok (.istore 7, 2) := by decide +kernel
theorem dX9_byJudge_38 : decode cX9_byJudge 38 = .ok (.iload 7, 2) := by decide +kernel
theorem dX9_byJudge_40 : decode cX9_byJudge 40 = .ok (.iconst (-1), 1) := by decide +kernel
theorem dX9_byJudge_41 : decode cX9_byJudge 41 = .ok (.if_icmp .eq 61, 3) := by decide +kernel
theorem dX9_byJudge_44 : decode cX9_byJudge 44 = .ok (.iload 7, 2) := by decide +kernel
theorem dX9_byJudge_46 : decode cX9_byJudge 46 = .ok (.aload_n 0, 1) := by decide +kernel
theorem dX9_byJudge_47 : decode cX9_byJudge 47 = .ok (.getfield 58, 3) := by decide +kernel
theorem dX9_byJudge_50 : decode cX9_byJudge 50 = .ok (.iload_n 1, 1) := by decide +kernel
theorem dX9_byJudge_51 : decode cX9_byJudge 51 = .ok (.iaload, 1) := by decide +kernel
theorem dX9_byJudge_52 : decode cX9_byJudge 52 = .ok (.if_icmp .gt 50, 3) := by decide +kernel
theorem dX9_byJudge_55 : decode cX9_byJudge 55 = .ok (.aload_n 0, 1) := by decide +kernel
theorem dX9_byJudge_56 : decode cX9_byJudge 56 = .ok (.aload_n 0, 1) := by decide +kernel
theorem dX9_byJudge_57 : decode cX9_byJudge 57 = .ok (.getfield 77, 3) := by decide +kernel
theorem dX9_byJudge_60 : decode cX9_byJudge 60 = .ok (.bipush 32, 2) := by decide +kernel
theorem dX9_byJudge_62 : decode cX9_byJudge 62 = .ok (.iload_n 2, 1) := by decide +kernel
theorem dX9_byJudge_63 : decode cX9_byJudge 63 = .ok (.imul, 1) := by decide +kernel
theorem dX9_byJudge_64 : decode cX9_byJudge 64 = .ok (.aload_n 0, 1) := by decide +kernel
theorem dX9_byJudge_65 : decode cX9_byJudge 65 = .ok (.getfield 64, 3) := by decide +kernel
theorem dX9_byJudge_68 : decode cX9_byJudge 68 = .ok (.iload_n 2, 1) := by decide +kernel
theorem dX9_byJudge_69 : decode cX9_byJudge 69 = .ok (.iaload, 1) := by decide +kernel
theorem dX9_byJudge_70 : decode cX9_byJudge 70 = .ok (.iload 4, 2) := by decide +kernel
theorem dX9_byJudge_72 : decode cX9_byJudge 72 = .ok (.iload 6, 2) := by decide +kernel
theorem dX9_byJudge_74 : decode cX9_byJudge 74 = .ok (.aload_n 0, 1) := by decide +kernel
theorem dX9_byJudge_75 : decode cX9_byJudge 75 = .ok (.getfield 67, 3) := by decide +kernel
theorem dX9_byJudge_78 : decode cX9_byJudge 78 = .ok (.iload_n 2, 1) := by decide +kernel
theorem dX9_byJudge_79 : decode cX9_byJudge 79 = .ok (.iaload, 1) := by decide +kernel
theorem dX9_byJudge_80 : decode cX9_byJudge 80 = .ok (.invokevirtual 152, 3) := by decide +kernel
theorem dX9_byJudge_83 : decode cX9_byJudge 83 = .ok (.fstore 8, 2) := by decide +kernel
theorem dX9_byJudge_85 : decode cX9_byJudge 85 = .ok (.fload 8, 2) := by decide +kernel
theorem dX9_byJudge_87 : decode cX9_byJudge 87 = .ok (.fload 5, 2) := by decide +kernel
theorem dX9_byJudge_89 : decode cX9_byJudge 89 = .ok (.fcmp .l, 1) := by decide +kernel
theorem dX9_byJudge_90 : decode cX9_byJudge 90 = .ok (.ifCond .le 8, 3) := by decide +kernel
theorem dX9_byJudge_93 : decode cX9_byJudge 93 = .ok (.fload 8, 2) := by decide +kernel
theorem dX9_byJudge_95 : decode cX9_byJudge 95 = .ok (.goto 5, 3) := by decide +kernel
theorem dX9_byJudge_98 : decode cX9_byJudge 98 = .ok (.fload 5, 2) := by decide +kernel
theorem dX9_byJudge_100 : decode cX9_byJudge 100 = .ok (.fstore 5, 2) := by decide +kernel
theorem dX9_byJudge_102 : decode cX9_byJudge 102 = .ok (.iinc 6 1, 3) := by decide +kernel
theorem dX9_byJudge_105 : decode cX9_byJudge 105 = .ok (.goto (-86), 3) := by decide +kernel
theorem dX9_byJudge_108 : decode cX9_byJudge 108 = .ok (.fload 5, 2) := by decide +kernel
theorem dX9_byJudge_110 : decode cX9_byJudge 110 = .ok (.freturn, 1) := by decide +kernel
set_option maxRecDepth 20000 in
theorem ggX9_byAll_X9_byJudge : GoodIn wsX9_byAll wsX9_byJudge := goodIn_r _ [7, 8, 9, 10, 11, 12, 13, 14, 15, 6, 16, 17, 18, 19, 20, 21, 22, 23, 24, 25, 26, 27, 28, 29, 30, 31, 32, 33, 34, 35, 36, 37, 38, 39, 40, 41, 42, 43, 44, 45, 46, 47, 48, 49, 50, 51, 52, 53, 54, 55, 56, 57, 58, 59, 60, 61, 62, 63, 64, 65, 66, 67, 68, 69, 70, 71, 72] (by decide +kernel) (by decide +kernel)
set_option maxRecDepth 20000 in
theorem gX9_byAll_X9_byJudge : GoodIn wsX9_byAll (wsV RX9 156 RX9 yX9_byJudge wsX9_byJudge) := goodIn_app (goodIn_of _ (by decide +kernel)) ggX9_byAll_X9_byJudge
theorem dX9_byAll_0 : decode cX9_byAll 0 = .ok (.aload_n 0, 1) := by decide +kernel
theorem dX9_byAll_1 : decode cX9_byAll 1 = .ok (.iload_n 1, 1) := by decide +kernel
theorem dX9_byAll_2 : decode cX9_byAll 2 = .ok (.iload_n 2, 1) := by decide +kernel
theorem dX9_byAll_3 : decode cX9_byAll 3 = .ok (.aload_n 0, 1) := by decide +kernel
theorem dX9_byAll_4 : decode cX9_byAll 4 = .ok (.getfield 40, 3) := by decide +kernel
theorem dX9_byAll_7 : decode cX9_byAll 7 = .ok (.iload_n 1, 1) := by decide +kernel
theorem dX9_byAll_8 : decode cX9_byAll 8 = .ok (.iaload, 1) := by decide +kernel
theorem dX9_byAll_9 : decode cX9_byAll 9 = .ok (.invokevirtual 156, 3) := by decide +kernel
theorem dX9_byAll_12 : decode cX9_byAll 12 = .ok (.fstore_n 3, 1) := by decide +kernel
theorem dX9_byAll_13 : decode cX9_byAll 13 = .ok (.aload_n 0, 1) := by decide +kernel
theorem dX9_byAll_14 : decode cX9_byAll 14 = .ok (.getfield 43, 3) := by decide +kernel
theorem dX9_byAll_17 : decode cX9_byAll 17 = .ok (.iload_n 1, 1) := by decide +kernel
theorem dX9_byAll_18 : decode cX9_byAll 18 = .ok (.iaload, 1) := by decide +kernel
theorem dX9_byAll_19 : decode cX9_byAll 19 = .ok (.iconst (-1), 1) := by decide +kernel
theorem dX9_byAll_20 : decode cX9_byAll 20 = .ok (.if_icmp .ne 7, 3) := by decide +kernel
theorem dX9_byAll_23 : decode cX9_byAll 23 = .ok (.fload_n 3, 1) := by decide +kernel
theorem dX9_byAll_24 : decode cX9_byAll 24 = .ok (.goto 19, 3) := by decide +kernel
theorem dX9_byAll_27 : decode cX9_byAll 27 = .ok (.fload_n 3, 1) := by decide +kernel
theorem dX9_byAll_28 : decode cX9_byAll 28 = .ok (.aload_n 0, 1) := by decide +kernel
theorem dX9_byAll_29 : decode cX9_byAll 29 = .ok (.iload_n 1, 1) := by decide +kernel
theorem dX9_byAll_30 : decode cX9_byAll 30 = .ok (.iload_n 2, 1) := by decide +kernel
theorem dX9_byAll_31 : decode cX9_byAll 31 = .ok (.aload_n 0, 1) := by decide +kernel
theorem dX9_byAll_32 : decode cX9_byAll 32 = .ok (.getfield 43, 3) := by decide +kernel
theorem dX9_byAll_35 : decode cX9_byAll 35 = .ok (.iload_n 1, 1) := by decide +kernel
theorem dX9_byAll_36 : decode cX9_byAll 36 = .ok (.iaload, 1) := by decide +kernel
theorem dX9_byAll_37 : decode cX9_byAll 37 = .ok (.invokevirtual 156, 3) := by decide +kernel
theorem dX9_byAll_40 : decode cX9_byAll 40 = .ok (.fadd, 1) := by decide +kernel
theorem dX9_byAll_41 : decode cX9_byAll 41 = .ok (.fconst 2, 1) := by decide +kernel
theorem dX9_byAll_42 : decode cX9_byAll 42 = .ok (.fdiv, 1) := by decide +kernel
theorem dX9_byAll_43 : decode cX9_byAll 43 = .ok (.freturn, 1) := by decide +kernel
set_option maxRecDepth 20000 in
theorem ggX9_roundTo_X9_byAll : GoodIn wsX9_roundTo wsX9_byAll := goodIn_r _ [7, 8, 9, 10, 11, 12, 6, 13, 14, 15, 16, 17, 18, 19, 20, 21, 22, 23, 24, 25, 26, 27, 28, 29, 30, 31, 32, 33, 34, 35, 36, 37, 38, 39, 40, 41, 42, 43, 44, 45, 46, 47, 48, 49, 50, 51, 52, 53, 54, 55, 56, 57, 58, 59, 60, 61, 62, 63, 64, 65, 66, 67, 68, 69, 70, 71, 72, 73, 74, 75, 76, 77, 78] (by decide +kernel) (by decide +kernel)
set_option maxRecDepth 20000 in
theorem gX9_roundTo_X9_byAll : GoodIn wsX9_roundTo (wsV RX9 160 RX9 yX9_byAll wsX9_byAll) := goodIn_app (goodIn_of _ (by decide +kernel)) ggX9_roundTo_X9_byAll
theorem dX9_roundTo_0 : decode cX9_roundTo 0 = .ok (.bipush 10, 2) := by decide +kernel
theorem dX9_roundTo_2 : decode cX9_roundTo 2 = .ok (.iload_n 1, 1) := by decide +kernel
theorem dX9_roundTo_3 : decode cX9_roundTo 3 = .ok (.imul, 1) := by decide +kernel
theorem dX9_roundTo_4 : decode cX9_roundTo 4 = .ok (.iconst 2, 1) := by decide +kernel
theorem dX9_roundTo_5 : decode cX9_roundTo 5 = .ok (.iload_n 2, 1) := by decide +kernel
theorem dX9_roundTo_6 : decode cX9_roundTo 6 = .ok (.imul, 1) := by decide +kernel
theorem dX9_roundTo_7 : decode cX9_roundTo 7 = .ok (.iadd, 1) := by decide +kernel
theorem dX9_roundTo_8 : decode cX9_roundTo 8 = .ok (.istore_n 3, 1) := by decide +kernel
theorem dX9_roundTo_9 : decode cX9_roundTo 9 = .ok (.iconst 2, 1) := by decide +kernel
theorem dX9_roundTo_10 : decode cX9_roundTo 10 = .ok (.iload_n 2, 1) := by decide +kernel
theorem dX9_roundTo_11 : decode cX9_roundTo 11 = .ok (.imul, 1) := by decide +kernel
theorem dX9_roundTo_12 : decode cX9_roundTo 12 = .ok (.iconst 1, 1) := by decide +kernel
theorem dX9_roundTo_13 : decode cX9_roundTo 13 = .ok (.iadd, 1) := by decide +kernel
theorem dX9_roundTo_14 : decode cX9_roundTo 14 = .ok (.aload_n 0, 1) := by decide +kernel
theorem dX9_roundTo_15 : decode cX9_roundTo 15 = .ok (.getfield 61, 3) := by decide +kernel
theorem dX9_roundTo_18 : decode cX9_roundTo 18 = .ok (.iload_n 1, 1) := by decide +kernel
theorem dX9_roundTo_19 : decode cX9_roundTo 19 = .ok (.iaload, 1) := by decide +kernel
theorem dX9_roundTo_20 : decode cX9_roundTo 20 = .ok (.if_icmp .lt 5, 3) := by decide +kernel
theorem dX9_roundTo_23 : decode cX9_roundTo 23 = .ok (.iconst 0, 1) := by decide +kernel
theorem dX9_roundTo_24 : decode cX9_roundTo 24 = .ok (.ireturn, 1) := by decide +kernel
theorem dX9_roundTo_25 : decode cX9_roundTo 25 = .ok (.aload_n 0, 1) := by decide +kernel
theorem dX9_roundTo_26 : decode cX9_roundTo 26 = .ok (.getfield 74, 3) := by decide +kernel
theorem dX9_roundTo_29 : decode cX9_roundTo 29 = .ok (.iload_n 3, 1) := by decide +kernel
theorem dX9_roundTo_30 : decode cX9_roundTo 30 = .ok (.baload, 1) := by decide +kernel
theorem dX9_roundTo_31 : decode cX9_roundTo 31 = .ok (.ifCond .ne 14, 3) := by decide +kernel
theorem dX9_roundTo_34 : decode cX9_roundTo 34 = .ok (.aload_n 0, 1) := by decide +kernel
theorem dX9_roundTo_35 : decode cX9_roundTo 35 = .ok (.getfield 74, 3) := by decide +kernel
theorem dX9_roundTo_38 : decode cX9_roundTo 38 = .ok (.iload_n 3, 1) := by decide +kernel
theorem dX9_roundTo_39 : decode cX9_roundTo 39 = .ok (.iconst 1, 1) := by decide +kernel
theorem dX9_roundTo_40 : decode cX9_roundTo 40 = .ok (.iadd, 1) := by decide +kernel
theorem dX9_roundTo_41 : decode cX9_roundTo 41 = .ok (.baload, 1) := by decide +kernel
theorem dX9_roundTo_42 : decode cX9_roundTo 42 = .ok (.ifCond .eq 42, 3) := by decide +kernel
theorem dX9_roundTo_45 : decode cX9_roundTo 45 = .ok (.aload_n 0, 1) := by decide +kernel
theorem dX9_roundTo_46 : decode cX9_roundTo 46 = .ok (.getfield 74, 3) := by decide +kernel
theorem dX9_roundTo_49 : decode cX9_roundTo 49 = .ok (.iload_n 3, 1) := by decide +kernel
theorem dX9_roundTo_50 : decode cX9_roundTo 50 = .ok (.baload, 1) := by decide +kernel
theorem dX9_roundTo_51 : decode cX9_roundTo 51 = .ok (.ifCond .eq 18, 3) := by decide +kernel
theorem dX9_roundTo_54 : decode cX9_roundTo 54 = .ok (.aload_n 0, 1) := by decide +kernel
theorem dX9_roundTo_55 : decode cX9_roundTo 55 = .ok (.getfield 74, 3) := by decide +kernel
theorem dX9_roundTo_58 : decode cX9_roundTo 58 = .ok (.iload_n 3, 1) := by decide +kernel
theorem dX9_roundTo_59 : decode cX9_roundTo 59 = .ok (.iconst 1, 1) := by decide +kernel
theorem dX9_roundTo_60 : decode cX9_roundTo 60 = .ok (.iadd, 1) := by decide +kernel
theorem dX9_roundTo_61 : decode cX9_roundTo 61 = .ok (.baload, 1) := by decide +kernel
theorem dX9_roundTo_62 : decode cX9_roundTo 62 = .ok (.ifCond .eq 7, 3) := by decide +kernel
theorem dX9_roundTo_65 : decode cX9_roundTo 65 = .ok (.iconst 0, 1) := by decide +kernel
theorem dX9_roundTo_66 : decode cX9_roundTo 66 = .ok (.goto 17, 3) := by decide +kernel
theorem dX9_roundTo_69 : decode cX9_roundTo 69 = .ok (.aload_n 0, 1) := by decide +kernel
theorem dX9_roundTo_70 : decode cX9_roundTo 70 = .ok (.getfield 74, 3) := by decide +kernel
theorem dX9_roundTo_73 : decode cX9_roundTo 73 = .ok (.iload_n 3, 1) := by decide +kernel
theorem dX9_roundTo_74 : decode cX9_roundTo 74 = .ok (.baload, 1) := by decide +kernel
theorem dX9_roundTo_75 : decode cX9_roundTo 75 = .ok (.ifCond .eq 7, 3) := by decide +kernel
theorem dX9_roundTo_78 : decode cX9_roundTo 78 = .ok (.iconst 2, 1) := by decide +kernel
theorem dX9_roundTo_79 : decode cX9_roundTo 79 = .ok (.goto 4, 3) := by decide +kernel
theorem dX9_roundTo_82 : decode cX9_roundTo 82 = .ok (.iconst 1, 1) := by decide +kernel
theorem dX9_roundTo_83 : decode cX9_roundTo 83 = .ok (.ireturn, 1) := by decide +kernel
theorem dX9_roundTo_84 : decode cX9_roundTo 84 = .ok (.aload_n 0, 1) := by decide +kernel
theorem dX9_roundTo_85 : decode cX9_roundTo 85 = .ok (.iload_n 1, 1) := by decide +kernel
theorem dX9_roundTo_86 : decode cX9_roundTo 86 = .ok (.iload_n 3, 1) := by decide +kernel
theorem dX9_roundTo_87 : decode cX9_roundTo 87 = .ok (.invokevirtual 160, 3) := by decide +kernel
theorem dX9_roundTo_90 : decode cX9_roundTo 90 = .ok (.fstore 4, 2) := by decide +kernel
theorem dX9_roundTo_92 : decode cX9_roundTo 92 = .ok (.aload_n 0, 1) := by decide +kernel
theorem dX9_roundTo_93 : decode cX9_roundTo 93 = .ok (.iload_n 1, 1) := by decide +kernel
theorem dX9_roundTo_94 : decode cX9_roundTo 94 = .ok (.iload_n 3, 1) := by decide +kernel
theorem dX9_roundTo_95 : decode cX9_roundTo 95 = .ok (.iconst 1, 1) := by decide +kernel
theorem dX9_roundTo_96 : decode cX9_roundTo 96 = .ok (.iadd, 1) := by decide +kernel
theorem dX9_roundTo_97 : decode cX9_roundTo 97 = .ok (.invokevirtual 160, 3) := by decide +kernel
theorem dX9_roundTo_100 : decode cX9_roundTo 100 = .ok (.fstore 5, 2) := by decide +kernel
theorem dX9_roundTo_102 : decode cX9_roundTo 102 = .ok (.fload 4, 2) := by decide +kernel
theorem dX9_roundTo_104 : decode cX9_roundTo 104 = .ok (.fload 5, 2) := by decide +kernel
theorem dX9_roundTo_106 : decode cX9_roundTo 106 = .ok (.fcmp .l, 1) := by decide +kernel
theorem dX9_roundTo_107 : decode cX9_roundTo 107 = .ok (.ifCond .le 7, 3) := by decide +kernel
theorem dX9_roundTo_110 : decode cX9_roundTo 110 = .ok (.iconst 1, 1) := by decide +kernel
theorem dX9_roundTo_111 : decode cX9_roundTo 111 = .ok (.goto 16, 3) := by decide +kernel
theorem dX9_roundTo_114 : decode cX9_roundTo 114 = .ok (.fload 5, 2) := by decide +kernel
theorem dX9_roundTo_116 : decode cX9_roundTo 116 = .ok (.fload 4, 2) := by decide +kernel
theorem dX9_roundTo_118 : decode cX9_roundTo 118 = .ok (.fcmp .l, 1) := by decide +kernel
theorem dX9_roundTo_119 : decode cX9_roundTo 119 = .ok (.ifCond .le 7, 3) := by decide +kernel
theorem dX9_roundTo_122 : decode cX9_roundTo 122 = .ok (.iconst 2, 1) := by decide +kernel
theorem dX9_roundTo_123 : decode cX9_roundTo 123 = .ok (.goto 4, 3) := by decide +kernel
theorem dX9_roundTo_126 : decode cX9_roundTo 126 = .ok (.iconst 0, 1) := by decide +kernel
theorem dX9_roundTo_127 : decode cX9_roundTo 127 = .ok (.ireturn, 1) := by decide +kernel
set_option maxRecDepth 20000 in
theorem ggX9_roundsTo_X9_roundTo : GoodIn wsX9_roundsTo wsX9_roundTo := goodIn_r _ [6, 7, 8, 9, 10, 11, 5, 12, 13, 14, 15, 16, 17, 18, 19, 20, 21, 22, 23, 24, 25, 26, 27, 28, 29, 30, 31, 32, 33, 34, 35, 36, 37, 38, 39, 40, 41, 42, 43, 44, 45, 46, 47, 48, 49, 50, 51, 52, 53, 54, 55, 56, 57, 58, 59, 60, 61, 62, 63, 64, 65, 66, 67, 68, 69, 70, 71, 72, 73, 74, 75, 76, 77, 78, 79, 80, 81, 82, 83] (by decide +kernel) (by decide +kernel)
set_option maxRecDepth 20000 in
theorem gX9_roundsTo_X9_roundTo : GoodIn wsX9_roundsTo (wsV RX9 163 RX9 yX9_roundTo wsX9_roundTo) := goodIn_app (goodIn_of _ (by decide +kernel)) ggX9_roundsTo_X9_roundTo
theorem dX9_roundsTo_0 : decode cX9_roundsTo 0 = .ok (.iconst 0, 1) := by decide +kernel
theorem dX9_roundsTo_1 : decode cX9_roundsTo 1 = .ok (.istore_n 3, 1) := by decide +kernel
theorem dX9_roundsTo_2 : decode cX9_roundsTo 2 = .ok (.iconst 0, 1) := by decide +kernel
theorem dX9_roundsTo_3 : decode cX9_roundsTo 3 = .ok (.istore 4, 2) := by decide +kernel
theorem dX9_roundsTo_5 : decode cX9_roundsTo 5 = .ok (.iload 4, 2) := by decide +kernel
theorem dX9_roundsTo_7 : decode cX9_roundsTo 7 = .ok (.aload_n 0, 1) := by decide +kernel
theorem dX9_roundsTo_8 : decode cX9_roundsTo 8 = .ok (.getfield 49, 3) := by decide +kernel
theorem dX9_roundsTo_11 : decode cX9_roundsTo 11 = .ok (.iload_n 1, 1) := by decide +kernel
theorem dX9_roundsTo_12 : decode cX9_roundsTo 12 = .ok (.iaload, 1) := by decide +kernel
theorem dX9_roundsTo_13 : decode cX9_roundsTo 13 = .ok (.if_icmp .ge 28, 3) := by decide +kernel
theorem dX9_roundsTo_16 : decode cX9_roundsTo 16 = .ok (.iload_n 3, 1) := by decide +kernel
theorem dX9_roundsTo_17 : decode cX9_roundsTo 17 = .ok (.aload_n 0, 1) := by decide +kernel
theorem dX9_roundsTo_18 : decode cX9_roundsTo 18 = .ok (.iload_n 1, 1) := by decide +kernel
theorem dX9_roundsTo_19 : decode cX9_roundsTo 19 = .ok (.iload 4, 2) := by decide +kernel
theorem dX9_roundsTo_21 : decode cX9_roundsTo 21 = .ok (.invokevirtual 163, 3) := by decide +kernel
theorem dX9_roundsTo_24 : decode cX9_roundsTo 24 = .ok (.iload_n 2, 1) := by decide +kernel
theorem dX9_roundsTo_25 : decode cX9_roundsTo 25 = .ok (.if_icmp .ne 7, 3) := by decide +kernel
theorem dX9_roundsTo_28 : decode cX9_roundsTo 28 = .ok (.iconst 1, 1) := by decide +kernel
theorem dX9_roundsTo_29 : decode cX9_roundsTo 29 = .ok (.goto 4, 3) := by decide +kernel
theorem dX9_roundsTo_32 : decode cX9_roundsTo 32 = .ok (.iconst 0, 1) := by decide +kernel
theorem dX9_roundsTo_33 : decode cX9_roundsTo 33 = .ok (.iadd, 1) := by decide +kernel
theorem dX9_roundsTo_34 : decode cX9_roundsTo 34 = .ok (.istore_n 3, 1) := by decide +kernel
theorem dX9_roundsTo_35 : decode cX9_roundsTo 35 = .ok (.iinc 4 1, 3) := by decide +kernel
theorem dX9_roundsTo_38 : decode cX9_roundsTo 38 = .ok (.goto (-33), 3) := by decide +kernel
theorem dX9_roundsTo_41 : decode cX9_roundsTo 41 = .ok (.iload_n 3, 1) := by decide +kernel
theorem dX9_roundsTo_42 : decode cX9_roundsTo 42 = .ok (.ireturn, 1) := by decide +kernel
set_option maxRecDepth 20000 in
theorem ggX9_winner_X9_isOver : GoodIn wsX9_winner wsX9_isOver := goodIn_r _ [7, 8, 9, 65, 66, 67, 68, 69, 70, 71, 72, 73, 74, 75, 76, 77, 78, 79, 80, 81, 82, 83, 84, 85, 86, 87, 88, 89, 90, 91, 92, 93] (by decide +kernel) (by decide +kernel)
set_option maxRecDepth 20000 in
theorem gX9_winner_X9_isOver : GoodIn wsX9_winner (wsV RX9 111 RX9 yX9_isOver wsX9_isOver) := goodIn_app (goodIn_of _ (by decide +kernel)) ggX9_winner_X9_isOver
set_option maxRecDepth 20000 in
theorem ggX9_winner_X9_roundsTo : GoodIn wsX9_winner wsX9_roundsTo := goodIn_r _ [13, 9, 14, 15, 16, 6, 17, 8, 18, 19, 20, 21, 22, 23, 24, 25, 26, 27, 28, 29, 30, 31, 32, 33, 34, 35, 36, 37, 38, 39, 40, 41, 42, 43, 44, 45, 46, 47, 48, 49, 50, 51, 52, 53, 54, 55, 56, 57, 58, 59, 60, 61, 62, 63, 64, 65, 66, 67, 68, 69, 70, 71, 72, 73, 74, 75, 76, 77, 78, 79, 80, 81, 82, 83, 84, 85, 86, 87, 88, 89, 90, 91, 92, 93] (by decide +kernel) (by decide +kernel)
set_option maxRecDepth 20000 in
theorem gX9_winner_X9_roundsTo : GoodIn wsX9_winner (wsV RX9 166 RX9 yX9_roundsTo wsX9_roundsTo) := goodIn_app (goodIn_of _ (by decide +kernel)) ggX9_winner_X9_roundsTo
theorem dX9_winner_0 : decode cX9_winner 0 = .ok (.aload_n 0, 1) := by decide +kernel
theorem dX9_winner_1 : decode cX9_winner 1 = .ok (.iload_n 1, 1) := by decide +kernel
theorem dX9_winner_2 : decode cX9_winner 2 = .ok (.invokevirtual 111, 3) := by decide +kernel
theorem dX9_winner_5 : decode cX9_winner 5 = .ok (.ifCond .ne 5, 3) := by decide +kernel
theorem dX9_winner_8 : decode cX9_winner 8 = .ok (.iconst (-1), 1) := by decide +kernel
theorem dX9_winner_9 : decode cX9_winner 9 = .ok (.ireturn, 1) := by decide +kernel
theorem dX9_winner_10 : decode cX9_winner 10 = .ok (.aload_n 0, 1) := by decide +kernel
theorem dX9_winner_11 : decode cX9_winner 11 = .ok (.iload_n 1, 1) := by decide +kernel
theorem dX9_winner_12 : decode cX9_winner 12 = .ok (.iconst 1, 1) := by decide +kernel
theorem dX9_winner_13 : decode cX9_winner 13 = .ok (.invokevirtual 166, 3) := by decide +kernel
theorem dX9_winner_16 : decode cX9_winner 16 = .ok (.aload_n 0, 1) := by decide +kernel
theorem dX9_winner_17 : decode cX9_winner 17 = .ok (.iload_n 1, 1) := by decide +kernel
theorem dX9_winner_18 : decode cX9_winner 18 = .ok (.iconst 2, 1) := by decide +kernel
theorem dX9_winner_19 : decode cX9_winner 19 = .ok (.invokevirtual 166, 3) := by decide +kernel
theorem dX9_winner_22 : decode cX9_winner 22 = .ok (.isub, 1) := by decide +kernel
theorem dX9_winner_23 : decode cX9_winner 23 = .ok (.istore_n 2, 1) := by decide +kernel
theorem dX9_winner_24 : decode cX9_winner 24 = .ok (.iload_n 2, 1) := by decide +kernel
theorem dX9_winner_25 : decode cX9_winner 25 = .ok (.ifCond .le 12, 3) := by decide +kernel
theorem dX9_winner_28 : decode cX9_winner 28 = .ok (.aload_n 0, 1) := by decide +kernel
theorem dX9_winner_29 : decode cX9_winner 29 = .ok (.getfield 34, 3) := by decide +kernel
theorem dX9_winner_32 : decode cX9_winner 32 = .ok (.iload_n 1, 1) := by decide +kernel
theorem dX9_winner_33 : decode cX9_winner 33 = .ok (.iaload, 1) := by decide +kernel
theorem dX9_winner_34 : decode cX9_winner 34 = .ok (.goto 17, 3) := by decide +kernel
theorem dX9_winner_37 : decode cX9_winner 37 = .ok (.iload_n 2, 1) := by decide +kernel
theorem dX9_winner_38 : decode cX9_winner 38 = .ok (.ifCond .ge 12, 3) := by decide +kernel
theorem dX9_winner_41 : decode cX9_winner 41 = .ok (.aload_n 0, 1) := by decide +kernel
theorem dX9_winner_42 : decode cX9_winner 42 = .ok (.getfield 37, 3) := by decide +kernel
theorem dX9_winner_45 : decode cX9_winner 45 = .ok (.iload_n 1, 1) := by decide +kernel
theorem dX9_winner_46 : decode cX9_winner 46 = .ok (.iaload, 1) := by decide +kernel
theorem dX9_winner_47 : decode cX9_winner 47 = .ok (.goto 4, 3) := by decide +kernel
theorem dX9_winner_50 : decode cX9_winner 50 = .ok (.iconst (-1), 1) := by decide +kernel
theorem dX9_winner_51 : decode cX9_winner 51 = .ok (.ireturn, 1) := by decide +kernel
set_option maxRecDepth 20000 in
theorem ggX9_appeal_X9_isDuel : GoodIn wsX9_appeal wsX9_isDuel := goodIn_r _ [7, 8, 9, 10, 6, 11, 82, 83, 84, 85, 86, 87, 88, 89, 90, 91, 92, 93, 94, 95, 96, 97, 98, 99, 100, 101, 102, 103, 104, 105, 106, 107, 108, 109, 110] (by decide +kernel) (by decide +kernel)
set_option maxRecDepth 20000 in
theorem gX9_appeal_X9_isDuel : GoodIn wsX9_appeal (wsV RX9 108 RX9 yX9_isDuel wsX9_isDuel) := goodIn_app (goodIn_of _ (by decide +kernel)) ggX9_appeal_X9_isDuel
set_option maxRecDepth 20000 in
theorem ggX9_appeal_X9_in : GoodIn wsX9_appeal wsX9_in := goodIn_r _ [11] (by decide +kernel) (by decide +kernel)
set_option maxRecDepth 20000 in
theorem gX9_appeal_X9_in : GoodIn wsX9_appeal (va_wsS RX9 87 yX9_in wsX9_in) := goodIn_app (goodIn_of _ (by decide +kernel)) ggX9_appeal_X9_in
set_option maxRecDepth 20000 in
theorem ggX9_appeal_X9_isOver : GoodIn wsX9_appeal wsX9_isOver := goodIn_r _ [15, 16, 17, 82, 83, 84, 85, 86, 87, 88, 89, 90, 91, 92, 93, 94, 95, 96, 97, 98, 99, 100, 101, 102, 103, 104, 105, 106, 107, 108, 109, 110] (by decide +kernel) (by decide +kernel)
set_option maxRecDepth 20000 in
theorem gX9_appeal_X9_isOver : GoodIn wsX9_appeal (wsV RX9 111 RX9 yX9_isOver wsX9_isOver) := goodIn_app (goodIn_of _ (by decide +kernel)) ggX9_appeal_X9_isOver
set_option maxRecDepth 20000 in
theorem ggX9_appeal_X9_goes : GoodIn wsX9_appeal wsX9_goes := goodIn_r _ [21, 22, 82, 83, 84, 85, 86, 87, 88, 89, 90, 91, 92, 93, 94, 95, 96, 97, 98, 99, 100, 101, 102, 103, 104, 105, 106, 107, 108, 109, 110] (by decide +kernel) (by decide +kernel)
set_option maxRecDepth 20000 in
theorem gX9_appeal_X9_goes : GoodIn wsX9_appeal (wsV RX9 97 RX9 yX9_goes wsX9_goes) := goodIn_app (goodIn_of _ (by decide +kernel)) ggX9_appeal_X9_goes
set_option maxRecDepth 20000 in
theorem ggX9_appeal_X9_winner : GoodIn wsX9_appeal wsX9_winner := goodIn_r _ [26, 27, 28, 12, 13, 14, 6, 15, 16, 17, 29, 30, 31, 32, 33, 34, 35, 36, 37, 38, 39, 40, 41, 2, 1, 42, 43, 44, 45, 46, 47, 48, 49, 50, 51, 52, 53, 54, 55, 56, 57, 58, 59, 60, 61, 62, 63, 64, 65, 66, 67, 68, 69, 70, 71, 72, 73, 74, 75, 76, 77, 78, 79, 80, 81, 82, 83, 84, 85, 86, 87, 88, 89, 90, 91, 92, 93, 94, 95, 96, 97, 98, 99, 100, 101, 102, 103, 104, 105, 106, 107, 108, 109, 110] (by decide +kernel) (by decide +kernel)
set_option maxRecDepth 20000 in
theorem gX9_appeal_X9_winner : GoodIn wsX9_appeal (wsV RX9 169 RX9 yX9_winner wsX9_winner) := goodIn_app (goodIn_of _ (by decide +kernel)) ggX9_appeal_X9_winner
theorem dX9_appeal_0 : decode cX9_appeal 0 = .ok (.aload_n 0, 1) := by decide +kernel
theorem dX9_appeal_1 : decode cX9_appeal 1 = .ok (.iload_n 1, 1) := by decide +kernel
theorem dX9_appeal_2 : decode cX9_appeal 2 = .ok (.invokevirtual 108, 3) := by decide +kernel
theorem dX9_appeal_5 : decode cX9_appeal 5 = .ok (.ifCond .eq 16, 3) := by decide +kernel
theorem dX9_appeal_8 : decode cX9_appeal 8 = .ok (.iload_n 2, 1) := by decide +kernel
theorem dX9_appeal_9 : decode cX9_appeal 9 = .ok (.iconst 0, 1) := by decide +kernel
theorem dX9_appeal_10 : decode cX9_appeal 10 = .ok (.iconst 3, 1) := by decide +kernel
theorem dX9_appeal_11 : decode cX9_appeal 11 = .ok (.invokestatic 87, 3) := by decide +kernel
theorem dX9_appeal_14 : decode cX9_appeal 14 = .ok (.ifCond .eq 7, 3) := by decide +kernel
theorem dX9_appeal_17 : decode cX9_appeal 17 = .ok (.iconst 1, 1) := by decide +kernel
theorem dX9_appeal_18 : decode cX9_appeal 18 = .ok (.goto 4, 3) := by decide +kernel
theorem dX9_appeal_21 : decode cX9_appeal 21 = .ok (.iconst 0, 1) := by decide +kernel
theorem dX9_appeal_22 : decode cX9_appeal 22 = .ok (.istore_n 3, 1) := by decide +kernel
theorem dX9_appeal_23 : decode cX9_appeal 23 = .ok (.aload_n 0, 1) := by decide +kernel
theorem dX9_appeal_24 : decode cX9_appeal 24 = .ok (.iload_n 3, 1) := by decide +kernel
theorem dX9_appeal_25 : decode cX9_appeal 25 = .ok (.iload_n 3, 1) := by decide +kernel
theorem dX9_appeal_26 : decode cX9_appeal 26 = .ok (.ifCond .eq 35, 3) := by decide +kernel
theorem dX9_appeal_29 : decode cX9_appeal 29 = .ok (.aload_n 0, 1) := by decide +kernel
theorem dX9_appeal_30 : decode cX9_appeal 30 = .ok (.iload_n 1, 1) := by decide +kernel
theorem dX9_appeal_31 : decode cX9_appeal 31 = .ok (.invokevirtual 111, 3) := by decide +kernel
theorem dX9_appeal_34 : decode cX9_appeal 34 = .ok (.ifCond .eq 27, 3) := by decide +kernel
theorem dX9_appeal_37 : decode cX9_appeal 37 = .ok (.aload_n 0, 1) := by decide +kernel
theorem dX9_appeal_38 : decode cX9_appeal 38 = .ok (.getfield 43, 3) := by decide +kernel
theorem dX9_appeal_41 : decode cX9_appeal 41 = .ok (.iload_n 1, 1) := by decide +kernel
theorem dX9_appeal_42 : decode cX9_appeal 42 = .ok (.iaload, 1) := by decide +kernel
theorem dX9_appeal_43 : decode cX9_appeal 43 = .ok (.iconst (-1), 1) := by decide +kernel
theorem dX9_appeal_44 : decode cX9_appeal 44 = .ok (.if_icmp .ne 17, 3) := by decide +kernel
theorem dX9_appeal_47 : decode cX9_appeal 47 = .ok (.aload_n 0, 1) := by decide +kernel
theorem dX9_appeal_48 : decode cX9_appeal 48 = .ok (.getfield 40, 3) := by decide +kernel
theorem dX9_appeal_51 : decode cX9_appeal 51 = .ok (.iload_n 1, 1) := by decide +kernel
theorem dX9_appeal_52 : decode cX9_appeal 52 = .ok (.iaload, 1) := by decide +kernel
theorem dX9_appeal_53 : decode cX9_appeal 53 = .ok (.iload_n 2, 1) := by decide +kernel
theorem dX9_appeal_54 : decode cX9_appeal 54 = .ok (.if_icmp .eq 7, 3) := by decide +kernel
theorem dX9_appeal_57 : decode cX9_appeal 57 = .ok (.iconst 1, 1) := by decide +kernel
theorem dX9_appeal_58 : decode cX9_appeal 58 = .ok (.goto 4, 3) := by decide +kernel
theorem dX9_appeal_61 : decode cX9_appeal 61 = .ok (.iconst 0, 1) := by decide +kernel
theorem dX9_appeal_62 : decode cX9_appeal 62 = .ok (.iconst 1, 1) := by decide +kernel
theorem dX9_appeal_63 : decode cX9_appeal 63 = .ok (.invokevirtual 97, 3) := by decide +kernel
theorem dX9_appeal_66 : decode cX9_appeal 66 = .ok (.ifCond .ne 5, 3) := by decide +kernel
theorem dX9_appeal_69 : decode cX9_appeal 69 = .ok (.iconst 0, 1) := by decide +kernel
theorem dX9_appeal_70 : decode cX9_appeal 70 = .ok (.ireturn, 1) := by decide +kernel
theorem dX9_appeal_71 : decode cX9_appeal 71 = .ok (.aload_n 0, 1) := by decide +kernel
theorem dX9_appeal_72 : decode cX9_appeal 72 = .ok (.getfield 43, 3) := by decide +kernel
theorem dX9_appeal_75 : decode cX9_appeal 75 = .ok (.iload_n 1, 1) := by decide +kernel
theorem dX9_appeal_76 : decode cX9_appeal 76 = .ok (.iload_n 2, 1) := by decide +kernel
theorem dX9_appeal_77 : decode cX9_appeal 77 = .ok (.iastore, 1) := by decide +kernel
theorem dX9_appeal_78 : decode cX9_appeal 78 = .ok (.aload_n 0, 1) := by decide +kernel
theorem dX9_appeal_79 : decode cX9_appeal 79 = .ok (.iload_n 1, 1) := by decide +kernel
theorem dX9_appeal_80 : decode cX9_appeal 80 = .ok (.invokevirtual 169, 3) := by decide +kernel
theorem dX9_appeal_83 : decode cX9_appeal 83 = .ok (.ireturn, 1) := by decide +kernel
set_option maxRecDepth 20000 in
theorem ggX9_prompt_X9_isDuel : GoodIn wsX9_prompt wsX9_isDuel := goodIn_r _ [6, 7, 8, 9, 5, 10, 22, 23, 24, 25, 26, 27, 28, 29, 30, 31, 32, 33, 34, 35, 36, 37, 38, 39, 40, 41, 42, 43, 44, 45, 46, 47, 48, 49, 50] (by decide +kernel) (by decide +kernel)
set_option maxRecDepth 20000 in
theorem gX9_prompt_X9_isDuel : GoodIn wsX9_prompt (wsV RX9 108 RX9 yX9_isDuel wsX9_isDuel) := goodIn_app (goodIn_of _ (by decide +kernel)) ggX9_prompt_X9_isDuel
set_option maxRecDepth 20000 in
theorem ggX9_prompt_X9_goes : GoodIn wsX9_prompt wsX9_goes := goodIn_r _ [14, 15, 22, 23, 24, 25, 26, 27, 28, 29, 30, 31, 32, 33, 34, 35, 36, 37, 38, 39, 40, 41, 42, 43, 44, 45, 46, 47, 48, 49, 50] (by decide +kernel) (by decide +kernel)
set_option maxRecDepth 20000 in
theorem gX9_prompt_X9_goes : GoodIn wsX9_prompt (wsV RX9 97 RX9 yX9_goes wsX9_goes) := goodIn_app (goodIn_of _ (by decide +kernel)) ggX9_prompt_X9_goes
set_option maxRecDepth 20000 in
theorem ggX9_prompt_X9_promptOf : GoodIn wsX9_prompt wsX9_promptOf := goodIn_r _ [19, 20, 21, 22, 23, 24, 25, 26, 27, 28, 29, 30, 31, 32, 33, 34, 35, 36, 37, 38, 39, 40, 41, 42, 43, 44, 45, 46, 47, 48, 49, 50] (by decide +kernel) (by decide +kernel)
set_option maxRecDepth 20000 in
theorem gX9_prompt_X9_promptOf : GoodIn wsX9_prompt (wsV RX9 148 RX9 yX9_promptOf wsX9_promptOf) := goodIn_app (goodIn_of _ (by decide +kernel)) ggX9_prompt_X9_promptOf
theorem dX9_prompt_0 : decode cX9_prompt 0 = .ok (.aload_n 0, 1) := by decide +kernel
theorem dX9_prompt_1 : decode cX9_prompt 1 = .ok (.iload_n 1, 1) := by decide +kernel
theorem dX9_prompt_2 : decode cX9_prompt 2 = .ok (.invokevirtual 108, 3) := by decide +kernel
theorem dX9_prompt_5 : decode cX9_prompt 5 = .ok (.ifCond .eq 33, 3) := by decide +kernel
theorem dX9_prompt_8 : decode cX9_prompt 8 = .ok (.iload_n 2, 1) := by decide +kernel
theorem dX9_prompt_9 : decode cX9_prompt 9 = .ok (.ifCond .lt 29, 3) := by decide +kernel
theorem dX9_prompt_12 : decode cX9_prompt 12 = .ok (.iload_n 2, 1) := by decide +kernel
theorem dX9_prompt_13 : decode cX9_prompt 13 = .ok (.aload_n 0, 1) := by decide +kernel
end
section
theorem dX9_prompt_14 : decode cX9_prompt 14 = .ok (.getfield 49, 3) := by decide +kernel
theorem dX9_prompt_17 : decode cX9_prompt 17 = .ok (.aload_n 0, 1) := by decide +kernel
theorem dX9_prompt_18 : decode cX9_prompt 18 = .ok (.iload_n 1, 1) := by decide +kernel
theorem dX9_prompt_19 : decode cX9_prompt 19 = .ok (.invokevirtual 108, 3) := by decide +kernel
theorem dX9_prompt_22 : decode cX9_prompt 22 = .ok (.ifCond .eq 7, 3) := by decide +kernel
theorem dX9_prompt_25 : decode cX9_prompt 25 = .ok (.iload_n 1, 1) := by decide +kernel
theorem dX9_prompt_26 : decode cX9_prompt 26 = .ok (.goto 4, 3) := by decide +kernel
theorem dX9_prompt_29 : decode cX9_prompt 29 = .ok (.iconst 0, 1) := by decide +kernel
theorem dX9_prompt_30 : decode cX9_prompt 30 = .ok (.iaload, 1) := by decide +kernel
theorem dX9_prompt_31 : decode cX9_prompt 31 = .ok (.if_icmp .ge 7, 3) := by decide +kernel
theorem dX9_prompt_34 : decode cX9_prompt 34 = .ok (.iconst 1, 1) := by decide +kernel
theorem dX9_prompt_35 : decode cX9_prompt 35 = .ok (.goto 4, 3) := by decide +kernel
theorem dX9_prompt_38 : decode cX9_prompt 38 = .ok (.iconst 0, 1) := by decide +kernel
theorem dX9_prompt_39 : decode cX9_prompt 39 = .ok (.istore_n 3, 1) := by decide +kernel
theorem dX9_prompt_40 : decode cX9_prompt 40 = .ok (.aload_n 0, 1) := by decide +kernel
theorem dX9_prompt_41 : decode cX9_prompt 41 = .ok (.iload_n 3, 1) := by decide +kernel
theorem dX9_prompt_42 : decode cX9_prompt 42 = .ok (.iconst 1, 1) := by decide +kernel
theorem dX9_prompt_43 : decode cX9_prompt 43 = .ok (.iconst 1, 1) := by decide +kernel
theorem dX9_prompt_44 : decode cX9_prompt 44 = .ok (.invokevirtual 97, 3) := by decide +kernel
theorem dX9_prompt_47 : decode cX9_prompt 47 = .ok (.ifCond .eq 12, 3) := by decide +kernel
theorem dX9_prompt_50 : decode cX9_prompt 50 = .ok (.aload_n 0, 1) := by decide +kernel
theorem dX9_prompt_51 : decode cX9_prompt 51 = .ok (.iload_n 1, 1) := by decide +kernel
theorem dX9_prompt_52 : decode cX9_prompt 52 = .ok (.iload_n 2, 1) := by decide +kernel
theorem dX9_prompt_53 : decode cX9_prompt 53 = .ok (.invokevirtual 148, 3) := by decide +kernel
theorem dX9_prompt_56 : decode cX9_prompt 56 = .ok (.goto 4, 3) := by decide +kernel
theorem dX9_prompt_59 : decode cX9_prompt 59 = .ok (.iconst 0, 1) := by decide +kernel
theorem dX9_prompt_60 : decode cX9_prompt 60 = .ok (.ireturn, 1) := by decide +kernel
set_option maxRecDepth 20000 in
theorem ggX9_mark_X9_isSign : GoodIn wsX9_mark wsX9_isSign := goodIn_r _ [7, 8, 9, 10, 6, 11, 42, 43, 44, 45, 46, 47, 48, 49, 50, 51, 52, 53, 54, 55, 56, 57, 58, 59, 60, 61, 62, 63, 64, 65, 66, 67, 68, 69, 70] (by decide +kernel) (by decide +kernel)
set_option maxRecDepth 20000 in
theorem gX9_mark_X9_isSign : GoodIn wsX9_mark (wsV RX9 172 RX9 yX9_isSign wsX9_isSign) := goodIn_app (goodIn_of _ (by decide +kernel)) ggX9_mark_X9_isSign
set_option maxRecDepth 20000 in
theorem ggX9_mark_X9_in : GoodIn wsX9_mark wsX9_in := goodIn_r _ [11] (by decide +kernel) (by decide +kernel)
set_option maxRecDepth 20000 in
theorem gX9_mark_X9_in : GoodIn wsX9_mark (va_wsS RX9 87 yX9_in wsX9_in) := goodIn_app (goodIn_of _ (by decide +kernel)) ggX9_mark_X9_in
set_option maxRecDepth 20000 in
theorem ggX9_mark_X9_goes : GoodIn wsX9_mark wsX9_goes := goodIn_r _ [15, 16, 42, 43, 44, 45, 46, 47, 48, 49, 50, 51, 52, 53, 54, 55, 56, 57, 58, 59, 60, 61, 62, 63, 64, 65, 66, 67, 68, 69, 70] (by decide +kernel) (by decide +kernel)
set_option maxRecDepth 20000 in
theorem gX9_mark_X9_goes : GoodIn wsX9_mark (wsV RX9 97 RX9 yX9_goes wsX9_goes) := goodIn_app (goodIn_of _ (by decide +kernel)) ggX9_mark_X9_goes
set_option maxRecDepth 20000 in
theorem ggX9_mark_X9_markOf : GoodIn wsX9_mark wsX9_markOf := goodIn_r _ [20, 21, 22, 23, 24, 25, 26, 6, 27, 28, 29, 30, 31, 32, 33, 34, 35, 36, 37, 38, 39, 40, 41, 42, 43, 44, 45, 46, 47, 48, 49, 50, 51, 52, 53, 54, 55, 56, 57, 58, 59, 60, 61, 62, 63, 64, 65, 66, 67, 68, 69, 70] (by decide +kernel) (by decide +kernel)
set_option maxRecDepth 20000 in
theorem gX9_mark_X9_markOf : GoodIn wsX9_mark (wsV RX9 152 RX9 yX9_markOf wsX9_markOf) := goodIn_app (goodIn_of _ (by decide +kernel)) ggX9_mark_X9_markOf
theorem dX9_mark_0 : decode cX9_mark 0 = .ok (.aload_n 0, 1) := by decide +kernel
theorem dX9_mark_1 : decode cX9_mark 1 = .ok (.aload_n 0, 1) := by decide +kernel
theorem dX9_mark_2 : decode cX9_mark 2 = .ok (.iload_n 1, 1) := by decide +kernel
theorem dX9_mark_3 : decode cX9_mark 3 = .ok (.invokevirtual 172, 3) := by decide +kernel
theorem dX9_mark_6 : decode cX9_mark 6 = .ok (.ifCond .eq 16, 3) := by decide +kernel
theorem dX9_mark_9 : decode cX9_mark 9 = .ok (.iload_n 2, 1) := by decide +kernel
theorem dX9_mark_10 : decode cX9_mark 10 = .ok (.iconst 0, 1) := by decide +kernel
theorem dX9_mark_11 : decode cX9_mark 11 = .ok (.iconst 3, 1) := by decide +kernel
theorem dX9_mark_12 : decode cX9_mark 12 = .ok (.invokestatic 87, 3) := by decide +kernel
theorem dX9_mark_15 : decode cX9_mark 15 = .ok (.ifCond .eq 7, 3) := by decide +kernel
theorem dX9_mark_18 : decode cX9_mark 18 = .ok (.iconst 1, 1) := by decide +kernel
theorem dX9_mark_19 : decode cX9_mark 19 = .ok (.goto 4, 3) := by decide +kernel
theorem dX9_mark_22 : decode cX9_mark 22 = .ok (.iconst 0, 1) := by decide +kernel
theorem dX9_mark_23 : decode cX9_mark 23 = .ok (.iconst 1, 1) := by decide +kernel
theorem dX9_mark_24 : decode cX9_mark 24 = .ok (.iconst 1, 1) := by decide +kernel
theorem dX9_mark_25 : decode cX9_mark 25 = .ok (.invokevirtual 97, 3) := by decide +kernel
theorem dX9_mark_28 : decode cX9_mark 28 = .ok (.ifCond .ne 5, 3) := by decide +kernel
theorem dX9_mark_31 : decode cX9_mark 31 = .ok (.fconst 0, 1) := by decide +kernel
theorem dX9_mark_32 : decode cX9_mark 32 = .ok (.freturn, 1) := by decide +kernel
theorem dX9_mark_33 : decode cX9_mark 33 = .ok (.aload_n 0, 1) := by decide +kernel
theorem dX9_mark_34 : decode cX9_mark 34 = .ok (.aload_n 0, 1) := by decide +kernel
theorem dX9_mark_35 : decode cX9_mark 35 = .ok (.getfield 7, 3) := by decide +kernel
theorem dX9_mark_38 : decode cX9_mark 38 = .ok (.iconst 0, 1) := by decide +kernel
theorem dX9_mark_39 : decode cX9_mark 39 = .ok (.aload_n 0, 1) := by decide +kernel
theorem dX9_mark_40 : decode cX9_mark 40 = .ok (.getfield 94, 3) := by decide +kernel
theorem dX9_mark_43 : decode cX9_mark 43 = .ok (.iload_n 1, 1) := by decide +kernel
theorem dX9_mark_44 : decode cX9_mark 44 = .ok (.iload_n 2, 1) := by decide +kernel
theorem dX9_mark_45 : decode cX9_mark 45 = .ok (.iconst 0, 1) := by decide +kernel
theorem dX9_mark_46 : decode cX9_mark 46 = .ok (.invokevirtual 152, 3) := by decide +kernel
theorem dX9_mark_49 : decode cX9_mark 49 = .ok (.freturn, 1) := by decide +kernel
set_option maxRecDepth 20000 in
theorem ggX9_part_X9_isSign : GoodIn wsX9_part wsX9_isSign := goodIn_r _ [9, 10, 11, 12, 8, 13, 36, 37, 38, 39, 40, 41, 42, 43, 44, 45, 46, 47, 48, 49, 50, 51, 52, 53, 54, 55, 56, 57, 58, 59, 60, 61, 62, 63, 64] (by decide +kernel) (by decide +kernel)
set_option maxRecDepth 20000 in
theorem gX9_part_X9_isSign : GoodIn wsX9_part (wsV RX9 172 RX9 yX9_isSign wsX9_isSign) := goodIn_app (goodIn_of _ (by decide +kernel)) ggX9_part_X9_isSign
set_option maxRecDepth 20000 in
theorem ggX9_part_X9_in : GoodIn wsX9_part wsX9_in := goodIn_r _ [13] (by decide +kernel) (by decide +kernel)
set_option maxRecDepth 20000 in
theorem gX9_part_X9_in : GoodIn wsX9_part (va_wsS RX9 87 yX9_in wsX9_in) := goodIn_app (goodIn_of _ (by decide +kernel)) ggX9_part_X9_in
set_option maxRecDepth 20000 in
theorem ggX9_part_X9_goes : GoodIn wsX9_part wsX9_goes := goodIn_r _ [17, 18, 36, 37, 38, 39, 40, 41, 42, 43, 44, 45, 46, 47, 48, 49, 50, 51, 52, 53, 54, 55, 56, 57, 58, 59, 60, 61, 62, 63, 64] (by decide +kernel) (by decide +kernel)
set_option maxRecDepth 20000 in
theorem gX9_part_X9_goes : GoodIn wsX9_part (wsV RX9 97 RX9 yX9_goes wsX9_goes) := goodIn_app (goodIn_of _ (by decide +kernel)) ggX9_part_X9_goes
set_option maxRecDepth 20000 in
theorem ggX9_part_X9_nearness : GoodIn wsX9_part wsX9_nearness := goodIn_r _ [21, 22, 23, 24, 25, 8, 26, 27, 28, 29] (by decide +kernel) (by decide +kernel)
set_option maxRecDepth 20000 in
theorem gX9_part_X9_nearness : GoodIn wsX9_part (va_wsS RX9 135 yX9_nearness wsX9_nearness) := goodIn_app (goodIn_of _ (by decide +kernel)) ggX9_part_X9_nearness
set_option maxRecDepth 20000 in
theorem ggX9_part_X9_slope : GoodIn wsX9_part wsX9_slope := goodIn_r _ [32, 22, 24, 25, 8, 26, 27, 28, 29] (by decide +kernel) (by decide +kernel)
set_option maxRecDepth 20000 in
theorem gX9_part_X9_slope : GoodIn wsX9_part (va_wsS RX9 139 yX9_slope wsX9_slope) := goodIn_app (goodIn_of _ (by decide +kernel)) ggX9_part_X9_slope
set_option maxRecDepth 20000 in
theorem ggX9_part_X9_order : GoodIn wsX9_part wsX9_order := goodIn_r _ [35, 22] (by decide +kernel) (by decide +kernel)
set_option maxRecDepth 20000 in
theorem gX9_part_X9_order : GoodIn wsX9_part (va_wsS RX9 143 yX9_order wsX9_order) := goodIn_app (goodIn_of _ (by decide +kernel)) ggX9_part_X9_order
theorem dX9_part_0 : decode cX9_part 0 = .ok (.aload_n 0, 1) := by decide +kernel
theorem dX9_part_1 : decode cX9_part 1 = .ok (.iload_n 1, 1) := by decide +kernel
theorem dX9_part_2 : decode cX9_part 2 = .ok (.invokevirtual 172, 3) := by decide +kernel
theorem dX9_part_5 : decode cX9_part 5 = .ok (.ifCond .eq 43, 3) := by decide +kernel
theorem dX9_part_8 : decode cX9_part 8 = .ok (.iload_n 2, 1) := by decide +kernel
theorem dX9_part_9 : decode cX9_part 9 = .ok (.iconst 0, 1) := by decide +kernel
theorem dX9_part_10 : decode cX9_part 10 = .ok (.aload_n 0, 1) := by decide +kernel
theorem dX9_part_11 : decode cX9_part 11 = .ok (.getfield 94, 3) := by decide +kernel
theorem dX9_part_14 : decode cX9_part 14 = .ok (.iconst 1, 1) := by decide +kernel
theorem dX9_part_15 : decode cX9_part 15 = .ok (.isub, 1) := by decide +kernel
theorem dX9_part_16 : decode cX9_part 16 = .ok (.invokestatic 87, 3) := by decide +kernel
theorem dX9_part_19 : decode cX9_part 19 = .ok (.ifCond .eq 29, 3) := by decide +kernel
theorem dX9_part_22 : decode cX9_part 22 = .ok (.iload_n 2, 1) := by decide +kernel
theorem dX9_part_23 : decode cX9_part 23 = .ok (.aload_n 0, 1) := by decide +kernel
theorem dX9_part_24 : decode cX9_part 24 = .ok (.getfield 13, 3) := by decide +kernel
theorem dX9_part_27 : decode cX9_part 27 = .ok (.aload_n 0, 1) := by decide +kernel
theorem dX9_part_28 : decode cX9_part 28 = .ok (.iload_n 1, 1) := by decide +kernel
theorem dX9_part_29 : decode cX9_part 29 = .ok (.invokevirtual 172, 3) := by decide +kernel
theorem dX9_part_32 : decode cX9_part 32 = .ok (.ifCond .eq 7, 3) := by decide +kernel
theorem dX9_part_35 : decode cX9_part 35 = .ok (.iload_n 1, 1) := by decide +kernel
theorem dX9_part_36 : decode cX9_part 36 = .ok (.goto 4, 3) := by decide +kernel
theorem dX9_part_39 : decode cX9_part 39 = .ok (.iconst 0, 1) := by decide +kernel
theorem dX9_part_40 : decode cX9_part 40 = .ok (.iaload, 1) := by decide +kernel
theorem dX9_part_41 : decode cX9_part 41 = .ok (.if_icmp .ge 7, 3) := by decide +kernel
theorem dX9_part_44 : decode cX9_part 44 = .ok (.iconst 1, 1) := by decide +kernel
theorem dX9_part_45 : decode cX9_part 45 = .ok (.goto 4, 3) := by decide +kernel
theorem dX9_part_48 : decode cX9_part 48 = .ok (.iconst 0, 1) := by decide +kernel
theorem dX9_part_49 : decode cX9_part 49 = .ok (.istore 4, 2) := by decide +kernel
theorem dX9_part_51 : decode cX9_part 51 = .ok (.aload_n 0, 1) := by decide +kernel
theorem dX9_part_52 : decode cX9_part 52 = .ok (.iload 4, 2) := by decide +kernel
theorem dX9_part_54 : decode cX9_part 54 = .ok (.iload_n 3, 1) := by decide +kernel
theorem dX9_part_55 : decode cX9_part 55 = .ok (.iconst 0, 1) := by decide +kernel
theorem dX9_part_56 : decode cX9_part 56 = .ok (.iconst 2, 1) := by decide +kernel
theorem dX9_part_57 : decode cX9_part 57 = .ok (.invokestatic 87, 3) := by decide +kernel
theorem dX9_part_60 : decode cX9_part 60 = .ok (.iconst 1, 1) := by decide +kernel
theorem dX9_part_61 : decode cX9_part 61 = .ok (.invokevirtual 97, 3) := by decide +kernel
theorem dX9_part_64 : decode cX9_part 64 = .ok (.ifCond .ne 5, 3) := by decide +kernel
theorem dX9_part_67 : decode cX9_part 67 = .ok (.fconst 0, 1) := by decide +kernel
theorem dX9_part_68 : decode cX9_part 68 = .ok (.freturn, 1) := by decide +kernel
theorem dX9_part_69 : decode cX9_part 69 = .ok (.bipush 24, 2) := by decide +kernel
theorem dX9_part_71 : decode cX9_part 71 = .ok (.iload_n 1, 1) := by decide +kernel
theorem dX9_part_72 : decode cX9_part 72 = .ok (.imul, 1) := by decide +kernel
theorem dX9_part_73 : decode cX9_part 73 = .ok (.iconst 4, 1) := by decide +kernel
theorem dX9_part_74 : decode cX9_part 74 = .ok (.iload_n 2, 1) := by decide +kernel
theorem dX9_part_75 : decode cX9_part 75 = .ok (.imul, 1) := by decide +kernel
theorem dX9_part_76 : decode cX9_part 76 = .ok (.iadd, 1) := by decide +kernel
theorem dX9_part_77 : decode cX9_part 77 = .ok (.istore 5, 2) := by decide +kernel
theorem dX9_part_79 : decode cX9_part 79 = .ok (.iload_n 3, 1) := by decide +kernel
theorem dX9_part_80 : decode cX9_part 80 = .ok (.ifCond .ne 23, 3) := by decide +kernel
theorem dX9_part_83 : decode cX9_part 83 = .ok (.aload_n 0, 1) := by decide +kernel
theorem dX9_part_84 : decode cX9_part 84 = .ok (.getfield 7, 3) := by decide +kernel
theorem dX9_part_87 : decode cX9_part 87 = .ok (.iconst 4, 1) := by decide +kernel
theorem dX9_part_88 : decode cX9_part 88 = .ok (.iload_n 2, 1) := by decide +kernel
theorem dX9_part_89 : decode cX9_part 89 = .ok (.imul, 1) := by decide +kernel
theorem dX9_part_90 : decode cX9_part 90 = .ok (.aload_n 0, 1) := by decide +kernel
theorem dX9_part_91 : decode cX9_part 91 = .ok (.getfield 16, 3) := by decide +kernel
theorem dX9_part_94 : decode cX9_part 94 = .ok (.iload 5, 2) := by decide +kernel
theorem dX9_part_96 : decode cX9_part 96 = .ok (.iconst 0, 1) := by decide +kernel
theorem dX9_part_97 : decode cX9_part 97 = .ok (.invokestatic 135, 3) := by decide +kernel
theorem dX9_part_100 : decode cX9_part 100 = .ok (.goto 40, 3) := by decide +kernel
theorem dX9_part_103 : decode cX9_part 103 = .ok (.iload_n 3, 1) := by decide +kernel
theorem dX9_part_104 : decode cX9_part 104 = .ok (.iconst 1, 1) := by decide +kernel
theorem dX9_part_105 : decode cX9_part 105 = .ok (.if_icmp .ne 22, 3) := by decide +kernel
theorem dX9_part_108 : decode cX9_part 108 = .ok (.aload_n 0, 1) := by decide +kernel
theorem dX9_part_109 : decode cX9_part 109 = .ok (.getfield 7, 3) := by decide +kernel
theorem dX9_part_112 : decode cX9_part 112 = .ok (.iconst 4, 1) := by decide +kernel
theorem dX9_part_113 : decode cX9_part 113 = .ok (.iload_n 2, 1) := by decide +kernel
theorem dX9_part_114 : decode cX9_part 114 = .ok (.imul, 1) := by decide +kernel
theorem dX9_part_115 : decode cX9_part 115 = .ok (.aload_n 0, 1) := by decide +kernel
theorem dX9_part_116 : decode cX9_part 116 = .ok (.getfield 16, 3) := by decide +kernel
theorem dX9_part_119 : decode cX9_part 119 = .ok (.iload 5, 2) := by decide +kernel
theorem dX9_part_121 : decode cX9_part 121 = .ok (.invokestatic 139, 3) := by decide +kernel
theorem dX9_part_124 : decode cX9_part 124 = .ok (.goto 16, 3) := by decide +kernel
theorem dX9_part_127 : decode cX9_part 127 = .ok (.aload_n 0, 1) := by decide +kernel
theorem dX9_part_128 : decode cX9_part 128 = .ok (.getfield 94, 3) := by decide +kernel
theorem dX9_part_131 : decode cX9_part 131 = .ok (.aload_n 0, 1) := by decide +kernel
theorem dX9_part_132 : decode cX9_part 132 = .ok (.getfield 13, 3) := by decide +kernel
theorem dX9_part_135 : decode cX9_part 135 = .ok (.iload_n 1, 1) := by decide +kernel
theorem dX9_part_136 : decode cX9_part 136 = .ok (.iaload, 1) := by decide +kernel
theorem dX9_part_137 : decode cX9_part 137 = .ok (.invokestatic 143, 3) := by decide +kernel
theorem dX9_part_140 : decode cX9_part 140 = .ok (.freturn, 1) := by decide +kernel
set_option maxRecDepth 20000 in
theorem ggX9_marked_X9_isHanded : GoodIn wsX9_marked wsX9_isHanded := goodIn_r _ [5, 6, 7, 8, 9, 4, 10, 11, 12, 13, 14, 69, 70, 71, 72, 73, 74, 75, 76, 77, 78, 79, 80, 81, 82, 83, 84, 85, 86, 87, 88, 89, 90, 91, 92, 93, 94, 95, 96, 97] (by decide +kernel) (by decide +kernel)
set_option maxRecDepth 20000 in
theorem gX9_marked_X9_isHanded : GoodIn wsX9_marked (wsV RX9 117 RX9 yX9_isHanded wsX9_isHanded) := goodIn_app (goodIn_of _ (by decide +kernel)) ggX9_marked_X9_isHanded
set_option maxRecDepth 20000 in
theorem ggX9_marked_X9_goes : GoodIn wsX9_marked wsX9_goes := goodIn_r _ [18, 19, 69, 70, 71, 72, 73, 74, 75, 76, 77, 78, 79, 80, 81, 82, 83, 84, 85, 86, 87, 88, 89, 90, 91, 92, 93, 94, 95, 96, 97] (by decide +kernel) (by decide +kernel)
set_option maxRecDepth 20000 in
theorem gX9_marked_X9_goes : GoodIn wsX9_marked (wsV RX9 97 RX9 yX9_goes wsX9_goes) := goodIn_app (goodIn_of _ (by decide +kernel)) ggX9_marked_X9_goes
set_option maxRecDepth 20000 in
theorem ggX9_marked_X9_writing : GoodIn wsX9_marked wsX9_writing := goodIn_r _ [22] (by decide +kernel) (by decide +kernel)
set_option maxRecDepth 20000 in
theorem gX9_marked_X9_writing : GoodIn wsX9_marked (va_wsS RX9 121 yX9_writing wsX9_writing) := goodIn_app (goodIn_of _ (by decide +kernel)) ggX9_marked_X9_writing
set_option maxRecDepth 20000 in
theorem ggX9_marked_X9_byAll : GoodIn wsX9_marked wsX9_byAll := goodIn_r _ [26, 27, 28, 29, 30, 31, 4, 32, 33, 34, 35, 36, 37, 38, 39, 40, 41, 42, 43, 44, 45, 46, 47, 48, 49, 50, 51, 52, 53, 54, 55, 56, 57, 58, 59, 60, 61, 62, 63, 64, 65, 66, 67, 68, 69, 70, 71, 72, 73, 74, 75, 76, 77, 78, 79, 80, 81, 82, 83, 84, 85, 86, 87, 88, 89, 90, 91, 92, 93, 94, 95, 96, 97] (by decide +kernel) (by decide +kernel)
set_option maxRecDepth 20000 in
theorem gX9_marked_X9_byAll : GoodIn wsX9_marked (wsV RX9 160 RX9 yX9_byAll wsX9_byAll) := goodIn_app (goodIn_of _ (by decide +kernel)) ggX9_marked_X9_byAll
theorem dX9_marked_0 : decode cX9_marked 0 = .ok (.aload_n 0, 1) := by decide +kernel
theorem dX9_marked_1 : decode cX9_marked 1 = .ok (.aload_n 0, 1) := by decide +kernel
theorem dX9_marked_2 : decode cX9_marked 2 = .ok (.iload_n 1, 1) := by decide +kernel
theorem dX9_marked_3 : decode cX9_marked 3 = .ok (.iload_n 2, 1) := by decide +kernel
theorem dX9_marked_4 : decode cX9_marked 4 = .ok (.iload_n 3, 1) := by decide +kernel
theorem dX9_marked_5 : decode cX9_marked 5 = .ok (.invokevirtual 117, 3) := by decide +kernel
theorem dX9_marked_8 : decode cX9_marked 8 = .ok (.iconst 1, 1) := by decide +kernel
theorem dX9_marked_9 : decode cX9_marked 9 = .ok (.iconst 1, 1) := by decide +kernel
theorem dX9_marked_10 : decode cX9_marked 10 = .ok (.invokevirtual 97, 3) := by decide +kernel
theorem dX9_marked_13 : decode cX9_marked 13 = .ok (.ifCond .eq 17, 3) := by decide +kernel
theorem dX9_marked_16 : decode cX9_marked 16 = .ok (.aload_n 0, 1) := by decide +kernel
theorem dX9_marked_17 : decode cX9_marked 17 = .ok (.iload_n 1, 1) := by decide +kernel
theorem dX9_marked_18 : decode cX9_marked 18 = .ok (.iload_n 1, 1) := by decide +kernel
theorem dX9_marked_19 : decode cX9_marked 19 = .ok (.iload_n 2, 1) := by decide +kernel
theorem dX9_marked_20 : decode cX9_marked 20 = .ok (.iload_n 3, 1) := by decide +kernel
theorem dX9_marked_21 : decode cX9_marked 21 = .ok (.invokestatic 121, 3) := by decide +kernel
theorem dX9_marked_24 : decode cX9_marked 24 = .ok (.invokevirtual 160, 3) := by decide +kernel
theorem dX9_marked_27 : decode cX9_marked 27 = .ok (.goto 4, 3) := by decide +kernel
theorem dX9_marked_30 : decode cX9_marked 30 = .ok (.fconst 0, 1) := by decide +kernel
theorem dX9_marked_31 : decode cX9_marked 31 = .ok (.freturn, 1) := by decide +kernel
set_option maxRecDepth 20000 in
theorem ggX9_of_X9_isDuel : GoodIn wsX9_of wsX9_isDuel := goodIn_r _ [8, 9, 10, 11, 7, 12, 82, 83, 84, 85, 86, 87, 88, 89, 90, 91, 92, 93, 94, 95, 96, 97, 98, 99, 100, 101, 102, 103, 104, 105, 106, 107, 108, 109, 110] (by decide +kernel) (by decide +kernel)
set_option maxRecDepth 20000 in
theorem gX9_of_X9_isDuel : GoodIn wsX9_of (wsV RX9 108 RX9 yX9_isDuel wsX9_isDuel) := goodIn_app (goodIn_of _ (by decide +kernel)) ggX9_of_X9_isDuel
set_option maxRecDepth 20000 in
theorem ggX9_of_X9_in : GoodIn wsX9_of wsX9_in := goodIn_r _ [12] (by decide +kernel) (by decide +kernel)
set_option maxRecDepth 20000 in
theorem gX9_of_X9_in : GoodIn wsX9_of (va_wsS RX9 87 yX9_in wsX9_in) := goodIn_app (goodIn_of _ (by decide +kernel)) ggX9_of_X9_in
set_option maxRecDepth 20000 in
theorem ggX9_of_X9_goes : GoodIn wsX9_of wsX9_goes := goodIn_r _ [16, 17, 82, 83, 84, 85, 86, 87, 88, 89, 90, 91, 92, 93, 94, 95, 96, 97, 98, 99, 100, 101, 102, 103, 104, 105, 106, 107, 108, 109, 110] (by decide +kernel) (by decide +kernel)
set_option maxRecDepth 20000 in
theorem gX9_of_X9_goes : GoodIn wsX9_of (wsV RX9 97 RX9 yX9_goes wsX9_goes) := goodIn_app (goodIn_of _ (by decide +kernel)) ggX9_of_X9_goes
set_option maxRecDepth 20000 in
theorem ggX9_of_X9_roundsTo : GoodIn wsX9_of wsX9_roundsTo := goodIn_r _ [21, 22, 23, 24, 25, 7, 26, 1, 27, 28, 29, 30, 31, 32, 3, 33, 34, 35, 36, 37, 2, 38, 39, 40, 41, 42, 43, 44, 45, 46, 47, 48, 49, 50, 51, 52, 53, 54, 55, 56, 57, 58, 59, 60, 61, 62, 63, 64, 65, 66, 67, 68, 69, 70, 71, 82, 83, 84, 85, 86, 87, 88, 89, 90, 91, 92, 93, 94, 95, 96, 97, 98, 99, 100, 101, 102, 103, 104, 105, 106, 107, 108, 109, 110] (by decide +kernel) (by decide +kernel)
set_option maxRecDepth 20000 in
theorem gX9_of_X9_roundsTo : GoodIn wsX9_of (wsV RX9 166 RX9 yX9_roundsTo wsX9_roundsTo) := goodIn_app (goodIn_of _ (by decide +kernel)) ggX9_of_X9_roundsTo
set_option maxRecDepth 20000 in
theorem ggX9_of_X9_winner : GoodIn wsX9_of wsX9_winner := goodIn_r _ [75, 76, 77, 78, 79, 80, 7, 81, 1, 22, 18, 19, 20, 21, 23, 24, 25, 26, 27, 28, 29, 30, 31, 32, 3, 33, 34, 35, 36, 37, 2, 38, 39, 40, 41, 42, 43, 44, 45, 46, 47, 48, 49, 50, 51, 52, 53, 54, 55, 56, 57, 58, 59, 60, 61, 62, 63, 64, 65, 66, 67, 68, 69, 70, 71, 82, 83, 84, 85, 86, 87, 88, 89, 90, 91, 92, 93, 94, 95, 96, 97, 98, 99, 100, 101, 102, 103, 104, 105, 106, 107, 108, 109, 110] (by decide +kernel) (by decide +kernel)
set_option maxRecDepth 20000 in
theorem gX9_of_X9_winner : GoodIn wsX9_of (wsV RX9 169 RX9 yX9_winner wsX9_winner) := goodIn_app (goodIn_of _ (by decide +kernel)) ggX9_of_X9_winner
theorem dX9_of_0 : decode cX9_of 0 = .ok (.aload_n 0, 1) := by decide +kernel
theorem dX9_of_1 : decode cX9_of 1 = .ok (.aload_n 0, 1) := by decide +kernel
theorem dX9_of_2 : decode cX9_of 2 = .ok (.iload_n 1, 1) := by decide +kernel
theorem dX9_of_3 : decode cX9_of 3 = .ok (.invokevirtual 108, 3) := by decide +kernel
theorem dX9_of_6 : decode cX9_of 6 = .ok (.iload_n 2, 1) := by decide +kernel
theorem dX9_of_7 : decode cX9_of 7 = .ok (.iconst 0, 1) := by decide +kernel
theorem dX9_of_8 : decode cX9_of 8 = .ok (.iconst 5, 1) := by decide +kernel
theorem dX9_of_9 : decode cX9_of 9 = .ok (.invokestatic 87, 3) := by decide +kernel
theorem dX9_of_12 : decode cX9_of 12 = .ok (.iconst 1, 1) := by decide +kernel
theorem dX9_of_13 : decode cX9_of 13 = .ok (.invokevirtual 97, 3) := by decide +kernel
theorem dX9_of_16 : decode cX9_of 16 = .ok (.ifCond .ne 5, 3) := by decide +kernel
theorem dX9_of_19 : decode cX9_of 19 = .ok (.iconst 0, 1) := by decide +kernel
theorem dX9_of_20 : decode cX9_of 20 = .ok (.ireturn, 1) := by decide +kernel
theorem dX9_of_21 : decode cX9_of 21 = .ok (.iload_n 2, 1) := by decide +kernel
theorem dX9_of_22 : decode cX9_of 22 = .ok (.tableswitch 61 0 4 #[34, 41, 41, 48, 54], 34) := by decide +kernel
theorem dX9_of_56 : decode cX9_of 56 = .ok (.aload_n 0, 1) := by decide +kernel
theorem dX9_of_57 : decode cX9_of 57 = .ok (.getfield 61, 3) := by decide +kernel
theorem dX9_of_60 : decode cX9_of 60 = .ok (.iload_n 1, 1) := by decide +kernel
theorem dX9_of_61 : decode cX9_of 61 = .ok (.iaload, 1) := by decide +kernel
theorem dX9_of_62 : decode cX9_of 62 = .ok (.ireturn, 1) := by decide +kernel
theorem dX9_of_63 : decode cX9_of 63 = .ok (.aload_n 0, 1) := by decide +kernel
theorem dX9_of_64 : decode cX9_of 64 = .ok (.iload_n 1, 1) := by decide +kernel
theorem dX9_of_65 : decode cX9_of 65 = .ok (.iload_n 2, 1) := by decide +kernel
theorem dX9_of_66 : decode cX9_of 66 = .ok (.invokevirtual 166, 3) := by decide +kernel
theorem dX9_of_69 : decode cX9_of 69 = .ok (.ireturn, 1) := by decide +kernel
theorem dX9_of_70 : decode cX9_of 70 = .ok (.aload_n 0, 1) := by decide +kernel
theorem dX9_of_71 : decode cX9_of 71 = .ok (.iload_n 1, 1) := by decide +kernel
theorem dX9_of_72 : decode cX9_of 72 = .ok (.invokevirtual 169, 3) := by decide +kernel
theorem dX9_of_75 : decode cX9_of 75 = .ok (.ireturn, 1) := by decide +kernel
theorem dX9_of_76 : decode cX9_of 76 = .ok (.aload_n 0, 1) := by decide +kernel
theorem dX9_of_77 : decode cX9_of 77 = .ok (.getfield 58, 3) := by decide +kernel
theorem dX9_of_80 : decode cX9_of 80 = .ok (.iload_n 1, 1) := by decide +kernel
theorem dX9_of_81 : decode cX9_of 81 = .ok (.iaload, 1) := by decide +kernel
theorem dX9_of_82 : decode cX9_of 82 = .ok (.ireturn, 1) := by decide +kernel
theorem dX9_of_83 : decode cX9_of 83 = .ok (.aload_n 0, 1) := by decide +kernel
theorem dX9_of_84 : decode cX9_of 84 = .ok (.getfield 43, 3) := by decide +kernel
theorem dX9_of_87 : decode cX9_of 87 = .ok (.iload_n 1, 1) := by decide +kernel
theorem dX9_of_88 : decode cX9_of 88 = .ok (.iaload, 1) := by decide +kernel
theorem dX9_of_89 : decode cX9_of 89 = .ok (.ireturn, 1) := by decide +kernel
set_option maxRecDepth 20000 in
theorem ggX9_paper_X9_isPaper : GoodIn wsX9_paper wsX9_isPaper := goodIn_r _ [6, 7, 8, 5, 9] (by decide +kernel) (by decide +kernel)
set_option maxRecDepth 20000 in
theorem gX9_paper_X9_isPaper : GoodIn wsX9_paper (va_wsS RX9 101 yX9_isPaper wsX9_isPaper) := goodIn_app (goodIn_of _ (by decide +kernel)) ggX9_paper_X9_isPaper
set_option maxRecDepth 20000 in
theorem ggX9_paper_X9_in : GoodIn wsX9_paper wsX9_in := goodIn_r _ [9] (by decide +kernel) (by decide +kernel)
set_option maxRecDepth 20000 in
theorem gX9_paper_X9_in : GoodIn wsX9_paper (va_wsS RX9 87 yX9_in wsX9_in) := goodIn_app (goodIn_of _ (by decide +kernel)) ggX9_paper_X9_in
set_option maxRecDepth 20000 in
theorem ggX9_paper_X9_goes : GoodIn wsX9_paper wsX9_goes := goodIn_r _ [13, 14, 15, 16, 17, 18, 19, 20, 21, 22, 23, 24, 25, 26, 27, 28, 29, 30, 31, 32, 33, 34, 35, 36, 37, 38, 39, 40, 41, 42, 43] (by decide +kernel) (by decide +kernel)
set_option maxRecDepth 20000 in
theorem gX9_paper_X9_goes : GoodIn wsX9_paper (wsV RX9 97 RX9 yX9_goes wsX9_goes) := goodIn_app (goodIn_of _ (by decide +kernel)) ggX9_paper_X9_goes
theorem dX9_paper_0 : decode cX9_paper 0 = .ok (.aload_n 0, 1) := by decide +kernel
theorem dX9_paper_1 : decode cX9_paper 1 = .ok (.iload_n 1, 1) := by decide +kernel
theorem dX9_paper_2 : decode cX9_paper 2 = .ok (.invokestatic 101, 3) := by decide +kernel
theorem dX9_paper_5 : decode cX9_paper 5 = .ok (.iload_n 2, 1) := by decide +kernel
theorem dX9_paper_6 : decode cX9_paper 6 = .ok (.iconst 0, 1) := by decide +kernel
theorem dX9_paper_7 : decode cX9_paper 7 = .ok (.iconst 1, 1) := by decide +kernel
theorem dX9_paper_8 : decode cX9_paper 8 = .ok (.invokestatic 87, 3) := by decide +kernel
theorem dX9_paper_11 : decode cX9_paper 11 = .ok (.iconst 1, 1) := by decide +kernel
theorem dX9_paper_12 : decode cX9_paper 12 = .ok (.invokevirtual 97, 3) := by decide +kernel
theorem dX9_paper_15 : decode cX9_paper 15 = .ok (.ifCond .ne 5, 3) := by decide +kernel
theorem dX9_paper_18 : decode cX9_paper 18 = .ok (.iconst 0, 1) := by decide +kernel
theorem dX9_paper_19 : decode cX9_paper 19 = .ok (.ireturn, 1) := by decide +kernel
theorem dX9_paper_20 : decode cX9_paper 20 = .ok (.iload_n 2, 1) := by decide +kernel
theorem dX9_paper_21 : decode cX9_paper 21 = .ok (.ifCond .ne 12, 3) := by decide +kernel
theorem dX9_paper_24 : decode cX9_paper 24 = .ok (.aload_n 0, 1) := by decide +kernel
theorem dX9_paper_25 : decode cX9_paper 25 = .ok (.getfield 19, 3) := by decide +kernel
theorem dX9_paper_28 : decode cX9_paper 28 = .ok (.iload_n 1, 1) := by decide +kernel
theorem dX9_paper_29 : decode cX9_paper 29 = .ok (.iaload, 1) := by decide +kernel
theorem dX9_paper_30 : decode cX9_paper 30 = .ok (.goto 9, 3) := by decide +kernel
theorem dX9_paper_33 : decode cX9_paper 33 = .ok (.aload_n 0, 1) := by decide +kernel
theorem dX9_paper_34 : decode cX9_paper 34 = .ok (.getfield 22, 3) := by decide +kernel
theorem dX9_paper_37 : decode cX9_paper 37 = .ok (.iload_n 1, 1) := by decide +kernel
theorem dX9_paper_38 : decode cX9_paper 38 = .ok (.iaload, 1) := by decide +kernel
theorem dX9_paper_39 : decode cX9_paper 39 = .ok (.ireturn, 1) := by decide +kernel
set_option maxRecDepth 20000 in
theorem ggX9_won_X9_in : GoodIn wsX9_won wsX9_in := goodIn_r _ [5] (by decide +kernel) (by decide +kernel)
set_option maxRecDepth 20000 in
theorem gX9_won_X9_in : GoodIn wsX9_won (va_wsS RX9 87 yX9_in wsX9_in) := goodIn_app (goodIn_of _ (by decide +kernel)) ggX9_won_X9_in
set_option maxRecDepth 20000 in
theorem ggX9_won_X9_goes : GoodIn wsX9_won wsX9_goes := goodIn_r _ [9, 10, 78, 79, 80, 81, 82, 83, 84, 85, 86, 87, 88, 89, 90, 91, 92, 93, 94, 95, 96, 97, 98, 99, 100, 101, 102, 103, 104, 105, 106] (by decide +kernel) (by decide +kernel)
set_option maxRecDepth 20000 in
theorem gX9_won_X9_goes : GoodIn wsX9_won (wsV RX9 97 RX9 yX9_goes wsX9_goes) := goodIn_app (goodIn_of _ (by decide +kernel)) ggX9_won_X9_goes
set_option maxRecDepth 20000 in
theorem ggX9_won_X9_winner : GoodIn wsX9_won wsX9_winner := goodIn_r _ [14, 15, 16, 17, 18, 19, 4, 20, 21, 22, 23, 24, 25, 26, 27, 28, 29, 30, 31, 32, 33, 34, 35, 36, 37, 38, 39, 40, 41, 42, 43, 44, 45, 46, 47, 48, 49, 50, 51, 52, 53, 54, 55, 56, 57, 58, 59, 60, 61, 62, 63, 64, 65, 66, 67, 68, 69, 70, 71, 72, 73, 74, 75, 76, 77, 78, 79, 80, 81, 82, 83, 84, 85, 86, 87, 88, 89, 90, 91, 92, 93, 94, 95, 96, 97, 98, 99, 100, 101, 102, 103, 104, 105, 106] (by decide +kernel) (by decide +kernel)
set_option maxRecDepth 20000 in
theorem gX9_won_X9_winner : GoodIn wsX9_won (wsV RX9 169 RX9 yX9_winner wsX9_winner) := goodIn_app (goodIn_of _ (by decide +kernel)) ggX9_won_X9_winner
theorem dX9_won_0 : decode cX9_won 0 = .ok (.aload_n 0, 1) := by decide +kernel
theorem dX9_won_1 : decode cX9_won 1 = .ok (.iload_n 1, 1) := by decide +kernel
theorem dX9_won_2 : decode cX9_won 2 = .ok (.iconst 0, 1) := by decide +kernel
theorem dX9_won_3 : decode cX9_won 3 = .ok (.bipush 7, 2) := by decide +kernel
theorem dX9_won_5 : decode cX9_won 5 = .ok (.invokestatic 87, 3) := by decide +kernel
theorem dX9_won_8 : decode cX9_won 8 = .ok (.iconst 1, 1) := by decide +kernel
theorem dX9_won_9 : decode cX9_won 9 = .ok (.iconst 1, 1) := by decide +kernel
theorem dX9_won_10 : decode cX9_won 10 = .ok (.invokevirtual 97, 3) := by decide +kernel
theorem dX9_won_13 : decode cX9_won 13 = .ok (.ifCond .ne 5, 3) := by decide +kernel
theorem dX9_won_16 : decode cX9_won 16 = .ok (.iconst 0, 1) := by decide +kernel
theorem dX9_won_17 : decode cX9_won 17 = .ok (.ireturn, 1) := by decide +kernel
theorem dX9_won_18 : decode cX9_won 18 = .ok (.iconst 0, 1) := by decide +kernel
theorem dX9_won_19 : decode cX9_won 19 = .ok (.istore_n 2, 1) := by decide +kernel
theorem dX9_won_20 : decode cX9_won 20 = .ok (.iconst 0, 1) := by decide +kernel
theorem dX9_won_21 : decode cX9_won 21 = .ok (.istore_n 3, 1) := by decide +kernel
theorem dX9_won_22 : decode cX9_won 22 = .ok (.iload_n 3, 1) := by decide +kernel
theorem dX9_won_23 : decode cX9_won 23 = .ok (.aload_n 0, 1) := by decide +kernel
theorem dX9_won_24 : decode cX9_won 24 = .ok (.getfield 84, 3) := by decide +kernel
theorem dX9_won_27 : decode cX9_won 27 = .ok (.if_icmp .ge 26, 3) := by decide +kernel
theorem dX9_won_30 : decode cX9_won 30 = .ok (.iload_n 2, 1) := by decide +kernel
theorem dX9_won_31 : decode cX9_won 31 = .ok (.aload_n 0, 1) := by decide +kernel
theorem dX9_won_32 : decode cX9_won 32 = .ok (.iload_n 3, 1) := by decide +kernel
theorem dX9_won_33 : decode cX9_won 33 = .ok (.invokevirtual 169, 3) := by decide +kernel
theorem dX9_won_36 : decode cX9_won 36 = .ok (.iload_n 1, 1) := by decide +kernel
theorem dX9_won_37 : decode cX9_won 37 = .ok (.if_icmp .ne 7, 3) := by decide +kernel
theorem dX9_won_40 : decode cX9_won 40 = .ok (.iconst 1, 1) := by decide +kernel
theorem dX9_won_41 : decode cX9_won 41 = .ok (.goto 4, 3) := by decide +kernel
theorem dX9_won_44 : decode cX9_won 44 = .ok (.iconst 0, 1) := by decide +kernel
theorem dX9_won_45 : decode cX9_won 45 = .ok (.iadd, 1) := by decide +kernel
theorem dX9_won_46 : decode cX9_won 46 = .ok (.istore_n 2, 1) := by decide +kernel
theorem dX9_won_47 : decode cX9_won 47 = .ok (.iinc 3 1, 3) := by decide +kernel
theorem dX9_won_50 : decode cX9_won 50 = .ok (.goto (-28), 3) := by decide +kernel
theorem dX9_won_53 : decode cX9_won 53 = .ok (.iload_n 2, 1) := by decide +kernel
theorem dX9_won_54 : decode cX9_won 54 = .ok (.ireturn, 1) := by decide +kernel
theorem dJ9_abs_0f7a4_0 : decode cJ9_abs_0f7a4 0 = .ok (.iload_n 0, 1) := by decide +kernel
theorem dJ9_abs_0f7a4_1 : decode cJ9_abs_0f7a4 1 = .ok (.ifCond .ge 8, 3) := by decide +kernel
theorem dJ9_abs_0f7a4_4 : decode cJ9_abs_0f7a4 4 = .ok (.iload_n 0, 1) := by decide +kernel
theorem dJ9_abs_0f7a4_5 : decode cJ9_abs_0f7a4 5 = .ok (.ineg, 1) := by decide +kernel
theorem dJ9_abs_0f7a4_6 : decode cJ9_abs_0f7a4 6 = .ok (.goto 4, 3) := by decide +kernel
theorem dJ9_abs_0f7a4_9 : decode cJ9_abs_0f7a4 9 = .ok (.iload_n 0, 1) := by decide +kernel
theorem dJ9_abs_0f7a4_10 : decode cJ9_abs_0f7a4 10 = .ok (.ireturn, 1) := by decide +kernel
theorem dJ9_max_7cf53_0 : decode cJ9_max_7cf53 0 = .ok (.iload_n 0, 1) := by decide +kernel
theorem dJ9_max_7cf53_1 : decode cJ9_max_7cf53 1 = .ok (.iload_n 1, 1) := by decide +kernel
theorem dJ9_max_7cf53_2 : decode cJ9_max_7cf53 2 = .ok (.if_icmp .lt 7, 3) := by decide +kernel
theorem dJ9_max_7cf53_5 : decode cJ9_max_7cf53 5 = .ok (.iload_n 0, 1) := by decide +kernel
theorem dJ9_max_7cf53_6 : decode cJ9_max_7cf53 6 = .ok (.goto 4, 3) := by decide +kernel
theorem dJ9_max_7cf53_9 : decode cJ9_max_7cf53 9 = .ok (.iload_n 1, 1) := by decide +kernel
theorem dJ9_max_7cf53_10 : decode cJ9_max_7cf53 10 = .ok (.ireturn, 1) := by decide +kernel
theorem dJ9_min_7cf53_0 : decode cJ9_min_7cf53 0 = .ok (.iload_n 0, 1) := by decide +kernel
theorem dJ9_min_7cf53_1 : decode cJ9_min_7cf53 1 = .ok (.iload_n 1, 1) := by decide +kernel
theorem dJ9_min_7cf53_2 : decode cJ9_min_7cf53 2 = .ok (.if_icmp .gt 7, 3) := by decide +kernel
theorem dJ9_min_7cf53_5 : decode cJ9_min_7cf53 5 = .ok (.iload_n 0, 1) := by decide +kernel
theorem dJ9_min_7cf53_6 : decode cJ9_min_7cf53 6 = .ok (.goto 4, 3) := by decide +kernel
theorem dJ9_min_7cf53_9 : decode cJ9_min_7cf53 9 = .ok (.iload_n 1, 1) := by decide +kernel
theorem dJ9_min_7cf53_10 : decode cJ9_min_7cf53 10 = .ok (.ireturn, 1) := by decide +kernel
set_option maxRecDepth 20000 in
theorem ggL_stroke_X8_stroke : GoodIn wsL_stroke wsX8_stroke := goodIn_ca (goodIn_ca (goodIn_r _ [7, 8, 9, 10, 11, 12, 13, 14, 15, 16, 17, 18, 6, 19, 20, 21, 22, 23, 24, 25, 26, 27, 28, 29, 30, 31, 32, 33, 34, 35, 36, 37, 38, 39, 40, 41, 42, 43, 44, 45, 46, 47, 48, 49, 50, 51, 52, 53, 54, 55] (by decide +kernel) (by decide +kernel)) (goodIn_sub (fun _ h => List.mem_cons_of_mem _ (List.mem_append_left _ (List.mem_append_right _ h))) (by decide +kernel))) (goodIn_sub (fun _ h => List.mem_cons_of_mem _ (List.mem_append_right _ h)) (by decide +kernel))
set_option maxRecDepth 20000 in
theorem gL_stroke_X8_stroke : GoodIn wsL_stroke (wsV RL 7 RX8 yX8_stroke wsX8_stroke) := goodIn_app (goodIn_of _ (by decide +kernel)) ggL_stroke_X8_stroke
theorem dL_stroke_0 : decode cL_stroke 0 = .ok (.aload 5, 2) := by decide +kernel
theorem dL_stroke_2 : decode cL_stroke 2 = .ok (.iconst 0, 1) := by decide +kernel
theorem dL_stroke_3 : decode cL_stroke 3 = .ok (.aload_n 0, 1) := by decide +kernel
theorem dL_stroke_4 : decode cL_stroke 4 = .ok (.iload_n 1, 1) := by decide +kernel
theorem dL_stroke_5 : decode cL_stroke 5 = .ok (.iload_n 2, 1) := by decide +kernel
theorem dL_stroke_6 : decode cL_stroke 6 = .ok (.iload_n 3, 1) := by decide +kernel
theorem dL_stroke_7 : decode cL_stroke 7 = .ok (.iload 4, 2) := by decide +kernel
theorem dL_stroke_9 : decode cL_stroke 9 = .ok (.invokevirtual 7, 3) := by decide +kernel
theorem dL_stroke_12 : decode cL_stroke 12 = .ok (.i2l, 1) := by decide +kernel
theorem dL_stroke_13 : decode cL_stroke 13 = .ok (.lastore, 1) := by decide +kernel
theorem dL_stroke_14 : decode cL_stroke 14 = .ok (.goto 11, 3) := by decide +kernel
theorem dL_stroke_17 : decode cL_stroke 17 = .ok (.astore 6, 2) := by decide +kernel
theorem dL_stroke_19 : decode cL_stroke 19 = .ok (.iconst 1, 1) := by decide +kernel
theorem dL_stroke_20 : decode cL_stroke 20 = .ok (.ireturn, 1) := by decide +kernel
theorem dL_stroke_21 : decode cL_stroke 21 = .ok (.astore 6, 2) := by decide +kernel
theorem dL_stroke_23 : decode cL_stroke 23 = .ok (.iconst 2, 1) := by decide +kernel
theorem dL_stroke_24 : decode cL_stroke 24 = .ok (.ireturn, 1) := by decide +kernel
theorem dL_stroke_25 : decode cL_stroke 25 = .ok (.iconst 0, 1) := by decide +kernel
theorem dL_stroke_26 : decode cL_stroke 26 = .ok (.ireturn, 1) := by decide +kernel
set_option maxRecDepth 20000 in
theorem ggL_sign_X8_sign : GoodIn wsL_sign wsX8_sign := goodIn_ca (goodIn_r _ [6, 7, 8, 9, 10, 11, 12, 13, 14, 15, 16, 17, 18, 19, 20, 21, 22, 23, 24, 25, 26, 27, 28, 29, 30, 31, 32, 33, 34] (by decide +kernel) (by decide +kernel)) (goodIn_sub (fun _ h => List.mem_cons_of_mem _ (List.mem_append_right _ h)) (by decide +kernel))
set_option maxRecDepth 20000 in
theorem gL_sign_X8_sign : GoodIn wsL_sign (wsV RL 17 RX8 yX8_sign wsX8_sign) := goodIn_app (goodIn_of _ (by decide +kernel)) ggL_sign_X8_sign
theorem dL_sign_0 : decode cL_sign 0 = .ok (.aload_n 1, 1) := by decide +kernel
theorem dL_sign_1 : decode cL_sign 1 = .ok (.iconst 0, 1) := by decide +kernel
theorem dL_sign_2 : decode cL_sign 2 = .ok (.aload_n 0, 1) := by decide +kernel
theorem dL_sign_3 : decode cL_sign 3 = .ok (.invokevirtual 17, 3) := by decide +kernel
theorem dL_sign_6 : decode cL_sign 6 = .ok (.i2l, 1) := by decide +kernel
theorem dL_sign_7 : decode cL_sign 7 = .ok (.lastore, 1) := by decide +kernel
theorem dL_sign_8 : decode cL_sign 8 = .ok (.goto 6, 3) := by decide +kernel
theorem dL_sign_11 : decode cL_sign 11 = .ok (.astore_n 2, 1) := by decide +kernel
theorem dL_sign_12 : decode cL_sign 12 = .ok (.iconst 1, 1) := by decide +kernel
theorem dL_sign_13 : decode cL_sign 13 = .ok (.ireturn, 1) := by decide +kernel
theorem dL_sign_14 : decode cL_sign 14 = .ok (.iconst 0, 1) := by decide +kernel
theorem dL_sign_15 : decode cL_sign 15 = .ok (.ireturn, 1) := by decide +kernel
set_option maxRecDepth 20000 in
theorem ggL_buy_X8_buy : GoodIn wsL_buy wsX8_buy := goodIn_ca (goodIn_ca (goodIn_ca (goodIn_r _ [8, 9, 10, 11, 12, 13, 14, 15, 16, 17, 18, 7, 19, 20, 21, 22, 23, 24, 25, 26, 27, 28, 29, 30, 31, 32, 33, 34, 35, 36] (by decide +kernel) (by decide +kernel)) (goodIn_sub (fun _ h => List.mem_cons_of_mem _ (List.mem_append_left _ (List.mem_append_left _ (List.mem_append_right _ h)))) (by decide +kernel))) (goodIn_sub (fun _ h => List.mem_cons_of_mem _ (List.mem_append_left _ (List.mem_append_right _ h))) (by decide +kernel))) (goodIn_sub (fun _ h => List.mem_cons_of_mem _ (List.mem_append_right _ h)) (by decide +kernel))
set_option maxRecDepth 20000 in
theorem gL_buy_X8_buy : GoodIn wsL_buy (wsV RL 21 RX8 yX8_buy wsX8_buy) := goodIn_app (goodIn_of _ (by decide +kernel)) ggL_buy_X8_buy
theorem dL_buy_0 : decode cL_buy 0 = .ok (.aload_n 3, 1) := by decide +kernel
theorem dL_buy_1 : decode cL_buy 1 = .ok (.iconst 0, 1) := by decide +kernel
theorem dL_buy_2 : decode cL_buy 2 = .ok (.aload_n 0, 1) := by decide +kernel
theorem dL_buy_3 : decode cL_buy 3 = .ok (.iload_n 1, 1) := by decide +kernel
theorem dL_buy_4 : decode cL_buy 4 = .ok (.iload_n 2, 1) := by decide +kernel
theorem dL_buy_5 : decode cL_buy 5 = .ok (.invokevirtual 21, 3) := by decide +kernel
theorem dL_buy_8 : decode cL_buy 8 = .ok (.i2l, 1) := by decide +kernel
theorem dL_buy_9 : decode cL_buy 9 = .ok (.lastore, 1) := by decide +kernel
theorem dL_buy_10 : decode cL_buy 10 = .ok (.goto 15, 3) := by decide +kernel
theorem dL_buy_13 : decode cL_buy 13 = .ok (.astore 4, 2) := by decide +kernel
theorem dL_buy_15 : decode cL_buy 15 = .ok (.iconst 1, 1) := by decide +kernel
theorem dL_buy_16 : decode cL_buy 16 = .ok (.ireturn, 1) := by decide +kernel
theorem dL_buy_17 : decode cL_buy 17 = .ok (.astore 4, 2) := by decide +kernel
theorem dL_buy_19 : decode cL_buy 19 = .ok (.iconst 2, 1) := by decide +kernel
theorem dL_buy_20 : decode cL_buy 20 = .ok (.ireturn, 1) := by decide +kernel
theorem dL_buy_21 : decode cL_buy 21 = .ok (.astore 4, 2) := by decide +kernel
theorem dL_buy_23 : decode cL_buy 23 = .ok (.iconst 3, 1) := by decide +kernel
theorem dL_buy_24 : decode cL_buy 24 = .ok (.ireturn, 1) := by decide +kernel
theorem dL_buy_25 : decode cL_buy 25 = .ok (.iconst 0, 1) := by decide +kernel
theorem dL_buy_26 : decode cL_buy 26 = .ok (.ireturn, 1) := by decide +kernel
set_option maxRecDepth 20000 in
theorem ggL_rise_X8_rise : GoodIn wsL_rise wsX8_rise := goodIn_ca (goodIn_ca (goodIn_r _ [7, 8, 9, 10, 11, 12, 13, 14, 15, 16, 6, 17, 18, 19, 20, 21, 22, 23, 24, 25, 26, 27, 28, 29, 30, 31, 32, 33, 34] (by decide +kernel) (by decide +kernel)) (goodIn_sub (fun _ h => List.mem_cons_of_mem _ (List.mem_append_left _ (List.mem_append_right _ h))) (by decide +kernel))) (goodIn_sub (fun _ h => List.mem_cons_of_mem _ (List.mem_append_right _ h)) (by decide +kernel))
set_option maxRecDepth 20000 in
theorem gL_rise_X8_rise : GoodIn wsL_rise (wsV RL 27 RX8 yX8_rise wsX8_rise) := goodIn_app (goodIn_of _ (by decide +kernel)) ggL_rise_X8_rise
theorem dL_rise_0 : decode cL_rise 0 = .ok (.aload_n 3, 1) := by decide +kernel
theorem dL_rise_1 : decode cL_rise 1 = .ok (.iconst 0, 1) := by decide +kernel
theorem dL_rise_2 : decode cL_rise 2 = .ok (.aload_n 0, 1) := by decide +kernel
theorem dL_rise_3 : decode cL_rise 3 = .ok (.iload_n 1, 1) := by decide +kernel
theorem dL_rise_4 : decode cL_rise 4 = .ok (.iload_n 2, 1) := by decide +kernel
theorem dL_rise_5 : decode cL_rise 5 = .ok (.invokevirtual 27, 3) := by decide +kernel
theorem dL_rise_8 : decode cL_rise 8 = .ok (.i2l, 1) := by decide +kernel
theorem dL_rise_9 : decode cL_rise 9 = .ok (.lastore, 1) := by decide +kernel
theorem dL_rise_10 : decode cL_rise 10 = .ok (.goto 11, 3) := by decide +kernel
theorem dL_rise_13 : decode cL_rise 13 = .ok (.astore 4, 2) := by decide +kernel
theorem dL_rise_15 : decode cL_rise 15 = .ok (.iconst 1, 1) := by decide +kernel
theorem dL_rise_16 : decode cL_rise 16 = .ok (.ireturn, 1) := by decide +kernel
theorem dL_rise_17 : decode cL_rise 17 = .ok (.astore 4, 2) := by decide +kernel
theorem dL_rise_19 : decode cL_rise 19 = .ok (.iconst 2, 1) := by decide +kernel
theorem dL_rise_20 : decode cL_rise 20 = .ok (.ireturn, 1) := by decide +kernel
theorem dL_rise_21 : decode cL_rise 21 = .ok (.iconst 0, 1) := by decide +kernel
theorem dL_rise_22 : decode cL_rise 22 = .ok (.ireturn, 1) := by decide +kernel
set_option maxRecDepth 20000 in
theorem ggL_style_X8_style : GoodIn wsL_style wsX8_style := goodIn_ca (goodIn_ca (goodIn_r _ [7, 8, 9, 10, 11, 12, 13, 14, 15, 16, 17, 6, 18, 19, 20, 21, 22, 23, 24, 25, 26, 27, 28, 29, 30, 31, 32, 33, 34, 35] (by decide +kernel) (by decide +kernel)) (goodIn_sub (fun _ h => List.mem_cons_of_mem _ (List.mem_append_left _ (List.mem_append_right _ h))) (by decide +kernel))) (goodIn_sub (fun _ h => List.mem_cons_of_mem _ (List.mem_append_right _ h)) (by decide +kernel))
set_option maxRecDepth 20000 in
theorem gL_style_X8_style : GoodIn wsL_style (wsV RL 30 RX8 yX8_style wsX8_style) := goodIn_app (goodIn_of _ (by decide +kernel)) ggL_style_X8_style
theorem dL_style_0 : decode cL_style 0 = .ok (.aload_n 0, 1) := by decide +kernel
theorem dL_style_1 : decode cL_style 1 = .ok (.iload_n 1, 1) := by decide +kernel
theorem dL_style_2 : decode cL_style 2 = .ok (.iload_n 2, 1) := by decide +kernel
theorem dL_style_3 : decode cL_style 3 = .ok (.iload_n 3, 1) := by decide +kernel
theorem dL_style_4 : decode cL_style 4 = .ok (.iload 4, 2) := by decide +kernel
theorem dL_style_6 : decode cL_style 6 = .ok (.invokevirtual 30, 3) := by decide +kernel
theorem dL_style_9 : decode cL_style 9 = .ok (.goto 11, 3) := by decide +kernel
theorem dL_style_12 : decode cL_style 12 = .ok (.astore 5, 2) := by decide +kernel
theorem dL_style_14 : decode cL_style 14 = .ok (.iconst 1, 1) := by decide +kernel
theorem dL_style_15 : decode cL_style 15 = .ok (.ireturn, 1) := by decide +kernel
theorem dL_style_16 : decode cL_style 16 = .ok (.astore 5, 2) := by decide +kernel
theorem dL_style_18 : decode cL_style 18 = .ok (.iconst 2, 1) := by decide +kernel
theorem dL_style_19 : decode cL_style 19 = .ok (.ireturn, 1) := by decide +kernel
theorem dL_style_20 : decode cL_style 20 = .ok (.iconst 0, 1) := by decide +kernel
theorem dL_style_21 : decode cL_style 21 = .ok (.ireturn, 1) := by decide +kernel
set_option maxRecDepth 20000 in
theorem ggL_learn_X8_learn : GoodIn wsL_learn wsX8_learn := goodIn_ca (goodIn_ca (goodIn_r _ [7, 8, 9, 10, 11, 12, 13, 14, 15, 6, 16, 17, 18, 19, 20, 21, 22, 23, 24, 25, 26, 27, 28, 29, 30, 31, 32, 33, 34, 35, 36, 37, 38, 39, 40, 41, 42, 43, 44, 45, 46, 47] (by decide +kernel) (by decide +kernel)) (goodIn_sub (fun _ h => List.mem_cons_of_mem _ (List.mem_append_left _ (List.mem_append_right _ h))) (by decide +kernel))) (goodIn_sub (fun _ h => List.mem_cons_of_mem _ (List.mem_append_right _ h)) (by decide +kernel))
set_option maxRecDepth 20000 in
theorem gL_learn_X8_learn : GoodIn wsL_learn (wsV RL 34 RX8 yX8_learn wsX8_learn) := goodIn_app (goodIn_of _ (by decide +kernel)) ggL_learn_X8_learn
theorem dL_learn_0 : decode cL_learn 0 = .ok (.aload_n 3, 1) := by decide +kernel
theorem dL_learn_1 : decode cL_learn 1 = .ok (.iconst 0, 1) := by decide +kernel
theorem dL_learn_2 : decode cL_learn 2 = .ok (.aload_n 0, 1) := by decide +kernel
theorem dL_learn_3 : decode cL_learn 3 = .ok (.iload_n 1, 1) := by decide +kernel
theorem dL_learn_4 : decode cL_learn 4 = .ok (.iload_n 2, 1) := by decide +kernel
theorem dL_learn_5 : decode cL_learn 5 = .ok (.invokevirtual 34, 3) := by decide +kernel
theorem dL_learn_8 : decode cL_learn 8 = .ok (.i2l, 1) := by decide +kernel
theorem dL_learn_9 : decode cL_learn 9 = .ok (.lastore, 1) := by decide +kernel
theorem dL_learn_10 : decode cL_learn 10 = .ok (.goto 11, 3) := by decide +kernel
theorem dL_learn_13 : decode cL_learn 13 = .ok (.astore 4, 2) := by decide +kernel
theorem dL_learn_15 : decode cL_learn 15 = .ok (.iconst 1, 1) := by decide +kernel
theorem dL_learn_16 : decode cL_learn 16 = .ok (.ireturn, 1) := by decide +kernel
theorem dL_learn_17 : decode cL_learn 17 = .ok (.astore 4, 2) := by decide +kernel
theorem dL_learn_19 : decode cL_learn 19 = .ok (.iconst 2, 1) := by decide +kernel
theorem dL_learn_20 : decode cL_learn 20 = .ok (.ireturn, 1) := by decide +kernel
theorem dL_learn_21 : decode cL_learn 21 = .ok (.iconst 0, 1) := by decide +kernel
theorem dL_learn_22 : decode cL_learn 22 = .ok (.ireturn, 1) := by decide +kernel
set_option maxRecDepth 20000 in
theorem ggL_pass_X8_pass : GoodIn wsL_pass wsX8_pass := goodIn_ca (goodIn_ca (goodIn_r _ [7, 8, 9, 10, 11, 12, 13, 14, 15, 6, 16, 17, 18, 19, 20, 21, 22, 23, 24, 25, 26, 27, 28, 29, 30, 31, 32, 33, 34, 35, 36, 37, 38, 39, 40, 41, 42, 43] (by decide +kernel) (by decide +kernel)) (goodIn_sub (fun _ h => List.mem_cons_of_mem _ (List.mem_append_left _ (List.mem_append_right _ h))) (by decide +kernel))) (goodIn_sub (fun _ h => List.mem_cons_of_mem _ (List.mem_append_right _ h)) (by decide +kernel))
set_option maxRecDepth 20000 in
theorem gL_pass_X8_pass : GoodIn wsL_pass (wsV RL 37 RX8 yX8_pass wsX8_pass) := goodIn_app (goodIn_of _ (by decide +kernel)) ggL_pass_X8_pass
theorem dL_pass_0 : decode cL_pass 0 = .ok (.aload_n 2, 1) := by decide +kernel
theorem dL_pass_1 : decode cL_pass 1 = .ok (.iconst 0, 1) := by decide +kernel
theorem dL_pass_2 : decode cL_pass 2 = .ok (.aload_n 0, 1) := by decide +kernel
theorem dL_pass_3 : decode cL_pass 3 = .ok (.iload_n 1, 1) := by decide +kernel
theorem dL_pass_4 : decode cL_pass 4 = .ok (.invokevirtual 37, 3) := by decide +kernel
theorem dL_pass_7 : decode cL_pass 7 = .ok (.i2l, 1) := by decide +kernel
theorem dL_pass_8 : decode cL_pass 8 = .ok (.lastore, 1) := by decide +kernel
theorem dL_pass_9 : decode cL_pass 9 = .ok (.goto 9, 3) := by decide +kernel
theorem dL_pass_12 : decode cL_pass 12 = .ok (.astore_n 3, 1) := by decide +kernel
theorem dL_pass_13 : decode cL_pass 13 = .ok (.iconst 1, 1) := by decide +kernel
theorem dL_pass_14 : decode cL_pass 14 = .ok (.ireturn, 1) := by decide +kernel
theorem dL_pass_15 : decode cL_pass 15 = .ok (.astore_n 3, 1) := by decide +kernel
theorem dL_pass_16 : decode cL_pass 16 = .ok (.iconst 2, 1) := by decide +kernel
theorem dL_pass_17 : decode cL_pass 17 = .ok (.ireturn, 1) := by decide +kernel
theorem dL_pass_18 : decode cL_pass 18 = .ok (.iconst 0, 1) := by decide +kernel
theorem dL_pass_19 : decode cL_pass 19 = .ok (.ireturn, 1) := by decide +kernel
set_option maxRecDepth 20000 in
theorem ggL_duel_X8_duel : GoodIn wsL_duel wsX8_duel := goodIn_ca (goodIn_ca (goodIn_ca (goodIn_r _ [8, 9, 10, 11, 12, 13, 14, 15, 16, 17, 18, 19, 20, 21, 22, 23, 7, 24, 25, 26, 27, 28, 29, 30, 31, 32, 33, 34, 35, 36, 37, 38, 39, 40, 41, 42, 43, 44, 45, 46, 47, 48, 49, 50, 51, 52, 53, 54, 55, 56, 57, 58, 59, 60, 61, 62, 63, 64, 65, 66, 67, 68, 69, 70, 71, 72, 73, 74, 75, 76, 77, 78] (by decide +kernel) (by decide +kernel)) (goodIn_sub (fun _ h => List.mem_cons_of_mem _ (List.mem_append_left _ (List.mem_append_left _ (List.mem_append_right _ h)))) (by decide +kernel))) (goodIn_sub (fun _ h => List.mem_cons_of_mem _ (List.mem_append_left _ (List.mem_append_right _ h))) (by decide +kernel))) (goodIn_sub (fun _ h => List.mem_cons_of_mem _ (List.mem_append_right _ h)) (by decide +kernel))
set_option maxRecDepth 20000 in
theorem gL_duel_X8_duel : GoodIn wsL_duel (wsV RL 41 RX8 yX8_duel wsX8_duel) := goodIn_app (goodIn_of _ (by decide +kernel)) ggL_duel_X8_duel
theorem dL_duel_0 : decode cL_duel 0 = .ok (.aload 7, 2) := by decide +kernel
theorem dL_duel_2 : decode cL_duel 2 = .ok (.iconst 0, 1) := by decide +kernel
theorem dL_duel_3 : decode cL_duel 3 = .ok (.aload_n 0, 1) := by decide +kernel
theorem dL_duel_4 : decode cL_duel 4 = .ok (.iload_n 1, 1) := by decide +kernel
theorem dL_duel_5 : decode cL_duel 5 = .ok (.iload_n 2, 1) := by decide +kernel
theorem dL_duel_6 : decode cL_duel 6 = .ok (.iload_n 3, 1) := by decide +kernel
theorem dL_duel_7 : decode cL_duel 7 = .ok (.iload 4, 2) := by decide +kernel
theorem dL_duel_9 : decode cL_duel 9 = .ok (.iload 5, 2) := by decide +kernel
theorem dL_duel_11 : decode cL_duel 11 = .ok (.iload 6, 2) := by decide +kernel
theorem dL_duel_13 : decode cL_duel 13 = .ok (.invokevirtual 41, 3) := by decide +kernel
theorem dL_duel_16 : decode cL_duel 16 = .ok (.i2l, 1) := by decide +kernel
theorem dL_duel_17 : decode cL_duel 17 = .ok (.lastore, 1) := by decide +kernel
theorem dL_duel_18 : decode cL_duel 18 = .ok (.goto 15, 3) := by decide +kernel
theorem dL_duel_21 : decode cL_duel 21 = .ok (.astore 8, 2) := by decide +kernel
theorem dL_duel_23 : decode cL_duel 23 = .ok (.iconst 1, 1) := by decide +kernel
theorem dL_duel_24 : decode cL_duel 24 = .ok (.ireturn, 1) := by decide +kernel
theorem dL_duel_25 : decode cL_duel 25 = .ok (.astore 8, 2) := by decide +kernel
theorem dL_duel_27 : decode cL_duel 27 = .ok (.iconst 2, 1) := by decide +kernel
theorem dL_duel_28 : decode cL_duel 28 = .ok (.ireturn, 1) := by decide +kernel
theorem dL_duel_29 : decode cL_duel 29 = .ok (.astore 8, 2) := by decide +kernel
theorem dL_duel_31 : decode cL_duel 31 = .ok (.iconst 3, 1) := by decide +kernel
theorem dL_duel_32 : decode cL_duel 32 = .ok (.ireturn, 1) := by decide +kernel
theorem dL_duel_33 : decode cL_duel 33 = .ok (.iconst 0, 1) := by decide +kernel
theorem dL_duel_34 : decode cL_duel 34 = .ok (.ireturn, 1) := by decide +kernel
set_option maxRecDepth 20000 in
theorem ggL_hand_X8_hand : GoodIn wsL_hand wsX8_hand := goodIn_ca (goodIn_ca (goodIn_ca (goodIn_r _ [8, 9, 10, 11, 12, 13, 14, 15, 16, 17, 18, 19, 20, 21, 22, 23, 24, 25, 26, 27, 7, 28, 29, 30, 31, 32, 33, 34, 35, 36, 37, 38, 39, 40, 41, 42, 43, 44, 45, 46, 47, 48, 49, 50, 51, 52, 53, 54, 55, 56, 57, 58, 59, 60, 61, 62, 63, 64, 65, 66, 67, 68, 69, 70, 71, 72, 73, 74, 75, 76, 77, 78, 79, 80, 81, 82, 83, 84, 85, 86, 87, 88, 89, 90, 91, 92, 93, 94, 95, 96, 97, 98, 99, 100, 101, 102, 103, 104, 105, 106, 107, 108, 109, 110, 111, 112, 113, 114, 115, 116, 117, 118, 119, 120, 121, 122, 123, 124, 125, 126, 127, 128, 129, 130, 131, 132, 133, 134, 135, 136, 137, 138, 139, 140, 141, 142, 143, 144, 145, 146, 147, 148, 149, 150, 151, 152, 153, 154, 155, 156, 157, 158, 159, 160, 161, 162, 163, 164] (by decide +kernel) (by decide +kernel)) (goodIn_sub (fun _ h => List.mem_cons_of_mem _ (List.mem_append_left _ (List.mem_append_left _ (List.mem_append_right _ h)))) (by decide +kernel))) (goodIn_sub (fun _ h => List.mem_cons_of_mem _ (List.mem_append_left _ (List.mem_append_right _ h))) (by decide +kernel))) (goodIn_sub (fun _ h => List.mem_cons_of_mem _ (List.mem_append_right _ h)) (by decide +kernel))
set_option maxRecDepth 20000 in
theorem gL_hand_X8_hand : GoodIn wsL_hand (wsV RL 45 RX8 yX8_hand wsX8_hand) := goodIn_app (goodIn_of _ (by decide +kernel)) ggL_hand_X8_hand
theorem dL_hand_0 : decode cL_hand 0 = .ok (.aload_n 3, 1) := by decide +kernel
theorem dL_hand_1 : decode cL_hand 1 = .ok (.iconst 0, 1) := by decide +kernel
theorem dL_hand_2 : decode cL_hand 2 = .ok (.aload_n 0, 1) := by decide +kernel
theorem dL_hand_3 : decode cL_hand 3 = .ok (.iload_n 1, 1) := by decide +kernel
theorem dL_hand_4 : decode cL_hand 4 = .ok (.iload_n 2, 1) := by decide +kernel
theorem dL_hand_5 : decode cL_hand 5 = .ok (.invokevirtual 45, 3) := by decide +kernel
theorem dL_hand_8 : decode cL_hand 8 = .ok (.i2l, 1) := by decide +kernel
theorem dL_hand_9 : decode cL_hand 9 = .ok (.lastore, 1) := by decide +kernel
theorem dL_hand_10 : decode cL_hand 10 = .ok (.goto 15, 3) := by decide +kernel
theorem dL_hand_13 : decode cL_hand 13 = .ok (.astore 4, 2) := by decide +kernel
theorem dL_hand_15 : decode cL_hand 15 = .ok (.iconst 1, 1) := by decide +kernel
theorem dL_hand_16 : decode cL_hand 16 = .ok (.ireturn, 1) := by decide +kernel
theorem dL_hand_17 : decode cL_hand 17 = .ok (.astore 4, 2) := by decide +kernel
theorem dL_hand_19 : decode cL_hand 19 = .ok (.iconst 2, 1) := by decide +kernel
theorem dL_hand_20 : decode cL_hand 20 = .ok (.ireturn, 1) := by decide +kernel
theorem dL_hand_21 : decode cL_hand 21 = .ok (.astore 4, 2) := by decide +kernel
theorem dL_hand_23 : decode cL_hand 23 = .ok (.iconst 3, 1) := by decide +kernel
theorem dL_hand_24 : decode cL_hand 24 = .ok (.ireturn, 1) := by decide +kernel
theorem dL_hand_25 : decode cL_hand 25 = .ok (.iconst 0, 1) := by decide +kernel
theorem dL_hand_26 : decode cL_hand 26 = .ok (.ireturn, 1) := by decide +kernel
set_option maxRecDepth 20000 in
theorem ggL_look_X8_look : GoodIn wsL_look wsX8_look := goodIn_ca (goodIn_r _ [6, 7, 8, 9, 10, 11, 12, 13, 5, 14, 15, 16, 17, 18, 19, 20, 21, 22, 23, 24, 25, 26, 27, 28, 29, 30, 31, 32, 33, 34, 35, 36, 37, 38, 39, 40, 41, 42, 43, 44, 45] (by decide +kernel) (by decide +kernel)) (goodIn_sub (fun _ h => List.mem_cons_of_mem _ (List.mem_append_right _ h)) (by decide +kernel))
set_option maxRecDepth 20000 in
theorem gL_look_X8_look : GoodIn wsL_look (wsV RL 48 RX8 yX8_look wsX8_look) := goodIn_app (goodIn_of _ (by decide +kernel)) ggL_look_X8_look
theorem dL_look_0 : decode cL_look 0 = .ok (.aload 4, 2) := by decide +kernel
theorem dL_look_2 : decode cL_look 2 = .ok (.iconst 0, 1) := by decide +kernel
theorem dL_look_3 : decode cL_look 3 = .ok (.aload_n 0, 1) := by decide +kernel
theorem dL_look_4 : decode cL_look 4 = .ok (.iload_n 1, 1) := by decide +kernel
theorem dL_look_5 : decode cL_look 5 = .ok (.iload_n 2, 1) := by decide +kernel
theorem dL_look_6 : decode cL_look 6 = .ok (.iload_n 3, 1) := by decide +kernel
theorem dL_look_7 : decode cL_look 7 = .ok (.invokevirtual 48, 3) := by decide +kernel
theorem dL_look_10 : decode cL_look 10 = .ok (.ifCond .eq 7, 3) := by decide +kernel
theorem dL_look_13 : decode cL_look 13 = .ok (.lconst 1, 1) := by decide +kernel
theorem dL_look_14 : decode cL_look 14 = .ok (.goto 4, 3) := by decide +kernel
theorem dL_look_17 : decode cL_look 17 = .ok (.lconst 0, 1) := by decide +kernel
theorem dL_look_18 : decode cL_look 18 = .ok (.lastore, 1) := by decide +kernel
theorem dL_look_19 : decode cL_look 19 = .ok (.goto 7, 3) := by decide +kernel
theorem dL_look_22 : decode cL_look 22 = .ok (.astore 5, 2) := by decide +kernel
theorem dL_look_24 : decode cL_look 24 = .ok (.iconst 1, 1) := by decide +kernel
theorem dL_look_25 : decode cL_look 25 = .ok (.ireturn, 1) := by decide +kernel
theorem dL_look_26 : decode cL_look 26 = .ok (.iconst 0, 1) := by decide +kernel
theorem dL_look_27 : decode cL_look 27 = .ok (.ireturn, 1) := by decide +kernel
set_option maxRecDepth 20000 in
theorem ggL_appeal_X8_appeal : GoodIn wsL_appeal wsX8_appeal := goodIn_ca (goodIn_ca (goodIn_r _ [7, 8, 9, 10, 11, 12, 13, 14, 15, 16, 6, 17, 18, 19, 20, 21, 22, 23, 24, 25, 26, 27, 28, 29, 30, 31, 32, 33, 34, 35, 36, 37, 38, 39, 40, 41, 42, 43, 44, 45, 46, 47, 48, 49, 50, 51, 52, 53, 54, 55, 56, 57, 58, 59, 60, 61, 62, 63, 64, 65, 66, 67, 68, 69, 70, 71, 72, 73, 74, 75, 76, 77, 78, 79, 80, 81, 82, 83, 84, 85, 86, 87, 88, 89, 90, 91, 92, 93, 94, 95, 96, 97, 98, 99, 100, 101, 102, 103, 104, 105, 106, 107, 108, 109, 110, 111, 112] (by decide +kernel) (by decide +kernel)) (goodIn_sub (fun _ h => List.mem_cons_of_mem _ (List.mem_append_left _ (List.mem_append_right _ h))) (by decide +kernel))) (goodIn_sub (fun _ h => List.mem_cons_of_mem _ (List.mem_append_right _ h)) (by decide +kernel))
set_option maxRecDepth 20000 in
theorem gL_appeal_X8_appeal : GoodIn wsL_appeal (wsV RL 52 RX8 yX8_appeal wsX8_appeal) := goodIn_app (goodIn_of _ (by decide +kernel)) ggL_appeal_X8_appeal
theorem dL_appeal_0 : decode cL_appeal 0 = .ok (.aload_n 3, 1) := by decide +kernel
theorem dL_appeal_1 : decode cL_appeal 1 = .ok (.iconst 0, 1) := by decide +kernel
theorem dL_appeal_2 : decode cL_appeal 2 = .ok (.aload_n 0, 1) := by decide +kernel
theorem dL_appeal_3 : decode cL_appeal 3 = .ok (.iload_n 1, 1) := by decide +kernel
theorem dL_appeal_4 : decode cL_appeal 4 = .ok (.iload_n 2, 1) := by decide +kernel
theorem dL_appeal_5 : decode cL_appeal 5 = .ok (.invokevirtual 52, 3) := by decide +kernel
theorem dL_appeal_8 : decode cL_appeal 8 = .ok (.i2l, 1) := by decide +kernel
theorem dL_appeal_9 : decode cL_appeal 9 = .ok (.lastore, 1) := by decide +kernel
theorem dL_appeal_10 : decode cL_appeal 10 = .ok (.goto 11, 3) := by decide +kernel
theorem dL_appeal_13 : decode cL_appeal 13 = .ok (.astore 4, 2) := by decide +kernel
theorem dL_appeal_15 : decode cL_appeal 15 = .ok (.iconst 1, 1) := by decide +kernel
theorem dL_appeal_16 : decode cL_appeal 16 = .ok (.ireturn, 1) := by decide +kernel
theorem dL_appeal_17 : decode cL_appeal 17 = .ok (.astore 4, 2) := by decide +kernel
theorem dL_appeal_19 : decode cL_appeal 19 = .ok (.iconst 2, 1) := by decide +kernel
theorem dL_appeal_20 : decode cL_appeal 20 = .ok (.ireturn, 1) := by decide +kernel
theorem dL_appeal_21 : decode cL_appeal 21 = .ok (.iconst 0, 1) := by decide +kernel
theorem dL_appeal_22 : decode cL_appeal 22 = .ok (.ireturn, 1) := by decide +kernel
set_option maxRecDepth 20000 in
theorem ggL_prompt_X8_prompt : GoodIn wsL_prompt wsX8_prompt := goodIn_ca (goodIn_r _ [6, 7, 8, 9, 10, 11, 5, 12, 13, 14, 15, 16, 17, 18, 19, 20, 21, 22, 23, 24, 25, 26, 27, 28, 29, 30, 31, 32, 33, 34, 35, 36, 37, 38, 39] (by decide +kernel) (by decide +kernel)) (goodIn_sub (fun _ h => List.mem_cons_of_mem _ (List.mem_append_right _ h)) (by decide +kernel))
set_option maxRecDepth 20000 in
theorem gL_prompt_X8_prompt : GoodIn wsL_prompt (wsV RL 55 RX8 yX8_prompt wsX8_prompt) := goodIn_app (goodIn_of _ (by decide +kernel)) ggL_prompt_X8_prompt
theorem dL_prompt_0 : decode cL_prompt 0 = .ok (.aload_n 3, 1) := by decide +kernel
theorem dL_prompt_1 : decode cL_prompt 1 = .ok (.iconst 0, 1) := by decide +kernel
theorem dL_prompt_2 : decode cL_prompt 2 = .ok (.aload_n 0, 1) := by decide +kernel
theorem dL_prompt_3 : decode cL_prompt 3 = .ok (.iload_n 1, 1) := by decide +kernel
theorem dL_prompt_4 : decode cL_prompt 4 = .ok (.iload_n 2, 1) := by decide +kernel
theorem dL_prompt_5 : decode cL_prompt 5 = .ok (.invokevirtual 55, 3) := by decide +kernel
theorem dL_prompt_8 : decode cL_prompt 8 = .ok (.i2l, 1) := by decide +kernel
theorem dL_prompt_9 : decode cL_prompt 9 = .ok (.lastore, 1) := by decide +kernel
end
section
theorem dL_prompt_10 : decode cL_prompt 10 = .ok (.goto 7, 3) := by decide +kernel
theorem dL_prompt_13 : decode cL_prompt 13 = .ok (.astore 4, 2) := by decide +kernel
theorem dL_prompt_15 : decode cL_prompt 15 = .ok (.iconst 1, 1) := by decide +kernel
theorem dL_prompt_16 : decode cL_prompt 16 = .ok (.ireturn, 1) := by decide +kernel
theorem dL_prompt_17 : decode cL_prompt 17 = .ok (.iconst 0, 1) := by decide +kernel
theorem dL_prompt_18 : decode cL_prompt 18 = .ok (.ireturn, 1) := by decide +kernel
set_option maxRecDepth 20000 in
theorem ggL_mark_X8_mark : GoodIn wsL_mark wsX8_mark := goodIn_ca (goodIn_r _ [6, 7, 8, 9, 10, 11, 12, 13, 14, 15, 5, 16, 17, 18, 19, 20, 21, 22, 23, 24, 25, 26, 27, 28, 29, 30, 31, 32, 33, 34, 35, 36, 37, 38, 39, 40, 41, 42, 43, 44, 45, 46, 47, 48, 49, 50, 51, 52, 53, 54, 55, 56, 57, 58, 59, 60, 61, 62, 63, 64, 65, 66, 67, 68, 69, 70, 71, 72, 73, 74, 75, 76, 77, 78, 79, 80, 81, 82, 83, 84, 85, 86, 87, 88, 89, 90, 91, 92, 93, 94, 95, 96, 97, 98, 99, 100, 101, 102, 103, 104, 105, 106, 107, 108, 109, 110, 111, 112, 113, 114, 115, 116] (by decide +kernel) (by decide +kernel)) (goodIn_sub (fun _ h => List.mem_cons_of_mem _ (List.mem_append_right _ h)) (by decide +kernel))
set_option maxRecDepth 20000 in
theorem gL_mark_X8_mark : GoodIn wsL_mark (wsV RL 58 RX8 yX8_mark wsX8_mark) := goodIn_app (goodIn_of _ (by decide +kernel)) ggL_mark_X8_mark
theorem dL_mark_0 : decode cL_mark 0 = .ok (.aload_n 3, 1) := by decide +kernel
theorem dL_mark_1 : decode cL_mark 1 = .ok (.iconst 0, 1) := by decide +kernel
theorem dL_mark_2 : decode cL_mark 2 = .ok (.aload_n 0, 1) := by decide +kernel
theorem dL_mark_3 : decode cL_mark 3 = .ok (.iload_n 1, 1) := by decide +kernel
theorem dL_mark_4 : decode cL_mark 4 = .ok (.iload_n 2, 1) := by decide +kernel
theorem dL_mark_5 : decode cL_mark 5 = .ok (.invokevirtual 58, 3) := by decide +kernel
theorem dL_mark_8 : decode cL_mark 8 = .ok (.f2d, 1) := by decide +kernel
theorem dL_mark_9 : decode cL_mark 9 = .ok (.dastore, 1) := by decide +kernel
theorem dL_mark_10 : decode cL_mark 10 = .ok (.goto 7, 3) := by decide +kernel
theorem dL_mark_13 : decode cL_mark 13 = .ok (.astore 4, 2) := by decide +kernel
theorem dL_mark_15 : decode cL_mark 15 = .ok (.iconst 1, 1) := by decide +kernel
theorem dL_mark_16 : decode cL_mark 16 = .ok (.ireturn, 1) := by decide +kernel
theorem dL_mark_17 : decode cL_mark 17 = .ok (.iconst 0, 1) := by decide +kernel
theorem dL_mark_18 : decode cL_mark 18 = .ok (.ireturn, 1) := by decide +kernel
set_option maxRecDepth 20000 in
theorem ggL_part_X8_part : GoodIn wsL_part wsX8_part := goodIn_ca (goodIn_ca (goodIn_r _ [7, 8, 9, 10, 11, 12, 13, 14, 15, 16, 17, 18, 6, 19, 20, 21, 22, 23, 24, 25, 26, 27, 28, 29, 30, 31, 32, 33, 34, 35, 36, 37, 38, 39, 40, 41, 42, 43, 44, 45, 46, 47, 48, 49, 50, 51, 52, 53, 54, 55, 56, 57, 58, 59, 60, 61, 62, 63, 64, 65, 66, 67, 68, 69, 70, 71, 72, 73, 74, 75, 76, 77, 78, 79, 80, 81, 82, 83, 84, 85, 86] (by decide +kernel) (by decide +kernel)) (goodIn_sub (fun _ h => List.mem_cons_of_mem _ (List.mem_append_left _ (List.mem_append_right _ h))) (by decide +kernel))) (goodIn_sub (fun _ h => List.mem_cons_of_mem _ (List.mem_append_right _ h)) (by decide +kernel))
set_option maxRecDepth 20000 in
theorem gL_part_X8_part : GoodIn wsL_part (wsV RL 62 RX8 yX8_part wsX8_part) := goodIn_app (goodIn_of _ (by decide +kernel)) ggL_part_X8_part
theorem dL_part_0 : decode cL_part 0 = .ok (.aload 4, 2) := by decide +kernel
theorem dL_part_2 : decode cL_part 2 = .ok (.iconst 0, 1) := by decide +kernel
theorem dL_part_3 : decode cL_part 3 = .ok (.aload_n 0, 1) := by decide +kernel
theorem dL_part_4 : decode cL_part 4 = .ok (.iload_n 1, 1) := by decide +kernel
theorem dL_part_5 : decode cL_part 5 = .ok (.iload_n 2, 1) := by decide +kernel
theorem dL_part_6 : decode cL_part 6 = .ok (.iload_n 3, 1) := by decide +kernel
theorem dL_part_7 : decode cL_part 7 = .ok (.invokevirtual 62, 3) := by decide +kernel
theorem dL_part_10 : decode cL_part 10 = .ok (.f2d, 1) := by decide +kernel
theorem dL_part_11 : decode cL_part 11 = .ok (.dastore, 1) := by decide +kernel
theorem dL_part_12 : decode cL_part 12 = .ok (.goto 11, 3) := by decide +kernel
theorem dL_part_15 : decode cL_part 15 = .ok (.astore 5, 2) := by decide +kernel
theorem dL_part_17 : decode cL_part 17 = .ok (.iconst 1, 1) := by decide +kernel
theorem dL_part_18 : decode cL_part 18 = .ok (.ireturn, 1) := by decide +kernel
theorem dL_part_19 : decode cL_part 19 = .ok (.astore 5, 2) := by decide +kernel
theorem dL_part_21 : decode cL_part 21 = .ok (.iconst 2, 1) := by decide +kernel
theorem dL_part_22 : decode cL_part 22 = .ok (.ireturn, 1) := by decide +kernel
theorem dL_part_23 : decode cL_part 23 = .ok (.iconst 0, 1) := by decide +kernel
theorem dL_part_24 : decode cL_part 24 = .ok (.ireturn, 1) := by decide +kernel
set_option maxRecDepth 20000 in
theorem ggL_marked_X8_marked : GoodIn wsL_marked wsX8_marked := goodIn_ca (goodIn_r _ [6, 7, 8, 9, 10, 11, 5, 12, 13, 14, 15, 16, 17, 18, 19, 20, 21, 22, 23, 24, 25, 26, 27, 28, 29, 30, 31, 32, 33, 34, 35, 36, 37, 38, 39, 40, 41, 42, 43, 44, 45, 46, 47, 48, 49, 50, 51, 52, 53, 54, 55, 56, 57, 58, 59, 60, 61, 62, 63, 64, 65, 66, 67, 68, 69, 70, 71, 72, 73, 74, 75, 76, 77, 78, 79, 80, 81, 82, 83, 84, 85, 86, 87, 88, 89, 90, 91, 92] (by decide +kernel) (by decide +kernel)) (goodIn_sub (fun _ h => List.mem_cons_of_mem _ (List.mem_append_right _ h)) (by decide +kernel))
set_option maxRecDepth 20000 in
theorem gL_marked_X8_marked : GoodIn wsL_marked (wsV RL 66 RX8 yX8_marked wsX8_marked) := goodIn_app (goodIn_of _ (by decide +kernel)) ggL_marked_X8_marked
theorem dL_marked_0 : decode cL_marked 0 = .ok (.aload 4, 2) := by decide +kernel
theorem dL_marked_2 : decode cL_marked 2 = .ok (.iconst 0, 1) := by decide +kernel
theorem dL_marked_3 : decode cL_marked 3 = .ok (.aload_n 0, 1) := by decide +kernel
theorem dL_marked_4 : decode cL_marked 4 = .ok (.iload_n 1, 1) := by decide +kernel
theorem dL_marked_5 : decode cL_marked 5 = .ok (.iload_n 2, 1) := by decide +kernel
theorem dL_marked_6 : decode cL_marked 6 = .ok (.iload_n 3, 1) := by decide +kernel
theorem dL_marked_7 : decode cL_marked 7 = .ok (.invokevirtual 66, 3) := by decide +kernel
theorem dL_marked_10 : decode cL_marked 10 = .ok (.f2d, 1) := by decide +kernel
theorem dL_marked_11 : decode cL_marked 11 = .ok (.dastore, 1) := by decide +kernel
theorem dL_marked_12 : decode cL_marked 12 = .ok (.goto 7, 3) := by decide +kernel
theorem dL_marked_15 : decode cL_marked 15 = .ok (.astore 5, 2) := by decide +kernel
theorem dL_marked_17 : decode cL_marked 17 = .ok (.iconst 1, 1) := by decide +kernel
theorem dL_marked_18 : decode cL_marked 18 = .ok (.ireturn, 1) := by decide +kernel
theorem dL_marked_19 : decode cL_marked 19 = .ok (.iconst 0, 1) := by decide +kernel
theorem dL_marked_20 : decode cL_marked 20 = .ok (.ireturn, 1) := by decide +kernel
set_option maxRecDepth 20000 in
theorem ggL_of_X8_of : GoodIn wsL_of wsX8_of := goodIn_ca (goodIn_ca (goodIn_r _ [7, 8, 9, 10, 11, 12, 13, 14, 15, 16, 17, 6, 18, 19, 20, 21, 22, 23, 24, 25, 26, 27, 28, 29, 30, 31, 32, 33, 34, 35, 36, 37, 38, 39, 40, 41, 42, 43, 44, 45, 46, 47, 48, 49, 50, 51, 52, 53, 54, 55, 56, 57, 58, 59, 60, 61, 62, 63, 64, 65, 66, 67, 68, 69, 70, 71, 72, 73, 74, 75, 76, 77, 78, 79, 80, 81, 82, 83, 84, 85, 86, 87, 88, 89, 90, 91, 92, 93, 94, 95, 96, 97, 98, 99, 100, 101, 102, 103, 104, 105, 106, 107, 108, 109, 110, 111, 112, 113, 114, 115, 116, 117] (by decide +kernel) (by decide +kernel)) (goodIn_sub (fun _ h => List.mem_cons_of_mem _ (List.mem_append_left _ (List.mem_append_right _ h))) (by decide +kernel))) (goodIn_sub (fun _ h => List.mem_cons_of_mem _ (List.mem_append_right _ h)) (by decide +kernel))
set_option maxRecDepth 20000 in
theorem gL_of_X8_of : GoodIn wsL_of (wsV RL 70 RX8 yX8_of wsX8_of) := goodIn_app (goodIn_of _ (by decide +kernel)) ggL_of_X8_of
theorem dL_of_0 : decode cL_of 0 = .ok (.aload_n 3, 1) := by decide +kernel
theorem dL_of_1 : decode cL_of 1 = .ok (.iconst 0, 1) := by decide +kernel
theorem dL_of_2 : decode cL_of 2 = .ok (.aload_n 0, 1) := by decide +kernel
theorem dL_of_3 : decode cL_of 3 = .ok (.iload_n 1, 1) := by decide +kernel
theorem dL_of_4 : decode cL_of 4 = .ok (.iload_n 2, 1) := by decide +kernel
theorem dL_of_5 : decode cL_of 5 = .ok (.invokevirtual 70, 3) := by decide +kernel
theorem dL_of_8 : decode cL_of 8 = .ok (.i2l, 1) := by decide +kernel
theorem dL_of_9 : decode cL_of 9 = .ok (.lastore, 1) := by decide +kernel
theorem dL_of_10 : decode cL_of 10 = .ok (.goto 11, 3) := by decide +kernel
theorem dL_of_13 : decode cL_of 13 = .ok (.astore 4, 2) := by decide +kernel
theorem dL_of_15 : decode cL_of 15 = .ok (.iconst 1, 1) := by decide +kernel
theorem dL_of_16 : decode cL_of 16 = .ok (.ireturn, 1) := by decide +kernel
theorem dL_of_17 : decode cL_of 17 = .ok (.astore 4, 2) := by decide +kernel
theorem dL_of_19 : decode cL_of 19 = .ok (.iconst 2, 1) := by decide +kernel
theorem dL_of_20 : decode cL_of 20 = .ok (.ireturn, 1) := by decide +kernel
theorem dL_of_21 : decode cL_of 21 = .ok (.iconst 0, 1) := by decide +kernel
theorem dL_of_22 : decode cL_of 22 = .ok (.ireturn, 1) := by decide +kernel
set_option maxRecDepth 20000 in
theorem ggL_paper_X8_paper : GoodIn wsL_paper wsX8_paper := goodIn_ca (goodIn_ca (goodIn_r _ [7, 8, 9, 10, 11, 12, 13, 14, 15, 16, 6, 17, 18, 19, 20, 21, 22, 23, 24, 25, 26, 27, 28, 29, 30, 31] (by decide +kernel) (by decide +kernel)) (goodIn_sub (fun _ h => List.mem_cons_of_mem _ (List.mem_append_left _ (List.mem_append_right _ h))) (by decide +kernel))) (goodIn_sub (fun _ h => List.mem_cons_of_mem _ (List.mem_append_right _ h)) (by decide +kernel))
set_option maxRecDepth 20000 in
theorem gL_paper_X8_paper : GoodIn wsL_paper (wsV RL 73 RX8 yX8_paper wsX8_paper) := goodIn_app (goodIn_of _ (by decide +kernel)) ggL_paper_X8_paper
theorem dL_paper_0 : decode cL_paper 0 = .ok (.aload_n 3, 1) := by decide +kernel
theorem dL_paper_1 : decode cL_paper 1 = .ok (.iconst 0, 1) := by decide +kernel
theorem dL_paper_2 : decode cL_paper 2 = .ok (.aload_n 0, 1) := by decide +kernel
theorem dL_paper_3 : decode cL_paper 3 = .ok (.iload_n 1, 1) := by decide +kernel
theorem dL_paper_4 : decode cL_paper 4 = .ok (.iload_n 2, 1) := by decide +kernel
theorem dL_paper_5 : decode cL_paper 5 = .ok (.invokevirtual 73, 3) := by decide +kernel
theorem dL_paper_8 : decode cL_paper 8 = .ok (.i2l, 1) := by decide +kernel
theorem dL_paper_9 : decode cL_paper 9 = .ok (.lastore, 1) := by decide +kernel
theorem dL_paper_10 : decode cL_paper 10 = .ok (.goto 11, 3) := by decide +kernel
theorem dL_paper_13 : decode cL_paper 13 = .ok (.astore 4, 2) := by decide +kernel
theorem dL_paper_15 : decode cL_paper 15 = .ok (.iconst 1, 1) := by decide +kernel
theorem dL_paper_16 : decode cL_paper 16 = .ok (.ireturn, 1) := by decide +kernel
theorem dL_paper_17 : decode cL_paper 17 = .ok (.astore 4, 2) := by decide +kernel
theorem dL_paper_19 : decode cL_paper 19 = .ok (.iconst 2, 1) := by decide +kernel
theorem dL_paper_20 : decode cL_paper 20 = .ok (.ireturn, 1) := by decide +kernel
theorem dL_paper_21 : decode cL_paper 21 = .ok (.iconst 0, 1) := by decide +kernel
theorem dL_paper_22 : decode cL_paper 22 = .ok (.ireturn, 1) := by decide +kernel
set_option maxRecDepth 20000 in
theorem ggL_won_X8_won : GoodIn wsL_won wsX8_won := goodIn_ca (goodIn_r _ [6, 7, 8, 9, 10, 11, 5, 12, 13, 14, 15, 16, 17, 18, 19, 20, 21, 22, 23, 24, 25, 26, 27, 28, 29, 30, 31, 32, 33, 34, 35, 36, 37, 38, 39, 40, 41, 42, 43, 44, 45, 46, 47, 48, 49, 50, 51, 52, 53, 54, 55, 56, 57, 58, 59, 60, 61, 62, 63, 64, 65, 66, 67, 68, 69, 70, 71, 72, 73, 74, 75, 76, 77, 78, 79, 80, 81, 82, 83, 84, 85, 86, 87, 88, 89, 90, 91, 92, 93, 94, 95, 96, 97, 98, 99, 100, 101, 102, 103, 104, 105, 106, 107, 108, 109, 110, 111] (by decide +kernel) (by decide +kernel)) (goodIn_sub (fun _ h => List.mem_cons_of_mem _ (List.mem_append_right _ h)) (by decide +kernel))
set_option maxRecDepth 20000 in
theorem gL_won_X8_won : GoodIn wsL_won (wsV RL 76 RX8 yX8_won wsX8_won) := goodIn_app (goodIn_of _ (by decide +kernel)) ggL_won_X8_won
theorem dL_won_0 : decode cL_won 0 = .ok (.aload_n 2, 1) := by decide +kernel
theorem dL_won_1 : decode cL_won 1 = .ok (.iconst 0, 1) := by decide +kernel
theorem dL_won_2 : decode cL_won 2 = .ok (.aload_n 0, 1) := by decide +kernel
theorem dL_won_3 : decode cL_won 3 = .ok (.iload_n 1, 1) := by decide +kernel
theorem dL_won_4 : decode cL_won 4 = .ok (.invokevirtual 76, 3) := by decide +kernel
theorem dL_won_7 : decode cL_won 7 = .ok (.i2l, 1) := by decide +kernel
theorem dL_won_8 : decode cL_won 8 = .ok (.lastore, 1) := by decide +kernel
theorem dL_won_9 : decode cL_won 9 = .ok (.goto 6, 3) := by decide +kernel
theorem dL_won_12 : decode cL_won 12 = .ok (.astore_n 3, 1) := by decide +kernel
theorem dL_won_13 : decode cL_won 13 = .ok (.iconst 1, 1) := by decide +kernel
theorem dL_won_14 : decode cL_won 14 = .ok (.ireturn, 1) := by decide +kernel
theorem dL_won_15 : decode cL_won 15 = .ok (.iconst 0, 1) := by decide +kernel
theorem dL_won_16 : decode cL_won 16 = .ok (.ireturn, 1) := by decide +kernel
set_option maxRecDepth 20000 in
theorem ggL_law_X8_init : GoodIn wsL_law wsX8_init := goodIn_r _ [10, 11, 12, 13, 14, 15, 16, 17, 18, 19, 20, 21, 22, 23, 24, 25, 26, 27, 28, 29, 30, 31, 32, 33, 34, 35, 36, 37, 38, 39, 40, 41, 42, 43, 44, 45, 46, 47, 48, 49, 601, 602, 603, 604, 605, 606, 607, 608, 609, 610, 640, 641, 642, 643, 644, 645, 646, 647, 648] (by decide +kernel) (by decide +kernel)
set_option maxRecDepth 20000 in
theorem gL_law_X8_init : GoodIn wsL_law (wsX8_init) := ggL_law_X8_init
set_option maxRecDepth 20000 in
theorem ggL_law_X9_init : GoodIn wsL_law wsX9_init := goodIn_r _ [52, 53, 12, 13, 48, 54, 55, 56, 57, 58, 59, 60, 61, 62, 63, 64, 65, 66, 67, 68, 69, 70, 71, 72, 73, 74, 75, 76, 77, 611, 612, 613, 614, 615, 616, 617, 618, 619, 620, 621, 622, 623, 624, 625, 626, 627, 628, 629, 630, 631, 632, 633, 634, 635, 636, 637, 638, 639] (by decide +kernel) (by decide +kernel)
set_option maxRecDepth 20000 in
theorem gL_law_X9_init : GoodIn wsL_law (wsX9_init) := ggL_law_X9_init
set_option maxRecDepth 20000 in
theorem ggL_law_L_stroke : GoodIn wsL_law wsL_stroke := goodIn_ca (goodIn_ca (goodIn_r _ [81, 82, 83, 84, 85, 86, 2, 87, 88, 89, 90, 91, 26, 92, 93, 94, 95, 96, 97, 98, 99, 100, 101, 102, 103, 104, 105, 12, 13, 106, 107, 108, 109, 110, 111, 112, 25, 113, 114, 37, 601, 602, 603, 604, 605, 606, 607, 608, 609, 610, 640, 641, 649, 650, 651, 652] (by decide +kernel) (by decide +kernel)) (goodIn_sub (fun _ h => List.mem_append_left _ (List.mem_append_left _ (List.mem_append_right _ h))) (by decide +kernel))) (goodIn_sub (fun _ h => List.mem_append_left _ (List.mem_append_right _ h)) (by decide +kernel))
set_option maxRecDepth 20000 in
theorem gL_law_L_stroke : GoodIn wsL_law (va_wsS RL 83 yL_stroke wsL_stroke) := goodIn_app (goodIn_of _ (by decide +kernel)) ggL_law_L_stroke
set_option maxRecDepth 20000 in
theorem ggL_law_X9_stroke : GoodIn wsL_law wsX9_stroke := goodIn_r _ [118, 119, 54, 120, 121, 5, 122, 123, 124, 125, 126, 127, 611, 612, 613, 614, 615, 616, 617, 618, 619, 620, 621, 622, 623, 624, 625, 626, 627, 628, 629, 630, 631, 632, 633, 634, 635, 636, 637, 638, 639] (by decide +kernel) (by decide +kernel)
set_option maxRecDepth 20000 in
theorem gL_law_X9_stroke : GoodIn wsL_law (wsV RL 88 RX9 yX9_stroke wsX9_stroke) := goodIn_app (goodIn_of _ (by decide +kernel)) ggL_law_X9_stroke
set_option maxRecDepth 20000 in
theorem ggL_law_X9_thrown : GoodIn wsL_law wsX9_thrown := goodIn_r _ [131, 127, 611, 612, 613, 614, 615, 616, 617, 618, 619, 620, 621, 622, 623, 624, 625, 626, 627, 628, 629, 630, 631, 632, 633, 634, 635, 636, 637, 638, 639] (by decide +kernel) (by decide +kernel)
set_option maxRecDepth 20000 in
theorem gL_law_X9_thrown : GoodIn wsL_law (wsV RL 89 RX9 yX9_thrown wsX9_thrown) := goodIn_app (goodIn_of _ (by decide +kernel)) ggL_law_X9_thrown
set_option maxRecDepth 20000 in
theorem ggL_law_X8_clear : GoodIn wsL_law wsX8_clear := goodIn_r _ [135, 26, 92, 136, 137, 138, 25, 139, 114, 601, 602, 603, 604, 605, 606, 607, 608, 609, 610, 640, 641] (by decide +kernel) (by decide +kernel)
set_option maxRecDepth 20000 in
theorem gL_law_X8_clear : GoodIn wsL_law (wsV RL 92 RX8 yX8_clear wsX8_clear) := goodIn_app (goodIn_of _ (by decide +kernel)) ggL_law_X8_clear
set_option maxRecDepth 20000 in
theorem ggL_law_X9_clear : GoodIn wsL_law wsX9_clear := goodIn_r _ [143, 127, 119, 611, 612, 613, 614, 615, 616, 617, 618, 619, 620, 621, 622, 623, 624, 625, 626, 627, 628, 629, 630, 631, 632, 633, 634, 635, 636, 637, 638, 639] (by decide +kernel) (by decide +kernel)
set_option maxRecDepth 20000 in
theorem gL_law_X9_clear : GoodIn wsL_law (wsV RL 95 RX9 yX9_clear wsX9_clear) := goodIn_app (goodIn_of _ (by decide +kernel)) ggL_law_X9_clear
set_option maxRecDepth 20000 in
theorem ggL_law_L_sign : GoodIn wsL_law wsL_sign := goodIn_ca (goodIn_r _ [146, 83, 147, 148, 149, 2, 150, 90, 91, 26, 92, 151, 15, 14, 24, 25, 33, 34, 35, 12, 13, 36, 37, 601, 602, 603, 604, 605, 606, 607, 608, 609, 610, 640, 641] (by decide +kernel) (by decide +kernel)) (goodIn_sub (fun _ h => List.mem_append_left _ (List.mem_append_right _ h)) (by decide +kernel))
set_option maxRecDepth 20000 in
theorem gL_law_L_sign : GoodIn wsL_law (va_wsS RL 96 yL_sign wsL_sign) := goodIn_app (goodIn_of _ (by decide +kernel)) ggL_law_L_sign
set_option maxRecDepth 20000 in
theorem ggL_law_X9_sign : GoodIn wsL_law wsX9_sign := goodIn_r _ [155, 119, 156, 56, 54, 55, 120, 121, 5, 122, 123, 124, 125, 126, 127, 611, 612, 613, 614, 615, 616, 617, 618, 619, 620, 621, 622, 623, 624, 625, 626, 627, 628, 629, 630, 631, 632, 633, 634, 635, 636, 637, 638, 639] (by decide +kernel) (by decide +kernel)
set_option maxRecDepth 20000 in
theorem gL_law_X9_sign : GoodIn wsL_law (wsV RL 99 RX9 yX9_sign wsX9_sign) := goodIn_app (goodIn_of _ (by decide +kernel)) ggL_law_X9_sign
set_option maxRecDepth 20000 in
theorem ggL_law_L_buy : GoodIn wsL_law wsL_buy := goodIn_ca (goodIn_ca (goodIn_ca (goodIn_r _ [159, 160, 82, 83, 161, 162, 163, 2, 164, 165, 166, 88, 89, 90, 91, 167, 168, 169, 170, 171, 17, 99, 100, 101, 642, 643, 644, 601, 602, 603, 604, 605, 606, 607, 608, 609, 610] (by decide +kernel) (by decide +kernel)) (goodIn_sub (fun _ h => List.mem_append_right _ h) (by decide +kernel))) (goodIn_sub (fun _ h => List.mem_append_left _ (List.mem_append_left _ (List.mem_append_right _ h))) (by decide +kernel))) (goodIn_sub (fun _ h => List.mem_append_left _ (List.mem_append_right _ h)) (by decide +kernel))
set_option maxRecDepth 20000 in
theorem gL_law_L_buy : GoodIn wsL_law (va_wsS RL 100 yL_buy wsL_buy) := goodIn_app (goodIn_of _ (by decide +kernel)) ggL_law_L_buy
set_option maxRecDepth 20000 in
theorem ggL_law_X9_buy : GoodIn wsL_law wsX9_buy := goodIn_r _ [175, 57, 176, 177, 5, 178, 120, 121, 122, 123, 124, 125, 126, 127, 611, 612, 613, 614, 615, 616, 617, 618, 619, 620, 621, 622, 623, 624, 625, 626, 627, 628, 629, 630, 631, 632, 633, 634, 635, 636, 637, 638, 639] (by decide +kernel) (by decide +kernel)
set_option maxRecDepth 20000 in
theorem gL_law_X9_buy : GoodIn wsL_law (wsV RL 103 RX9 yX9_buy wsX9_buy) := goodIn_app (goodIn_of _ (by decide +kernel)) ggL_law_X9_buy
set_option maxRecDepth 20000 in
theorem ggL_law_L_rise : GoodIn wsL_law wsL_rise := goodIn_ca (goodIn_ca (goodIn_r _ [181, 160, 82, 182, 183, 184, 2, 185, 165, 166, 88, 89, 186, 187, 168, 169, 170, 171, 17, 99, 100, 101, 642, 643, 644, 601, 602, 603, 604, 605, 606, 607, 608, 609, 610] (by decide +kernel) (by decide +kernel)) (goodIn_sub (fun _ h => List.mem_append_right _ h) (by decide +kernel))) (goodIn_sub (fun _ h => List.mem_append_left _ (List.mem_append_left _ (List.mem_append_right _ h))) (by decide +kernel))
set_option maxRecDepth 20000 in
theorem gL_law_L_rise : GoodIn wsL_law (va_wsS RL 104 yL_rise wsL_rise) := goodIn_app (goodIn_of _ (by decide +kernel)) ggL_law_L_rise
set_option maxRecDepth 20000 in
theorem ggL_law_X9_rise : GoodIn wsL_law wsX9_rise := goodIn_r _ [191, 59, 58, 176, 177, 5, 178, 120, 121, 122, 123, 124, 125, 126, 127, 611, 612, 613, 614, 615, 616, 617, 618, 619, 620, 621, 622, 623, 624, 625, 626, 627, 628, 629, 630, 631, 632, 633, 634, 635, 636, 637, 638, 639] (by decide +kernel) (by decide +kernel)
set_option maxRecDepth 20000 in
theorem gL_law_X9_rise : GoodIn wsL_law (wsV RL 106 RX9 yX9_rise wsX9_rise) := goodIn_app (goodIn_of _ (by decide +kernel)) ggL_law_X9_rise
set_option maxRecDepth 20000 in
theorem ggL_law_L_style : GoodIn wsL_law wsL_style := goodIn_ca (goodIn_ca (goodIn_r _ [194, 160, 82, 195, 196, 197, 2, 198, 165, 166, 88, 89, 199, 200, 201, 202, 203, 204, 205, 19, 99, 100, 101, 645, 646, 647, 601, 602, 603, 604, 605, 606, 607, 608, 609, 610] (by decide +kernel) (by decide +kernel)) (goodIn_sub (fun _ h => List.mem_append_right _ h) (by decide +kernel))) (goodIn_sub (fun _ h => List.mem_append_left _ (List.mem_append_left _ (List.mem_append_right _ h))) (by decide +kernel))
set_option maxRecDepth 20000 in
theorem gL_law_L_style : GoodIn wsL_law (va_wsS RL 107 yL_style wsL_style) := goodIn_app (goodIn_of _ (by decide +kernel)) ggL_law_L_style
set_option maxRecDepth 20000 in
theorem ggL_law_X9_style : GoodIn wsL_law wsX9_style := goodIn_r _ [209, 60, 120, 121, 5, 122, 123, 124, 125, 126, 127, 611, 612, 613, 614, 615, 616, 617, 618, 619, 620, 621, 622, 623, 624, 625, 626, 627, 628, 629, 630, 631, 632, 633, 634, 635, 636, 637, 638, 639] (by decide +kernel) (by decide +kernel)
set_option maxRecDepth 20000 in
theorem gL_law_X9_style : GoodIn wsL_law (wsV RL 110 RX9 yX9_style wsX9_style) := goodIn_app (goodIn_of _ (by decide +kernel)) ggL_law_X9_style
set_option maxRecDepth 20000 in
theorem ggL_law_L_learn : GoodIn wsL_law wsL_learn := goodIn_ca (goodIn_ca (goodIn_r _ [212, 160, 83, 213, 214, 215, 2, 216, 165, 166, 90, 91, 217, 218, 219, 220, 221, 21, 202, 203, 204, 205, 19, 222, 223, 224, 32, 225, 49, 226, 227, 228, 229, 230, 231, 232, 233, 601, 602, 603, 604, 605, 606, 607, 608, 609, 610, 648] (by decide +kernel) (by decide +kernel)) (goodIn_sub (fun _ h => List.mem_append_right _ h) (by decide +kernel))) (goodIn_sub (fun _ h => List.mem_append_left _ (List.mem_append_right _ h)) (by decide +kernel))
set_option maxRecDepth 20000 in
theorem gL_law_L_learn : GoodIn wsL_law (va_wsS RL 111 yL_learn wsL_learn) := goodIn_app (goodIn_of _ (by decide +kernel)) ggL_law_L_learn
set_option maxRecDepth 20000 in
theorem ggL_law_X9_learn : GoodIn wsL_law wsX9_learn := goodIn_r _ [237, 61, 238, 120, 121, 5, 122, 123, 124, 125, 126, 127, 611, 612, 613, 614, 615, 616, 617, 618, 619, 620, 621, 622, 623, 624, 625, 626, 627, 628, 629, 630, 631, 632, 633, 634, 635, 636, 637, 638, 639] (by decide +kernel) (by decide +kernel)
set_option maxRecDepth 20000 in
theorem gL_law_X9_learn : GoodIn wsL_law (wsV RL 113 RX9 yX9_learn wsX9_learn) := goodIn_app (goodIn_of _ (by decide +kernel)) ggL_law_X9_learn
set_option maxRecDepth 20000 in
theorem ggL_law_L_pass : GoodIn wsL_law wsL_pass := goodIn_ca (goodIn_ca (goodIn_r _ [241, 82, 83, 242, 243, 244, 2, 245, 88, 89, 90, 91, 217, 17, 99, 100, 101, 246, 247, 248, 28, 249, 250, 251, 252, 253, 254, 255, 256, 257, 258, 601, 602, 603, 604, 605, 606, 607, 608, 609, 610, 642, 643, 644] (by decide +kernel) (by decide +kernel)) (goodIn_sub (fun _ h => List.mem_append_left _ (List.mem_append_left _ (List.mem_append_right _ h))) (by decide +kernel))) (goodIn_sub (fun _ h => List.mem_append_left _ (List.mem_append_right _ h)) (by decide +kernel))
set_option maxRecDepth 20000 in
theorem gL_law_L_pass : GoodIn wsL_law (va_wsS RL 114 yL_pass wsL_pass) := goodIn_app (goodIn_of _ (by decide +kernel)) ggL_law_L_pass
set_option maxRecDepth 20000 in
theorem ggL_law_X9_pass : GoodIn wsL_law wsX9_pass := goodIn_r _ [262, 238, 58, 59, 120, 121, 5, 122, 123, 124, 125, 126, 127, 611, 612, 613, 614, 615, 616, 617, 618, 619, 620, 621, 622, 623, 624, 625, 626, 627, 628, 629, 630, 631, 632, 633, 634, 635, 636, 637, 638, 639] (by decide +kernel) (by decide +kernel)
set_option maxRecDepth 20000 in
theorem gL_law_X9_pass : GoodIn wsL_law (wsV RL 117 RX9 yX9_pass wsX9_pass) := goodIn_app (goodIn_of _ (by decide +kernel)) ggL_law_X9_pass
set_option maxRecDepth 20000 in
theorem ggL_law_L_duel : GoodIn wsL_law wsL_duel := goodIn_ca (goodIn_ca (goodIn_ca (goodIn_r _ [265, 160, 82, 83, 266, 267, 268, 2, 269, 165, 166, 88, 89, 90, 91, 151, 270, 23, 22, 271, 272, 217, 273, 274, 275, 99, 100, 101, 218, 219, 220, 221, 21, 168, 169, 170, 171, 17, 276, 277, 278, 279, 12, 13, 48, 280, 281, 282, 283, 284, 285, 286, 287, 288, 289, 290, 291, 292, 293, 601, 602, 603, 604, 605, 606, 607, 608, 609, 610, 653, 654, 655, 656, 657, 658, 659, 660, 661, 662] (by decide +kernel) (by decide +kernel)) (goodIn_sub (fun _ h => List.mem_append_right _ h) (by decide +kernel))) (goodIn_sub (fun _ h => List.mem_append_left _ (List.mem_append_left _ (List.mem_append_right _ h))) (by decide +kernel))) (goodIn_sub (fun _ h => List.mem_append_left _ (List.mem_append_right _ h)) (by decide +kernel))
set_option maxRecDepth 20000 in
theorem gL_law_L_duel : GoodIn wsL_law (va_wsS RL 118 yL_duel wsL_duel) := goodIn_app (goodIn_of _ (by decide +kernel)) ggL_law_L_duel
set_option maxRecDepth 20000 in
theorem ggL_law_X9_duel : GoodIn wsL_law wsX9_duel := goodIn_r _ [297, 156, 298, 62, 63, 64, 65, 66, 67, 68, 69, 70, 238, 120, 121, 5, 122, 176, 177, 178, 123, 124, 125, 126, 127, 611, 612, 613, 614, 615, 616, 617, 618, 619, 620, 621, 622, 623, 624, 625, 626, 627, 628, 629, 630, 631, 632, 633, 634, 635, 636, 637, 638, 639] (by decide +kernel) (by decide +kernel)
set_option maxRecDepth 20000 in
theorem gL_law_X9_duel : GoodIn wsL_law (wsV RL 121 RX9 yX9_duel wsX9_duel) := goodIn_app (goodIn_of _ (by decide +kernel)) ggL_law_X9_duel
set_option maxRecDepth 20000 in
theorem ggL_law_L_hand : GoodIn wsL_law wsL_hand := goodIn_ca (goodIn_ca (goodIn_ca (goodIn_r _ [301, 160, 82, 83, 302, 303, 304, 2, 305, 165, 166, 88, 89, 90, 91, 306, 307, 26, 92, 167, 308, 309, 310, 311, 187, 312, 313, 314, 315, 23, 99, 100, 101, 316, 317, 318, 272, 319, 280, 320, 321, 322, 323, 15, 324, 325, 326, 327, 328, 288, 168, 169, 170, 171, 17, 329, 330, 331, 332, 284, 285, 333, 334, 335, 336, 337, 338, 339, 12, 13, 340, 341, 342, 343, 344, 345, 346, 347, 348, 349, 350, 351, 352, 353, 354, 355, 25, 356, 114, 37, 357, 358, 359, 95, 360, 106, 361, 362, 254, 363, 107, 108, 109, 364, 365, 366, 367, 368, 369, 370, 371, 372, 373, 374, 375, 376, 377, 378, 379, 380, 381, 382, 383, 384, 282, 136, 137, 138, 139, 653, 654, 655, 656, 657, 658, 659, 660, 661, 662, 601, 602, 603, 604, 605, 606, 607, 608, 609, 610, 640, 641, 642, 643, 644, 663, 664, 665, 666, 667, 668, 669, 649, 650, 651, 652] (by decide +kernel) (by decide +kernel)) (goodIn_sub (fun _ h => List.mem_append_right _ h) (by decide +kernel))) (goodIn_sub (fun _ h => List.mem_append_left _ (List.mem_append_left _ (List.mem_append_right _ h))) (by decide +kernel))) (goodIn_sub (fun _ h => List.mem_append_left _ (List.mem_append_right _ h)) (by decide +kernel))
set_option maxRecDepth 20000 in
theorem gL_law_L_hand : GoodIn wsL_law (va_wsS RL 122 yL_hand wsL_hand) := goodIn_app (goodIn_of _ (by decide +kernel)) ggL_law_L_hand
set_option maxRecDepth 20000 in
theorem ggL_law_X9_hand : GoodIn wsL_law wsX9_hand := goodIn_r _ [388, 119, 57, 66, 71, 389, 62, 63, 77, 54, 72, 73, 58, 75, 390, 391, 392, 5, 393, 298, 120, 121, 122, 394, 395, 396, 397, 67, 123, 124, 125, 126, 127, 611, 612, 613, 614, 615, 616, 617, 618, 619, 620, 621, 622, 623, 624, 625, 626, 627, 628, 629, 630, 631, 632, 633, 634, 635, 636, 637, 638, 639] (by decide +kernel) (by decide +kernel)
set_option maxRecDepth 20000 in
theorem gL_law_X9_hand : GoodIn wsL_law (wsV RL 124 RX9 yX9_hand wsX9_hand) := goodIn_app (goodIn_of _ (by decide +kernel)) ggL_law_X9_hand
set_option maxRecDepth 20000 in
theorem ggL_law_L_look : GoodIn wsL_law wsL_look := goodIn_ca (goodIn_r _ [400, 160, 401, 402, 403, 2, 404, 165, 166, 405, 406, 312, 313, 314, 315, 23, 407, 408, 409, 272, 410, 282, 663, 664, 665, 666, 601, 602, 603, 604, 605, 606, 607, 608, 609, 610, 653, 654, 655, 656, 657, 658, 659, 660, 661, 662] (by decide +kernel) (by decide +kernel)) (goodIn_sub (fun _ h => List.mem_append_right _ h) (by decide +kernel))
set_option maxRecDepth 20000 in
theorem gL_law_L_look : GoodIn wsL_law (va_wsS RL 125 yL_look wsL_look) := goodIn_app (goodIn_of _ (by decide +kernel)) ggL_law_L_look
set_option maxRecDepth 20000 in
theorem ggL_law_X9_look : GoodIn wsL_law wsX9_look := goodIn_r _ [414, 76, 75, 415, 416, 417, 5, 418, 71, 390, 391, 392, 393, 298, 120, 121, 122, 123, 124, 125, 126, 127, 419, 420, 421, 611, 612, 613, 614, 615, 616, 617, 618, 619, 620, 621, 622, 623, 624, 625, 626, 627, 628, 629, 630, 631, 632, 633, 634, 635, 636, 637, 638, 639] (by decide +kernel) (by decide +kernel)
set_option maxRecDepth 20000 in
theorem gL_law_X9_look : GoodIn wsL_law (wsV RL 128 RX9 yX9_look wsX9_look) := goodIn_app (goodIn_of _ (by decide +kernel)) ggL_law_X9_look
set_option maxRecDepth 20000 in
theorem ggL_law_L_appeal : GoodIn wsL_law wsL_appeal := goodIn_ca (goodIn_ca (goodIn_r _ [424, 160, 83, 425, 426, 427, 2, 428, 165, 166, 90, 91, 429, 430, 312, 313, 314, 315, 23, 218, 219, 220, 221, 21, 324, 325, 326, 272, 327, 328, 288, 431, 432, 433, 434, 435, 436, 437, 438, 439, 440, 406, 407, 408, 409, 410, 282, 441, 442, 443, 444, 445, 446, 447, 448, 449, 19, 222, 223, 224, 32, 225, 49, 450, 451, 452, 311, 453, 343, 341, 454, 455, 456, 347, 457, 458, 378, 459, 379, 460, 380, 461, 653, 654, 655, 656, 657, 658, 659, 660, 661, 662, 601, 602, 603, 604, 605, 606, 607, 608, 609, 610, 663, 664, 665, 666, 648, 645, 646, 647, 667, 668, 669] (by decide +kernel) (by decide +kernel)) (goodIn_sub (fun _ h => List.mem_append_right _ h) (by decide +kernel))) (goodIn_sub (fun _ h => List.mem_append_left _ (List.mem_append_right _ h)) (by decide +kernel))
set_option maxRecDepth 20000 in
theorem gL_law_L_appeal : GoodIn wsL_law (va_wsS RL 129 yL_appeal wsL_appeal) := goodIn_app (goodIn_of _ (by decide +kernel)) ggL_law_L_appeal
set_option maxRecDepth 20000 in
theorem ggL_law_X9_appeal : GoodIn wsL_law wsX9_appeal := goodIn_r _ [465, 65, 64, 390, 391, 392, 5, 393, 298, 120, 121, 122, 394, 395, 396, 397, 71, 67, 123, 124, 125, 126, 127, 466, 467, 468, 469, 62, 63, 470, 471, 472, 473, 474, 475, 476, 477, 76, 478, 479, 480, 481, 482, 483, 484, 485, 61, 70, 77, 72, 73, 486, 487, 488, 489, 68, 69, 490, 491, 492, 493, 55, 60, 56, 494, 495, 496, 497, 498, 499, 500, 501, 502, 503, 504, 505, 506, 507, 508, 509, 510, 511, 611, 612, 613, 614, 615, 616, 617, 618, 619, 620, 621, 622, 623, 624, 625, 626, 627, 628, 629, 630, 631, 632, 633, 634, 635, 636, 637, 638, 639] (by decide +kernel) (by decide +kernel)
set_option maxRecDepth 20000 in
theorem gL_law_X9_appeal : GoodIn wsL_law (wsV RL 131 RX9 yX9_appeal wsX9_appeal) := goodIn_app (goodIn_of _ (by decide +kernel)) ggL_law_X9_appeal
set_option maxRecDepth 20000 in
theorem ggL_law_L_prompt : GoodIn wsL_law wsL_prompt := goodIn_ca (goodIn_r _ [514, 160, 515, 516, 517, 2, 518, 165, 166, 312, 313, 314, 315, 23, 316, 317, 318, 272, 319, 280, 601, 602, 603, 604, 605, 606, 607, 608, 609, 610, 653, 654, 655, 656, 657, 658, 659, 660, 661, 662] (by decide +kernel) (by decide +kernel)) (goodIn_sub (fun _ h => List.mem_append_right _ h) (by decide +kernel))
set_option maxRecDepth 20000 in
theorem gL_law_L_prompt : GoodIn wsL_law (va_wsS RL 132 yL_prompt wsL_prompt) := goodIn_app (goodIn_of _ (by decide +kernel)) ggL_law_L_prompt
set_option maxRecDepth 20000 in
theorem ggL_law_X9_prompt : GoodIn wsL_law wsX9_prompt := goodIn_r _ [522, 67, 390, 391, 392, 5, 393, 298, 120, 121, 122, 123, 124, 125, 126, 127, 486, 487, 488, 489, 68, 69, 611, 612, 613, 614, 615, 616, 617, 618, 619, 620, 621, 622, 623, 624, 625, 626, 627, 628, 629, 630, 631, 632, 633, 634, 635, 636, 637, 638, 639] (by decide +kernel) (by decide +kernel)
set_option maxRecDepth 20000 in
theorem gL_law_X9_prompt : GoodIn wsL_law (wsV RL 134 RX9 yX9_prompt wsX9_prompt) := goodIn_app (goodIn_of _ (by decide +kernel)) ggL_law_X9_prompt
set_option maxRecDepth 20000 in
theorem ggL_law_L_mark : GoodIn wsL_law wsL_mark := goodIn_ca (goodIn_r _ [525, 160, 526, 527, 528, 2, 529, 165, 166, 309, 310, 311, 26, 320, 321, 322, 323, 15, 202, 203, 204, 205, 19, 336, 337, 338, 339, 12, 13, 340, 341, 342, 343, 344, 345, 346, 347, 348, 349, 350, 351, 352, 353, 354, 355, 25, 356, 114, 37, 357, 358, 359, 95, 360, 106, 361, 362, 254, 363, 107, 108, 109, 364, 365, 366, 367, 368, 369, 370, 371, 372, 373, 374, 375, 376, 377, 378, 379, 380, 450, 451, 452, 453, 454, 455, 456, 457, 458, 459, 460, 461, 663, 664, 665, 666, 601, 602, 603, 604, 605, 606, 607, 608, 609, 610, 640, 641, 667, 668, 669, 649, 650, 651, 652, 645, 646, 647] (by decide +kernel) (by decide +kernel)) (goodIn_sub (fun _ h => List.mem_append_right _ h) (by decide +kernel))
set_option maxRecDepth 20000 in
theorem gL_law_L_mark : GoodIn wsL_law (va_wsS RL 135 yL_mark wsL_mark) := goodIn_app (goodIn_of _ (by decide +kernel)) ggL_law_L_mark
set_option maxRecDepth 20000 in
theorem ggL_law_X9_mark : GoodIn wsL_law wsX9_mark := goodIn_r _ [533, 54, 119, 534, 535, 536, 5, 537, 156, 120, 121, 122, 123, 124, 125, 126, 127, 490, 491, 492, 493, 55, 60, 56, 494, 495, 496, 497, 498, 499, 500, 501, 502, 503, 504, 505, 506, 507, 508, 509, 510, 511, 611, 612, 613, 614, 615, 616, 617, 618, 619, 620, 621, 622, 623, 624, 625, 626, 627, 628, 629, 630, 631, 632, 633, 634, 635, 636, 637, 638, 639] (by decide +kernel) (by decide +kernel)
set_option maxRecDepth 20000 in
theorem gL_law_X9_mark : GoodIn wsL_law (wsV RL 138 RX9 yX9_mark wsX9_mark) := goodIn_app (goodIn_of _ (by decide +kernel)) ggL_law_X9_mark
set_option maxRecDepth 20000 in
theorem ggL_law_L_part : GoodIn wsL_law wsL_part := goodIn_ca (goodIn_ca (goodIn_r _ [540, 160, 82, 541, 542, 543, 2, 544, 165, 166, 88, 89, 26, 545, 546, 547, 320, 321, 322, 323, 15, 548, 346, 347, 348, 349, 350, 351, 352, 353, 354, 355, 25, 356, 114, 37, 357, 358, 359, 95, 360, 106, 361, 362, 254, 363, 107, 108, 109, 364, 365, 366, 367, 368, 369, 370, 371, 372, 373, 374, 375, 376, 377, 12, 13, 378, 379, 380, 601, 602, 603, 604, 605, 606, 607, 608, 609, 610, 667, 668, 669, 640, 641, 649, 650, 651, 652] (by decide +kernel) (by decide +kernel)) (goodIn_sub (fun _ h => List.mem_append_right _ h) (by decide +kernel))) (goodIn_sub (fun _ h => List.mem_append_left _ (List.mem_append_left _ (List.mem_append_right _ h))) (by decide +kernel))
set_option maxRecDepth 20000 in
theorem gL_law_L_part : GoodIn wsL_law (va_wsS RL 139 yL_part wsL_part) := goodIn_app (goodIn_of _ (by decide +kernel)) ggL_law_L_part
set_option maxRecDepth 20000 in
theorem ggL_law_X9_part : GoodIn wsL_law wsX9_part := goodIn_r _ [552, 119, 55, 54, 56, 534, 535, 536, 5, 537, 156, 120, 121, 122, 123, 124, 125, 126, 127, 495, 496, 497, 498, 499, 500, 501, 502, 503, 504, 505, 506, 507, 508, 509, 510, 511, 611, 612, 613, 614, 615, 616, 617, 618, 619, 620, 621, 622, 623, 624, 625, 626, 627, 628, 629, 630, 631, 632, 633, 634, 635, 636, 637, 638, 639] (by decide +kernel) (by decide +kernel)
set_option maxRecDepth 20000 in
theorem gL_law_X9_part : GoodIn wsL_law (wsV RL 142 RX9 yX9_part wsX9_part) := goodIn_app (goodIn_of _ (by decide +kernel)) ggL_law_X9_part
set_option maxRecDepth 20000 in
theorem ggL_law_L_marked : GoodIn wsL_law wsL_marked := goodIn_ca (goodIn_r _ [555, 160, 556, 557, 558, 2, 559, 165, 166, 312, 313, 314, 315, 23, 407, 408, 409, 272, 410, 282, 441, 442, 443, 444, 430, 445, 429, 218, 219, 220, 221, 21, 446, 447, 448, 449, 19, 222, 223, 224, 32, 225, 49, 450, 451, 452, 311, 453, 343, 341, 454, 455, 456, 347, 457, 458, 378, 459, 379, 460, 380, 461, 601, 602, 603, 604, 605, 606, 607, 608, 609, 610, 653, 654, 655, 656, 657, 658, 659, 660, 661, 662, 648, 663, 664, 665, 666, 645, 646, 647, 667, 668, 669] (by decide +kernel) (by decide +kernel)) (goodIn_sub (fun _ h => List.mem_append_right _ h) (by decide +kernel))
set_option maxRecDepth 20000 in
theorem gL_law_L_marked : GoodIn wsL_law (va_wsS RL 143 yL_marked wsL_marked) := goodIn_app (goodIn_of _ (by decide +kernel)) ggL_law_L_marked
set_option maxRecDepth 20000 in
theorem ggL_law_X9_marked : GoodIn wsL_law wsX9_marked := goodIn_r _ [563, 415, 416, 417, 5, 418, 71, 390, 391, 392, 393, 298, 120, 121, 122, 123, 124, 125, 126, 127, 419, 420, 421, 478, 479, 480, 481, 64, 65, 482, 483, 484, 485, 61, 70, 77, 72, 73, 486, 487, 488, 489, 68, 69, 490, 491, 492, 493, 55, 60, 56, 494, 495, 496, 497, 498, 499, 500, 501, 502, 503, 504, 505, 506, 507, 508, 509, 510, 511, 611, 612, 613, 614, 615, 616, 617, 618, 619, 620, 621, 622, 623, 624, 625, 626, 627, 628, 629, 630, 631, 632, 633, 634, 635, 636, 637, 638, 639] (by decide +kernel) (by decide +kernel)
set_option maxRecDepth 20000 in
theorem gL_law_X9_marked : GoodIn wsL_law (wsV RL 146 RX9 yX9_marked wsX9_marked) := goodIn_app (goodIn_of _ (by decide +kernel)) ggL_law_X9_marked
set_option maxRecDepth 20000 in
theorem ggL_law_L_of : GoodIn wsL_law wsL_of := goodIn_ca (goodIn_ca (goodIn_r _ [566, 160, 82, 567, 568, 569, 2, 570, 165, 166, 88, 89, 306, 445, 429, 312, 313, 314, 315, 23, 571, 572, 573, 574, 437, 438, 439, 440, 406, 407, 408, 409, 272, 410, 282, 441, 442, 443, 444, 430, 218, 219, 220, 221, 21, 446, 447, 448, 449, 19, 222, 223, 224, 32, 225, 49, 450, 451, 452, 311, 453, 343, 341, 454, 455, 456, 347, 457, 458, 378, 459, 379, 460, 380, 461, 431, 432, 433, 434, 435, 436, 324, 325, 326, 327, 328, 288, 653, 654, 655, 656, 657, 658, 659, 660, 661, 662, 601, 602, 603, 604, 605, 606, 607, 608, 609, 610, 663, 664, 665, 666, 648, 645, 646, 647, 667, 668, 669] (by decide +kernel) (by decide +kernel)) (goodIn_sub (fun _ h => List.mem_append_right _ h) (by decide +kernel))) (goodIn_sub (fun _ h => List.mem_append_left _ (List.mem_append_left _ (List.mem_append_right _ h))) (by decide +kernel))
set_option maxRecDepth 20000 in
theorem gL_law_L_of : GoodIn wsL_law (va_wsS RL 147 yL_of wsL_of) := goodIn_app (goodIn_of _ (by decide +kernel)) ggL_law_L_of
set_option maxRecDepth 20000 in
theorem ggL_law_X9_of : GoodIn wsL_law wsX9_of := goodIn_r _ [578, 71, 70, 65, 390, 391, 392, 5, 393, 298, 120, 121, 122, 123, 124, 125, 126, 127, 470, 471, 472, 473, 67, 474, 475, 476, 477, 76, 478, 479, 480, 481, 64, 482, 483, 484, 485, 61, 77, 72, 73, 486, 487, 488, 489, 68, 69, 490, 491, 492, 493, 55, 60, 56, 494, 495, 496, 497, 498, 499, 500, 501, 502, 503, 504, 505, 506, 507, 508, 509, 510, 511, 466, 467, 468, 469, 62, 63, 394, 395, 396, 397, 611, 612, 613, 614, 615, 616, 617, 618, 619, 620, 621, 622, 623, 624, 625, 626, 627, 628, 629, 630, 631, 632, 633, 634, 635, 636, 637, 638, 639] (by decide +kernel) (by decide +kernel)
set_option maxRecDepth 20000 in
theorem gL_law_X9_of : GoodIn wsL_law (wsV RL 149 RX9 yX9_of wsX9_of) := goodIn_app (goodIn_of _ (by decide +kernel)) ggL_law_X9_of
set_option maxRecDepth 20000 in
theorem ggL_law_L_paper : GoodIn wsL_law wsL_paper := goodIn_ca (goodIn_ca (goodIn_r _ [581, 160, 82, 582, 583, 584, 2, 585, 165, 166, 88, 89, 167, 187, 168, 169, 170, 171, 17, 642, 643, 644, 601, 602, 603, 604, 605, 606, 607, 608, 609, 610] (by decide +kernel) (by decide +kernel)) (goodIn_sub (fun _ h => List.mem_append_right _ h) (by decide +kernel))) (goodIn_sub (fun _ h => List.mem_append_left _ (List.mem_append_left _ (List.mem_append_right _ h))) (by decide +kernel))
set_option maxRecDepth 20000 in
theorem gL_law_L_paper : GoodIn wsL_law (va_wsS RL 150 yL_paper wsL_paper) := goodIn_app (goodIn_of _ (by decide +kernel)) ggL_law_L_paper
set_option maxRecDepth 20000 in
theorem ggL_law_X9_paper : GoodIn wsL_law wsX9_paper := goodIn_r _ [589, 57, 58, 176, 177, 5, 178, 120, 121, 122, 123, 124, 125, 126, 127, 611, 612, 613, 614, 615, 616, 617, 618, 619, 620, 621, 622, 623, 624, 625, 626, 627, 628, 629, 630, 631, 632, 633, 634, 635, 636, 637, 638, 639] (by decide +kernel) (by decide +kernel)
set_option maxRecDepth 20000 in
theorem gL_law_X9_paper : GoodIn wsL_law (wsV RL 152 RX9 yX9_paper wsX9_paper) := goodIn_app (goodIn_of _ (by decide +kernel)) ggL_law_X9_paper
set_option maxRecDepth 20000 in
theorem ggL_law_L_won : GoodIn wsL_law wsL_won := goodIn_ca (goodIn_r _ [592, 160, 593, 594, 595, 2, 596, 165, 166, 23, 273, 274, 275, 99, 100, 101, 431, 432, 433, 434, 435, 436, 324, 325, 326, 272, 327, 328, 288, 437, 438, 439, 440, 406, 407, 408, 409, 410, 282, 441, 442, 443, 444, 430, 445, 429, 218, 219, 220, 221, 21, 446, 447, 448, 449, 19, 222, 223, 224, 32, 225, 49, 450, 451, 452, 311, 453, 343, 341, 454, 455, 456, 347, 457, 458, 378, 459, 379, 460, 380, 461, 601, 602, 603, 604, 605, 606, 607, 608, 609, 610, 653, 654, 655, 656, 657, 658, 659, 660, 661, 662, 663, 664, 665, 666, 648, 645, 646, 647, 667, 668, 669] (by decide +kernel) (by decide +kernel)) (goodIn_sub (fun _ h => List.mem_append_right _ h) (by decide +kernel))
set_option maxRecDepth 20000 in
theorem gL_law_L_won : GoodIn wsL_law (va_wsS RL 153 yL_won wsL_won) := goodIn_app (goodIn_of _ (by decide +kernel)) ggL_law_L_won
set_option maxRecDepth 20000 in
theorem ggL_law_X9_won : GoodIn wsL_law wsX9_won := goodIn_r _ [600, 298, 120, 121, 5, 122, 123, 124, 125, 126, 127, 466, 467, 468, 469, 62, 63, 394, 395, 396, 397, 71, 67, 470, 471, 472, 473, 474, 475, 476, 477, 76, 478, 479, 480, 481, 64, 65, 482, 483, 484, 485, 61, 70, 77, 72, 73, 486, 487, 488, 489, 68, 69, 490, 491, 492, 493, 55, 60, 56, 494, 495, 496, 497, 498, 499, 500, 501, 502, 503, 504, 505, 506, 507, 508, 509, 510, 511, 611, 612, 613, 614, 615, 616, 617, 618, 619, 620, 621, 622, 623, 624, 625, 626, 627, 628, 629, 630, 631, 632, 633, 634, 635, 636, 637, 638, 639] (by decide +kernel) (by decide +kernel)
set_option maxRecDepth 20000 in
theorem gL_law_X9_won : GoodIn wsL_law (wsV RL 155 RX9 yX9_won wsX9_won) := goodIn_app (goodIn_of _ (by decide +kernel)) ggL_law_X9_won
theorem dL_law_0 : decode cL_law 0 = .ok (.new 8, 3) := by decide +kernel
theorem dL_law_3 : decode cL_law 3 = .ok (.dup, 1) := by decide +kernel
theorem dL_law_4 : decode cL_law 4 = .ok (.invokespecial 79, 3) := by decide +kernel
theorem dL_law_7 : decode cL_law 7 = .ok (.astore_n 1, 1) := by decide +kernel
theorem dL_law_8 : decode cL_law 8 = .ok (.new 80, 3) := by decide +kernel
theorem dL_law_11 : decode cL_law 11 = .ok (.dup, 1) := by decide +kernel
theorem dL_law_12 : decode cL_law 12 = .ok (.invokespecial 82, 3) := by decide +kernel
theorem dL_law_15 : decode cL_law 15 = .ok (.astore_n 2, 1) := by decide +kernel
theorem dL_law_16 : decode cL_law 16 = .ok (.iconst 1, 1) := by decide +kernel
theorem dL_law_17 : decode cL_law 17 = .ok (.newarray .long, 2) := by decide +kernel
theorem dL_law_19 : decode cL_law 19 = .ok (.astore_n 3, 1) := by decide +kernel
theorem dL_law_20 : decode cL_law 20 = .ok (.iconst 1, 1) := by decide +kernel
theorem dL_law_21 : decode cL_law 21 = .ok (.newarray .double, 2) := by decide +kernel
theorem dL_law_23 : decode cL_law 23 = .ok (.astore 4, 2) := by decide +kernel
theorem dL_law_25 : decode cL_law 25 = .ok (.iconst 0, 1) := by decide +kernel
theorem dL_law_26 : decode cL_law 26 = .ok (.istore 5, 2) := by decide +kernel
theorem dL_law_28 : decode cL_law 28 = .ok (.iload 5, 2) := by decide +kernel
theorem dL_law_30 : decode cL_law 30 = .ok (.aload_n 0, 1) := by decide +kernel
theorem dL_law_31 : decode cL_law 31 = .ok (.arraylength, 1) := by decide +kernel
theorem dL_law_32 : decode cL_law 32 = .ok (.bipush 7, 2) := by decide +kernel
theorem dL_law_34 : decode cL_law 34 = .ok (.isub, 1) := by decide +kernel
theorem dL_law_35 : decode cL_law 35 = .ok (.if_icmp .gt 1515, 3) := by decide +kernel
theorem dL_law_38 : decode cL_law 38 = .ok (.aload_n 0, 1) := by decide +kernel
theorem dL_law_39 : decode cL_law 39 = .ok (.iload 5, 2) := by decide +kernel
theorem dL_law_41 : decode cL_law 41 = .ok (.iaload, 1) := by decide +kernel
theorem dL_law_42 : decode cL_law 42 = .ok (.bipush 31, 2) := by decide +kernel
theorem dL_law_44 : decode cL_law 44 = .ok (.iand, 1) := by decide +kernel
theorem dL_law_45 : decode cL_law 45 = .ok (.tableswitch 1499 0 18 #[91, 183, 196, 240, 308, 376, 448, 516, 572, 690, 758, 861, 929, 997, 1087, 1189, 1307, 1375, 1443], 91) := by decide +kernel
theorem dL_law_136 : decode cL_law 136 = .ok (.aload_n 1, 1) := by decide +kernel
theorem dL_law_137 : decode cL_law 137 = .ok (.aload_n 0, 1) := by decide +kernel
theorem dL_law_138 : decode cL_law 138 = .ok (.iload 5, 2) := by decide +kernel
theorem dL_law_140 : decode cL_law 140 = .ok (.iconst 1, 1) := by decide +kernel
theorem dL_law_141 : decode cL_law 141 = .ok (.iadd, 1) := by decide +kernel
theorem dL_law_142 : decode cL_law 142 = .ok (.iaload, 1) := by decide +kernel
theorem dL_law_143 : decode cL_law 143 = .ok (.aload_n 0, 1) := by decide +kernel
theorem dL_law_144 : decode cL_law 144 = .ok (.iload 5, 2) := by decide +kernel
theorem dL_law_146 : decode cL_law 146 = .ok (.iconst 2, 1) := by decide +kernel
theorem dL_law_147 : decode cL_law 147 = .ok (.iadd, 1) := by decide +kernel
theorem dL_law_148 : decode cL_law 148 = .ok (.iaload, 1) := by decide +kernel
theorem dL_law_149 : decode cL_law 149 = .ok (.aload_n 0, 1) := by decide +kernel
theorem dL_law_150 : decode cL_law 150 = .ok (.iload 5, 2) := by decide +kernel
theorem dL_law_152 : decode cL_law 152 = .ok (.iconst 3, 1) := by decide +kernel
theorem dL_law_153 : decode cL_law 153 = .ok (.iadd, 1) := by decide +kernel
theorem dL_law_154 : decode cL_law 154 = .ok (.iaload, 1) := by decide +kernel
theorem dL_law_155 : decode cL_law 155 = .ok (.aload_n 0, 1) := by decide +kernel
theorem dL_law_156 : decode cL_law 156 = .ok (.iload 5, 2) := by decide +kernel
theorem dL_law_158 : decode cL_law 158 = .ok (.iconst 4, 1) := by decide +kernel
theorem dL_law_159 : decode cL_law 159 = .ok (.iadd, 1) := by decide +kernel
theorem dL_law_160 : decode cL_law 160 = .ok (.iaload, 1) := by decide +kernel
theorem dL_law_161 : decode cL_law 161 = .ok (.aload_n 3, 1) := by decide +kernel
theorem dL_law_162 : decode cL_law 162 = .ok (.invokestatic 83, 3) := by decide +kernel
theorem dL_law_165 : decode cL_law 165 = .ok (.istore 6, 2) := by decide +kernel
theorem dL_law_167 : decode cL_law 167 = .ok (.aload_n 2, 1) := by decide +kernel
theorem dL_law_168 : decode cL_law 168 = .ok (.aload_n 0, 1) := by decide +kernel
theorem dL_law_169 : decode cL_law 169 = .ok (.iload 5, 2) := by decide +kernel
theorem dL_law_171 : decode cL_law 171 = .ok (.iconst 1, 1) := by decide +kernel
theorem dL_law_172 : decode cL_law 172 = .ok (.iadd, 1) := by decide +kernel
theorem dL_law_173 : decode cL_law 173 = .ok (.iaload, 1) := by decide +kernel
theorem dL_law_174 : decode cL_law 174 = .ok (.aload_n 0, 1) := by decide +kernel
theorem dL_law_175 : decode cL_law 175 = .ok (.iload 5, 2) := by decide +kernel
theorem dL_law_177 : decode cL_law 177 = .ok (.iconst 2, 1) := by decide +kernel
theorem dL_law_178 : decode cL_law 178 = .ok (.iadd, 1) := by decide +kernel
theorem dL_law_179 : decode cL_law 179 = .ok (.iaload, 1) := by decide +kernel
theorem dL_law_180 : decode cL_law 180 = .ok (.aload_n 0, 1) := by decide +kernel
theorem dL_law_181 : decode cL_law 181 = .ok (.iload 5, 2) := by decide +kernel
theorem dL_law_183 : decode cL_law 183 = .ok (.iconst 3, 1) := by decide +kernel
theorem dL_law_184 : decode cL_law 184 = .ok (.iadd, 1) := by decide +kernel
theorem dL_law_185 : decode cL_law 185 = .ok (.iaload, 1) := by decide +kernel
theorem dL_law_186 : decode cL_law 186 = .ok (.aload_n 0, 1) := by decide +kernel
theorem dL_law_187 : decode cL_law 187 = .ok (.iload 5, 2) := by decide +kernel
theorem dL_law_189 : decode cL_law 189 = .ok (.iconst 4, 1) := by decide +kernel
theorem dL_law_190 : decode cL_law 190 = .ok (.iadd, 1) := by decide +kernel
theorem dL_law_191 : decode cL_law 191 = .ok (.iaload, 1) := by decide +kernel
theorem dL_law_192 : decode cL_law 192 = .ok (.invokevirtual 88, 3) := by decide +kernel
theorem dL_law_195 : decode cL_law 195 = .ok (.istore 7, 2) := by decide +kernel
theorem dL_law_197 : decode cL_law 197 = .ok (.aload_n 2, 1) := by decide +kernel
theorem dL_law_198 : decode cL_law 198 = .ok (.invokevirtual 89, 3) := by decide +kernel
theorem dL_law_201 : decode cL_law 201 = .ok (.iload 6, 2) := by decide +kernel
theorem dL_law_203 : decode cL_law 203 = .ok (.if_icmp .eq 5, 3) := by decide +kernel
theorem dL_law_206 : decode cL_law 206 = .ok (.iconst 0, 1) := by decide +kernel
theorem dL_law_207 : decode cL_law 207 = .ok (.ireturn, 1) := by decide +kernel
theorem dL_law_208 : decode cL_law 208 = .ok (.iload 6, 2) := by decide +kernel
theorem dL_law_210 : decode cL_law 210 = .ok (.ifCond .ne 15, 3) := by decide +kernel
theorem dL_law_213 : decode cL_law 213 = .ok (.aload_n 3, 1) := by decide +kernel
theorem dL_law_214 : decode cL_law 214 = .ok (.iconst 0, 1) := by decide +kernel
theorem dL_law_215 : decode cL_law 215 = .ok (.laload, 1) := by decide +kernel
theorem dL_law_216 : decode cL_law 216 = .ok (.iload 7, 2) := by decide +kernel
theorem dL_law_218 : decode cL_law 218 = .ok (.i2l, 1) := by decide +kernel
theorem dL_law_219 : decode cL_law 219 = .ok (.lcmp, 1) := by decide +kernel
theorem dL_law_220 : decode cL_law 220 = .ok (.ifCond .eq 5, 3) := by decide +kernel
theorem dL_law_223 : decode cL_law 223 = .ok (.iconst 0, 1) := by decide +kernel
theorem dL_law_224 : decode cL_law 224 = .ok (.ireturn, 1) := by decide +kernel
theorem dL_law_225 : decode cL_law 225 = .ok (.goto 1319, 3) := by decide +kernel
theorem dL_law_228 : decode cL_law 228 = .ok (.aload_n 1, 1) := by decide +kernel
theorem dL_law_229 : decode cL_law 229 = .ok (.invokevirtual 92, 3) := by decide +kernel
theorem dL_law_232 : decode cL_law 232 = .ok (.aload_n 2, 1) := by decide +kernel
theorem dL_law_233 : decode cL_law 233 = .ok (.invokevirtual 95, 3) := by decide +kernel
theorem dL_law_236 : decode cL_law 236 = .ok (.if_icmp .eq 1308, 3) := by decide +kernel
theorem dL_law_239 : decode cL_law 239 = .ok (.iconst 0, 1) := by decide +kernel
theorem dL_law_240 : decode cL_law 240 = .ok (.ireturn, 1) := by decide +kernel
theorem dL_law_241 : decode cL_law 241 = .ok (.aload_n 1, 1) := by decide +kernel
theorem dL_law_242 : decode cL_law 242 = .ok (.aload_n 3, 1) := by decide +kernel
theorem dL_law_243 : decode cL_law 243 = .ok (.invokestatic 96, 3) := by decide +kernel
theorem dL_law_246 : decode cL_law 246 = .ok (.istore 6, 2) := by decide +kernel
theorem dL_law_248 : decode cL_law 248 = .ok (.aload_n 2, 1) := by decide +kernel
theorem dL_law_249 : decode cL_law 249 = .ok (.invokevirtual 99, 3) := by decide +kernel
theorem dL_law_252 : decode cL_law 252 = .ok (.istore 7, 2) := by decide +kernel
theorem dL_law_254 : decode cL_law 254 = .ok (.aload_n 2, 1) := by decide +kernel
theorem dL_law_255 : decode cL_law 255 = .ok (.invokevirtual 89, 3) := by decide +kernel
theorem dL_law_258 : decode cL_law 258 = .ok (.iload 6, 2) := by decide +kernel
theorem dL_law_260 : decode cL_law 260 = .ok (.if_icmp .eq 5, 3) := by decide +kernel
theorem dL_law_263 : decode cL_law 263 = .ok (.iconst 0, 1) := by decide +kernel
theorem dL_law_264 : decode cL_law 264 = .ok (.ireturn, 1) := by decide +kernel
theorem dL_law_265 : decode cL_law 265 = .ok (.iload 6, 2) := by decide +kernel
theorem dL_law_267 : decode cL_law 267 = .ok (.ifCond .ne 15, 3) := by decide +kernel
theorem dL_law_270 : decode cL_law 270 = .ok (.aload_n 3, 1) := by decide +kernel
theorem dL_law_271 : decode cL_law 271 = .ok (.iconst 0, 1) := by decide +kernel
theorem dL_law_272 : decode cL_law 272 = .ok (.laload, 1) := by decide +kernel
theorem dL_law_273 : decode cL_law 273 = .ok (.iload 7, 2) := by decide +kernel
theorem dL_law_275 : decode cL_law 275 = .ok (.i2l, 1) := by decide +kernel
theorem dL_law_276 : decode cL_law 276 = .ok (.lcmp, 1) := by decide +kernel
theorem dL_law_277 : decode cL_law 277 = .ok (.ifCond .eq 5, 3) := by decide +kernel
theorem dL_law_280 : decode cL_law 280 = .ok (.iconst 0, 1) := by decide +kernel
theorem dL_law_281 : decode cL_law 281 = .ok (.ireturn, 1) := by decide +kernel
theorem dL_law_282 : decode cL_law 282 = .ok (.goto 1262, 3) := by decide +kernel
theorem dL_law_285 : decode cL_law 285 = .ok (.aload_n 1, 1) := by decide +kernel
theorem dL_law_286 : decode cL_law 286 = .ok (.aload_n 0, 1) := by decide +kernel
theorem dL_law_287 : decode cL_law 287 = .ok (.iload 5, 2) := by decide +kernel
theorem dL_law_289 : decode cL_law 289 = .ok (.iconst 1, 1) := by decide +kernel
theorem dL_law_290 : decode cL_law 290 = .ok (.iadd, 1) := by decide +kernel
theorem dL_law_291 : decode cL_law 291 = .ok (.iaload, 1) := by decide +kernel
theorem dL_law_292 : decode cL_law 292 = .ok (.aload_n 0, 1) := by decide +kernel
theorem dL_law_293 : decode cL_law 293 = .ok (.iload 5, 2) := by decide +kernel
theorem dL_law_295 : decode cL_law 295 = .ok (.iconst 2, 1) := by decide +kernel
theorem dL_law_296 : decode cL_law 296 = .ok (.iadd, 1) := by decide +kernel
theorem dL_law_297 : decode cL_law 297 = .ok (.iaload, 1) := by decide +kernel
theorem dL_law_298 : decode cL_law 298 = .ok (.aload_n 3, 1) := by decide +kernel
theorem dL_law_299 : decode cL_law 299 = .ok (.invokestatic 100, 3) := by decide +kernel
theorem dL_law_302 : decode cL_law 302 = .ok (.istore 6, 2) := by decide +kernel
theorem dL_law_304 : decode cL_law 304 = .ok (.aload_n 2, 1) := by decide +kernel
theorem dL_law_305 : decode cL_law 305 = .ok (.aload_n 0, 1) := by decide +kernel
theorem dL_law_306 : decode cL_law 306 = .ok (.iload 5, 2) := by decide +kernel
theorem dL_law_308 : decode cL_law 308 = .ok (.iconst 1, 1) := by decide +kernel
theorem dL_law_309 : decode cL_law 309 = .ok (.iadd, 1) := by decide +kernel
theorem dL_law_310 : decode cL_law 310 = .ok (.iaload, 1) := by decide +kernel
theorem dL_law_311 : decode cL_law 311 = .ok (.aload_n 0, 1) := by decide +kernel
theorem dL_law_312 : decode cL_law 312 = .ok (.iload 5, 2) := by decide +kernel
theorem dL_law_314 : decode cL_law 314 = .ok (.iconst 2, 1) := by decide +kernel
theorem dL_law_315 : decode cL_law 315 = .ok (.iadd, 1) := by decide +kernel
theorem dL_law_316 : decode cL_law 316 = .ok (.iaload, 1) := by decide +kernel
theorem dL_law_317 : decode cL_law 317 = .ok (.invokevirtual 103, 3) := by decide +kernel
theorem dL_law_320 : decode cL_law 320 = .ok (.istore 7, 2) := by decide +kernel
theorem dL_law_322 : decode cL_law 322 = .ok (.aload_n 2, 1) := by decide +kernel
theorem dL_law_323 : decode cL_law 323 = .ok (.invokevirtual 89, 3) := by decide +kernel
theorem dL_law_326 : decode cL_law 326 = .ok (.iload 6, 2) := by decide +kernel
theorem dL_law_328 : decode cL_law 328 = .ok (.if_icmp .eq 5, 3) := by decide +kernel
theorem dL_law_331 : decode cL_law 331 = .ok (.iconst 0, 1) := by decide +kernel
theorem dL_law_332 : decode cL_law 332 = .ok (.ireturn, 1) := by decide +kernel
theorem dL_law_333 : decode cL_law 333 = .ok (.iload 6, 2) := by decide +kernel
theorem dL_law_335 : decode cL_law 335 = .ok (.ifCond .ne 15, 3) := by decide +kernel
theorem dL_law_338 : decode cL_law 338 = .ok (.aload_n 3, 1) := by decide +kernel
theorem dL_law_339 : decode cL_law 339 = .ok (.iconst 0, 1) := by decide +kernel
theorem dL_law_340 : decode cL_law 340 = .ok (.laload, 1) := by decide +kernel
theorem dL_law_341 : decode cL_law 341 = .ok (.iload 7, 2) := by decide +kernel
theorem dL_law_343 : decode cL_law 343 = .ok (.i2l, 1) := by decide +kernel
theorem dL_law_344 : decode cL_law 344 = .ok (.lcmp, 1) := by decide +kernel
theorem dL_law_345 : decode cL_law 345 = .ok (.ifCond .eq 5, 3) := by decide +kernel
theorem dL_law_348 : decode cL_law 348 = .ok (.iconst 0, 1) := by decide +kernel
theorem dL_law_349 : decode cL_law 349 = .ok (.ireturn, 1) := by decide +kernel
theorem dL_law_350 : decode cL_law 350 = .ok (.goto 1194, 3) := by decide +kernel
theorem dL_law_353 : decode cL_law 353 = .ok (.aload_n 1, 1) := by decide +kernel
theorem dL_law_354 : decode cL_law 354 = .ok (.aload_n 0, 1) := by decide +kernel
theorem dL_law_355 : decode cL_law 355 = .ok (.iload 5, 2) := by decide +kernel
theorem dL_law_357 : decode cL_law 357 = .ok (.iconst 1, 1) := by decide +kernel
theorem dL_law_358 : decode cL_law 358 = .ok (.iadd, 1) := by decide +kernel
theorem dL_law_359 : decode cL_law 359 = .ok (.iaload, 1) := by decide +kernel
theorem dL_law_360 : decode cL_law 360 = .ok (.aload_n 0, 1) := by decide +kernel
theorem dL_law_361 : decode cL_law 361 = .ok (.iload 5, 2) := by decide +kernel
theorem dL_law_363 : decode cL_law 363 = .ok (.iconst 2, 1) := by decide +kernel
theorem dL_law_364 : decode cL_law 364 = .ok (.iadd, 1) := by decide +kernel
theorem dL_law_365 : decode cL_law 365 = .ok (.iaload, 1) := by decide +kernel
theorem dL_law_366 : decode cL_law 366 = .ok (.aload_n 3, 1) := by decide +kernel
theorem dL_law_367 : decode cL_law 367 = .ok (.invokestatic 104, 3) := by decide +kernel
theorem dL_law_370 : decode cL_law 370 = .ok (.istore 6, 2) := by decide +kernel
theorem dL_law_372 : decode cL_law 372 = .ok (.aload_n 2, 1) := by decide +kernel
theorem dL_law_373 : decode cL_law 373 = .ok (.aload_n 0, 1) := by decide +kernel
theorem dL_law_374 : decode cL_law 374 = .ok (.iload 5, 2) := by decide +kernel
theorem dL_law_376 : decode cL_law 376 = .ok (.iconst 1, 1) := by decide +kernel
theorem dL_law_377 : decode cL_law 377 = .ok (.iadd, 1) := by decide +kernel
theorem dL_law_378 : decode cL_law 378 = .ok (.iaload, 1) := by decide +kernel
theorem dL_law_379 : decode cL_law 379 = .ok (.aload_n 0, 1) := by decide +kernel
theorem dL_law_380 : decode cL_law 380 = .ok (.iload 5, 2) := by decide +kernel
theorem dL_law_382 : decode cL_law 382 = .ok (.iconst 2, 1) := by decide +kernel
theorem dL_law_383 : decode cL_law 383 = .ok (.iadd, 1) := by decide +kernel
theorem dL_law_384 : decode cL_law 384 = .ok (.iaload, 1) := by decide +kernel
theorem dL_law_385 : decode cL_law 385 = .ok (.invokevirtual 106, 3) := by decide +kernel
theorem dL_law_388 : decode cL_law 388 = .ok (.istore 7, 2) := by decide +kernel
theorem dL_law_390 : decode cL_law 390 = .ok (.aload_n 2, 1) := by decide +kernel
theorem dL_law_391 : decode cL_law 391 = .ok (.invokevirtual 89, 3) := by decide +kernel
theorem dL_law_394 : decode cL_law 394 = .ok (.iload 6, 2) := by decide +kernel
theorem dL_law_396 : decode cL_law 396 = .ok (.if_icmp .eq 5, 3) := by decide +kernel
theorem dL_law_399 : decode cL_law 399 = .ok (.iconst 0, 1) := by decide +kernel
theorem dL_law_400 : decode cL_law 400 = .ok (.ireturn, 1) := by decide +kernel
theorem dL_law_401 : decode cL_law 401 = .ok (.iload 6, 2) := by decide +kernel
theorem dL_law_403 : decode cL_law 403 = .ok (.ifCond .ne 15, 3) := by decide +kernel
theorem dL_law_406 : decode cL_law 406 = .ok (.aload_n 3, 1) := by decide +kernel
theorem dL_law_407 : decode cL_law 407 = .ok (.iconst 0, 1) := by decide +kernel
theorem dL_law_408 : decode cL_law 408 = .ok (.laload, 1) := by decide +kernel
theorem dL_law_409 : decode cL_law 409 = .ok (.iload 7, 2) := by decide +kernel
theorem dL_law_411 : decode cL_law 411 = .ok (.i2l, 1) := by decide +kernel
theorem dL_law_412 : decode cL_law 412 = .ok (.lcmp, 1) := by decide +kernel
theorem dL_law_413 : decode cL_law 413 = .ok (.ifCond .eq 5, 3) := by decide +kernel
theorem dL_law_416 : decode cL_law 416 = .ok (.iconst 0, 1) := by decide +kernel
theorem dL_law_417 : decode cL_law 417 = .ok (.ireturn, 1) := by decide +kernel
theorem dL_law_418 : decode cL_law 418 = .ok (.goto 1126, 3) := by decide +kernel
theorem dL_law_421 : decode cL_law 421 = .ok (.aload_n 1, 1) := by decide +kernel
theorem dL_law_422 : decode cL_law 422 = .ok (.aload_n 0, 1) := by decide +kernel
theorem dL_law_423 : decode cL_law 423 = .ok (.iload 5, 2) := by decide +kernel
theorem dL_law_425 : decode cL_law 425 = .ok (.iconst 1, 1) := by decide +kernel
theorem dL_law_426 : decode cL_law 426 = .ok (.iadd, 1) := by decide +kernel
theorem dL_law_427 : decode cL_law 427 = .ok (.iaload, 1) := by decide +kernel
theorem dL_law_428 : decode cL_law 428 = .ok (.aload_n 0, 1) := by decide +kernel
theorem dL_law_429 : decode cL_law 429 = .ok (.iload 5, 2) := by decide +kernel
theorem dL_law_431 : decode cL_law 431 = .ok (.iconst 2, 1) := by decide +kernel
theorem dL_law_432 : decode cL_law 432 = .ok (.iadd, 1) := by decide +kernel
theorem dL_law_433 : decode cL_law 433 = .ok (.iaload, 1) := by decide +kernel
theorem dL_law_434 : decode cL_law 434 = .ok (.aload_n 0, 1) := by decide +kernel
theorem dL_law_435 : decode cL_law 435 = .ok (.iload 5, 2) := by decide +kernel
theorem dL_law_437 : decode cL_law 437 = .ok (.iconst 3, 1) := by decide +kernel
theorem dL_law_438 : decode cL_law 438 = .ok (.iadd, 1) := by decide +kernel
theorem dL_law_439 : decode cL_law 439 = .ok (.iaload, 1) := by decide +kernel
theorem dL_law_440 : decode cL_law 440 = .ok (.aload_n 0, 1) := by decide +kernel
theorem dL_law_441 : decode cL_law 441 = .ok (.iload 5, 2) := by decide +kernel
theorem dL_law_443 : decode cL_law 443 = .ok (.iconst 4, 1) := by decide +kernel
theorem dL_law_444 : decode cL_law 444 = .ok (.iadd, 1) := by decide +kernel
theorem dL_law_445 : decode cL_law 445 = .ok (.iaload, 1) := by decide +kernel
theorem dL_law_446 : decode cL_law 446 = .ok (.invokestatic 107, 3) := by decide +kernel
theorem dL_law_449 : decode cL_law 449 = .ok (.istore 6, 2) := by decide +kernel
theorem dL_law_451 : decode cL_law 451 = .ok (.aload_n 2, 1) := by decide +kernel
theorem dL_law_452 : decode cL_law 452 = .ok (.aload_n 0, 1) := by decide +kernel
theorem dL_law_453 : decode cL_law 453 = .ok (.iload 5, 2) := by decide +kernel
theorem dL_law_455 : decode cL_law 455 = .ok (.iconst 1, 1) := by decide +kernel
theorem dL_law_456 : decode cL_law 456 = .ok (.iadd, 1) := by decide +kernel
theorem dL_law_457 : decode cL_law 457 = .ok (.iaload, 1) := by decide +kernel
theorem dL_law_458 : decode cL_law 458 = .ok (.aload_n 0, 1) := by decide +kernel
theorem dL_law_459 : decode cL_law 459 = .ok (.iload 5, 2) := by decide +kernel
theorem dL_law_461 : decode cL_law 461 = .ok (.iconst 2, 1) := by decide +kernel
theorem dL_law_462 : decode cL_law 462 = .ok (.iadd, 1) := by decide +kernel
theorem dL_law_463 : decode cL_law 463 = .ok (.iaload, 1) := by decide +kernel
theorem dL_law_464 : decode cL_law 464 = .ok (.aload_n 0, 1) := by decide +kernel
theorem dL_law_465 : decode cL_law 465 = .ok (.iload 5, 2) := by decide +kernel
theorem dL_law_467 : decode cL_law 467 = .ok (.iconst 3, 1) := by decide +kernel
theorem dL_law_468 : decode cL_law 468 = .ok (.iadd, 1) := by decide +kernel
theorem dL_law_469 : decode cL_law 469 = .ok (.iaload, 1) := by decide +kernel
theorem dL_law_470 : decode cL_law 470 = .ok (.aload_n 0, 1) := by decide +kernel
theorem dL_law_471 : decode cL_law 471 = .ok (.iload 5, 2) := by decide +kernel
theorem dL_law_473 : decode cL_law 473 = .ok (.iconst 4, 1) := by decide +kernel
theorem dL_law_474 : decode cL_law 474 = .ok (.iadd, 1) := by decide +kernel
theorem dL_law_475 : decode cL_law 475 = .ok (.iaload, 1) := by decide +kernel
theorem dL_law_476 : decode cL_law 476 = .ok (.invokevirtual 110, 3) := by decide +kernel
theorem dL_law_479 : decode cL_law 479 = .ok (.aload_n 2, 1) := by decide +kernel
theorem dL_law_480 : decode cL_law 480 = .ok (.invokevirtual 89, 3) := by decide +kernel
theorem dL_law_483 : decode cL_law 483 = .ok (.iload 6, 2) := by decide +kernel
theorem dL_law_485 : decode cL_law 485 = .ok (.if_icmp .eq 5, 3) := by decide +kernel
theorem dL_law_488 : decode cL_law 488 = .ok (.iconst 0, 1) := by decide +kernel
theorem dL_law_489 : decode cL_law 489 = .ok (.ireturn, 1) := by decide +kernel
theorem dL_law_490 : decode cL_law 490 = .ok (.goto 1054, 3) := by decide +kernel
theorem dL_law_493 : decode cL_law 493 = .ok (.aload_n 1, 1) := by decide +kernel
theorem dL_law_494 : decode cL_law 494 = .ok (.aload_n 0, 1) := by decide +kernel
theorem dL_law_495 : decode cL_law 495 = .ok (.iload 5, 2) := by decide +kernel
theorem dL_law_497 : decode cL_law 497 = .ok (.iconst 1, 1) := by decide +kernel
theorem dL_law_498 : decode cL_law 498 = .ok (.iadd, 1) := by decide +kernel
theorem dL_law_499 : decode cL_law 499 = .ok (.iaload, 1) := by decide +kernel
theorem dL_law_500 : decode cL_law 500 = .ok (.aload_n 0, 1) := by decide +kernel
theorem dL_law_501 : decode cL_law 501 = .ok (.iload 5, 2) := by decide +kernel
theorem dL_law_503 : decode cL_law 503 = .ok (.iconst 2, 1) := by decide +kernel
theorem dL_law_504 : decode cL_law 504 = .ok (.iadd, 1) := by decide +kernel
theorem dL_law_505 : decode cL_law 505 = .ok (.iaload, 1) := by decide +kernel
theorem dL_law_506 : decode cL_law 506 = .ok (.aload_n 3, 1) := by decide +kernel
theorem dL_law_507 : decode cL_law 507 = .ok (.invokestatic 111, 3) := by decide +kernel
theorem dL_law_510 : decode cL_law 510 = .ok (.istore 6, 2) := by decide +kernel
theorem dL_law_512 : decode cL_law 512 = .ok (.aload_n 2, 1) := by decide +kernel
theorem dL_law_513 : decode cL_law 513 = .ok (.aload_n 0, 1) := by decide +kernel
theorem dL_law_514 : decode cL_law 514 = .ok (.iload 5, 2) := by decide +kernel
theorem dL_law_516 : decode cL_law 516 = .ok (.iconst 1, 1) := by decide +kernel
theorem dL_law_517 : decode cL_law 517 = .ok (.iadd, 1) := by decide +kernel
theorem dL_law_518 : decode cL_law 518 = .ok (.iaload, 1) := by decide +kernel
theorem dL_law_519 : decode cL_law 519 = .ok (.aload_n 0, 1) := by decide +kernel
theorem dL_law_520 : decode cL_law 520 = .ok (.iload 5, 2) := by decide +kernel
theorem dL_law_522 : decode cL_law 522 = .ok (.iconst 2, 1) := by decide +kernel
theorem dL_law_523 : decode cL_law 523 = .ok (.iadd, 1) := by decide +kernel
theorem dL_law_524 : decode cL_law 524 = .ok (.iaload, 1) := by decide +kernel
theorem dL_law_525 : decode cL_law 525 = .ok (.invokevirtual 113, 3) := by decide +kernel
theorem dL_law_528 : decode cL_law 528 = .ok (.istore 7, 2) := by decide +kernel
theorem dL_law_530 : decode cL_law 530 = .ok (.aload_n 2, 1) := by decide +kernel
theorem dL_law_531 : decode cL_law 531 = .ok (.invokevirtual 89, 3) := by decide +kernel
theorem dL_law_534 : decode cL_law 534 = .ok (.iload 6, 2) := by decide +kernel
theorem dL_law_536 : decode cL_law 536 = .ok (.if_icmp .eq 5, 3) := by decide +kernel
theorem dL_law_539 : decode cL_law 539 = .ok (.iconst 0, 1) := by decide +kernel
theorem dL_law_540 : decode cL_law 540 = .ok (.ireturn, 1) := by decide +kernel
theorem dL_law_541 : decode cL_law 541 = .ok (.iload 6, 2) := by decide +kernel
theorem dL_law_543 : decode cL_law 543 = .ok (.ifCond .ne 15, 3) := by decide +kernel
theorem dL_law_546 : decode cL_law 546 = .ok (.aload_n 3, 1) := by decide +kernel
theorem dL_law_547 : decode cL_law 547 = .ok (.iconst 0, 1) := by decide +kernel
theorem dL_law_548 : decode cL_law 548 = .ok (.laload, 1) := by decide +kernel
theorem dL_law_549 : decode cL_law 549 = .ok (.iload 7, 2) := by decide +kernel
theorem dL_law_551 : decode cL_law 551 = .ok (.i2l, 1) := by decide +kernel
theorem dL_law_552 : decode cL_law 552 = .ok (.lcmp, 1) := by decide +kernel
theorem dL_law_553 : decode cL_law 553 = .ok (.ifCond .eq 5, 3) := by decide +kernel
theorem dL_law_556 : decode cL_law 556 = .ok (.iconst 0, 1) := by decide +kernel
theorem dL_law_557 : decode cL_law 557 = .ok (.ireturn, 1) := by decide +kernel
theorem dL_law_558 : decode cL_law 558 = .ok (.goto 986, 3) := by decide +kernel
theorem dL_law_561 : decode cL_law 561 = .ok (.aload_n 1, 1) := by decide +kernel
theorem dL_law_562 : decode cL_law 562 = .ok (.aload_n 0, 1) := by decide +kernel
theorem dL_law_563 : decode cL_law 563 = .ok (.iload 5, 2) := by decide +kernel
theorem dL_law_565 : decode cL_law 565 = .ok (.iconst 1, 1) := by decide +kernel
theorem dL_law_566 : decode cL_law 566 = .ok (.iadd, 1) := by decide +kernel
theorem dL_law_567 : decode cL_law 567 = .ok (.iaload, 1) := by decide +kernel
theorem dL_law_568 : decode cL_law 568 = .ok (.aload_n 3, 1) := by decide +kernel
theorem dL_law_569 : decode cL_law 569 = .ok (.invokestatic 114, 3) := by decide +kernel
theorem dL_law_572 : decode cL_law 572 = .ok (.istore 6, 2) := by decide +kernel
theorem dL_law_574 : decode cL_law 574 = .ok (.aload_n 2, 1) := by decide +kernel
theorem dL_law_575 : decode cL_law 575 = .ok (.aload_n 0, 1) := by decide +kernel
theorem dL_law_576 : decode cL_law 576 = .ok (.iload 5, 2) := by decide +kernel
theorem dL_law_578 : decode cL_law 578 = .ok (.iconst 1, 1) := by decide +kernel
theorem dL_law_579 : decode cL_law 579 = .ok (.iadd, 1) := by decide +kernel
theorem dL_law_580 : decode cL_law 580 = .ok (.iaload, 1) := by decide +kernel
theorem dL_law_581 : decode cL_law 581 = .ok (.invokevirtual 117, 3) := by decide +kernel
theorem dL_law_584 : decode cL_law 584 = .ok (.istore 7, 2) := by decide +kernel
theorem dL_law_586 : decode cL_law 586 = .ok (.aload_n 2, 1) := by decide +kernel
theorem dL_law_587 : decode cL_law 587 = .ok (.invokevirtual 89, 3) := by decide +kernel
theorem dL_law_590 : decode cL_law 590 = .ok (.iload 6, 2) := by decide +kernel
theorem dL_law_592 : decode cL_law 592 = .ok (.if_icmp .eq 5, 3) := by decide +kernel
theorem dL_law_595 : decode cL_law 595 = .ok (.iconst 0, 1) := by decide +kernel
theorem dL_law_596 : decode cL_law 596 = .ok (.ireturn, 1) := by decide +kernel
theorem dL_law_597 : decode cL_law 597 = .ok (.iload 6, 2) := by decide +kernel
theorem dL_law_599 : decode cL_law 599 = .ok (.ifCond .ne 15, 3) := by decide +kernel
theorem dL_law_602 : decode cL_law 602 = .ok (.aload_n 3, 1) := by decide +kernel
theorem dL_law_603 : decode cL_law 603 = .ok (.iconst 0, 1) := by decide +kernel
end
section
theorem dL_law_604 : decode cL_law 604 = .ok (.laload, 1) := by decide +kernel
theorem dL_law_605 : decode cL_law 605 = .ok (.iload 7, 2) := by decide +kernel
theorem dL_law_607 : decode cL_law 607 = .ok (.i2l, 1) := by decide +kernel
theorem dL_law_608 : decode cL_law 608 = .ok (.lcmp, 1) := by decide +kernel
theorem dL_law_609 : decode cL_law 609 = .ok (.ifCond .eq 5, 3) := by decide +kernel
theorem dL_law_612 : decode cL_law 612 = .ok (.iconst 0, 1) := by decide +kernel
theorem dL_law_613 : decode cL_law 613 = .ok (.ireturn, 1) := by decide +kernel
theorem dL_law_614 : decode cL_law 614 = .ok (.goto 930, 3) := by decide +kernel
theorem dL_law_617 : decode cL_law 617 = .ok (.aload_n 1, 1) := by decide +kernel
theorem dL_law_618 : decode cL_law 618 = .ok (.aload_n 0, 1) := by decide +kernel
theorem dL_law_619 : decode cL_law 619 = .ok (.iload 5, 2) := by decide +kernel
theorem dL_law_621 : decode cL_law 621 = .ok (.iconst 1, 1) := by decide +kernel
theorem dL_law_622 : decode cL_law 622 = .ok (.iadd, 1) := by decide +kernel
theorem dL_law_623 : decode cL_law 623 = .ok (.iaload, 1) := by decide +kernel
theorem dL_law_624 : decode cL_law 624 = .ok (.aload_n 0, 1) := by decide +kernel
theorem dL_law_625 : decode cL_law 625 = .ok (.iload 5, 2) := by decide +kernel
theorem dL_law_627 : decode cL_law 627 = .ok (.iconst 2, 1) := by decide +kernel
theorem dL_law_628 : decode cL_law 628 = .ok (.iadd, 1) := by decide +kernel
theorem dL_law_629 : decode cL_law 629 = .ok (.iaload, 1) := by decide +kernel
theorem dL_law_630 : decode cL_law 630 = .ok (.aload_n 0, 1) := by decide +kernel
theorem dL_law_631 : decode cL_law 631 = .ok (.iload 5, 2) := by decide +kernel
theorem dL_law_633 : decode cL_law 633 = .ok (.iconst 3, 1) := by decide +kernel
theorem dL_law_634 : decode cL_law 634 = .ok (.iadd, 1) := by decide +kernel
theorem dL_law_635 : decode cL_law 635 = .ok (.iaload, 1) := by decide +kernel
theorem dL_law_636 : decode cL_law 636 = .ok (.aload_n 0, 1) := by decide +kernel
theorem dL_law_637 : decode cL_law 637 = .ok (.iload 5, 2) := by decide +kernel
theorem dL_law_639 : decode cL_law 639 = .ok (.iconst 4, 1) := by decide +kernel
theorem dL_law_640 : decode cL_law 640 = .ok (.iadd, 1) := by decide +kernel
theorem dL_law_641 : decode cL_law 641 = .ok (.iaload, 1) := by decide +kernel
theorem dL_law_642 : decode cL_law 642 = .ok (.aload_n 0, 1) := by decide +kernel
theorem dL_law_643 : decode cL_law 643 = .ok (.iload 5, 2) := by decide +kernel
theorem dL_law_645 : decode cL_law 645 = .ok (.iconst 5, 1) := by decide +kernel
theorem dL_law_646 : decode cL_law 646 = .ok (.iadd, 1) := by decide +kernel
theorem dL_law_647 : decode cL_law 647 = .ok (.iaload, 1) := by decide +kernel
theorem dL_law_648 : decode cL_law 648 = .ok (.aload_n 0, 1) := by decide +kernel
theorem dL_law_649 : decode cL_law 649 = .ok (.iload 5, 2) := by decide +kernel
theorem dL_law_651 : decode cL_law 651 = .ok (.bipush 6, 2) := by decide +kernel
theorem dL_law_653 : decode cL_law 653 = .ok (.iadd, 1) := by decide +kernel
theorem dL_law_654 : decode cL_law 654 = .ok (.iaload, 1) := by decide +kernel
theorem dL_law_655 : decode cL_law 655 = .ok (.aload_n 3, 1) := by decide +kernel
theorem dL_law_656 : decode cL_law 656 = .ok (.invokestatic 118, 3) := by decide +kernel
theorem dL_law_659 : decode cL_law 659 = .ok (.istore 6, 2) := by decide +kernel
theorem dL_law_661 : decode cL_law 661 = .ok (.aload_n 2, 1) := by decide +kernel
theorem dL_law_662 : decode cL_law 662 = .ok (.aload_n 0, 1) := by decide +kernel
theorem dL_law_663 : decode cL_law 663 = .ok (.iload 5, 2) := by decide +kernel
theorem dL_law_665 : decode cL_law 665 = .ok (.iconst 1, 1) := by decide +kernel
theorem dL_law_666 : decode cL_law 666 = .ok (.iadd, 1) := by decide +kernel
theorem dL_law_667 : decode cL_law 667 = .ok (.iaload, 1) := by decide +kernel
theorem dL_law_668 : decode cL_law 668 = .ok (.aload_n 0, 1) := by decide +kernel
theorem dL_law_669 : decode cL_law 669 = .ok (.iload 5, 2) := by decide +kernel
theorem dL_law_671 : decode cL_law 671 = .ok (.iconst 2, 1) := by decide +kernel
theorem dL_law_672 : decode cL_law 672 = .ok (.iadd, 1) := by decide +kernel
theorem dL_law_673 : decode cL_law 673 = .ok (.iaload, 1) := by decide +kernel
theorem dL_law_674 : decode cL_law 674 = .ok (.aload_n 0, 1) := by decide +kernel
theorem dL_law_675 : decode cL_law 675 = .ok (.iload 5, 2) := by decide +kernel
theorem dL_law_677 : decode cL_law 677 = .ok (.iconst 3, 1) := by decide +kernel
theorem dL_law_678 : decode cL_law 678 = .ok (.iadd, 1) := by decide +kernel
theorem dL_law_679 : decode cL_law 679 = .ok (.iaload, 1) := by decide +kernel
theorem dL_law_680 : decode cL_law 680 = .ok (.aload_n 0, 1) := by decide +kernel
theorem dL_law_681 : decode cL_law 681 = .ok (.iload 5, 2) := by decide +kernel
theorem dL_law_683 : decode cL_law 683 = .ok (.iconst 4, 1) := by decide +kernel
theorem dL_law_684 : decode cL_law 684 = .ok (.iadd, 1) := by decide +kernel
theorem dL_law_685 : decode cL_law 685 = .ok (.iaload, 1) := by decide +kernel
theorem dL_law_686 : decode cL_law 686 = .ok (.aload_n 0, 1) := by decide +kernel
theorem dL_law_687 : decode cL_law 687 = .ok (.iload 5, 2) := by decide +kernel
theorem dL_law_689 : decode cL_law 689 = .ok (.iconst 5, 1) := by decide +kernel
theorem dL_law_690 : decode cL_law 690 = .ok (.iadd, 1) := by decide +kernel
theorem dL_law_691 : decode cL_law 691 = .ok (.iaload, 1) := by decide +kernel
theorem dL_law_692 : decode cL_law 692 = .ok (.aload_n 0, 1) := by decide +kernel
theorem dL_law_693 : decode cL_law 693 = .ok (.iload 5, 2) := by decide +kernel
theorem dL_law_695 : decode cL_law 695 = .ok (.bipush 6, 2) := by decide +kernel
theorem dL_law_697 : decode cL_law 697 = .ok (.iadd, 1) := by decide +kernel
theorem dL_law_698 : decode cL_law 698 = .ok (.iaload, 1) := by decide +kernel
theorem dL_law_699 : decode cL_law 699 = .ok (.invokevirtual 121, 3) := by decide +kernel
theorem dL_law_702 : decode cL_law 702 = .ok (.istore 7, 2) := by decide +kernel
theorem dL_law_704 : decode cL_law 704 = .ok (.aload_n 2, 1) := by decide +kernel
theorem dL_law_705 : decode cL_law 705 = .ok (.invokevirtual 89, 3) := by decide +kernel
theorem dL_law_708 : decode cL_law 708 = .ok (.iload 6, 2) := by decide +kernel
theorem dL_law_710 : decode cL_law 710 = .ok (.if_icmp .eq 5, 3) := by decide +kernel
theorem dL_law_713 : decode cL_law 713 = .ok (.iconst 0, 1) := by decide +kernel
theorem dL_law_714 : decode cL_law 714 = .ok (.ireturn, 1) := by decide +kernel
theorem dL_law_715 : decode cL_law 715 = .ok (.iload 6, 2) := by decide +kernel
theorem dL_law_717 : decode cL_law 717 = .ok (.ifCond .ne 15, 3) := by decide +kernel
theorem dL_law_720 : decode cL_law 720 = .ok (.aload_n 3, 1) := by decide +kernel
theorem dL_law_721 : decode cL_law 721 = .ok (.iconst 0, 1) := by decide +kernel
theorem dL_law_722 : decode cL_law 722 = .ok (.laload, 1) := by decide +kernel
theorem dL_law_723 : decode cL_law 723 = .ok (.iload 7, 2) := by decide +kernel
theorem dL_law_725 : decode cL_law 725 = .ok (.i2l, 1) := by decide +kernel
theorem dL_law_726 : decode cL_law 726 = .ok (.lcmp, 1) := by decide +kernel
theorem dL_law_727 : decode cL_law 727 = .ok (.ifCond .eq 5, 3) := by decide +kernel
theorem dL_law_730 : decode cL_law 730 = .ok (.iconst 0, 1) := by decide +kernel
theorem dL_law_731 : decode cL_law 731 = .ok (.ireturn, 1) := by decide +kernel
theorem dL_law_732 : decode cL_law 732 = .ok (.goto 812, 3) := by decide +kernel
theorem dL_law_735 : decode cL_law 735 = .ok (.aload_n 1, 1) := by decide +kernel
theorem dL_law_736 : decode cL_law 736 = .ok (.aload_n 0, 1) := by decide +kernel
theorem dL_law_737 : decode cL_law 737 = .ok (.iload 5, 2) := by decide +kernel
theorem dL_law_739 : decode cL_law 739 = .ok (.iconst 1, 1) := by decide +kernel
theorem dL_law_740 : decode cL_law 740 = .ok (.iadd, 1) := by decide +kernel
theorem dL_law_741 : decode cL_law 741 = .ok (.iaload, 1) := by decide +kernel
theorem dL_law_742 : decode cL_law 742 = .ok (.aload_n 0, 1) := by decide +kernel
theorem dL_law_743 : decode cL_law 743 = .ok (.iload 5, 2) := by decide +kernel
theorem dL_law_745 : decode cL_law 745 = .ok (.iconst 2, 1) := by decide +kernel
theorem dL_law_746 : decode cL_law 746 = .ok (.iadd, 1) := by decide +kernel
theorem dL_law_747 : decode cL_law 747 = .ok (.iaload, 1) := by decide +kernel
theorem dL_law_748 : decode cL_law 748 = .ok (.aload_n 3, 1) := by decide +kernel
theorem dL_law_749 : decode cL_law 749 = .ok (.invokestatic 122, 3) := by decide +kernel
theorem dL_law_752 : decode cL_law 752 = .ok (.istore 6, 2) := by decide +kernel
theorem dL_law_754 : decode cL_law 754 = .ok (.aload_n 2, 1) := by decide +kernel
theorem dL_law_755 : decode cL_law 755 = .ok (.aload_n 0, 1) := by decide +kernel
theorem dL_law_756 : decode cL_law 756 = .ok (.iload 5, 2) := by decide +kernel
theorem dL_law_758 : decode cL_law 758 = .ok (.iconst 1, 1) := by decide +kernel
theorem dL_law_759 : decode cL_law 759 = .ok (.iadd, 1) := by decide +kernel
theorem dL_law_760 : decode cL_law 760 = .ok (.iaload, 1) := by decide +kernel
theorem dL_law_761 : decode cL_law 761 = .ok (.aload_n 0, 1) := by decide +kernel
theorem dL_law_762 : decode cL_law 762 = .ok (.iload 5, 2) := by decide +kernel
theorem dL_law_764 : decode cL_law 764 = .ok (.iconst 2, 1) := by decide +kernel
theorem dL_law_765 : decode cL_law 765 = .ok (.iadd, 1) := by decide +kernel
theorem dL_law_766 : decode cL_law 766 = .ok (.iaload, 1) := by decide +kernel
theorem dL_law_767 : decode cL_law 767 = .ok (.invokevirtual 124, 3) := by decide +kernel
theorem dL_law_770 : decode cL_law 770 = .ok (.istore 7, 2) := by decide +kernel
theorem dL_law_772 : decode cL_law 772 = .ok (.aload_n 2, 1) := by decide +kernel
theorem dL_law_773 : decode cL_law 773 = .ok (.invokevirtual 89, 3) := by decide +kernel
theorem dL_law_776 : decode cL_law 776 = .ok (.iload 6, 2) := by decide +kernel
theorem dL_law_778 : decode cL_law 778 = .ok (.if_icmp .eq 5, 3) := by decide +kernel
theorem dL_law_781 : decode cL_law 781 = .ok (.iconst 0, 1) := by decide +kernel
theorem dL_law_782 : decode cL_law 782 = .ok (.ireturn, 1) := by decide +kernel
theorem dL_law_783 : decode cL_law 783 = .ok (.iload 6, 2) := by decide +kernel
theorem dL_law_785 : decode cL_law 785 = .ok (.ifCond .ne 15, 3) := by decide +kernel
theorem dL_law_788 : decode cL_law 788 = .ok (.aload_n 3, 1) := by decide +kernel
theorem dL_law_789 : decode cL_law 789 = .ok (.iconst 0, 1) := by decide +kernel
theorem dL_law_790 : decode cL_law 790 = .ok (.laload, 1) := by decide +kernel
theorem dL_law_791 : decode cL_law 791 = .ok (.iload 7, 2) := by decide +kernel
theorem dL_law_793 : decode cL_law 793 = .ok (.i2l, 1) := by decide +kernel
theorem dL_law_794 : decode cL_law 794 = .ok (.lcmp, 1) := by decide +kernel
theorem dL_law_795 : decode cL_law 795 = .ok (.ifCond .eq 5, 3) := by decide +kernel
theorem dL_law_798 : decode cL_law 798 = .ok (.iconst 0, 1) := by decide +kernel
theorem dL_law_799 : decode cL_law 799 = .ok (.ireturn, 1) := by decide +kernel
theorem dL_law_800 : decode cL_law 800 = .ok (.goto 744, 3) := by decide +kernel
theorem dL_law_803 : decode cL_law 803 = .ok (.aload_n 1, 1) := by decide +kernel
theorem dL_law_804 : decode cL_law 804 = .ok (.aload_n 0, 1) := by decide +kernel
theorem dL_law_805 : decode cL_law 805 = .ok (.iload 5, 2) := by decide +kernel
theorem dL_law_807 : decode cL_law 807 = .ok (.iconst 1, 1) := by decide +kernel
theorem dL_law_808 : decode cL_law 808 = .ok (.iadd, 1) := by decide +kernel
theorem dL_law_809 : decode cL_law 809 = .ok (.iaload, 1) := by decide +kernel
theorem dL_law_810 : decode cL_law 810 = .ok (.aload_n 0, 1) := by decide +kernel
theorem dL_law_811 : decode cL_law 811 = .ok (.iload 5, 2) := by decide +kernel
theorem dL_law_813 : decode cL_law 813 = .ok (.iconst 2, 1) := by decide +kernel
theorem dL_law_814 : decode cL_law 814 = .ok (.iadd, 1) := by decide +kernel
theorem dL_law_815 : decode cL_law 815 = .ok (.iaload, 1) := by decide +kernel
theorem dL_law_816 : decode cL_law 816 = .ok (.aload_n 0, 1) := by decide +kernel
theorem dL_law_817 : decode cL_law 817 = .ok (.iload 5, 2) := by decide +kernel
theorem dL_law_819 : decode cL_law 819 = .ok (.iconst 3, 1) := by decide +kernel
theorem dL_law_820 : decode cL_law 820 = .ok (.iadd, 1) := by decide +kernel
theorem dL_law_821 : decode cL_law 821 = .ok (.iaload, 1) := by decide +kernel
theorem dL_law_822 : decode cL_law 822 = .ok (.ifCond .eq 7, 3) := by decide +kernel
theorem dL_law_825 : decode cL_law 825 = .ok (.iconst 1, 1) := by decide +kernel
theorem dL_law_826 : decode cL_law 826 = .ok (.goto 4, 3) := by decide +kernel
theorem dL_law_829 : decode cL_law 829 = .ok (.iconst 0, 1) := by decide +kernel
theorem dL_law_830 : decode cL_law 830 = .ok (.aload_n 3, 1) := by decide +kernel
theorem dL_law_831 : decode cL_law 831 = .ok (.invokestatic 125, 3) := by decide +kernel
theorem dL_law_834 : decode cL_law 834 = .ok (.istore 6, 2) := by decide +kernel
theorem dL_law_836 : decode cL_law 836 = .ok (.aload_n 2, 1) := by decide +kernel
theorem dL_law_837 : decode cL_law 837 = .ok (.aload_n 0, 1) := by decide +kernel
theorem dL_law_838 : decode cL_law 838 = .ok (.iload 5, 2) := by decide +kernel
theorem dL_law_840 : decode cL_law 840 = .ok (.iconst 1, 1) := by decide +kernel
theorem dL_law_841 : decode cL_law 841 = .ok (.iadd, 1) := by decide +kernel
theorem dL_law_842 : decode cL_law 842 = .ok (.iaload, 1) := by decide +kernel
theorem dL_law_843 : decode cL_law 843 = .ok (.aload_n 0, 1) := by decide +kernel
theorem dL_law_844 : decode cL_law 844 = .ok (.iload 5, 2) := by decide +kernel
theorem dL_law_846 : decode cL_law 846 = .ok (.iconst 2, 1) := by decide +kernel
theorem dL_law_847 : decode cL_law 847 = .ok (.iadd, 1) := by decide +kernel
theorem dL_law_848 : decode cL_law 848 = .ok (.iaload, 1) := by decide +kernel
theorem dL_law_849 : decode cL_law 849 = .ok (.aload_n 0, 1) := by decide +kernel
theorem dL_law_850 : decode cL_law 850 = .ok (.iload 5, 2) := by decide +kernel
theorem dL_law_852 : decode cL_law 852 = .ok (.iconst 3, 1) := by decide +kernel
theorem dL_law_853 : decode cL_law 853 = .ok (.iadd, 1) := by decide +kernel
theorem dL_law_854 : decode cL_law 854 = .ok (.iaload, 1) := by decide +kernel
theorem dL_law_855 : decode cL_law 855 = .ok (.ifCond .eq 7, 3) := by decide +kernel
theorem dL_law_858 : decode cL_law 858 = .ok (.iconst 1, 1) := by decide +kernel
theorem dL_law_859 : decode cL_law 859 = .ok (.goto 4, 3) := by decide +kernel
theorem dL_law_862 : decode cL_law 862 = .ok (.iconst 0, 1) := by decide +kernel
theorem dL_law_863 : decode cL_law 863 = .ok (.invokevirtual 128, 3) := by decide +kernel
theorem dL_law_866 : decode cL_law 866 = .ok (.istore 7, 2) := by decide +kernel
theorem dL_law_868 : decode cL_law 868 = .ok (.aload_n 2, 1) := by decide +kernel
theorem dL_law_869 : decode cL_law 869 = .ok (.invokevirtual 89, 3) := by decide +kernel
theorem dL_law_872 : decode cL_law 872 = .ok (.iload 6, 2) := by decide +kernel
theorem dL_law_874 : decode cL_law 874 = .ok (.if_icmp .eq 5, 3) := by decide +kernel
theorem dL_law_877 : decode cL_law 877 = .ok (.iconst 0, 1) := by decide +kernel
theorem dL_law_878 : decode cL_law 878 = .ok (.ireturn, 1) := by decide +kernel
theorem dL_law_879 : decode cL_law 879 = .ok (.iload 6, 2) := by decide +kernel
theorem dL_law_881 : decode cL_law 881 = .ok (.ifCond .ne 22, 3) := by decide +kernel
theorem dL_law_884 : decode cL_law 884 = .ok (.aload_n 3, 1) := by decide +kernel
theorem dL_law_885 : decode cL_law 885 = .ok (.iconst 0, 1) := by decide +kernel
theorem dL_law_886 : decode cL_law 886 = .ok (.laload, 1) := by decide +kernel
theorem dL_law_887 : decode cL_law 887 = .ok (.iload 7, 2) := by decide +kernel
theorem dL_law_889 : decode cL_law 889 = .ok (.ifCond .eq 7, 3) := by decide +kernel
theorem dL_law_892 : decode cL_law 892 = .ok (.lconst 1, 1) := by decide +kernel
theorem dL_law_893 : decode cL_law 893 = .ok (.goto 4, 3) := by decide +kernel
theorem dL_law_896 : decode cL_law 896 = .ok (.lconst 0, 1) := by decide +kernel
theorem dL_law_897 : decode cL_law 897 = .ok (.lcmp, 1) := by decide +kernel
theorem dL_law_898 : decode cL_law 898 = .ok (.ifCond .eq 5, 3) := by decide +kernel
theorem dL_law_901 : decode cL_law 901 = .ok (.iconst 0, 1) := by decide +kernel
theorem dL_law_902 : decode cL_law 902 = .ok (.ireturn, 1) := by decide +kernel
theorem dL_law_903 : decode cL_law 903 = .ok (.goto 641, 3) := by decide +kernel
theorem dL_law_906 : decode cL_law 906 = .ok (.aload_n 1, 1) := by decide +kernel
theorem dL_law_907 : decode cL_law 907 = .ok (.aload_n 0, 1) := by decide +kernel
theorem dL_law_908 : decode cL_law 908 = .ok (.iload 5, 2) := by decide +kernel
theorem dL_law_910 : decode cL_law 910 = .ok (.iconst 1, 1) := by decide +kernel
theorem dL_law_911 : decode cL_law 911 = .ok (.iadd, 1) := by decide +kernel
theorem dL_law_912 : decode cL_law 912 = .ok (.iaload, 1) := by decide +kernel
theorem dL_law_913 : decode cL_law 913 = .ok (.aload_n 0, 1) := by decide +kernel
theorem dL_law_914 : decode cL_law 914 = .ok (.iload 5, 2) := by decide +kernel
theorem dL_law_916 : decode cL_law 916 = .ok (.iconst 2, 1) := by decide +kernel
theorem dL_law_917 : decode cL_law 917 = .ok (.iadd, 1) := by decide +kernel
theorem dL_law_918 : decode cL_law 918 = .ok (.iaload, 1) := by decide +kernel
theorem dL_law_919 : decode cL_law 919 = .ok (.aload_n 3, 1) := by decide +kernel
theorem dL_law_920 : decode cL_law 920 = .ok (.invokestatic 129, 3) := by decide +kernel
theorem dL_law_923 : decode cL_law 923 = .ok (.istore 6, 2) := by decide +kernel
theorem dL_law_925 : decode cL_law 925 = .ok (.aload_n 2, 1) := by decide +kernel
theorem dL_law_926 : decode cL_law 926 = .ok (.aload_n 0, 1) := by decide +kernel
theorem dL_law_927 : decode cL_law 927 = .ok (.iload 5, 2) := by decide +kernel
theorem dL_law_929 : decode cL_law 929 = .ok (.iconst 1, 1) := by decide +kernel
theorem dL_law_930 : decode cL_law 930 = .ok (.iadd, 1) := by decide +kernel
theorem dL_law_931 : decode cL_law 931 = .ok (.iaload, 1) := by decide +kernel
theorem dL_law_932 : decode cL_law 932 = .ok (.aload_n 0, 1) := by decide +kernel
theorem dL_law_933 : decode cL_law 933 = .ok (.iload 5, 2) := by decide +kernel
theorem dL_law_935 : decode cL_law 935 = .ok (.iconst 2, 1) := by decide +kernel
theorem dL_law_936 : decode cL_law 936 = .ok (.iadd, 1) := by decide +kernel
theorem dL_law_937 : decode cL_law 937 = .ok (.iaload, 1) := by decide +kernel
theorem dL_law_938 : decode cL_law 938 = .ok (.invokevirtual 131, 3) := by decide +kernel
theorem dL_law_941 : decode cL_law 941 = .ok (.istore 7, 2) := by decide +kernel
theorem dL_law_943 : decode cL_law 943 = .ok (.aload_n 2, 1) := by decide +kernel
theorem dL_law_944 : decode cL_law 944 = .ok (.invokevirtual 89, 3) := by decide +kernel
theorem dL_law_947 : decode cL_law 947 = .ok (.iload 6, 2) := by decide +kernel
theorem dL_law_949 : decode cL_law 949 = .ok (.if_icmp .eq 5, 3) := by decide +kernel
theorem dL_law_952 : decode cL_law 952 = .ok (.iconst 0, 1) := by decide +kernel
theorem dL_law_953 : decode cL_law 953 = .ok (.ireturn, 1) := by decide +kernel
theorem dL_law_954 : decode cL_law 954 = .ok (.iload 6, 2) := by decide +kernel
theorem dL_law_956 : decode cL_law 956 = .ok (.ifCond .ne 15, 3) := by decide +kernel
theorem dL_law_959 : decode cL_law 959 = .ok (.aload_n 3, 1) := by decide +kernel
theorem dL_law_960 : decode cL_law 960 = .ok (.iconst 0, 1) := by decide +kernel
theorem dL_law_961 : decode cL_law 961 = .ok (.laload, 1) := by decide +kernel
theorem dL_law_962 : decode cL_law 962 = .ok (.iload 7, 2) := by decide +kernel
theorem dL_law_964 : decode cL_law 964 = .ok (.i2l, 1) := by decide +kernel
theorem dL_law_965 : decode cL_law 965 = .ok (.lcmp, 1) := by decide +kernel
theorem dL_law_966 : decode cL_law 966 = .ok (.ifCond .eq 5, 3) := by decide +kernel
theorem dL_law_969 : decode cL_law 969 = .ok (.iconst 0, 1) := by decide +kernel
theorem dL_law_970 : decode cL_law 970 = .ok (.ireturn, 1) := by decide +kernel
theorem dL_law_971 : decode cL_law 971 = .ok (.goto 573, 3) := by decide +kernel
theorem dL_law_974 : decode cL_law 974 = .ok (.aload_n 1, 1) := by decide +kernel
theorem dL_law_975 : decode cL_law 975 = .ok (.aload_n 0, 1) := by decide +kernel
theorem dL_law_976 : decode cL_law 976 = .ok (.iload 5, 2) := by decide +kernel
theorem dL_law_978 : decode cL_law 978 = .ok (.iconst 1, 1) := by decide +kernel
theorem dL_law_979 : decode cL_law 979 = .ok (.iadd, 1) := by decide +kernel
theorem dL_law_980 : decode cL_law 980 = .ok (.iaload, 1) := by decide +kernel
theorem dL_law_981 : decode cL_law 981 = .ok (.aload_n 0, 1) := by decide +kernel
theorem dL_law_982 : decode cL_law 982 = .ok (.iload 5, 2) := by decide +kernel
theorem dL_law_984 : decode cL_law 984 = .ok (.iconst 2, 1) := by decide +kernel
theorem dL_law_985 : decode cL_law 985 = .ok (.iadd, 1) := by decide +kernel
theorem dL_law_986 : decode cL_law 986 = .ok (.iaload, 1) := by decide +kernel
theorem dL_law_987 : decode cL_law 987 = .ok (.aload_n 3, 1) := by decide +kernel
theorem dL_law_988 : decode cL_law 988 = .ok (.invokestatic 132, 3) := by decide +kernel
theorem dL_law_991 : decode cL_law 991 = .ok (.istore 6, 2) := by decide +kernel
theorem dL_law_993 : decode cL_law 993 = .ok (.aload_n 2, 1) := by decide +kernel
theorem dL_law_994 : decode cL_law 994 = .ok (.aload_n 0, 1) := by decide +kernel
theorem dL_law_995 : decode cL_law 995 = .ok (.iload 5, 2) := by decide +kernel
theorem dL_law_997 : decode cL_law 997 = .ok (.iconst 1, 1) := by decide +kernel
theorem dL_law_998 : decode cL_law 998 = .ok (.iadd, 1) := by decide +kernel
theorem dL_law_999 : decode cL_law 999 = .ok (.iaload, 1) := by decide +kernel
theorem dL_law_1000 : decode cL_law 1000 = .ok (.aload_n 0, 1) := by decide +kernel
theorem dL_law_1001 : decode cL_law 1001 = .ok (.iload 5, 2) := by decide +kernel
theorem dL_law_1003 : decode cL_law 1003 = .ok (.iconst 2, 1) := by decide +kernel
theorem dL_law_1004 : decode cL_law 1004 = .ok (.iadd, 1) := by decide +kernel
theorem dL_law_1005 : decode cL_law 1005 = .ok (.iaload, 1) := by decide +kernel
theorem dL_law_1006 : decode cL_law 1006 = .ok (.invokevirtual 134, 3) := by decide +kernel
theorem dL_law_1009 : decode cL_law 1009 = .ok (.istore 7, 2) := by decide +kernel
theorem dL_law_1011 : decode cL_law 1011 = .ok (.aload_n 2, 1) := by decide +kernel
theorem dL_law_1012 : decode cL_law 1012 = .ok (.invokevirtual 89, 3) := by decide +kernel
theorem dL_law_1015 : decode cL_law 1015 = .ok (.iload 6, 2) := by decide +kernel
theorem dL_law_1017 : decode cL_law 1017 = .ok (.if_icmp .eq 5, 3) := by decide +kernel
theorem dL_law_1020 : decode cL_law 1020 = .ok (.iconst 0, 1) := by decide +kernel
theorem dL_law_1021 : decode cL_law 1021 = .ok (.ireturn, 1) := by decide +kernel
theorem dL_law_1022 : decode cL_law 1022 = .ok (.iload 6, 2) := by decide +kernel
theorem dL_law_1024 : decode cL_law 1024 = .ok (.ifCond .ne 15, 3) := by decide +kernel
theorem dL_law_1027 : decode cL_law 1027 = .ok (.aload_n 3, 1) := by decide +kernel
theorem dL_law_1028 : decode cL_law 1028 = .ok (.iconst 0, 1) := by decide +kernel
theorem dL_law_1029 : decode cL_law 1029 = .ok (.laload, 1) := by decide +kernel
theorem dL_law_1030 : decode cL_law 1030 = .ok (.iload 7, 2) := by decide +kernel
theorem dL_law_1032 : decode cL_law 1032 = .ok (.i2l, 1) := by decide +kernel
theorem dL_law_1033 : decode cL_law 1033 = .ok (.lcmp, 1) := by decide +kernel
theorem dL_law_1034 : decode cL_law 1034 = .ok (.ifCond .eq 5, 3) := by decide +kernel
theorem dL_law_1037 : decode cL_law 1037 = .ok (.iconst 0, 1) := by decide +kernel
theorem dL_law_1038 : decode cL_law 1038 = .ok (.ireturn, 1) := by decide +kernel
theorem dL_law_1039 : decode cL_law 1039 = .ok (.goto 505, 3) := by decide +kernel
theorem dL_law_1042 : decode cL_law 1042 = .ok (.aload_n 1, 1) := by decide +kernel
theorem dL_law_1043 : decode cL_law 1043 = .ok (.aload_n 0, 1) := by decide +kernel
theorem dL_law_1044 : decode cL_law 1044 = .ok (.iload 5, 2) := by decide +kernel
theorem dL_law_1046 : decode cL_law 1046 = .ok (.iconst 1, 1) := by decide +kernel
theorem dL_law_1047 : decode cL_law 1047 = .ok (.iadd, 1) := by decide +kernel
theorem dL_law_1048 : decode cL_law 1048 = .ok (.iaload, 1) := by decide +kernel
theorem dL_law_1049 : decode cL_law 1049 = .ok (.aload_n 0, 1) := by decide +kernel
theorem dL_law_1050 : decode cL_law 1050 = .ok (.iload 5, 2) := by decide +kernel
theorem dL_law_1052 : decode cL_law 1052 = .ok (.iconst 2, 1) := by decide +kernel
theorem dL_law_1053 : decode cL_law 1053 = .ok (.iadd, 1) := by decide +kernel
theorem dL_law_1054 : decode cL_law 1054 = .ok (.iaload, 1) := by decide +kernel
theorem dL_law_1055 : decode cL_law 1055 = .ok (.aload 4, 2) := by decide +kernel
theorem dL_law_1057 : decode cL_law 1057 = .ok (.invokestatic 135, 3) := by decide +kernel
theorem dL_law_1060 : decode cL_law 1060 = .ok (.istore 6, 2) := by decide +kernel
theorem dL_law_1062 : decode cL_law 1062 = .ok (.aload_n 2, 1) := by decide +kernel
theorem dL_law_1063 : decode cL_law 1063 = .ok (.aload_n 0, 1) := by decide +kernel
theorem dL_law_1064 : decode cL_law 1064 = .ok (.iload 5, 2) := by decide +kernel
theorem dL_law_1066 : decode cL_law 1066 = .ok (.iconst 1, 1) := by decide +kernel
theorem dL_law_1067 : decode cL_law 1067 = .ok (.iadd, 1) := by decide +kernel
theorem dL_law_1068 : decode cL_law 1068 = .ok (.iaload, 1) := by decide +kernel
theorem dL_law_1069 : decode cL_law 1069 = .ok (.aload_n 0, 1) := by decide +kernel
theorem dL_law_1070 : decode cL_law 1070 = .ok (.iload 5, 2) := by decide +kernel
theorem dL_law_1072 : decode cL_law 1072 = .ok (.iconst 2, 1) := by decide +kernel
theorem dL_law_1073 : decode cL_law 1073 = .ok (.iadd, 1) := by decide +kernel
theorem dL_law_1074 : decode cL_law 1074 = .ok (.iaload, 1) := by decide +kernel
theorem dL_law_1075 : decode cL_law 1075 = .ok (.invokevirtual 138, 3) := by decide +kernel
theorem dL_law_1078 : decode cL_law 1078 = .ok (.fstore 7, 2) := by decide +kernel
theorem dL_law_1080 : decode cL_law 1080 = .ok (.aload_n 2, 1) := by decide +kernel
theorem dL_law_1081 : decode cL_law 1081 = .ok (.invokevirtual 89, 3) := by decide +kernel
theorem dL_law_1084 : decode cL_law 1084 = .ok (.iload 6, 2) := by decide +kernel
theorem dL_law_1086 : decode cL_law 1086 = .ok (.if_icmp .eq 5, 3) := by decide +kernel
theorem dL_law_1089 : decode cL_law 1089 = .ok (.iconst 0, 1) := by decide +kernel
theorem dL_law_1090 : decode cL_law 1090 = .ok (.ireturn, 1) := by decide +kernel
theorem dL_law_1091 : decode cL_law 1091 = .ok (.iload 6, 2) := by decide +kernel
theorem dL_law_1093 : decode cL_law 1093 = .ok (.ifCond .ne 36, 3) := by decide +kernel
theorem dL_law_1096 : decode cL_law 1096 = .ok (.aload 4, 2) := by decide +kernel
theorem dL_law_1098 : decode cL_law 1098 = .ok (.iconst 0, 1) := by decide +kernel
theorem dL_law_1099 : decode cL_law 1099 = .ok (.daload, 1) := by decide +kernel
theorem dL_law_1100 : decode cL_law 1100 = .ok (.fload 7, 2) := by decide +kernel
theorem dL_law_1102 : decode cL_law 1102 = .ok (.f2d, 1) := by decide +kernel
theorem dL_law_1103 : decode cL_law 1103 = .ok (.dcmp .l, 1) := by decide +kernel
theorem dL_law_1104 : decode cL_law 1104 = .ok (.ifCond .eq 25, 3) := by decide +kernel
theorem dL_law_1107 : decode cL_law 1107 = .ok (.aload 4, 2) := by decide +kernel
theorem dL_law_1109 : decode cL_law 1109 = .ok (.iconst 0, 1) := by decide +kernel
theorem dL_law_1110 : decode cL_law 1110 = .ok (.daload, 1) := by decide +kernel
theorem dL_law_1111 : decode cL_law 1111 = .ok (.aload 4, 2) := by decide +kernel
theorem dL_law_1113 : decode cL_law 1113 = .ok (.iconst 0, 1) := by decide +kernel
theorem dL_law_1114 : decode cL_law 1114 = .ok (.daload, 1) := by decide +kernel
theorem dL_law_1115 : decode cL_law 1115 = .ok (.dcmp .l, 1) := by decide +kernel
theorem dL_law_1116 : decode cL_law 1116 = .ok (.ifCond .eq 11, 3) := by decide +kernel
theorem dL_law_1119 : decode cL_law 1119 = .ok (.fload 7, 2) := by decide +kernel
theorem dL_law_1121 : decode cL_law 1121 = .ok (.fload 7, 2) := by decide +kernel
theorem dL_law_1123 : decode cL_law 1123 = .ok (.fcmp .l, 1) := by decide +kernel
theorem dL_law_1124 : decode cL_law 1124 = .ok (.ifCond .ne 5, 3) := by decide +kernel
theorem dL_law_1127 : decode cL_law 1127 = .ok (.iconst 0, 1) := by decide +kernel
theorem dL_law_1128 : decode cL_law 1128 = .ok (.ireturn, 1) := by decide +kernel
theorem dL_law_1129 : decode cL_law 1129 = .ok (.goto 415, 3) := by decide +kernel
theorem dL_law_1132 : decode cL_law 1132 = .ok (.aload_n 1, 1) := by decide +kernel
theorem dL_law_1133 : decode cL_law 1133 = .ok (.aload_n 0, 1) := by decide +kernel
theorem dL_law_1134 : decode cL_law 1134 = .ok (.iload 5, 2) := by decide +kernel
theorem dL_law_1136 : decode cL_law 1136 = .ok (.iconst 1, 1) := by decide +kernel
theorem dL_law_1137 : decode cL_law 1137 = .ok (.iadd, 1) := by decide +kernel
theorem dL_law_1138 : decode cL_law 1138 = .ok (.iaload, 1) := by decide +kernel
theorem dL_law_1139 : decode cL_law 1139 = .ok (.aload_n 0, 1) := by decide +kernel
theorem dL_law_1140 : decode cL_law 1140 = .ok (.iload 5, 2) := by decide +kernel
theorem dL_law_1142 : decode cL_law 1142 = .ok (.iconst 2, 1) := by decide +kernel
theorem dL_law_1143 : decode cL_law 1143 = .ok (.iadd, 1) := by decide +kernel
theorem dL_law_1144 : decode cL_law 1144 = .ok (.iaload, 1) := by decide +kernel
theorem dL_law_1145 : decode cL_law 1145 = .ok (.aload_n 0, 1) := by decide +kernel
theorem dL_law_1146 : decode cL_law 1146 = .ok (.iload 5, 2) := by decide +kernel
theorem dL_law_1148 : decode cL_law 1148 = .ok (.iconst 3, 1) := by decide +kernel
theorem dL_law_1149 : decode cL_law 1149 = .ok (.iadd, 1) := by decide +kernel
theorem dL_law_1150 : decode cL_law 1150 = .ok (.iaload, 1) := by decide +kernel
theorem dL_law_1151 : decode cL_law 1151 = .ok (.aload 4, 2) := by decide +kernel
theorem dL_law_1153 : decode cL_law 1153 = .ok (.invokestatic 139, 3) := by decide +kernel
theorem dL_law_1156 : decode cL_law 1156 = .ok (.istore 6, 2) := by decide +kernel
theorem dL_law_1158 : decode cL_law 1158 = .ok (.aload_n 2, 1) := by decide +kernel
theorem dL_law_1159 : decode cL_law 1159 = .ok (.aload_n 0, 1) := by decide +kernel
theorem dL_law_1160 : decode cL_law 1160 = .ok (.iload 5, 2) := by decide +kernel
theorem dL_law_1162 : decode cL_law 1162 = .ok (.iconst 1, 1) := by decide +kernel
theorem dL_law_1163 : decode cL_law 1163 = .ok (.iadd, 1) := by decide +kernel
theorem dL_law_1164 : decode cL_law 1164 = .ok (.iaload, 1) := by decide +kernel
theorem dL_law_1165 : decode cL_law 1165 = .ok (.aload_n 0, 1) := by decide +kernel
theorem dL_law_1166 : decode cL_law 1166 = .ok (.iload 5, 2) := by decide +kernel
theorem dL_law_1168 : decode cL_law 1168 = .ok (.iconst 2, 1) := by decide +kernel
theorem dL_law_1169 : decode cL_law 1169 = .ok (.iadd, 1) := by decide +kernel
theorem dL_law_1170 : decode cL_law 1170 = .ok (.iaload, 1) := by decide +kernel
theorem dL_law_1171 : decode cL_law 1171 = .ok (.aload_n 0, 1) := by decide +kernel
theorem dL_law_1172 : decode cL_law 1172 = .ok (.iload 5, 2) := by decide +kernel
theorem dL_law_1174 : decode cL_law 1174 = .ok (.iconst 3, 1) := by decide +kernel
theorem dL_law_1175 : decode cL_law 1175 = .ok (.iadd, 1) := by decide +kernel
theorem dL_law_1176 : decode cL_law 1176 = .ok (.iaload, 1) := by decide +kernel
theorem dL_law_1177 : decode cL_law 1177 = .ok (.invokevirtual 142, 3) := by decide +kernel
theorem dL_law_1180 : decode cL_law 1180 = .ok (.fstore 7, 2) := by decide +kernel
theorem dL_law_1182 : decode cL_law 1182 = .ok (.aload_n 2, 1) := by decide +kernel
theorem dL_law_1183 : decode cL_law 1183 = .ok (.invokevirtual 89, 3) := by decide +kernel
theorem dL_law_1186 : decode cL_law 1186 = .ok (.iload 6, 2) := by decide +kernel
theorem dL_law_1188 : decode cL_law 1188 = .ok (.if_icmp .eq 5, 3) := by decide +kernel
theorem dL_law_1191 : decode cL_law 1191 = .ok (.iconst 0, 1) := by decide +kernel
theorem dL_law_1192 : decode cL_law 1192 = .ok (.ireturn, 1) := by decide +kernel
theorem dL_law_1193 : decode cL_law 1193 = .ok (.iload 6, 2) := by decide +kernel
theorem dL_law_1195 : decode cL_law 1195 = .ok (.ifCond .ne 36, 3) := by decide +kernel
theorem dL_law_1198 : decode cL_law 1198 = .ok (.aload 4, 2) := by decide +kernel
theorem dL_law_1200 : decode cL_law 1200 = .ok (.iconst 0, 1) := by decide +kernel
theorem dL_law_1201 : decode cL_law 1201 = .ok (.daload, 1) := by decide +kernel
theorem dL_law_1202 : decode cL_law 1202 = .ok (.fload 7, 2) := by decide +kernel
theorem dL_law_1204 : decode cL_law 1204 = .ok (.f2d, 1) := by decide +kernel
theorem dL_law_1205 : decode cL_law 1205 = .ok (.dcmp .l, 1) := by decide +kernel
theorem dL_law_1206 : decode cL_law 1206 = .ok (.ifCond .eq 25, 3) := by decide +kernel
theorem dL_law_1209 : decode cL_law 1209 = .ok (.aload 4, 2) := by decide +kernel
theorem dL_law_1211 : decode cL_law 1211 = .ok (.iconst 0, 1) := by decide +kernel
theorem dL_law_1212 : decode cL_law 1212 = .ok (.daload, 1) := by decide +kernel
theorem dL_law_1213 : decode cL_law 1213 = .ok (.aload 4, 2) := by decide +kernel
theorem dL_law_1215 : decode cL_law 1215 = .ok (.iconst 0, 1) := by decide +kernel
theorem dL_law_1216 : decode cL_law 1216 = .ok (.daload, 1) := by decide +kernel
theorem dL_law_1217 : decode cL_law 1217 = .ok (.dcmp .l, 1) := by decide +kernel
theorem dL_law_1218 : decode cL_law 1218 = .ok (.ifCond .eq 11, 3) := by decide +kernel
theorem dL_law_1221 : decode cL_law 1221 = .ok (.fload 7, 2) := by decide +kernel
theorem dL_law_1223 : decode cL_law 1223 = .ok (.fload 7, 2) := by decide +kernel
theorem dL_law_1225 : decode cL_law 1225 = .ok (.fcmp .l, 1) := by decide +kernel
theorem dL_law_1226 : decode cL_law 1226 = .ok (.ifCond .ne 5, 3) := by decide +kernel
theorem dL_law_1229 : decode cL_law 1229 = .ok (.iconst 0, 1) := by decide +kernel
theorem dL_law_1230 : decode cL_law 1230 = .ok (.ireturn, 1) := by decide +kernel
theorem dL_law_1231 : decode cL_law 1231 = .ok (.goto 313, 3) := by decide +kernel
theorem dL_law_1234 : decode cL_law 1234 = .ok (.aload_n 1, 1) := by decide +kernel
theorem dL_law_1235 : decode cL_law 1235 = .ok (.aload_n 0, 1) := by decide +kernel
theorem dL_law_1236 : decode cL_law 1236 = .ok (.iload 5, 2) := by decide +kernel
theorem dL_law_1238 : decode cL_law 1238 = .ok (.iconst 1, 1) := by decide +kernel
theorem dL_law_1239 : decode cL_law 1239 = .ok (.iadd, 1) := by decide +kernel
theorem dL_law_1240 : decode cL_law 1240 = .ok (.iaload, 1) := by decide +kernel
theorem dL_law_1241 : decode cL_law 1241 = .ok (.aload_n 0, 1) := by decide +kernel
theorem dL_law_1242 : decode cL_law 1242 = .ok (.iload 5, 2) := by decide +kernel
theorem dL_law_1244 : decode cL_law 1244 = .ok (.iconst 2, 1) := by decide +kernel
theorem dL_law_1245 : decode cL_law 1245 = .ok (.iadd, 1) := by decide +kernel
theorem dL_law_1246 : decode cL_law 1246 = .ok (.iaload, 1) := by decide +kernel
theorem dL_law_1247 : decode cL_law 1247 = .ok (.aload_n 0, 1) := by decide +kernel
theorem dL_law_1248 : decode cL_law 1248 = .ok (.iload 5, 2) := by decide +kernel
theorem dL_law_1250 : decode cL_law 1250 = .ok (.iconst 3, 1) := by decide +kernel
theorem dL_law_1251 : decode cL_law 1251 = .ok (.iadd, 1) := by decide +kernel
theorem dL_law_1252 : decode cL_law 1252 = .ok (.iaload, 1) := by decide +kernel
theorem dL_law_1253 : decode cL_law 1253 = .ok (.ifCond .eq 7, 3) := by decide +kernel
theorem dL_law_1256 : decode cL_law 1256 = .ok (.iconst 1, 1) := by decide +kernel
theorem dL_law_1257 : decode cL_law 1257 = .ok (.goto 4, 3) := by decide +kernel
theorem dL_law_1260 : decode cL_law 1260 = .ok (.iconst 0, 1) := by decide +kernel
theorem dL_law_1261 : decode cL_law 1261 = .ok (.aload 4, 2) := by decide +kernel
theorem dL_law_1263 : decode cL_law 1263 = .ok (.invokestatic 143, 3) := by decide +kernel
theorem dL_law_1266 : decode cL_law 1266 = .ok (.istore 6, 2) := by decide +kernel
theorem dL_law_1268 : decode cL_law 1268 = .ok (.aload_n 2, 1) := by decide +kernel
theorem dL_law_1269 : decode cL_law 1269 = .ok (.aload_n 0, 1) := by decide +kernel
theorem dL_law_1270 : decode cL_law 1270 = .ok (.iload 5, 2) := by decide +kernel
theorem dL_law_1272 : decode cL_law 1272 = .ok (.iconst 1, 1) := by decide +kernel
theorem dL_law_1273 : decode cL_law 1273 = .ok (.iadd, 1) := by decide +kernel
theorem dL_law_1274 : decode cL_law 1274 = .ok (.iaload, 1) := by decide +kernel
theorem dL_law_1275 : decode cL_law 1275 = .ok (.aload_n 0, 1) := by decide +kernel
theorem dL_law_1276 : decode cL_law 1276 = .ok (.iload 5, 2) := by decide +kernel
theorem dL_law_1278 : decode cL_law 1278 = .ok (.iconst 2, 1) := by decide +kernel
theorem dL_law_1279 : decode cL_law 1279 = .ok (.iadd, 1) := by decide +kernel
theorem dL_law_1280 : decode cL_law 1280 = .ok (.iaload, 1) := by decide +kernel
theorem dL_law_1281 : decode cL_law 1281 = .ok (.aload_n 0, 1) := by decide +kernel
theorem dL_law_1282 : decode cL_law 1282 = .ok (.iload 5, 2) := by decide +kernel
theorem dL_law_1284 : decode cL_law 1284 = .ok (.iconst 3, 1) := by decide +kernel
theorem dL_law_1285 : decode cL_law 1285 = .ok (.iadd, 1) := by decide +kernel
theorem dL_law_1286 : decode cL_law 1286 = .ok (.iaload, 1) := by decide +kernel
theorem dL_law_1287 : decode cL_law 1287 = .ok (.ifCond .eq 7, 3) := by decide +kernel
theorem dL_law_1290 : decode cL_law 1290 = .ok (.iconst 1, 1) := by decide +kernel
theorem dL_law_1291 : decode cL_law 1291 = .ok (.goto 4, 3) := by decide +kernel
theorem dL_law_1294 : decode cL_law 1294 = .ok (.iconst 0, 1) := by decide +kernel
theorem dL_law_1295 : decode cL_law 1295 = .ok (.invokevirtual 146, 3) := by decide +kernel
theorem dL_law_1298 : decode cL_law 1298 = .ok (.fstore 7, 2) := by decide +kernel
theorem dL_law_1300 : decode cL_law 1300 = .ok (.aload_n 2, 1) := by decide +kernel
theorem dL_law_1301 : decode cL_law 1301 = .ok (.invokevirtual 89, 3) := by decide +kernel
theorem dL_law_1304 : decode cL_law 1304 = .ok (.iload 6, 2) := by decide +kernel
theorem dL_law_1306 : decode cL_law 1306 = .ok (.if_icmp .eq 5, 3) := by decide +kernel
theorem dL_law_1309 : decode cL_law 1309 = .ok (.iconst 0, 1) := by decide +kernel
theorem dL_law_1310 : decode cL_law 1310 = .ok (.ireturn, 1) := by decide +kernel
theorem dL_law_1311 : decode cL_law 1311 = .ok (.iload 6, 2) := by decide +kernel
theorem dL_law_1313 : decode cL_law 1313 = .ok (.ifCond .ne 36, 3) := by decide +kernel
theorem dL_law_1316 : decode cL_law 1316 = .ok (.aload 4, 2) := by decide +kernel
theorem dL_law_1318 : decode cL_law 1318 = .ok (.iconst 0, 1) := by decide +kernel
theorem dL_law_1319 : decode cL_law 1319 = .ok (.daload, 1) := by decide +kernel
theorem dL_law_1320 : decode cL_law 1320 = .ok (.fload 7, 2) := by decide +kernel
theorem dL_law_1322 : decode cL_law 1322 = .ok (.f2d, 1) := by decide +kernel
theorem dL_law_1323 : decode cL_law 1323 = .ok (.dcmp .l, 1) := by decide +kernel
theorem dL_law_1324 : decode cL_law 1324 = .ok (.ifCond .eq 25, 3) := by decide +kernel
theorem dL_law_1327 : decode cL_law 1327 = .ok (.aload 4, 2) := by decide +kernel
theorem dL_law_1329 : decode cL_law 1329 = .ok (.iconst 0, 1) := by decide +kernel
theorem dL_law_1330 : decode cL_law 1330 = .ok (.daload, 1) := by decide +kernel
theorem dL_law_1331 : decode cL_law 1331 = .ok (.aload 4, 2) := by decide +kernel
theorem dL_law_1333 : decode cL_law 1333 = .ok (.iconst 0, 1) := by decide +kernel
theorem dL_law_1334 : decode cL_law 1334 = .ok (.daload, 1) := by decide +kernel
theorem dL_law_1335 : decode cL_law 1335 = .ok (.dcmp .l, 1) := by decide +kernel
theorem dL_law_1336 : decode cL_law 1336 = .ok (.ifCond .eq 11, 3) := by decide +kernel
theorem dL_law_1339 : decode cL_law 1339 = .ok (.fload 7, 2) := by decide +kernel
theorem dL_law_1341 : decode cL_law 1341 = .ok (.fload 7, 2) := by decide +kernel
theorem dL_law_1343 : decode cL_law 1343 = .ok (.fcmp .l, 1) := by decide +kernel
theorem dL_law_1344 : decode cL_law 1344 = .ok (.ifCond .ne 5, 3) := by decide +kernel
theorem dL_law_1347 : decode cL_law 1347 = .ok (.iconst 0, 1) := by decide +kernel
theorem dL_law_1348 : decode cL_law 1348 = .ok (.ireturn, 1) := by decide +kernel
theorem dL_law_1349 : decode cL_law 1349 = .ok (.goto 195, 3) := by decide +kernel
theorem dL_law_1352 : decode cL_law 1352 = .ok (.aload_n 1, 1) := by decide +kernel
theorem dL_law_1353 : decode cL_law 1353 = .ok (.aload_n 0, 1) := by decide +kernel
theorem dL_law_1354 : decode cL_law 1354 = .ok (.iload 5, 2) := by decide +kernel
theorem dL_law_1356 : decode cL_law 1356 = .ok (.iconst 1, 1) := by decide +kernel
theorem dL_law_1357 : decode cL_law 1357 = .ok (.iadd, 1) := by decide +kernel
theorem dL_law_1358 : decode cL_law 1358 = .ok (.iaload, 1) := by decide +kernel
theorem dL_law_1359 : decode cL_law 1359 = .ok (.aload_n 0, 1) := by decide +kernel
theorem dL_law_1360 : decode cL_law 1360 = .ok (.iload 5, 2) := by decide +kernel
theorem dL_law_1362 : decode cL_law 1362 = .ok (.iconst 2, 1) := by decide +kernel
theorem dL_law_1363 : decode cL_law 1363 = .ok (.iadd, 1) := by decide +kernel
theorem dL_law_1364 : decode cL_law 1364 = .ok (.iaload, 1) := by decide +kernel
theorem dL_law_1365 : decode cL_law 1365 = .ok (.aload_n 3, 1) := by decide +kernel
theorem dL_law_1366 : decode cL_law 1366 = .ok (.invokestatic 147, 3) := by decide +kernel
theorem dL_law_1369 : decode cL_law 1369 = .ok (.istore 6, 2) := by decide +kernel
theorem dL_law_1371 : decode cL_law 1371 = .ok (.aload_n 2, 1) := by decide +kernel
theorem dL_law_1372 : decode cL_law 1372 = .ok (.aload_n 0, 1) := by decide +kernel
theorem dL_law_1373 : decode cL_law 1373 = .ok (.iload 5, 2) := by decide +kernel
theorem dL_law_1375 : decode cL_law 1375 = .ok (.iconst 1, 1) := by decide +kernel
theorem dL_law_1376 : decode cL_law 1376 = .ok (.iadd, 1) := by decide +kernel
theorem dL_law_1377 : decode cL_law 1377 = .ok (.iaload, 1) := by decide +kernel
theorem dL_law_1378 : decode cL_law 1378 = .ok (.aload_n 0, 1) := by decide +kernel
theorem dL_law_1379 : decode cL_law 1379 = .ok (.iload 5, 2) := by decide +kernel
theorem dL_law_1381 : decode cL_law 1381 = .ok (.iconst 2, 1) := by decide +kernel
theorem dL_law_1382 : decode cL_law 1382 = .ok (.iadd, 1) := by decide +kernel
theorem dL_law_1383 : decode cL_law 1383 = .ok (.iaload, 1) := by decide +kernel
theorem dL_law_1384 : decode cL_law 1384 = .ok (.invokevirtual 149, 3) := by decide +kernel
theorem dL_law_1387 : decode cL_law 1387 = .ok (.istore 7, 2) := by decide +kernel
theorem dL_law_1389 : decode cL_law 1389 = .ok (.aload_n 2, 1) := by decide +kernel
theorem dL_law_1390 : decode cL_law 1390 = .ok (.invokevirtual 89, 3) := by decide +kernel
theorem dL_law_1393 : decode cL_law 1393 = .ok (.iload 6, 2) := by decide +kernel
theorem dL_law_1395 : decode cL_law 1395 = .ok (.if_icmp .eq 5, 3) := by decide +kernel
theorem dL_law_1398 : decode cL_law 1398 = .ok (.iconst 0, 1) := by decide +kernel
theorem dL_law_1399 : decode cL_law 1399 = .ok (.ireturn, 1) := by decide +kernel
theorem dL_law_1400 : decode cL_law 1400 = .ok (.iload 6, 2) := by decide +kernel
theorem dL_law_1402 : decode cL_law 1402 = .ok (.ifCond .ne 15, 3) := by decide +kernel
theorem dL_law_1405 : decode cL_law 1405 = .ok (.aload_n 3, 1) := by decide +kernel
theorem dL_law_1406 : decode cL_law 1406 = .ok (.iconst 0, 1) := by decide +kernel
theorem dL_law_1407 : decode cL_law 1407 = .ok (.laload, 1) := by decide +kernel
theorem dL_law_1408 : decode cL_law 1408 = .ok (.iload 7, 2) := by decide +kernel
theorem dL_law_1410 : decode cL_law 1410 = .ok (.i2l, 1) := by decide +kernel
theorem dL_law_1411 : decode cL_law 1411 = .ok (.lcmp, 1) := by decide +kernel
theorem dL_law_1412 : decode cL_law 1412 = .ok (.ifCond .eq 5, 3) := by decide +kernel
theorem dL_law_1415 : decode cL_law 1415 = .ok (.iconst 0, 1) := by decide +kernel
theorem dL_law_1416 : decode cL_law 1416 = .ok (.ireturn, 1) := by decide +kernel
theorem dL_law_1417 : decode cL_law 1417 = .ok (.goto 127, 3) := by decide +kernel
theorem dL_law_1420 : decode cL_law 1420 = .ok (.aload_n 1, 1) := by decide +kernel
theorem dL_law_1421 : decode cL_law 1421 = .ok (.aload_n 0, 1) := by decide +kernel
theorem dL_law_1422 : decode cL_law 1422 = .ok (.iload 5, 2) := by decide +kernel
theorem dL_law_1424 : decode cL_law 1424 = .ok (.iconst 1, 1) := by decide +kernel
theorem dL_law_1425 : decode cL_law 1425 = .ok (.iadd, 1) := by decide +kernel
theorem dL_law_1426 : decode cL_law 1426 = .ok (.iaload, 1) := by decide +kernel
theorem dL_law_1427 : decode cL_law 1427 = .ok (.aload_n 0, 1) := by decide +kernel
theorem dL_law_1428 : decode cL_law 1428 = .ok (.iload 5, 2) := by decide +kernel
theorem dL_law_1430 : decode cL_law 1430 = .ok (.iconst 2, 1) := by decide +kernel
theorem dL_law_1431 : decode cL_law 1431 = .ok (.iadd, 1) := by decide +kernel
theorem dL_law_1432 : decode cL_law 1432 = .ok (.iaload, 1) := by decide +kernel
theorem dL_law_1433 : decode cL_law 1433 = .ok (.aload_n 3, 1) := by decide +kernel
theorem dL_law_1434 : decode cL_law 1434 = .ok (.invokestatic 150, 3) := by decide +kernel
theorem dL_law_1437 : decode cL_law 1437 = .ok (.istore 6, 2) := by decide +kernel
theorem dL_law_1439 : decode cL_law 1439 = .ok (.aload_n 2, 1) := by decide +kernel
theorem dL_law_1440 : decode cL_law 1440 = .ok (.aload_n 0, 1) := by decide +kernel
theorem dL_law_1441 : decode cL_law 1441 = .ok (.iload 5, 2) := by decide +kernel
theorem dL_law_1443 : decode cL_law 1443 = .ok (.iconst 1, 1) := by decide +kernel
theorem dL_law_1444 : decode cL_law 1444 = .ok (.iadd, 1) := by decide +kernel
theorem dL_law_1445 : decode cL_law 1445 = .ok (.iaload, 1) := by decide +kernel
theorem dL_law_1446 : decode cL_law 1446 = .ok (.aload_n 0, 1) := by decide +kernel
theorem dL_law_1447 : decode cL_law 1447 = .ok (.iload 5, 2) := by decide +kernel
theorem dL_law_1449 : decode cL_law 1449 = .ok (.iconst 2, 1) := by decide +kernel
theorem dL_law_1450 : decode cL_law 1450 = .ok (.iadd, 1) := by decide +kernel
theorem dL_law_1451 : decode cL_law 1451 = .ok (.iaload, 1) := by decide +kernel
theorem dL_law_1452 : decode cL_law 1452 = .ok (.invokevirtual 152, 3) := by decide +kernel
theorem dL_law_1455 : decode cL_law 1455 = .ok (.istore 7, 2) := by decide +kernel
theorem dL_law_1457 : decode cL_law 1457 = .ok (.aload_n 2, 1) := by decide +kernel
theorem dL_law_1458 : decode cL_law 1458 = .ok (.invokevirtual 89, 3) := by decide +kernel
theorem dL_law_1461 : decode cL_law 1461 = .ok (.iload 6, 2) := by decide +kernel
theorem dL_law_1463 : decode cL_law 1463 = .ok (.if_icmp .eq 5, 3) := by decide +kernel
theorem dL_law_1466 : decode cL_law 1466 = .ok (.iconst 0, 1) := by decide +kernel
theorem dL_law_1467 : decode cL_law 1467 = .ok (.ireturn, 1) := by decide +kernel
theorem dL_law_1468 : decode cL_law 1468 = .ok (.iload 6, 2) := by decide +kernel
theorem dL_law_1470 : decode cL_law 1470 = .ok (.ifCond .ne 15, 3) := by decide +kernel
theorem dL_law_1473 : decode cL_law 1473 = .ok (.aload_n 3, 1) := by decide +kernel
theorem dL_law_1474 : decode cL_law 1474 = .ok (.iconst 0, 1) := by decide +kernel
theorem dL_law_1475 : decode cL_law 1475 = .ok (.laload, 1) := by decide +kernel
theorem dL_law_1476 : decode cL_law 1476 = .ok (.iload 7, 2) := by decide +kernel
theorem dL_law_1478 : decode cL_law 1478 = .ok (.i2l, 1) := by decide +kernel
theorem dL_law_1479 : decode cL_law 1479 = .ok (.lcmp, 1) := by decide +kernel
theorem dL_law_1480 : decode cL_law 1480 = .ok (.ifCond .eq 5, 3) := by decide +kernel
theorem dL_law_1483 : decode cL_law 1483 = .ok (.iconst 0, 1) := by decide +kernel
theorem dL_law_1484 : decode cL_law 1484 = .ok (.ireturn, 1) := by decide +kernel
theorem dL_law_1485 : decode cL_law 1485 = .ok (.goto 59, 3) := by decide +kernel
theorem dL_law_1488 : decode cL_law 1488 = .ok (.aload_n 1, 1) := by decide +kernel
theorem dL_law_1489 : decode cL_law 1489 = .ok (.aload_n 0, 1) := by decide +kernel
theorem dL_law_1490 : decode cL_law 1490 = .ok (.iload 5, 2) := by decide +kernel
theorem dL_law_1492 : decode cL_law 1492 = .ok (.iconst 1, 1) := by decide +kernel
theorem dL_law_1493 : decode cL_law 1493 = .ok (.iadd, 1) := by decide +kernel
theorem dL_law_1494 : decode cL_law 1494 = .ok (.iaload, 1) := by decide +kernel
theorem dL_law_1495 : decode cL_law 1495 = .ok (.aload_n 3, 1) := by decide +kernel
theorem dL_law_1496 : decode cL_law 1496 = .ok (.invokestatic 153, 3) := by decide +kernel
theorem dL_law_1499 : decode cL_law 1499 = .ok (.istore 6, 2) := by decide +kernel
theorem dL_law_1501 : decode cL_law 1501 = .ok (.aload_n 2, 1) := by decide +kernel
theorem dL_law_1502 : decode cL_law 1502 = .ok (.aload_n 0, 1) := by decide +kernel
theorem dL_law_1503 : decode cL_law 1503 = .ok (.iload 5, 2) := by decide +kernel
theorem dL_law_1505 : decode cL_law 1505 = .ok (.iconst 1, 1) := by decide +kernel
theorem dL_law_1506 : decode cL_law 1506 = .ok (.iadd, 1) := by decide +kernel
theorem dL_law_1507 : decode cL_law 1507 = .ok (.iaload, 1) := by decide +kernel
theorem dL_law_1508 : decode cL_law 1508 = .ok (.invokevirtual 155, 3) := by decide +kernel
theorem dL_law_1511 : decode cL_law 1511 = .ok (.istore 7, 2) := by decide +kernel
theorem dL_law_1513 : decode cL_law 1513 = .ok (.aload_n 2, 1) := by decide +kernel
theorem dL_law_1514 : decode cL_law 1514 = .ok (.invokevirtual 89, 3) := by decide +kernel
theorem dL_law_1517 : decode cL_law 1517 = .ok (.iload 6, 2) := by decide +kernel
theorem dL_law_1519 : decode cL_law 1519 = .ok (.if_icmp .eq 5, 3) := by decide +kernel
theorem dL_law_1522 : decode cL_law 1522 = .ok (.iconst 0, 1) := by decide +kernel
theorem dL_law_1523 : decode cL_law 1523 = .ok (.ireturn, 1) := by decide +kernel
theorem dL_law_1524 : decode cL_law 1524 = .ok (.iload 6, 2) := by decide +kernel
theorem dL_law_1526 : decode cL_law 1526 = .ok (.ifCond .ne 15, 3) := by decide +kernel
theorem dL_law_1529 : decode cL_law 1529 = .ok (.aload_n 3, 1) := by decide +kernel
theorem dL_law_1530 : decode cL_law 1530 = .ok (.iconst 0, 1) := by decide +kernel
theorem dL_law_1531 : decode cL_law 1531 = .ok (.laload, 1) := by decide +kernel
theorem dL_law_1532 : decode cL_law 1532 = .ok (.iload 7, 2) := by decide +kernel
theorem dL_law_1534 : decode cL_law 1534 = .ok (.i2l, 1) := by decide +kernel
theorem dL_law_1535 : decode cL_law 1535 = .ok (.lcmp, 1) := by decide +kernel
theorem dL_law_1536 : decode cL_law 1536 = .ok (.ifCond .eq 5, 3) := by decide +kernel
theorem dL_law_1539 : decode cL_law 1539 = .ok (.iconst 0, 1) := by decide +kernel
theorem dL_law_1540 : decode cL_law 1540 = .ok (.ireturn, 1) := by decide +kernel
theorem dL_law_1541 : decode cL_law 1541 = .ok (.goto 3, 3) := by decide +kernel
theorem dL_law_1544 : decode cL_law 1544 = .ok (.iinc 5 7, 3) := by decide +kernel
theorem dL_law_1547 : decode cL_law 1547 = .ok (.goto (-1519), 3) := by decide +kernel
theorem dL_law_1550 : decode cL_law 1550 = .ok (.iconst 1, 1) := by decide +kernel
theorem dL_law_1551 : decode cL_law 1551 = .ok (.ireturn, 1) := by decide +kernel
abbrev vwCl : List vw_C := [(RX0, TX0, 10), (RX1, TX1, 1), (RX2, TX2, 3), (RX3, TX3, 3), (RX4, TX4, 4), (RX5, TX5, 2), (RX6, TX6, 3), (RX7, TX7, 4), (RX8, TX8, 10), (RX9, TX9, 29)]
end
section
/-! ===== my own layer: a heap as a map from addresses, and one judgement J over it ===== -/
abbrev MH : Type := Nat → Option va_E
def xu (M : MH) (a : Nat) (e : va_E) : MH := fun q => if q = a then some e else M q
theorem xu_s (M : MH) (a : Nat) (e : va_E) : xu M a e a = some e := by simp [xu]
theorem xu_n {M : MH} {a q : Nat} {e : va_E} (h : q ≠ a) : xu M a e q = M q := by simp [xu, h]
/-- the types of arrays by their codes: 0 .. 7 rows of objects, 10 ints, 11 booleans, 12 longs, 13 doubles -/
def xTy : Nat → FieldType := fun k => match k with
  | 0 => .object RX0
  | 1 => .object RX1
  | 2 => .object RX2
  | 3 => .object RX3
  | 4 => .object RX4
  | 5 => .object RX5
  | 6 => .object RX6
  | 7 => .object RX7
  | 10 => .int
  | 11 => .boolean
  | 12 => .long
  | _ => .double
def xR (s : State) (e v : va_E) : Prop := match e with
  | .inr o => v = .inr o
  | .inl q => ∃ cA : ClassId, v = .inl (cA, q.2) ∧ ArrOfT s cA (xTy q.1) ∧ va_RA s cA (xTy q.1)
theorem xR.moved {u U : State} (hvm : u.vm.Alike U.vm) {e v : va_E} (h : xR u e v) : xR U e v := by
  cases e with
  | inr o => exact h
  | inl q =>
    obtain ⟨cA, h1, h2, h3⟩ := h
    exact ⟨cA, h1, arrOfT_moved hvm h2, h3.moved hvm⟩
def xH (D : va_G) (A : Nat → Prop) (M : MH) (s : State) (H : Heap) : Prop := ∃ (L : List Nat) (f : Nat → va_E), (∀ a, a ∈ L ↔ M a ≠ none) ∧ (∀ a e, M a = some e → xR s e (f a)) ∧ va_P D vwCl (va_pl L f) H ∧ va_D A (va_pl L f)
theorem xH.moved {D : va_G} {A : Nat → Prop} {M : MH} {u U : State} {H : Heap} (hvm : u.vm.Alike U.vm) (h : xH D A M u H) : xH D A M U H := by
  obtain ⟨L, f, h1, h2, h3, h4⟩ := h
  exact ⟨L, f, h1, fun a e he => (h2 a e he).moved hvm, h3, h4⟩
theorem xH.weaken {D : va_G} {A B : Nat → Prop} {M : MH} {s : State} {H : Heap} (h : xH D A M s H) (hAB : ∀ q, A q → B q) : xH D B M s H := by
  obtain ⟨L, f, h1, h2, h3, h4⟩ := h
  exact ⟨L, f, h1, h2, h3, h4.weaken fun _ q _ hq => hAB _ hq⟩
theorem xH.at {D : va_G} {A : Nat → Prop} {M : MH} {s : State} {H : Heap} {a : Nat} {e : va_E} (h : xH D A M s H) (ha : M a = some e) : ∃ v, xR s e v ∧ va_P D vwCl [(a, v)] H ∧ A a := by
  obtain ⟨L, f, h1, h2, h3, h4⟩ := h
  have hm : a ∈ L := (h1 a).mpr (by rw [ha]; simp)
  obtain ⟨k, hk⟩ := va_pl_get (X := []) (f := f) hm
  refine ⟨f a, h2 a e ha, fun i q hi => ?_, h4.2 k _ hk⟩
  have hi0 : i = 0 := by
    have := (List.getElem?_eq_some_iff.mp hi).1
    simp at this
    omega
  subst hi0
  cases hi
  exact h3 k _ hk
theorem xH.lt {D : va_G} {A : Nat → Prop} {M : MH} {s : State} {H : Heap} {a : Nat} {e : va_E} (h : xH D A M s H) (ha : M a = some e) : a < H.size := by
  obtain ⟨v, -, hP, -⟩ := h.at ha
  exact (hP 0 (a, v) rfl).lt
theorem xH.inA {D : va_G} {A : Nat → Prop} {M : MH} {s : State} {H : Heap} {a : Nat} (h : xH D A M s H) (ha : M a ≠ none) : A a := by
  cases hm : M a with
  | none => exact absurd hm ha
  | some e => exact (h.at hm).choose_spec.2.2
/-- a cell changed -/
theorem xH.chg {D : va_G} {A : Nat → Prop} {M : MH} {s : State} {a k : Nat} {e v : va_E} {L : List Nat} {f : Nat → va_E} {H1 : Heap} (h1 : ∀ a, a ∈ L ↔ M a ≠ none) (h2 : ∀ a e, M a = some e → xR s e (f a)) (hm : a ∈ L) (hk : (va_pl L f)[k]? = some (a, f a)) (hD0 : va_D A (va_pl L f)) (hr : xR s e v)
    (hP : va_P D vwCl ((va_pl L f).set k (a, v)) H1) (hD : va_D A ((va_pl L f).set k (a, v))) : xH D A (xu M a e) s H1 := by
  have hs : (va_pl L f).set k (a, v) = va_pl L (va_up f a v) := va_pl_set (X := []) hD0 hm hk
  rw [hs] at hP hD
  refine ⟨L, va_up f a v, fun q => ?_, fun q x hx => ?_, hP, hD⟩
  · by_cases hq : q = a
    · subst hq
      simp [xu, hm]
    · rw [xu_n hq]
      exact h1 q
  · by_cases hq : q = a
    · subst hq
      rw [xu_s] at hx
      cases hx
      rw [va_up_self]
      exact hr
    · rw [xu_n hq] at hx
      rw [va_up_ne _ _ hq]
      exact h2 q x hx
/-- a cell more -/
theorem xH.more {D : va_G} {A : Nat → Prop} {M : MH} {s : State} {q : Nat} {e v : va_E} {L : List Nat} {f : Nat → va_E} {H1 : Heap} (h1 : ∀ a, a ∈ L ↔ M a ≠ none) (h2 : ∀ a e, M a = some e → xR s e (f a)) (hr : xR s e v)
    (hP : va_P D vwCl (va_pl L f ++ [(q, v)]) H1) (hD : va_D A (va_pl L f ++ [(q, v)])) : M q = none ∧ xH D A (xu M q e) s H1 := by
  have hq : q ∉ L := va_pl_fresh2 (X := []) hD
  have hn : M q = none := by
    cases hm : M q with
    | none => rfl
    | some e => exact absurd ((h1 q).mpr (by rw [hm]; simp)) hq
  rw [va_pl_push hq] at hP hD
  refine ⟨hn, L ++ [q], va_up f q v, fun a => ?_, fun a x hx => ?_, hP, hD⟩
  · by_cases ha : a = q
    · subst ha
      simp [xu]
    · rw [xu_n ha, ← h1 a]
      simp [ha]
  · by_cases ha : a = q
    · subst ha
      rw [xu_s] at hx
      cases hx
      rw [va_up_self]
      exact hr
    · rw [xu_n ha] at hx
      rw [va_up_ne _ _ ha]
      exact h2 a x hx
theorem nd_of {L : List Nat} (h : ∀ i j q : Nat, L[i]? = some q → L[j]? = some q → i = j) : L.Nodup := List.pairwise_iff_getElem.mpr fun i j hi hj hij he => by
  have := h i j L[i] (List.getElem?_eq_getElem hi) (by rw [he]; exact List.getElem?_eq_getElem hj)
  omega
theorem nd_inj {L : List Nat} (h : L.Nodup) {i j q : Nat} (hi : L[i]? = some q) (hj : L[j]? = some q) : i = j := by
  obtain ⟨li, ei⟩ := List.getElem?_eq_some_iff.mp hi
  obtain ⟨lj, ej⟩ := List.getElem?_eq_some_iff.mp hj
  have hp := List.pairwise_iff_getElem.mp h
  rcases Nat.lt_trichotomy i j with z | z | z
  · exact absurd (ei.trans ej.symm) (hp i j li lj z)
  · exact z
  · exact absurd (ej.trans ei.symm) (hp j i lj li z)
theorem nd_pl {L : List Nat} {g : Nat → va_E} {B : Nat → Prop} (hB : va_D B (va_pl L g)) : L.Nodup := nd_of fun i j q hi hj => hB.1 i j (q, g q) (q, g q) (by simp [va_pl, hi]) (by simp [va_pl, hj]) rfl
theorem pl_inj {L : List Nat} {f : Nat → va_E} (h : L.Nodup) : ∀ (i j : Nat) (x y : Nat × va_E), (va_pl L f)[i]? = some x → (va_pl L f)[j]? = some y → x.1 = y.1 → i = j := by
  intro i j x y hi hj hxy
  simp only [va_pl, List.getElem?_map] at hi hj
  cases hi1 : L[i]? with
  | none => rw [hi1] at hi; cases hi
  | some q1 =>
    cases hj1 : L[j]? with
    | none => rw [hj1] at hj; cases hj
    | some q2 =>
      rw [hi1] at hi
      rw [hj1] at hj
      cases hi
      cases hj
      have hqq : q1 = q2 := hxy
      subst hqq
      exact nd_inj h hi1 hj1
/-- a callee's map back in the caller's -/
def jn (M Mc M1 : MH) : MH := fun q => match M1 q with
  | some e => some e
  | none => match Mc q with
    | some _ => none
    | none => M q
theorem jn_self (M M1 : MH) (hk : ∀ q, M q ≠ none → M1 q ≠ none) : jn M M M1 = M1 := by
  funext q
  unfold jn
  cases h1 : M1 q with
  | some e => rfl
  | none =>
    cases h2 : M q with
    | none => rfl
    | some e => exact absurd h1 (hk q (by rw [h2]; simp))
def xA (M : MH) (h0 : Nat) : Nat → Prop := fun q => M q ≠ none ∨ h0 ≤ q
theorem xH.join {D : va_G} {A : Nat → Prop} {M Mc M1 : MH} {s : State} {H H1 : Heap} (h : xH D A M s H) (hc : ∀ a e, Mc a = some e → M a = some e) (hA : ∀ q, H.size ≤ q → A q)
    (hk : ∀ q : Nat, q < H.size → ¬ xA Mc H.size q → H1[q]? = H[q]?) (h1 : xH D (xA Mc H.size) M1 s H1) : xH D A (jn M Mc M1) s H1 := by
  obtain ⟨L, f, a1, a2, a3, a4⟩ := h
  obtain ⟨L1, f1, b1, b2, b3, b4⟩ := h1
  have hnew : ∀ q, M1 q ≠ none → Mc q = none → M q = none := by
    intro q hq hn
    obtain ⟨k, hkk⟩ := va_pl_get (X := []) (f := f1) ((b1 q).mpr hq)
    rcases b4.2 k _ hkk with z | z
    · exact absurd hn z
    · cases hm : M q with
      | none => rfl
      | some e =>
        have := va_pl_lt (X := []) a3 ((a1 q).mpr (by rw [hm]; simp))
        have z' : H.size ≤ q := z
        omega
  have hA1 : ∀ q, M1 q ≠ none → A q := by
    intro q hq
    obtain ⟨k, hkk⟩ := va_pl_get (X := []) (f := f1) ((b1 q).mpr hq)
    rcases b4.2 k _ hkk with z | z
    · cases hm : Mc q with
      | none => exact absurd hm z
      | some e =>
        have hM := hc q e hm
        obtain ⟨k2, hk2⟩ := va_pl_get (X := []) (f := f) ((a1 q).mpr (by rw [hM]; simp))
        exact a4.2 k2 _ hk2
    · exact hA q z
  refine ⟨L1 ++ L.filter (fun q => decide (M1 q = none ∧ Mc q = none)), fun q => if M1 q = none then f q else f1 q, fun q => ?_, fun q e he => ?_, fun k x hx => ?_, ?_⟩
  · simp only [List.mem_append, List.mem_filter, decide_eq_true_eq, a1, b1, jn]
    cases h1 : M1 q with
    | some e => simp
    | none => cases h2 : Mc q with
      | some e => simp
      | none => simp
  · unfold jn at he
    cases h1 : M1 q with
    | some e1 =>
      rw [h1] at he
      dsimp only at he
      cases he
      show xR s e (if M1 q = none then f q else f1 q)
      rw [if_neg (by rw [h1]; simp)]
      exact b2 q e h1
    | none =>
      rw [h1] at he
      dsimp only at he
      cases h2 : Mc q with
      | some e2 => rw [h2] at he; cases he
      | none =>
        rw [h2] at he
        dsimp only at he
        show xR s e (if M1 q = none then f q else f1 q)
        rw [if_pos h1]
        exact a2 q e he
  · have hx2 : x ∈ va_pl (L1 ++ L.filter (fun q => decide (M1 q = none ∧ Mc q = none))) (fun q => if M1 q = none then f q else f1 q) := List.mem_of_getElem? hx
    obtain ⟨q, hq, rfl⟩ := List.mem_map.mp hx2
    rcases List.mem_append.mp hq with h | h
    · have hq1 := (b1 q).mp h
      obtain ⟨k2, hk2⟩ := va_pl_get (X := []) (f := f1) h
      show va_at D vwCl (q, if M1 q = none then f q else f1 q) H1
      rw [if_neg hq1]
      exact b3 k2 _ hk2
    · obtain ⟨hL, hd⟩ := List.mem_filter.mp h
      have hd2 := of_decide_eq_true hd
      obtain ⟨k2, hk2⟩ := va_pl_get (X := []) (f := f) hL
      have hlt := va_pl_lt (X := []) a3 hL
      show va_at D vwCl (q, if M1 q = none then f q else f1 q) H1
      rw [if_pos hd2.1]
      exact (a3 k2 _ hk2).kept (hk q hlt (fun z => by
        rcases z with z | z
        · exact z hd2.2
        · have z' : H.size ≤ q := z
          omega))
  · have p3 : (L1 ++ L.filter (fun q => decide (M1 q = none ∧ Mc q = none))).Nodup := by
      refine List.nodup_append.mpr ⟨nd_pl b4, List.Nodup.sublist List.filter_sublist (nd_pl a4), fun x hx y hy hxy => ?_⟩
      subst hxy
      have hd := of_decide_eq_true (List.mem_filter.mp hy).2
      exact (b1 x).mp hx hd.1
    refine ⟨pl_inj p3, fun k x hx => ?_⟩
    have hx2 : x ∈ va_pl (L1 ++ L.filter (fun q => decide (M1 q = none ∧ Mc q = none))) (fun q => if M1 q = none then f q else f1 q) := List.mem_of_getElem? hx
    obtain ⟨q, hq, rfl⟩ := List.mem_map.mp hx2
    rcases List.mem_append.mp hq with h | h
    · exact hA1 q ((b1 q).mp h)
    · obtain ⟨k2, hk2⟩ := va_pl_get (X := []) (f := f) (List.mem_filter.mp h).1
      exact a4.2 k2 (q, f q) hk2
/-! locals as a list by their numbers -/
def lvl : Nat → List (Option Value) → List (Nat × Value)
  | _, [] => []
  | k, none :: r => lvl (k + 1) r
  | k, some v :: r => (k, v) :: lvl (k + 1) r
def lvg : List (Option Value) → Nat → Option Value
  | [], _ => none
  | v :: _, 0 => v
  | _ :: r, n + 1 => lvg r n
def lvp : List (Option Value) → Nat → Value → List (Option Value)
  | [], _, _ => []
  | _ :: r, 0, v => some v :: r
  | x :: r, n + 1, v => x :: lvp r n v
theorem lvl_mem : ∀ (vs : List (Option Value)) (k i : Nat) (v : Value), lvg vs i = some v → (k + i, v) ∈ lvl k vs
  | [], _, _, _, h => by cases h
  | none :: r, k, 0, _, h => by cases h
  | some w :: r, k, 0, v, h => by
    have h' : w = v := Option.some.inj h
    subst h'
    exact List.mem_cons_self
  | none :: r, k, i + 1, v, h => by
    have := lvl_mem r (k + 1) i v h
    rw [show k + (i + 1) = k + 1 + i by omega]
    exact this
  | some w :: r, k, i + 1, v, h => by
    have := lvl_mem r (k + 1) i v h
    rw [show k + (i + 1) = k + 1 + i by omega]
    exact List.mem_cons_of_mem _ this
theorem lvl_of : ∀ (vs : List (Option Value)) (k : Nat) (q : Nat × Value), q ∈ lvl k vs → k ≤ q.1 ∧ lvg vs (q.1 - k) = some q.2
  | [], _, _, h => by cases h
  | none :: r, k, q, h => by
    obtain ⟨h1, h2⟩ := lvl_of r (k + 1) q h
    refine ⟨by omega, ?_⟩
    rw [show q.1 - k = (q.1 - (k + 1)) + 1 by omega]
    exact h2
  | some w :: r, k, q, h => by
    rcases List.mem_cons.mp h with h | h
    · subst h
      exact ⟨Nat.le_refl _, by show lvg (some w :: r) (k - k) = some w; rw [Nat.sub_self]; rfl⟩
    · obtain ⟨h1, h2⟩ := lvl_of r (k + 1) q h
      refine ⟨by omega, ?_⟩
      rw [show q.1 - k = (q.1 - (k + 1)) + 1 by omega]
      exact h2
theorem lvg_p_s : ∀ (vs : List (Option Value)) (i : Nat) (v : Value), i < vs.length → lvg (lvp vs i v) i = some v
  | [], _, _, h => by simp at h
  | _ :: _, 0, _, _ => rfl
  | _ :: r, i + 1, v, h => lvg_p_s r i v (by simpa using h)
theorem lvg_p_n : ∀ (vs : List (Option Value)) (i j : Nat) (v : Value), j ≠ i → lvg (lvp vs i v) j = lvg vs j
  | [], _, _, _, _ => rfl
  | _ :: _, 0, 0, _, h => absurd rfl h
  | _ :: _, 0, _ + 1, _, _ => rfl
  | _ :: _, _ + 1, 0, _, _ => rfl
  | _ :: r, i + 1, j + 1, v, h => lvg_p_n r i j v (by omega)
def lv1 (vs : List (Option Value)) : Bool := vs.all fun v => match v with
  | none => true
  | some w => w.category == 1
theorem lvg_some : ∀ (vs : List (Option Value)) (i : Nat) (v : Value), lvg vs i = some v → some v ∈ vs
  | [], _, _, h => by cases h
  | a :: r, 0, v, h => by
    have h' : a = some v := h
    subst h'
    exact List.mem_cons_self
  | a :: r, i + 1, v, h => List.mem_cons_of_mem _ (lvg_some r i v h)
theorem lvg_lt : ∀ (vs : List (Option Value)) (i : Nat) (v : Value), lvg vs i = some v → i < vs.length
  | [], _, _, h => by cases h
  | _ :: _, 0, _, _ => by simp
  | _ :: r, i + 1, v, h => by
    have := lvg_lt r i v h
    simp
    omega
/-- the judgement's fixed part: program, launch, environment, room, start, method, arguments, frames below, method and code, classes, first map, goal -/
abbrev JC : Type := Program × Launch × Env × Room × State × MethodId × Array Value × List Frame × Method × Code × va_G × MH × (State → Prop)
def jl : JC → Launch := fun X => X.2.1
def jD : JC → va_G := fun X => X.2.2.2.2.2.2.2.2.2.2.1
def J : JC → Nat → Nat → Nat → MH → List (Option Value) → List Value → Nat → Prop
  | (p, l, e, R, s, m, args, below, meth, c, D, M0, Q), nL, cells, slots, M, vs, st, pc =>
    ∀ (H : Heap) (locs : List Loc) (ls : Array Slot), xH D (xA M0 s.heap.size) M s H → va_S (xA M0 s.heap.size) s.heap H locs → lv_has ls nL (lvl 0 vs) → (vs.length = nL ∧ lv1 vs = true) → W p l e R s m args below meth c H locs cells slots Q (F0 m pc ls st)
/-- what the tables say of classes and of the object rows' classes -/
def xK (D : va_G) (s : State) : Prop := va_K D vwCl [] s ∧ ∀ (k : Nat) (C : String), k < 8 → xTy k = .object C → va_AO C s
theorem xK.moved {D : va_G} {u U : State} (hvm : u.vm.Alike U.vm) (h : xK D u) : xK D U := ⟨va_K.moved hvm h.1, fun k C hk hC => (h.2 k C hk hC).moved hvm⟩
def jG : JC → ByteArray → String → List Cond → Nat → Room → Prop
  | (p, l, e, R, s, m, args, below, meth, c, D, M0, Q), cc, own, Ts, nL, rm => p.tables.exec = Jvm.exec ∧ c.code = cc ∧ c.maxLocals = nL ∧ s.vm.findClass own = some m.cls ∧ (∀ w ∈ Ts, w.before args s = true) ∧ xK D s ∧ meth.locks = false ∧ R = rm
def xP (D : va_G) (As : List Value) (M0 : MH) (h0 : Nat) : Array Value → State → Prop := va_Pc As (fun U => U.heap.size = h0 ∧ xH D (fun _ => True) M0 U U.heap ∧ xK D U)
def xQ (D : va_G) (M0 : MH) (h0 : Nat) (Post : Option Value → MH → Prop) : Array Value → State → Outcome → State → Prop := fun _ st oc t => (∃ (v : Option Value) (M' : MH), oc = .returned v ∧ Post v M' ∧ xH D (xA M0 h0) M' t t.heap ∧ xK D t) ∧ va_F (xA M0 h0) st t
/-- a method's contract -/
def xC (l : Launch) (D : va_G) (y : MethodName) (ws : List Cond) (rm : Room) (mc ms : Nat) (As : List Value) (M0 : MH) (Post : Option Value → MH → Prop) : Prop := ∀ h0 : Nat, Met l y ws rm (xP D As M0 h0) (xQ D M0 h0 Post) mc ms (xA M0 h0)
def jR : JC → Option FieldType → (Option Value → MH → Prop) → Nat → Nat → Prop
  | (p, l, e, R, s, m, args, below, meth, c, D, M0, Q), ret, Post, mc, ms => meth.sig.returnType = ret ∧ ∀ (H : Heap) (locs : List Loc) (cells slots : Nat) (g : JFrame), W p l e R s m args below meth c H locs cells slots (MQ below (xQ D M0 s.heap.size Post) args s mc ms (xA M0 s.heap.size)) g → W p l e R s m args below meth c H locs cells slots Q g
theorem xC_of {l : Launch} {D : va_G} {y : MethodName} {ws ws' : List Cond} {rm : Room} {mc ms : Nat} {As : List Value} {M0 : MH} {Post : Option Value → MH → Prop} {cc : ByteArray} {maxL : Nat} {ret : Option FieldType} {own : String} (vs : List (Option Value)) (hy : plainName y.cls = true) (hw : ws = Cond.code y cc maxL ret :: ws') (ho : y.cls = own) (hle : (lg_sl As).length ≤ maxL) (hvs : lvl 0 vs = lv_args 0 As) (hlen : vs.length = maxL) (h1 : lv1 vs = true)
    (body : ∀ X : JC, jl X = l → jD X = D → jG X cc own ws maxL rm → jR X ret Post mc ms → J X maxL 0 0 M0 vs [] 0) : xC l D y ws rm mc ms As M0 Post := by
  intro h0
  refine Met.ofW (cc := cc) (maxL := maxL) (ret := ret) hy hw ?_
  intro p e s m args below meth c s₁ B hml hv
  obtain ⟨rfl, hsz, hH, hK⟩ := hv
  subst hsz
  have hown : s.vm.findClass own = some m.cls := by rw [← ho]; exact findClass_of_methodNamed B.named
  have hb := body (p, l, e, (headSpec ws rm).room, s, m, As.toArray, below, meth, c, D, M0, MQ below (xQ D M0 s.heap.size Post) As.toArray s mc ms (xA M0 s.heap.size)) rfl rfl
    ⟨B.exec, B.bytes, hml, hown, atoms_spec (ws := ws) B.pre, hK, B.notSynchronized, rfl⟩ ⟨B.returns, fun _ _ _ _ _ h => h⟩
  rw [lg_entry_eq]
  have hl := lv_entry As (n := maxL) hle
  rw [← hvs] at hl
  have hH0 : xH D (xA M0 s.heap.size) M0 s s.heap := by
    obtain ⟨L, f, a1, a2, a3, a4⟩ := hH
    refine ⟨L, f, a1, a2, a3, a4.1, fun k q hk => Or.inl ?_⟩
    have hx2 : q ∈ va_pl L f := List.mem_of_getElem? hk
    obtain ⟨a, ha, rfl⟩ := List.mem_map.mp hx2
    exact (a1 a).mp ha
  exact hb s.heap [] _ hH0 va_S.rf hl ⟨hlen, h1⟩
section JRows
variable {X : JC} {cc : ByteArray} {own : String} {Ts : List Cond} {nL cells slots pc : Nat} {rm : Room} {M : MH} {vs : List (Option Value)} {st : List Value}
theorem lv_of_lvg {ls : Array Slot} {i : Nat} {v : Value} (hl : lv_has ls nL (lvl 0 vs)) (hv : lvg vs i = some v) : ls[i]? = some (.val v) := by
  have := lvl_mem vs 0 i v hv
  rw [Nat.zero_add] at this
  exact hl.2.2 (i, v) this
theorem lv1_p {i : Nat} {v : Value} (h : lv1 vs = true) (hc : v.category = 1) : lv1 (lvp vs i v) = true := by
  induction vs generalizing i with
  | nil => exact h
  | cons a r ih =>
    unfold lv1 at h ih ⊢
    rw [List.all_cons, Bool.and_eq_true] at h
    cases i with
    | zero =>
      rw [show lvp (a :: r) 0 v = some v :: r from rfl, List.all_cons, Bool.and_eq_true]
      exact ⟨by simp [hc], h.2⟩
    | succ i =>
      rw [show lvp (a :: r) (i + 1) v = a :: lvp r i v from rfl, List.all_cons, Bool.and_eq_true]
      exact ⟨h.1, ih h.2⟩
theorem lvp_len (vs : List (Option Value)) (i : Nat) (v : Value) : (lvp vs i v).length = vs.length := by
  induction vs generalizing i with
  | nil => rfl
  | cons a r ih => cases i with
    | zero => rfl
    | succ i => show (lvp r i v).length + 1 = r.length + 1; rw [ih]
theorem lvl_keep {ls : Array Slot} {i : Nat} {x : Value} (h1 : lv1 vs = true) (hi : i < vs.length) (hl : lv_has ls nL ((i, x) :: (lvl 0 vs).filter (fun q => !(q.1 == i) && !(q.1 + 1 == i && q.2.category == 2)))) : lv_has ls nL (lvl 0 (lvp vs i x)) := by
  refine ⟨hl.1, hl.2.1, fun q hq => hl.2.2 q ?_⟩
  obtain ⟨-, h2⟩ := lvl_of _ _ _ hq
  rw [Nat.sub_zero] at h2
  by_cases hqi : q.1 = i
  · rw [hqi, lvg_p_s _ _ _ hi] at h2
    have : q = (i, x) := by
      obtain ⟨a, b⟩ := q
      have e1 : a = i := hqi
      have e2 : x = b := Option.some.inj h2
      rw [e1, e2]
    rw [this]
    exact List.mem_cons_self
  · rw [lvg_p_n _ _ _ _ hqi] at h2
    refine List.mem_cons_of_mem _ (List.mem_filter.mpr ⟨?_, ?_⟩)
    · have := lvl_mem vs 0 q.1 q.2 h2
      rw [Nat.zero_add] at this
      exact this
    · have hc : q.2.category = 1 := by
        have hm := lvg_some _ _ _ h2
        have := List.all_eq_true.mp h1 _ hm
        simpa using this
      simp [hqi, hc]
theorem xK1 {D : va_G} {cl : List vw_C} {s : State} {cA : ClassId} {ty : FieldType} (hK : va_K D cl [] s) (h1 : ArrOfT s cA ty) (h2 : va_RA s cA ty) : va_K D cl [(cA, ty)] s := by
  refine ⟨hK.1, fun k q hk => ?_⟩
  have h0 : k = 0 := by
    have := (List.getElem?_eq_some_iff.mp hk).1
    simp at this
    omega
  subst h0
  cases hk
  exact ⟨h1, h2⟩
theorem j_iadd (g : jG X cc own Ts nL rm) {x y : Int32} (hd : decode cc pc = .ok (.iadd, 1))  (k : J X nL cells slots M vs (.int (x + y) :: st) (pc + 1)) : J X nL cells slots M vs (.int y :: .int x :: st) pc := by
  obtain ⟨p, l, e, R, s, m, args, below, meth, c, D, M0, Q⟩ := X
  obtain ⟨hx, hb, hml, hown, hts, hKK, hlk, hR⟩ := g
  have hK := hKK.1
  intro H locs ls hH hS hl hq
  exact lv_iadd hx hb hd (k H locs ls hH hS hl hq)
theorem j_isub (g : jG X cc own Ts nL rm) {x y : Int32} (hd : decode cc pc = .ok (.isub, 1))  (k : J X nL cells slots M vs (.int (x - y) :: st) (pc + 1)) : J X nL cells slots M vs (.int y :: .int x :: st) pc := by
  obtain ⟨p, l, e, R, s, m, args, below, meth, c, D, M0, Q⟩ := X
  obtain ⟨hx, hb, hml, hown, hts, hKK, hlk, hR⟩ := g
  have hK := hKK.1
  intro H locs ls hH hS hl hq
  exact lv_isub hx hb hd (k H locs ls hH hS hl hq)
theorem j_imul (g : jG X cc own Ts nL rm) {x y : Int32} (hd : decode cc pc = .ok (.imul, 1))  (k : J X nL cells slots M vs (.int (x * y) :: st) (pc + 1)) : J X nL cells slots M vs (.int y :: .int x :: st) pc := by
  obtain ⟨p, l, e, R, s, m, args, below, meth, c, D, M0, Q⟩ := X
  obtain ⟨hx, hb, hml, hown, hts, hKK, hlk, hR⟩ := g
  have hK := hKK.1
  intro H locs ls hH hS hl hq
  exact lv_imul hx hb hd (k H locs ls hH hS hl hq)
theorem j_iand (g : jG X cc own Ts nL rm) {x y : Int32} (hd : decode cc pc = .ok (.iand, 1))  (k : J X nL cells slots M vs (.int (x &&& y) :: st) (pc + 1)) : J X nL cells slots M vs (.int y :: .int x :: st) pc := by
  obtain ⟨p, l, e, R, s, m, args, below, meth, c, D, M0, Q⟩ := X
  obtain ⟨hx, hb, hml, hown, hts, hKK, hlk, hR⟩ := g
  have hK := hKK.1
  intro H locs ls hH hS hl hq
  exact lv_iand hx hb hd (k H locs ls hH hS hl hq)
theorem j_idiv (g : jG X cc own Ts nL rm) {x y : Int32} (hd : decode cc pc = .ok (.idiv, 1)) (hne : ¬ y = 0) (k : J X nL cells slots M vs (.int (x / y) :: st) (pc + 1)) : J X nL cells slots M vs (.int y :: .int x :: st) pc := by
  obtain ⟨p, l, e, R, s, m, args, below, meth, c, D, M0, Q⟩ := X
  obtain ⟨hx, hb, hml, hown, hts, hKK, hlk, hR⟩ := g
  have hK := hKK.1
  intro H locs ls hH hS hl hq
  exact lv_idiv hx hb hd hne (k H locs ls hH hS hl hq)
theorem j_irem (g : jG X cc own Ts nL rm) {x y : Int32} (hd : decode cc pc = .ok (.irem, 1)) (hne : ¬ y = 0) (k : J X nL cells slots M vs (.int (x - x / y * y) :: st) (pc + 1)) : J X nL cells slots M vs (.int y :: .int x :: st) pc := by
  obtain ⟨p, l, e, R, s, m, args, below, meth, c, D, M0, Q⟩ := X
  obtain ⟨hx, hb, hml, hown, hts, hKK, hlk, hR⟩ := g
  have hK := hKK.1
  intro H locs ls hH hS hl hq
  exact lv_irem hx hb hd hne (k H locs ls hH hS hl hq)
theorem j_ineg (g : jG X cc own Ts nL rm) {x : Int32} (hd : decode cc pc = .ok (.ineg, 1))  (k : J X nL cells slots M vs (.int (-x) :: st) (pc + 1)) : J X nL cells slots M vs (.int x :: st) pc := by
  obtain ⟨p, l, e, R, s, m, args, below, meth, c, D, M0, Q⟩ := X
  obtain ⟨hx, hb, hml, hown, hts, hKK, hlk, hR⟩ := g
  have hK := hKK.1
  intro H locs ls hH hS hl hq
  exact lv_ineg hx hb hd (k H locs ls hH hS hl hq)
theorem j_iconst (g : jG X cc own Ts nL rm) {n : Int} (v : Int32) (hd : decode cc pc = .ok (.iconst n, 1)) (hv : Int32.ofInt n = v) (k : J X nL cells slots M vs (.int v :: st) (pc + 1)) : J X nL cells slots M vs st pc := by
  obtain ⟨p, l, e, R, s, m, args, below, meth, c, D, M0, Q⟩ := X
  obtain ⟨hx, hb, hml, hown, hts, hKK, hlk, hR⟩ := g
  have hK := hKK.1
  intro H locs ls hH hS hl hq
  exact lv_iconst hx hb hd hv (k H locs ls hH hS hl hq)
theorem j_bipush (g : jG X cc own Ts nL rm) {n : Int} (v : Int32) (hd : decode cc pc = .ok (.bipush n, 2)) (hv : (Int8.ofInt n).toInt32 = v) (k : J X nL cells slots M vs (.int v :: st) (pc + 2)) : J X nL cells slots M vs st pc := by
  obtain ⟨p, l, e, R, s, m, args, below, meth, c, D, M0, Q⟩ := X
  obtain ⟨hx, hb, hml, hown, hts, hKK, hlk, hR⟩ := g
  have hK := hKK.1
  intro H locs ls hH hS hl hq
  exact lv_bipush hx hb hd hv (k H locs ls hH hS hl hq)
theorem j_sipush (g : jG X cc own Ts nL rm) {n : Int} (v : Int32) (hd : decode cc pc = .ok (.sipush n, 3)) (hv : (Int16.ofInt n).toInt32 = v) (k : J X nL cells slots M vs (.int v :: st) (pc + 3)) : J X nL cells slots M vs st pc := by
  obtain ⟨p, l, e, R, s, m, args, below, meth, c, D, M0, Q⟩ := X
  obtain ⟨hx, hb, hml, hown, hts, hKK, hlk, hR⟩ := g
  have hK := hKK.1
  intro H locs ls hH hS hl hq
  exact lv_sipush hx hb hd hv (k H locs ls hH hS hl hq)
theorem j_i2f (g : jG X cc own Ts nL rm) {x : Int32} (hd : decode cc pc = .ok (.i2f, 1))  (k : J X nL cells slots M vs (.float (FP.i2f x) :: st) (pc + 1)) : J X nL cells slots M vs (.int x :: st) pc := by
  obtain ⟨p, l, e, R, s, m, args, below, meth, c, D, M0, Q⟩ := X
  obtain ⟨hx, hb, hml, hown, hts, hKK, hlk, hR⟩ := g
  have hK := hKK.1
  intro H locs ls hH hS hl hq
  exact lv_i2f hx hb hd (k H locs ls hH hS hl hq)
theorem j_i2l (g : jG X cc own Ts nL rm) {x : Int32} (hd : decode cc pc = .ok (.i2l, 1))  (k : J X nL cells slots M vs (.long x.toInt64 :: st) (pc + 1)) : J X nL cells slots M vs (.int x :: st) pc := by
  obtain ⟨p, l, e, R, s, m, args, below, meth, c, D, M0, Q⟩ := X
  obtain ⟨hx, hb, hml, hown, hts, hKK, hlk, hR⟩ := g
  have hK := hKK.1
  intro H locs ls hH hS hl hq
  exact lv_i2l hx hb hd rfl (k H locs ls hH hS hl hq)
theorem j_fneg (g : jG X cc own Ts nL rm) {x : UInt32} (hd : decode cc pc = .ok (.fneg, 1))  (k : J X nL cells slots M vs (.float (FP.fneg x) :: st) (pc + 1)) : J X nL cells slots M vs (.float x :: st) pc := by
  obtain ⟨p, l, e, R, s, m, args, below, meth, c, D, M0, Q⟩ := X
  obtain ⟨hx, hb, hml, hown, hts, hKK, hlk, hR⟩ := g
  have hK := hKK.1
  intro H locs ls hH hS hl hq
  exact lv_fneg hx hb hd (k H locs ls hH hS hl hq)
theorem j_fadd (g : jG X cc own Ts nL rm) {x y : UInt32} (hd : decode cc pc = .ok (.fadd, 1)) (hne : vf_n32 (FP.fadd x y)) (k : J X nL cells slots M vs (.float (FP.fadd x y) :: st) (pc + 1)) : J X nL cells slots M vs (.float y :: .float x :: st) pc := by
  obtain ⟨p, l, e, R, s, m, args, below, meth, c, D, M0, Q⟩ := X
  obtain ⟨hx, hb, hml, hown, hts, hKK, hlk, hR⟩ := g
  have hK := hKK.1
  intro H locs ls hH hS hl hq
  exact lv_fadd hx hb hd hne (k H locs ls hH hS hl hq)
theorem j_fsub (g : jG X cc own Ts nL rm) {x y : UInt32} (hd : decode cc pc = .ok (.fsub, 1)) (hne : vf_n32 (FP.fsub x y)) (k : J X nL cells slots M vs (.float (FP.fsub x y) :: st) (pc + 1)) : J X nL cells slots M vs (.float y :: .float x :: st) pc := by
  obtain ⟨p, l, e, R, s, m, args, below, meth, c, D, M0, Q⟩ := X
  obtain ⟨hx, hb, hml, hown, hts, hKK, hlk, hR⟩ := g
  have hK := hKK.1
  intro H locs ls hH hS hl hq
  exact lv_fsub hx hb hd hne (k H locs ls hH hS hl hq)
theorem j_fmul (g : jG X cc own Ts nL rm) {x y : UInt32} (hd : decode cc pc = .ok (.fmul, 1)) (hne : vf_n32 (FP.fmul x y)) (k : J X nL cells slots M vs (.float (FP.fmul x y) :: st) (pc + 1)) : J X nL cells slots M vs (.float y :: .float x :: st) pc := by
  obtain ⟨p, l, e, R, s, m, args, below, meth, c, D, M0, Q⟩ := X
  obtain ⟨hx, hb, hml, hown, hts, hKK, hlk, hR⟩ := g
  have hK := hKK.1
  intro H locs ls hH hS hl hq
  exact lv_fmul hx hb hd hne (k H locs ls hH hS hl hq)
theorem j_fdiv (g : jG X cc own Ts nL rm) {x y : UInt32} (hd : decode cc pc = .ok (.fdiv, 1)) (hne : vf_n32 (FP.fdiv x y)) (k : J X nL cells slots M vs (.float (FP.fdiv x y) :: st) (pc + 1)) : J X nL cells slots M vs (.float y :: .float x :: st) pc := by
  obtain ⟨p, l, e, R, s, m, args, below, meth, c, D, M0, Q⟩ := X
  obtain ⟨hx, hb, hml, hown, hts, hKK, hlk, hR⟩ := g
  have hK := hKK.1
  intro H locs ls hH hS hl hq
  exact lv_fdiv hx hb hd hne (k H locs ls hH hS hl hq)
theorem j_fcmp (g : jG X cc own Ts nL rm) {x y : UInt32} {op : CmpOp} (hd : decode cc pc = .ok (.fcmp op, 1))  (k : J X nL cells slots M vs (.int (Op.cmpValue (FP.fcmp x y) op) :: st) (pc + 1)) : J X nL cells slots M vs (.float y :: .float x :: st) pc := by
  obtain ⟨p, l, e, R, s, m, args, below, meth, c, D, M0, Q⟩ := X
  obtain ⟨hx, hb, hml, hown, hts, hKK, hlk, hR⟩ := g
  have hK := hKK.1
  intro H locs ls hH hS hl hq
  exact lv_fcmp hx hb hd (k H locs ls hH hS hl hq)
theorem j_dcmp (g : jG X cc own Ts nL rm) {x y : UInt64} {op : CmpOp} (hd : decode cc pc = .ok (.dcmp op, 1))  (k : J X nL cells slots M vs (.int (Op.cmpValue (FP.dcmp x y) op) :: st) (pc + 1)) : J X nL cells slots M vs (.double y :: .double x :: st) pc := by
  obtain ⟨p, l, e, R, s, m, args, below, meth, c, D, M0, Q⟩ := X
  obtain ⟨hx, hb, hml, hown, hts, hKK, hlk, hR⟩ := g
  have hK := hKK.1
  intro H locs ls hH hS hl hq
  exact lv_dcmp hx hb hd (k H locs ls hH hS hl hq)
theorem j_f2d (g : jG X cc own Ts nL rm) {x : UInt32} (hd : decode cc pc = .ok (.f2d, 1)) (hne : vf_n64 (FP.f2d x)) (k : J X nL cells slots M vs (.double (FP.f2d x) :: st) (pc + 1)) : J X nL cells slots M vs (.float x :: st) pc := by
  obtain ⟨p, l, e, R, s, m, args, below, meth, c, D, M0, Q⟩ := X
  obtain ⟨hx, hb, hml, hown, hts, hKK, hlk, hR⟩ := g
  have hK := hKK.1
  intro H locs ls hH hS hl hq
  exact lv_f2d hx hb hd hne (k H locs ls hH hS hl hq)
theorem j_lconst (g : jG X cc own Ts nL rm) {n : Fin 2} (v : Int64) (hd : decode cc pc = .ok (.lconst n, 1)) (hv : Int64.ofNat (n : Nat) = v) (k : J X nL cells slots M vs (.long v :: st) (pc + 1)) : J X nL cells slots M vs st pc := by
  obtain ⟨p, l, e, R, s, m, args, below, meth, c, D, M0, Q⟩ := X
  obtain ⟨hx, hb, hml, hown, hts, hKK, hlk, hR⟩ := g
  have hK := hKK.1
  intro H locs ls hH hS hl hq
  exact lv_lconst hx hb hd hv (k H locs ls hH hS hl hq)
theorem j_fconst0 (g : jG X cc own Ts nL rm)  (hd : decode cc pc = .ok (.fconst 0, 1))  (k : J X nL cells slots M vs (.float FP.fconst0 :: st) (pc + 1)) : J X nL cells slots M vs st pc := by
  obtain ⟨p, l, e, R, s, m, args, below, meth, c, D, M0, Q⟩ := X
  obtain ⟨hx, hb, hml, hown, hts, hKK, hlk, hR⟩ := g
  have hK := hKK.1
  intro H locs ls hH hS hl hq
  exact lv_fconst0 hx hb hd (k H locs ls hH hS hl hq)
theorem j_fconst1 (g : jG X cc own Ts nL rm)  (hd : decode cc pc = .ok (.fconst 1, 1))  (k : J X nL cells slots M vs (.float FP.fconst1 :: st) (pc + 1)) : J X nL cells slots M vs st pc := by
  obtain ⟨p, l, e, R, s, m, args, below, meth, c, D, M0, Q⟩ := X
  obtain ⟨hx, hb, hml, hown, hts, hKK, hlk, hR⟩ := g
  have hK := hKK.1
  intro H locs ls hH hS hl hq
  exact lv_fconst1 hx hb hd (k H locs ls hH hS hl hq)
theorem j_fconst2 (g : jG X cc own Ts nL rm)  (hd : decode cc pc = .ok (.fconst 2, 1))  (k : J X nL cells slots M vs (.float FP.fconst2 :: st) (pc + 1)) : J X nL cells slots M vs st pc := by
  obtain ⟨p, l, e, R, s, m, args, below, meth, c, D, M0, Q⟩ := X
  obtain ⟨hx, hb, hml, hown, hts, hKK, hlk, hR⟩ := g
  have hK := hKK.1
  intro H locs ls hH hS hl hq
  exact lv_fconst2 hx hb hd (k H locs ls hH hS hl hq)
theorem j_aconst_null (g : jG X cc own Ts nL rm)  (hd : decode cc pc = .ok (.aconst_null, 1))  (k : J X nL cells slots M vs (.null :: st) (pc + 1)) : J X nL cells slots M vs st pc := by
  obtain ⟨p, l, e, R, s, m, args, below, meth, c, D, M0, Q⟩ := X
  obtain ⟨hx, hb, hml, hown, hts, hKK, hlk, hR⟩ := g
  have hK := hKK.1
  intro H locs ls hH hS hl hq
  exact lv_null hx hb hd (k H locs ls hH hS hl hq)
theorem j_dup (g : jG X cc own Ts nL rm) {va : Value} (hd : decode cc pc = .ok (.dup, 1)) (hva : va.category = 1) (k : J X nL cells slots M vs (va :: va :: st) (pc + 1)) : J X nL cells slots M vs (va :: st) pc := by
  obtain ⟨p, l, e, R, s, m, args, below, meth, c, D, M0, Q⟩ := X
  obtain ⟨hx, hb, hml, hown, hts, hKK, hlk, hR⟩ := g
  have hK := hKK.1
  intro H locs ls hH hS hl hq
  exact lv_dup hx hb hd hva (k H locs ls hH hS hl hq)
theorem j_pop (g : jG X cc own Ts nL rm) {va : Value} (hd : decode cc pc = .ok (.pop, 1)) (hva : va.category = 1) (k : J X nL cells slots M vs st (pc + 1)) : J X nL cells slots M vs (va :: st) pc := by
  obtain ⟨p, l, e, R, s, m, args, below, meth, c, D, M0, Q⟩ := X
  obtain ⟨hx, hb, hml, hown, hts, hKK, hlk, hR⟩ := g
  have hK := hKK.1
  intro H locs ls hH hS hl hq
  exact lv_pop hx hb hd hva (k H locs ls hH hS hl hq)
theorem j_dup2 (g : jG X cc own Ts nL rm) {va vb : Value} (hd : decode cc pc = .ok (.dup2, 1)) (hva : va.category = 1) (hvb : vb.category = 1) (k : J X nL cells slots M vs (va :: vb :: va :: vb :: st) (pc + 1)) : J X nL cells slots M vs (va :: vb :: st) pc := by
  obtain ⟨p, l, e, R, s, m, args, below, meth, c, D, M0, Q⟩ := X
  obtain ⟨hx, hb, hml, hown, hts, hKK, hlk, hR⟩ := g
  have hK := hKK.1
  intro H locs ls hH hS hl hq
  exact lv_dup2_11 hx hb hd hva hvb (k H locs ls hH hS hl hq)
theorem j_ldcf (g : jG X cc own Ts nL rm) {idx : Nat} (v : UInt32) (hd : decode cc pc = .ok (.ldc idx, 2)) (hw : Cond.constantFloat own idx v ∈ Ts) (k : J X nL cells slots M vs (.float v :: st) (pc + 2)) : J X nL cells slots M vs st pc := by
  obtain ⟨p, l, e, R, s, m, args, below, meth, c, D, M0, Q⟩ := X
  obtain ⟨hx, hb, hml, hown, hts, hKK, hlk, hR⟩ := g
  have hK := hKK.1
  intro H locs ls hH hS hl hq
  exact lv_ldcf hx hb hown (hts _ hw) hd (k H locs ls hH hS hl hq)
theorem j_iload (g : jG X cc own Ts nL rm) {i : Nat} {x : Int32} (hd : decode cc pc = .ok (.iload i, 2)) (hv : lvg vs i = some (.int x)) (k : J X nL cells slots M vs (.int x :: st) (pc + 2)) : J X nL cells slots M vs st pc := by
  obtain ⟨p, l, e, R, s, m, args, below, meth, c, D, M0, Q⟩ := X
  obtain ⟨hx, hb, hml, hown, hts, hKK, hlk, hR⟩ := g
  have hK := hKK.1
  intro H locs ls hH hS hl hq
  exact lv_iload hx hb hd (lv_of_lvg hl hv) (k H locs ls hH hS hl hq)
theorem j_iload_n (g : jG X cc own Ts nL rm) {n : Fin 4} {x : Int32} (i : Nat) (hd : decode cc pc = .ok (.iload_n n, 1)) (hi : (n : Nat) = i) (hv : lvg vs i = some (.int x)) (k : J X nL cells slots M vs (.int x :: st) (pc + 1)) : J X nL cells slots M vs st pc := by
  obtain ⟨p, l, e, R, s, m, args, below, meth, c, D, M0, Q⟩ := X
  obtain ⟨hx, hb, hml, hown, hts, hKK, hlk, hR⟩ := g
  have hK := hKK.1
  intro H locs ls hH hS hl hq
  exact lv_iload_n hx hb hd hi (lv_of_lvg hl hv) (k H locs ls hH hS hl hq)
theorem j_fload (g : jG X cc own Ts nL rm) {i : Nat} {x : UInt32} (hd : decode cc pc = .ok (.fload i, 2)) (hv : lvg vs i = some (.float x)) (k : J X nL cells slots M vs (.float x :: st) (pc + 2)) : J X nL cells slots M vs st pc := by
  obtain ⟨p, l, e, R, s, m, args, below, meth, c, D, M0, Q⟩ := X
  obtain ⟨hx, hb, hml, hown, hts, hKK, hlk, hR⟩ := g
  have hK := hKK.1
  intro H locs ls hH hS hl hq
  exact lv_fload hx hb hd (lv_of_lvg hl hv) (k H locs ls hH hS hl hq)
theorem j_fload_n (g : jG X cc own Ts nL rm) {n : Fin 4} {x : UInt32} (i : Nat) (hd : decode cc pc = .ok (.fload_n n, 1)) (hi : (n : Nat) = i) (hv : lvg vs i = some (.float x)) (k : J X nL cells slots M vs (.float x :: st) (pc + 1)) : J X nL cells slots M vs st pc := by
  obtain ⟨p, l, e, R, s, m, args, below, meth, c, D, M0, Q⟩ := X
  obtain ⟨hx, hb, hml, hown, hts, hKK, hlk, hR⟩ := g
  have hK := hKK.1
  intro H locs ls hH hS hl hq
  exact lv_fload_n hx hb hd hi (lv_of_lvg hl hv) (k H locs ls hH hS hl hq)
theorem j_aload (g : jG X cc own Ts nL rm) {i : Nat} {x : Nat} (hd : decode cc pc = .ok (.aload i, 2)) (hv : lvg vs i = some (.ref x)) (k : J X nL cells slots M vs (.ref x :: st) (pc + 2)) : J X nL cells slots M vs st pc := by
  obtain ⟨p, l, e, R, s, m, args, below, meth, c, D, M0, Q⟩ := X
  obtain ⟨hx, hb, hml, hown, hts, hKK, hlk, hR⟩ := g
  have hK := hKK.1
  intro H locs ls hH hS hl hq
  exact lv_aload hx hb hd (lv_of_lvg hl hv) (k H locs ls hH hS hl hq)
theorem j_aload_n (g : jG X cc own Ts nL rm) {n : Fin 4} {x : Nat} (i : Nat) (hd : decode cc pc = .ok (.aload_n n, 1)) (hi : (n : Nat) = i) (hv : lvg vs i = some (.ref x)) (k : J X nL cells slots M vs (.ref x :: st) (pc + 1)) : J X nL cells slots M vs st pc := by
  obtain ⟨p, l, e, R, s, m, args, below, meth, c, D, M0, Q⟩ := X
  obtain ⟨hx, hb, hml, hown, hts, hKK, hlk, hR⟩ := g
  have hK := hKK.1
  intro H locs ls hH hS hl hq
  exact lv_aload_n hx hb hd hi (lv_of_lvg hl hv) (k H locs ls hH hS hl hq)
theorem j_aloadN (g : jG X cc own Ts nL rm) {i : Nat} (hd : decode cc pc = .ok (.aload i, 2)) (hv : lvg vs i = some .null) (k : J X nL cells slots M vs (.null :: st) (pc + 2)) : J X nL cells slots M vs st pc := by
  obtain ⟨p, l, e, R, s, m, args, below, meth, c, D, M0, Q⟩ := X
  obtain ⟨hx, hb, hml, hown, hts, hKK, hlk, hR⟩ := g
  have hK := hKK.1
  intro H locs ls hH hS hl hq
  exact lv_aloadN hx hb hd (lv_of_lvg hl hv) (k H locs ls hH hS hl hq)
theorem j_aload_nN (g : jG X cc own Ts nL rm) {n : Fin 4} (i : Nat) (hd : decode cc pc = .ok (.aload_n n, 1)) (hi : (n : Nat) = i) (hv : lvg vs i = some .null) (k : J X nL cells slots M vs (.null :: st) (pc + 1)) : J X nL cells slots M vs st pc := by
  obtain ⟨p, l, e, R, s, m, args, below, meth, c, D, M0, Q⟩ := X
  obtain ⟨hx, hb, hml, hown, hts, hKK, hlk, hR⟩ := g
  have hK := hKK.1
  intro H locs ls hH hS hl hq
  exact lv_aload_nN hx hb hd hi (lv_of_lvg hl hv) (k H locs ls hH hS hl hq)
theorem j_istore (g : jG X cc own Ts nL rm) {i : Nat} {x : Int32} (hd : decode cc pc = .ok (.istore i, 2)) (hi : i < vs.length) (k : J X nL cells slots M (lvp vs i (.int x)) st (pc + 2)) : J X nL cells slots M vs (.int x :: st) pc := by
  obtain ⟨p, l, e, R, s, m, args, below, meth, c, D, M0, Q⟩ := X
  obtain ⟨hx, hb, hml, hown, hts, hKK, hlk, hR⟩ := g
  have hK := hKK.1
  intro H locs ls hH hS hl hq
  exact lv_istore hx hb hd hl (by rw [← hq.1]; exact hi) rfl (fun ls2 hl2 => k H locs ls2 hH hS (lvl_keep hq.2 hi hl2) ⟨(lvp_len _ _ _).trans hq.1, lv1_p hq.2 rfl⟩)
theorem j_istore_n (g : jG X cc own Ts nL rm) {n : Fin 4} {x : Int32} (i : Nat) (hd : decode cc pc = .ok (.istore_n n, 1)) (hni : (n : Nat) = i) (hi : i < vs.length) (k : J X nL cells slots M (lvp vs i (.int x)) st (pc + 1)) : J X nL cells slots M vs (.int x :: st) pc := by
  obtain ⟨p, l, e, R, s, m, args, below, meth, c, D, M0, Q⟩ := X
  obtain ⟨hx, hb, hml, hown, hts, hKK, hlk, hR⟩ := g
  have hK := hKK.1
  intro H locs ls hH hS hl hq
  exact lv_istore_n hx hb hd hni hl (by rw [← hq.1]; exact hi) rfl (fun ls2 hl2 => k H locs ls2 hH hS (lvl_keep hq.2 hi hl2) ⟨(lvp_len _ _ _).trans hq.1, lv1_p hq.2 rfl⟩)
theorem j_fstore (g : jG X cc own Ts nL rm) {i : Nat} {x : UInt32} (hd : decode cc pc = .ok (.fstore i, 2)) (hi : i < vs.length) (k : J X nL cells slots M (lvp vs i (.float x)) st (pc + 2)) : J X nL cells slots M vs (.float x :: st) pc := by
  obtain ⟨p, l, e, R, s, m, args, below, meth, c, D, M0, Q⟩ := X
  obtain ⟨hx, hb, hml, hown, hts, hKK, hlk, hR⟩ := g
  have hK := hKK.1
  intro H locs ls hH hS hl hq
  exact lv_fstore hx hb hd hl (by rw [← hq.1]; exact hi) rfl (fun ls2 hl2 => k H locs ls2 hH hS (lvl_keep hq.2 hi hl2) ⟨(lvp_len _ _ _).trans hq.1, lv1_p hq.2 rfl⟩)
theorem j_fstore_n (g : jG X cc own Ts nL rm) {n : Fin 4} {x : UInt32} (i : Nat) (hd : decode cc pc = .ok (.fstore_n n, 1)) (hni : (n : Nat) = i) (hi : i < vs.length) (k : J X nL cells slots M (lvp vs i (.float x)) st (pc + 1)) : J X nL cells slots M vs (.float x :: st) pc := by
  obtain ⟨p, l, e, R, s, m, args, below, meth, c, D, M0, Q⟩ := X
  obtain ⟨hx, hb, hml, hown, hts, hKK, hlk, hR⟩ := g
  have hK := hKK.1
  intro H locs ls hH hS hl hq
  exact lv_fstore_n hx hb hd hni hl (by rw [← hq.1]; exact hi) rfl (fun ls2 hl2 => k H locs ls2 hH hS (lvl_keep hq.2 hi hl2) ⟨(lvp_len _ _ _).trans hq.1, lv1_p hq.2 rfl⟩)
theorem j_astore (g : jG X cc own Ts nL rm) {i : Nat} {x : Nat} (hd : decode cc pc = .ok (.astore i, 2)) (hi : i < vs.length) (k : J X nL cells slots M (lvp vs i (.ref x)) st (pc + 2)) : J X nL cells slots M vs (.ref x :: st) pc := by
  obtain ⟨p, l, e, R, s, m, args, below, meth, c, D, M0, Q⟩ := X
  obtain ⟨hx, hb, hml, hown, hts, hKK, hlk, hR⟩ := g
  have hK := hKK.1
  intro H locs ls hH hS hl hq
  exact lv_astore hx hb hd hl (by rw [← hq.1]; exact hi) rfl (fun ls2 hl2 => k H locs ls2 hH hS (lvl_keep hq.2 hi hl2) ⟨(lvp_len _ _ _).trans hq.1, lv1_p hq.2 rfl⟩)
theorem j_astore_n (g : jG X cc own Ts nL rm) {n : Fin 4} {x : Nat} (i : Nat) (hd : decode cc pc = .ok (.astore_n n, 1)) (hni : (n : Nat) = i) (hi : i < vs.length) (k : J X nL cells slots M (lvp vs i (.ref x)) st (pc + 1)) : J X nL cells slots M vs (.ref x :: st) pc := by
  obtain ⟨p, l, e, R, s, m, args, below, meth, c, D, M0, Q⟩ := X
  obtain ⟨hx, hb, hml, hown, hts, hKK, hlk, hR⟩ := g
  have hK := hKK.1
  intro H locs ls hH hS hl hq
  exact lv_astore_n hx hb hd hni hl (by rw [← hq.1]; exact hi) rfl (fun ls2 hl2 => k H locs ls2 hH hS (lvl_keep hq.2 hi hl2) ⟨(lvp_len _ _ _).trans hq.1, lv1_p hq.2 rfl⟩)
theorem j_astoreN (g : jG X cc own Ts nL rm) {i : Nat} (hd : decode cc pc = .ok (.astore i, 2)) (hi : i < vs.length) (k : J X nL cells slots M (lvp vs i .null) st (pc + 2)) : J X nL cells slots M vs (.null :: st) pc := by
  obtain ⟨p, l, e, R, s, m, args, below, meth, c, D, M0, Q⟩ := X
  obtain ⟨hx, hb, hml, hown, hts, hKK, hlk, hR⟩ := g
  have hK := hKK.1
  intro H locs ls hH hS hl hq
  exact lv_astoreN hx hb hd hl (by rw [← hq.1]; exact hi) rfl (fun ls2 hl2 => k H locs ls2 hH hS (lvl_keep hq.2 hi hl2) ⟨(lvp_len _ _ _).trans hq.1, lv1_p hq.2 rfl⟩)
theorem j_astore_nN (g : jG X cc own Ts nL rm) {n : Fin 4} (i : Nat) (hd : decode cc pc = .ok (.astore_n n, 1)) (hni : (n : Nat) = i) (hi : i < vs.length) (k : J X nL cells slots M (lvp vs i .null) st (pc + 1)) : J X nL cells slots M vs (.null :: st) pc := by
  obtain ⟨p, l, e, R, s, m, args, below, meth, c, D, M0, Q⟩ := X
  obtain ⟨hx, hb, hml, hown, hts, hKK, hlk, hR⟩ := g
  have hK := hKK.1
  intro H locs ls hH hS hl hq
  exact lv_astore_nN hx hb hd hni hl (by rw [← hq.1]; exact hi) rfl (fun ls2 hl2 => k H locs ls2 hH hS (lvl_keep hq.2 hi hl2) ⟨(lvp_len _ _ _).trans hq.1, lv1_p hq.2 rfl⟩)
theorem j_iinc (g : jG X cc own Ts nL rm) {i : Nat} {n : Int} {x : Int32} (v : Int32) (hd : decode cc pc = .ok (.iinc i n, 3)) (hv : lvg vs i = some (.int x)) (he : x + Int32.ofInt n = v) (k : J X nL cells slots M (lvp vs i (.int v)) st (pc + 3)) : J X nL cells slots M vs st pc := by
  obtain ⟨p, l, e, R, s, m, args, below, meth, c, D, M0, Q⟩ := X
  obtain ⟨hx, hb, hml, hown, hts, hKK, hlk, hR⟩ := g
  have hK := hKK.1
  intro H locs ls hH hS hl hq
  have hi := lvg_lt _ _ _ hv
  have hm := lvl_mem vs 0 i _ hv
  rw [Nat.zero_add] at hm
  obtain ⟨j, hj⟩ := List.getElem?_of_mem hm
  exact lv_iinc hx hb hd hl hj he (by rw [← hq.1]; exact hi) rfl (fun ls2 hl2 => k H locs ls2 hH hS (lvl_keep hq.2 hi hl2) ⟨(lvp_len _ _ _).trans hq.1, lv1_p hq.2 rfl⟩)
theorem j_if_eq (g : jG X cc own Ts nL rm) {x : Int32} {off : Int} (tgt : Nat) (hd : decode cc pc = .ok (.ifCond .eq off, 3)) (ht : (pc : Int) + off = (tgt : Int)) (kt : x = 0 → J X nL cells slots M vs st tgt) (kf : ¬ x = 0 → J X nL cells slots M vs st (pc + 3)) : J X nL cells slots M vs (.int x :: st) pc := by
  obtain ⟨p, l, e, R, s, m, args, below, meth, c, D, M0, Q⟩ := X
  obtain ⟨hx, hb, hml, hown, hts, hKK, hlk, hR⟩ := g
  have hK := hKK.1
  intro H locs ls hH hS hl hq
  exact lv_if_eq hx hb hd ht (fun h => kt h H locs ls hH hS hl hq) (fun h => kf h H locs ls hH hS hl hq)
theorem j_if_ne (g : jG X cc own Ts nL rm) {x : Int32} {off : Int} (tgt : Nat) (hd : decode cc pc = .ok (.ifCond .ne off, 3)) (ht : (pc : Int) + off = (tgt : Int)) (kt : ¬ x = 0 → J X nL cells slots M vs st tgt) (kf : x = 0 → J X nL cells slots M vs st (pc + 3)) : J X nL cells slots M vs (.int x :: st) pc := by
  obtain ⟨p, l, e, R, s, m, args, below, meth, c, D, M0, Q⟩ := X
  obtain ⟨hx, hb, hml, hown, hts, hKK, hlk, hR⟩ := g
  have hK := hKK.1
  intro H locs ls hH hS hl hq
  exact lv_if_ne hx hb hd ht (fun h => kt h H locs ls hH hS hl hq) (fun h => kf h H locs ls hH hS hl hq)
theorem j_if_lt (g : jG X cc own Ts nL rm) {x : Int32} {off : Int} (tgt : Nat) (hd : decode cc pc = .ok (.ifCond .lt off, 3)) (ht : (pc : Int) + off = (tgt : Int)) (kt : x < 0 → J X nL cells slots M vs st tgt) (kf : ¬ x < 0 → J X nL cells slots M vs st (pc + 3)) : J X nL cells slots M vs (.int x :: st) pc := by
  obtain ⟨p, l, e, R, s, m, args, below, meth, c, D, M0, Q⟩ := X
  obtain ⟨hx, hb, hml, hown, hts, hKK, hlk, hR⟩ := g
  have hK := hKK.1
  intro H locs ls hH hS hl hq
  exact lv_if_lt hx hb hd ht (fun h => kt h H locs ls hH hS hl hq) (fun h => kf h H locs ls hH hS hl hq)
theorem j_if_ge (g : jG X cc own Ts nL rm) {x : Int32} {off : Int} (tgt : Nat) (hd : decode cc pc = .ok (.ifCond .ge off, 3)) (ht : (pc : Int) + off = (tgt : Int)) (kt : 0 ≤ x → J X nL cells slots M vs st tgt) (kf : ¬ 0 ≤ x → J X nL cells slots M vs st (pc + 3)) : J X nL cells slots M vs (.int x :: st) pc := by
  obtain ⟨p, l, e, R, s, m, args, below, meth, c, D, M0, Q⟩ := X
  obtain ⟨hx, hb, hml, hown, hts, hKK, hlk, hR⟩ := g
  have hK := hKK.1
  intro H locs ls hH hS hl hq
  exact lv_if_ge hx hb hd ht (fun h => kt h H locs ls hH hS hl hq) (fun h => kf h H locs ls hH hS hl hq)
theorem j_if_gt (g : jG X cc own Ts nL rm) {x : Int32} {off : Int} (tgt : Nat) (hd : decode cc pc = .ok (.ifCond .gt off, 3)) (ht : (pc : Int) + off = (tgt : Int)) (kt : 0 < x → J X nL cells slots M vs st tgt) (kf : ¬ 0 < x → J X nL cells slots M vs st (pc + 3)) : J X nL cells slots M vs (.int x :: st) pc := by
  obtain ⟨p, l, e, R, s, m, args, below, meth, c, D, M0, Q⟩ := X
  obtain ⟨hx, hb, hml, hown, hts, hKK, hlk, hR⟩ := g
  have hK := hKK.1
  intro H locs ls hH hS hl hq
  exact lv_if_gt hx hb hd ht (fun h => kt h H locs ls hH hS hl hq) (fun h => kf h H locs ls hH hS hl hq)
theorem j_if_le (g : jG X cc own Ts nL rm) {x : Int32} {off : Int} (tgt : Nat) (hd : decode cc pc = .ok (.ifCond .le off, 3)) (ht : (pc : Int) + off = (tgt : Int)) (kt : x ≤ 0 → J X nL cells slots M vs st tgt) (kf : ¬ x ≤ 0 → J X nL cells slots M vs st (pc + 3)) : J X nL cells slots M vs (.int x :: st) pc := by
  obtain ⟨p, l, e, R, s, m, args, below, meth, c, D, M0, Q⟩ := X
  obtain ⟨hx, hb, hml, hown, hts, hKK, hlk, hR⟩ := g
  have hK := hKK.1
  intro H locs ls hH hS hl hq
  exact lv_if_le hx hb hd ht (fun h => kt h H locs ls hH hS hl hq) (fun h => kf h H locs ls hH hS hl hq)
theorem j_icmp_eq (g : jG X cc own Ts nL rm) {x y : Int32} {off : Int} (tgt : Nat) (hd : decode cc pc = .ok (.if_icmp .eq off, 3)) (ht : (pc : Int) + off = (tgt : Int)) (kt : x = y → J X nL cells slots M vs st tgt) (kf : ¬ x = y → J X nL cells slots M vs st (pc + 3)) : J X nL cells slots M vs (.int y :: .int x :: st) pc := by
  obtain ⟨p, l, e, R, s, m, args, below, meth, c, D, M0, Q⟩ := X
  obtain ⟨hx, hb, hml, hown, hts, hKK, hlk, hR⟩ := g
  have hK := hKK.1
  intro H locs ls hH hS hl hq
  exact lv_icmp_eq hx hb hd ht (fun h => kt h H locs ls hH hS hl hq) (fun h => kf h H locs ls hH hS hl hq)
theorem j_icmp_ne (g : jG X cc own Ts nL rm) {x y : Int32} {off : Int} (tgt : Nat) (hd : decode cc pc = .ok (.if_icmp .ne off, 3)) (ht : (pc : Int) + off = (tgt : Int)) (kt : ¬ x = y → J X nL cells slots M vs st tgt) (kf : x = y → J X nL cells slots M vs st (pc + 3)) : J X nL cells slots M vs (.int y :: .int x :: st) pc := by
  obtain ⟨p, l, e, R, s, m, args, below, meth, c, D, M0, Q⟩ := X
  obtain ⟨hx, hb, hml, hown, hts, hKK, hlk, hR⟩ := g
  have hK := hKK.1
  intro H locs ls hH hS hl hq
  exact lv_icmp_ne hx hb hd ht (fun h => kt h H locs ls hH hS hl hq) (fun h => kf h H locs ls hH hS hl hq)
theorem j_icmp_lt (g : jG X cc own Ts nL rm) {x y : Int32} {off : Int} (tgt : Nat) (hd : decode cc pc = .ok (.if_icmp .lt off, 3)) (ht : (pc : Int) + off = (tgt : Int)) (kt : x < y → J X nL cells slots M vs st tgt) (kf : ¬ x < y → J X nL cells slots M vs st (pc + 3)) : J X nL cells slots M vs (.int y :: .int x :: st) pc := by
  obtain ⟨p, l, e, R, s, m, args, below, meth, c, D, M0, Q⟩ := X
  obtain ⟨hx, hb, hml, hown, hts, hKK, hlk, hR⟩ := g
  have hK := hKK.1
  intro H locs ls hH hS hl hq
  exact lv_icmp_lt hx hb hd ht (fun h => kt h H locs ls hH hS hl hq) (fun h => kf h H locs ls hH hS hl hq)
theorem j_icmp_ge (g : jG X cc own Ts nL rm) {x y : Int32} {off : Int} (tgt : Nat) (hd : decode cc pc = .ok (.if_icmp .ge off, 3)) (ht : (pc : Int) + off = (tgt : Int)) (kt : y ≤ x → J X nL cells slots M vs st tgt) (kf : ¬ y ≤ x → J X nL cells slots M vs st (pc + 3)) : J X nL cells slots M vs (.int y :: .int x :: st) pc := by
  obtain ⟨p, l, e, R, s, m, args, below, meth, c, D, M0, Q⟩ := X
  obtain ⟨hx, hb, hml, hown, hts, hKK, hlk, hR⟩ := g
  have hK := hKK.1
  intro H locs ls hH hS hl hq
  exact lv_icmp_ge hx hb hd ht (fun h => kt h H locs ls hH hS hl hq) (fun h => kf h H locs ls hH hS hl hq)
theorem j_icmp_gt (g : jG X cc own Ts nL rm) {x y : Int32} {off : Int} (tgt : Nat) (hd : decode cc pc = .ok (.if_icmp .gt off, 3)) (ht : (pc : Int) + off = (tgt : Int)) (kt : y < x → J X nL cells slots M vs st tgt) (kf : ¬ y < x → J X nL cells slots M vs st (pc + 3)) : J X nL cells slots M vs (.int y :: .int x :: st) pc := by
  obtain ⟨p, l, e, R, s, m, args, below, meth, c, D, M0, Q⟩ := X
  obtain ⟨hx, hb, hml, hown, hts, hKK, hlk, hR⟩ := g
  have hK := hKK.1
  intro H locs ls hH hS hl hq
  exact lv_icmp_gt hx hb hd ht (fun h => kt h H locs ls hH hS hl hq) (fun h => kf h H locs ls hH hS hl hq)
theorem j_icmp_le (g : jG X cc own Ts nL rm) {x y : Int32} {off : Int} (tgt : Nat) (hd : decode cc pc = .ok (.if_icmp .le off, 3)) (ht : (pc : Int) + off = (tgt : Int)) (kt : x ≤ y → J X nL cells slots M vs st tgt) (kf : ¬ x ≤ y → J X nL cells slots M vs st (pc + 3)) : J X nL cells slots M vs (.int y :: .int x :: st) pc := by
  obtain ⟨p, l, e, R, s, m, args, below, meth, c, D, M0, Q⟩ := X
  obtain ⟨hx, hb, hml, hown, hts, hKK, hlk, hR⟩ := g
  have hK := hKK.1
  intro H locs ls hH hS hl hq
  exact lv_icmp_le hx hb hd ht (fun h => kt h H locs ls hH hS hl hq) (fun h => kf h H locs ls hH hS hl hq)
theorem j_goto (g : jG X cc own Ts nL rm) {off : Int} (tgt : Nat) (hd : decode cc pc = .ok (.goto off, 3)) (ht : (pc : Int) + off = (tgt : Int)) (k : J X nL cells slots M vs st tgt) : J X nL cells slots M vs st pc := by
  obtain ⟨p, l, e, R, s, m, args, below, meth, c, D, M0, Q⟩ := X
  obtain ⟨hx, hb, hml, hown, hts, hKK, hlk, hR⟩ := g
  have hK := hKK.1
  intro H locs ls hH hS hl hq
  exact lv_goto hx hb hd ht (k H locs ls hH hS hl hq)
theorem j_ifnull (g : jG X cc own Ts nL rm) {x : Nat} {off : Int} (hd : decode cc pc = .ok (.ifnull off, 3)) (k : J X nL cells slots M vs st (pc + 3)) : J X nL cells slots M vs (.ref x :: st) pc := by
  obtain ⟨p, l, e, R, s, m, args, below, meth, c, D, M0, Q⟩ := X
  obtain ⟨hx, hb, hml, hown, hts, hKK, hlk, hR⟩ := g
  have hK := hKK.1
  intro H locs ls hH hS hl hq
  exact lv_ifnull hx hb hd (k H locs ls hH hS hl hq)
theorem j_ifnullN (g : jG X cc own Ts nL rm) {off : Int} (tgt : Nat) (hd : decode cc pc = .ok (.ifnull off, 3)) (ht : (pc : Int) + off = (tgt : Int)) (k : J X nL cells slots M vs st tgt) : J X nL cells slots M vs (.null :: st) pc := by
  obtain ⟨p, l, e, R, s, m, args, below, meth, c, D, M0, Q⟩ := X
  obtain ⟨hx, hb, hml, hown, hts, hKK, hlk, hR⟩ := g
  have hK := hKK.1
  intro H locs ls hH hS hl hq
  exact lv_ifnullN hx hb hd ht (k H locs ls hH hS hl hq)
theorem j_ifnonnull (g : jG X cc own Ts nL rm) {x : Nat} {off : Int} (tgt : Nat) (hd : decode cc pc = .ok (.ifnonnull off, 3)) (ht : (pc : Int) + off = (tgt : Int)) (k : J X nL cells slots M vs st tgt) : J X nL cells slots M vs (.ref x :: st) pc := by
  obtain ⟨p, l, e, R, s, m, args, below, meth, c, D, M0, Q⟩ := X
  obtain ⟨hx, hb, hml, hown, hts, hKK, hlk, hR⟩ := g
  have hK := hKK.1
  intro H locs ls hH hS hl hq
  exact lv_ifnonnull hx hb hd ht (k H locs ls hH hS hl hq)
theorem j_ifnonnullN (g : jG X cc own Ts nL rm) {off : Int} (hd : decode cc pc = .ok (.ifnonnull off, 3)) (k : J X nL cells slots M vs st (pc + 3)) : J X nL cells slots M vs (.null :: st) pc := by
  obtain ⟨p, l, e, R, s, m, args, below, meth, c, D, M0, Q⟩ := X
  obtain ⟨hx, hb, hml, hown, hts, hKK, hlk, hR⟩ := g
  have hK := hKK.1
  intro H locs ls hH hS hl hq
  exact lv_ifnonnullN hx hb hd (k H locs ls hH hS hl hq)
theorem j_lcmp (g : jG X cc own Ts nL rm) {x y : Int64} (hd : decode cc pc = .ok (.lcmp, 1)) (k : J X nL cells slots M vs (.int (lg_cmp x y) :: st) (pc + 1)) : J X nL cells slots M vs (.long y :: .long x :: st) pc := by
  obtain ⟨p, l, e, R, s, m, args, below, meth, c, D, M0, Q⟩ := X
  obtain ⟨hx, hb, hml, hown, hts, hKK, hlk, hR⟩ := g
  have hK := hKK.1
  intro H locs ls hH hS hl hq
  exact W.lcmp hx hb hd (k H locs ls hH hS hl hq)
theorem j_tableIn (g : jG X cc own Ts nL rm) {dflt lo hi : Int} {offs : Array Int} {len : Nat} {x : Int32} (off : Int) (tgt : Nat) (hd : decode cc pc = .ok (.tableswitch dflt lo hi offs, len)) (h1 : ¬ x.toInt < lo) (h2 : ¬ hi < x.toInt) (ho : offs[(x.toInt - lo).toNat]? = some off) (ht : (pc : Int) + off = (tgt : Int)) (k : J X nL cells slots M vs st tgt) : J X nL cells slots M vs (.int x :: st) pc := by
  obtain ⟨p, l, e, R, s, m, args, below, meth, c, D, M0, Q⟩ := X
  obtain ⟨hx, hb, hml, hown, hts, hKK, hlk, hR⟩ := g
  have hK := hKK.1
  intro H locs ls hH hS hl hq
  exact lv_tableIn hx hb hd h1 h2 ho ht (k H locs ls hH hS hl hq)
theorem j_tableOut (g : jG X cc own Ts nL rm) {dflt lo hi : Int} {offs : Array Int} {len : Nat} {x : Int32} (tgt : Nat) (hd : decode cc pc = .ok (.tableswitch dflt lo hi offs, len)) (h : x.toInt < lo ∨ hi < x.toInt) (ht : (pc : Int) + dflt = (tgt : Int)) (k : J X nL cells slots M vs st tgt) : J X nL cells slots M vs (.int x :: st) pc := by
  obtain ⟨p, l, e, R, s, m, args, below, meth, c, D, M0, Q⟩ := X
  obtain ⟨hx, hb, hml, hown, hts, hKK, hlk, hR⟩ := g
  have hK := hKK.1
  intro H locs ls hH hS hl hq
  exact lv_tableOut hx hb hd h ht (k H locs ls hH hS hl hq)
theorem j_lookup (g : jG X cc own Ts nL rm) {dflt : Int} {ps : Array (Int × Int)} {len : Nat} {x : Int32} (off : Int) (tgt : Nat) (hd : decode cc pc = .ok (.lookupswitch dflt ps, len)) (hp : (ps.toList.zip (ps.toList.drop 1)).all (fun (a, next) => a.1 < next.1) = true) (ho : Op.lookupswitch.offset ps.toList dflt x.toInt = off) (ht : (pc : Int) + off = (tgt : Int)) (k : J X nL cells slots M vs st tgt) : J X nL cells slots M vs (.int x :: st) pc := by
  obtain ⟨p, l, e, R, s, m, args, below, meth, c, D, M0, Q⟩ := X
  obtain ⟨hx, hb, hml, hown, hts, hKK, hlk, hR⟩ := g
  have hK := hKK.1
  intro H locs ls hH hS hl hq
  exact lv_lookup hx hb hd hp ho ht (k H locs ls hH hS hl hq)
theorem j_get (g : jG X cc own Ts nL rm) {idx ci N : Nat} {ref C : String} {T : u_T} {a : Nat} {fs : List Value} {v : Value} (hd : decode cc pc = .ok (.getfield idx, 3)) (ha : M a = some (.inr (ci, fs))) (hc : vwCl[ci]? = some (C, T, N)) (hin : ∀ w ∈ u_ws C T N, w ∈ Ts) (k : Nat) (hk : k < N) (hlink : Cond.fieldLink own idx ref (T k).2.1 (T k).2.2.1 ∈ Ts) (hsame : (T k).1 = ref) (hv : fs[k]? = some v) (kk : J X nL cells slots M vs (v :: st) (pc + 3)) : J X nL cells slots M vs (.ref a :: st) pc := by
  obtain ⟨p, l, e, R, s, m, args, below, meth, c, D, M0, Q⟩ := X
  obtain ⟨hx, hb, hml, hown, hts, hKK, hlk, hR⟩ := g
  have hK := hKK.1
  intro H locs ls hH hS hl hq
  obtain ⟨w, hw, hP, hA⟩ := hH.at ha
  have hw2 : w = .inr (ci, fs) := hw
  subst hw2
  exact va_get hx hb hts hin hown hK hP 0 rfl hc k hk (hts _ hlink) (fun _ h => by rw [← hsame]; exact h) hv hd (kk H locs ls hH hS hl hq)
theorem j_put (g : jG X cc own Ts nL rm) {idx ci N : Nat} {ref C : String} {T : u_T} {a : Nat} {fs : List Value} {v : Value} {ty : FieldType} (hd : decode cc pc = .ok (.putfield idx, 3)) (ha : M a = some (.inr (ci, fs))) (hc : vwCl[ci]? = some (C, T, N)) (hin : ∀ w ∈ u_ws C T N, w ∈ Ts) (tyf : Nat → FieldType) (htyf : ∀ k, k < N → parseFieldDescriptor (T k).2.2.1 = some (tyf k)) (hnm : ∀ a, a < N → ∀ b, b < N → a ≠ b → (T a).2.1 ≠ (T b).2.1) (k : Nat) (hk : k < N) (hlink : Cond.fieldLink own idx ref (T k).2.1 (T k).2.2.1 ∈ Ts) (hsame : (T k).1 = ref) (hfin : (T k).2.2.2 = false) (hty : tyf k = ty) (hn : narrow ty v = v) (hfit : fits ty v = true) (hlen : k < fs.length) (kk : J X nL cells slots (xu M a (.inr (ci, fs.set k v))) vs st (pc + 3)) : J X nL cells slots M vs (v :: .ref a :: st) pc := by
  obtain ⟨p, l, e, R, s, m, args, below, meth, c, D, M0, Q⟩ := X
  obtain ⟨hx, hb, hml, hown, hts, hKK, hlk, hR⟩ := g
  have hK := hKK.1
  intro H locs ls hH hS hl hq
  obtain ⟨L, f, h1, h2, h3, h4⟩ := id hH
  have hm : a ∈ L := (h1 a).mpr (by rw [ha]; simp)
  obtain ⟨i0, hk0⟩ := va_pl_get (X := []) (f := f) hm
  have hk0 : (va_pl L f)[i0]? = some (a, f a) := hk0
  have hfa : f a = .inr (ci, fs) := h2 a _ ha
  refine va_put hx hb hts hin tyf htyf hnm hown hK h3 h4 hS i0 (hk0.trans (by rw [hfa])) hc k hk (hts _ hlink) (fun _ h => by rw [← hsame]; exact h) hfin ((htyf k hk).trans (congrArg some hty)) hn hfit hlen hd (fun H1 locs1 hP1 hD1 hS1 => ?_)
  exact kk H1 locs1 ls (xH.chg h1 h2 hm hk0 h4 (by exact rfl) hP1 hD1) hS1 hl hq
theorem j_putF (g : jG X cc own Ts nL rm) {idx ci N : Nat} {ref C : String} {T : u_T} {a : Nat} {fs : List Value} {v : Value} {ty : FieldType} (hd : decode cc pc = .ok (.putfield idx, 3)) (ha : M a = some (.inr (ci, fs))) (hc : vwCl[ci]? = some (C, T, N)) (hin : ∀ w ∈ u_ws C T N, w ∈ Ts) (tyf : Nat → FieldType) (htyf : ∀ k, k < N → parseFieldDescriptor (T k).2.2.1 = some (tyf k)) (hnm : ∀ a, a < N → ∀ b, b < N → a ≠ b → (T a).2.1 ≠ (T b).2.1) (k : Nat) (hk : k < N) (hlink : Cond.fieldLink own idx ref (T k).2.1 (T k).2.2.1 ∈ Ts) (hsame : (T k).1 = ref) (hinit : ∀ p l e R s m args below meth c D M0 Q, X = (p, l, e, R, s, m, args, below, meth, c, D, M0, Q) → meth.name = "<init>") (hfin : (T k).2.2.2 = true) (hdecl : (T k).1 = own) (hty : tyf k = ty) (hn : narrow ty v = v) (hfit : fits ty v = true) (hlen : k < fs.length) (kk : J X nL cells slots (xu M a (.inr (ci, fs.set k v))) vs st (pc + 3)) : J X nL cells slots M vs (v :: .ref a :: st) pc := by
  obtain ⟨p, l, e, R, s, m, args, below, meth, c, D, M0, Q⟩ := X
  obtain ⟨hx, hb, hml, hown, hts, hKK, hlk, hR⟩ := g
  have hK := hKK.1
  intro H locs ls hH hS hl hq
  obtain ⟨L, f, h1, h2, h3, h4⟩ := id hH
  have hm : a ∈ L := (h1 a).mpr (by rw [ha]; simp)
  obtain ⟨i0, hk0⟩ := va_pl_get (X := []) (f := f) hm
  have hk0 : (va_pl L f)[i0]? = some (a, f a) := hk0
  have hfa : f a = .inr (ci, fs) := h2 a _ ha
  refine va_putF hx hb hts hin tyf htyf hnm hown hK h3 h4 hS i0 (hk0.trans (by rw [hfa])) hc k hk (hts _ hlink) (fun _ h => by rw [← hsame]; exact h) hfin (hinit _ _ _ _ _ _ _ _ _ _ _ _ _ rfl) hdecl ((htyf k hk).trans (congrArg some hty)) hn hfit hlen hd (fun H1 locs1 hP1 hD1 hS1 => ?_)
  exact kk H1 locs1 ls (xH.chg h1 h2 hm hk0 h4 (by exact rfl) hP1 hD1) hS1 hl hq
theorem j_iald (g : jG X cc own Ts nL rm) {a n : Nat} {i : Int32} {f : Nat → Int32} (hd : decode cc pc = .ok (.iaload, 1)) (ha : M a = some (.inl (10, n, .inl f))) (hin : vp_in i n) (kk : J X nL cells slots M vs (.int (f i.toNatClampNeg) :: st) (pc + 1)) : J X nL cells slots M vs (.int i :: .ref a :: st) pc := by
  obtain ⟨p, l, e, R, s, m, args, below, meth, c, D, M0, Q⟩ := X
  obtain ⟨hx, hb, hml, hown, hts, hKK, hlk, hR⟩ := g
  have hK := hKK.1
  intro H locs ls hH hS hl hq
  obtain ⟨w, hw, hP, hA⟩ := hH.at ha
  obtain ⟨cA, hw2, hw3, hw4⟩ := hw
  subst hw2
  exact va_iald hx hb (xK1 hK hw3 hw4) hP 0 0 rfl rfl hin hd (kk H locs ls hH hS hl hq)
theorem j_zald (g : jG X cc own Ts nL rm) {a n : Nat} {i : Int32} {f : Nat → Int32} (hd : decode cc pc = .ok (.baload, 1)) (ha : M a = some (.inl (11, n, .inl f))) (hin : vp_in i n) (kk : J X nL cells slots M vs (.int (f i.toNatClampNeg) :: st) (pc + 1)) : J X nL cells slots M vs (.int i :: .ref a :: st) pc := by
  obtain ⟨p, l, e, R, s, m, args, below, meth, c, D, M0, Q⟩ := X
  obtain ⟨hx, hb, hml, hown, hts, hKK, hlk, hR⟩ := g
  have hK := hKK.1
  intro H locs ls hH hS hl hq
  obtain ⟨w, hw, hP, hA⟩ := hH.at ha
  obtain ⟨cA, hw2, hw3, hw4⟩ := hw
  subst hw2
  exact va_zald hx hb (xK1 hK hw3 hw4) hP 0 0 rfl rfl hin hd (kk H locs ls hH hS hl hq)
theorem j_lald (g : jG X cc own Ts nL rm) {a n : Nat} {i : Int32} {f : Nat → Int64} (hd : decode cc pc = .ok (.laload, 1)) (ha : M a = some (.inl (12, n, .inr (.inl f)))) (hin : vp_in i n) (kk : J X nL cells slots M vs (.long (f i.toNatClampNeg) :: st) (pc + 1)) : J X nL cells slots M vs (.int i :: .ref a :: st) pc := by
  obtain ⟨p, l, e, R, s, m, args, below, meth, c, D, M0, Q⟩ := X
  obtain ⟨hx, hb, hml, hown, hts, hKK, hlk, hR⟩ := g
  have hK := hKK.1
  intro H locs ls hH hS hl hq
  obtain ⟨w, hw, hP, hA⟩ := hH.at ha
  obtain ⟨cA, hw2, hw3, hw4⟩ := hw
  subst hw2
  exact va_lald hx hb (xK1 hK hw3 hw4) hP 0 0 rfl rfl hin hd (kk H locs ls hH hS hl hq)
theorem j_dald (g : jG X cc own Ts nL rm) {a n : Nat} {i : Int32} {f : Nat → UInt64} (hd : decode cc pc = .ok (.daload, 1)) (ha : M a = some (.inl (13, n, .inr (.inr (.inr (.inl f)))))) (hin : vp_in i n) (kk : J X nL cells slots M vs (.double (f i.toNatClampNeg) :: st) (pc + 1)) : J X nL cells slots M vs (.int i :: .ref a :: st) pc := by
  obtain ⟨p, l, e, R, s, m, args, below, meth, c, D, M0, Q⟩ := X
  obtain ⟨hx, hb, hml, hown, hts, hKK, hlk, hR⟩ := g
  have hK := hKK.1
  intro H locs ls hH hS hl hq
  obtain ⟨w, hw, hP, hA⟩ := hH.at ha
  obtain ⟨cA, hw2, hw3, hw4⟩ := hw
  subst hw2
  exact va_dald hx hb (xK1 hK hw3 hw4) hP 0 0 rfl rfl hin hd (kk H locs ls hH hS hl hq)
theorem j_aald (g : jG X cc own Ts nL rm) {a n tc : Nat} {C : String} {i : Int32} {f : Nat → Option Nat} (hd : decode cc pc = .ok (.aaload, 1)) (ha : M a = some (.inl (tc, n, .inr (.inr (.inr (.inr f)))))) (htc : xTy tc = .object C) (hin : vp_in i n) (kk : J X nL cells slots M vs (va_rf (f i.toNatClampNeg) :: st) (pc + 1)) : J X nL cells slots M vs (.int i :: .ref a :: st) pc := by
  obtain ⟨p, l, e, R, s, m, args, below, meth, c, D, M0, Q⟩ := X
  obtain ⟨hx, hb, hml, hown, hts, hKK, hlk, hR⟩ := g
  have hK := hKK.1
  intro H locs ls hH hS hl hq
  obtain ⟨w, hw, hP, hA⟩ := hH.at ha
  obtain ⟨cA, hw2, hw3, hw4⟩ := hw
  subst hw2
  have hw3 : ArrOfT s cA (.object C) := by rw [← htc]; exact hw3
  have hw4 : va_RA s cA (.object C) := by rw [← htc]; exact hw4
  exact va_aldq hx hb (xK1 hK hw3 hw4) hP 0 0 rfl rfl hin hd (kk H locs ls hH hS hl hq)
theorem j_alen (g : jG X cc own Ts nL rm) {a tc : Nat} {x : vp_A} (v : Int32) (hd : decode cc pc = .ok (.arraylength, 1)) (ha : M a = some (.inl (tc, x))) (hv : Int32.ofNat x.1 = v) (kk : J X nL cells slots M vs (.int v :: st) (pc + 1)) : J X nL cells slots M vs (.ref a :: st) pc := by
  obtain ⟨p, l, e, R, s, m, args, below, meth, c, D, M0, Q⟩ := X
  obtain ⟨hx, hb, hml, hown, hts, hKK, hlk, hR⟩ := g
  have hK := hKK.1
  intro H locs ls hH hS hl hq
  obtain ⟨w, hw, hP, hA⟩ := hH.at ha
  obtain ⟨cA, hw2, hw3, hw4⟩ := hw
  subst hw2
  exact va_alen hx hb (xK1 hK hw3 hw4) hP 0 0 rfl rfl hv hd (kk H locs ls hH hS hl hq)
theorem j_iast (g : jG X cc own Ts nL rm) {a n : Nat} {i : Int32} {f : Nat → Int32} {x : Int32} (hd : decode cc pc = .ok (.iastore, 1)) (ha : M a = some (.inl (10, n, .inl f))) (hin : vp_in i n) (kk : J X nL cells slots (xu M a (.inl (10, n, .inl (upd f i.toNatClampNeg x)))) vs st (pc + 1)) : J X nL cells slots M vs (.int x :: .int i :: .ref a :: st) pc := by
  obtain ⟨p, l, e, R, s, m, args, below, meth, c, D, M0, Q⟩ := X
  obtain ⟨hx, hb, hml, hown, hts, hKK, hlk, hR⟩ := g
  have hK := hKK.1
  intro H locs ls hH hS hl hq
  obtain ⟨L, f_, h1, h2, h3, h4⟩ := id hH
  have hm : a ∈ L := (h1 a).mpr (by rw [ha]; simp)
  obtain ⟨i0, hk0⟩ := va_pl_get (X := []) (f := f_) hm
  have hk0 : (va_pl L f_)[i0]? = some (a, f_ a) := hk0
  obtain ⟨cA, hfa, hw3, hw4⟩ := h2 a _ ha
  refine va_iast hx hb (xK1 hK hw3 hw4) h3 h4 hS i0 0 (hk0.trans (by rw [hfa])) rfl hin hd (fun H1 locs1 hP1 hD1 hS1 => ?_)
  exact kk H1 locs1 ls (xH.chg h1 h2 hm hk0 h4 ⟨cA, rfl, hw3, hw4⟩ hP1 hD1) hS1 hl hq
theorem j_last (g : jG X cc own Ts nL rm) {a n : Nat} {i : Int32} {f : Nat → Int64} {x : Int64} (hd : decode cc pc = .ok (.lastore, 1)) (ha : M a = some (.inl (12, n, .inr (.inl f)))) (hin : vp_in i n) (kk : J X nL cells slots (xu M a (.inl (12, n, .inr (.inl (vp_updL f i.toNatClampNeg x))))) vs st (pc + 1)) : J X nL cells slots M vs (.long x :: .int i :: .ref a :: st) pc := by
  obtain ⟨p, l, e, R, s, m, args, below, meth, c, D, M0, Q⟩ := X
  obtain ⟨hx, hb, hml, hown, hts, hKK, hlk, hR⟩ := g
  have hK := hKK.1
  intro H locs ls hH hS hl hq
  obtain ⟨L, f_, h1, h2, h3, h4⟩ := id hH
  have hm : a ∈ L := (h1 a).mpr (by rw [ha]; simp)
  obtain ⟨i0, hk0⟩ := va_pl_get (X := []) (f := f_) hm
  have hk0 : (va_pl L f_)[i0]? = some (a, f_ a) := hk0
  obtain ⟨cA, hfa, hw3, hw4⟩ := h2 a _ ha
  refine va_last hx hb (xK1 hK hw3 hw4) h3 h4 hS i0 0 (hk0.trans (by rw [hfa])) rfl hin hd (fun H1 locs1 hP1 hD1 hS1 => ?_)
  exact kk H1 locs1 ls (xH.chg h1 h2 hm hk0 h4 ⟨cA, rfl, hw3, hw4⟩ hP1 hD1) hS1 hl hq
theorem j_dast (g : jG X cc own Ts nL rm) {a n : Nat} {i : Int32} {f : Nat → UInt64} {x : UInt64} (hd : decode cc pc = .ok (.dastore, 1)) (ha : M a = some (.inl (13, n, .inr (.inr (.inr (.inl f)))))) (hin : vp_in i n) (kk : J X nL cells slots (xu M a (.inl (13, n, .inr (.inr (.inr (.inl (vf_upd f i.toNatClampNeg x))))))) vs st (pc + 1)) : J X nL cells slots M vs (.double x :: .int i :: .ref a :: st) pc := by
  obtain ⟨p, l, e, R, s, m, args, below, meth, c, D, M0, Q⟩ := X
  obtain ⟨hx, hb, hml, hown, hts, hKK, hlk, hR⟩ := g
  have hK := hKK.1
  intro H locs ls hH hS hl hq
  obtain ⟨L, f_, h1, h2, h3, h4⟩ := id hH
  have hm : a ∈ L := (h1 a).mpr (by rw [ha]; simp)
  obtain ⟨i0, hk0⟩ := va_pl_get (X := []) (f := f_) hm
  have hk0 : (va_pl L f_)[i0]? = some (a, f_ a) := hk0
  obtain ⟨cA, hfa, hw3, hw4⟩ := h2 a _ ha
  refine va_dast hx hb (xK1 hK hw3 hw4) h3 h4 hS i0 0 (hk0.trans (by rw [hfa])) rfl hin hd (fun H1 locs1 hP1 hD1 hS1 => ?_)
  exact kk H1 locs1 ls (xH.chg h1 h2 hm hk0 h4 ⟨cA, rfl, hw3, hw4⟩ hP1 hD1) hS1 hl hq
theorem j_zast (g : jG X cc own Ts nL rm) {a n : Nat} {i : Int32} {f : Nat → Int32} {x : Int32} (hd : decode cc pc = .ok (.bastore, 1)) (ha : M a = some (.inl (11, n, .inl f))) (hin : vp_in i n) (kk : J X nL cells slots (xu M a (.inl (11, n, .inl (upd f i.toNatClampNeg (vp_nar .boolean x))))) vs st (pc + 1)) : J X nL cells slots M vs (.int x :: .int i :: .ref a :: st) pc := by
  obtain ⟨p, l, e, R, s, m, args, below, meth, c, D, M0, Q⟩ := X
  obtain ⟨hx, hb, hml, hown, hts, hKK, hlk, hR⟩ := g
  have hK := hKK.1
  intro H locs ls hH hS hl hq
  obtain ⟨L, f_, h1, h2, h3, h4⟩ := id hH
  have hm : a ∈ L := (h1 a).mpr (by rw [ha]; simp)
  obtain ⟨i0, hk0⟩ := va_pl_get (X := []) (f := f_) hm
  have hk0 : (va_pl L f_)[i0]? = some (a, f_ a) := hk0
  obtain ⟨cA, hfa, hw3, hw4⟩ := h2 a _ ha
  refine va_zast hx hb (xK1 hK hw3 hw4) h3 h4 hS i0 0 (hk0.trans (by rw [hfa])) rfl hin hd (fun H1 locs1 hP1 hD1 hS1 => ?_)
  exact kk H1 locs1 ls (xH.chg h1 h2 hm hk0 h4 ⟨cA, rfl, hw3, hw4⟩ hP1 hD1) hS1 hl hq
theorem j_aast (g : jG X cc own Ts nL rm) {a n tc ci v N : Nat} {C : String} {T : u_T} {vs0 : List Value} {i : Int32} {f : Nat → Option Nat} (hd : decode cc pc = .ok (.aastore, 1)) (ha : M a = some (.inl (tc, n, .inr (.inr (.inr (.inr f)))))) (hv : M v = some (.inr (ci, vs0))) (hc : vwCl[ci]? = some (C, T, N)) (htc : xTy tc = .object C) (hin : vp_in i n) (kk : J X nL cells slots (xu M a (.inl (tc, n, .inr (.inr (.inr (.inr (va_up f i.toNatClampNeg (some v)))))))) vs st (pc + 1)) : J X nL cells slots M vs (.ref v :: .int i :: .ref a :: st) pc := by
  obtain ⟨p, l, e, R, s, m, args, below, meth, c, D, M0, Q⟩ := X
  obtain ⟨hx, hb, hml, hown, hts, hKK, hlk, hR⟩ := g
  have hK := hKK.1
  intro H locs ls hH hS hl hq
  obtain ⟨L, f_, h1, h2, h3, h4⟩ := id hH
  have hm : a ∈ L := (h1 a).mpr (by rw [ha]; simp)
  obtain ⟨i0, hk0⟩ := va_pl_get (X := []) (f := f_) hm
  have hk0 : (va_pl L f_)[i0]? = some (a, f_ a) := hk0
  obtain ⟨cA, hfa, hw3, hw4⟩ := h2 a _ ha
  have hw3' : ArrOfT s cA (.object C) := by rw [← htc]; exact hw3
  have hw4' : va_RA s cA (.object C) := by rw [← htc]; exact hw4
  have hm2 : v ∈ L := (h1 v).mpr (by rw [hv]; simp)
  obtain ⟨i1, hk1⟩ := va_pl_get (X := []) (f := f_) hm2
  have hk1 : (va_pl L f_)[i1]? = some (v, f_ v) := hk1
  have hfv : f_ v = .inr (ci, vs0) := h2 v _ hv
  refine va_astq hx hb (xK1 hK hw3' hw4') h3 h4 hS i0 0 i1 ci (r := (C, T, N)) (hk0.trans (by rw [hfa])) rfl (hk1.trans (by rw [hfv])) hc hin hd (fun H1 locs1 hP1 hD1 hS1 => ?_)
  exact kk H1 locs1 ls (xH.chg h1 h2 hm hk0 h4 ⟨cA, rfl, hw3, hw4⟩ hP1 hD1) hS1 hl hq
theorem j_aastN (g : jG X cc own Ts nL rm) {a n tc : Nat} {C : String} {i : Int32} {f : Nat → Option Nat} (hd : decode cc pc = .ok (.aastore, 1)) (ha : M a = some (.inl (tc, n, .inr (.inr (.inr (.inr f)))))) (htc : xTy tc = .object C) (hin : vp_in i n) (kk : J X nL cells slots (xu M a (.inl (tc, n, .inr (.inr (.inr (.inr (va_up f i.toNatClampNeg none))))))) vs st (pc + 1)) : J X nL cells slots M vs (.null :: .int i :: .ref a :: st) pc := by
  obtain ⟨p, l, e, R, s, m, args, below, meth, c, D, M0, Q⟩ := X
  obtain ⟨hx, hb, hml, hown, hts, hKK, hlk, hR⟩ := g
  have hK := hKK.1
  intro H locs ls hH hS hl hq
  obtain ⟨L, f_, h1, h2, h3, h4⟩ := id hH
  have hm : a ∈ L := (h1 a).mpr (by rw [ha]; simp)
  obtain ⟨i0, hk0⟩ := va_pl_get (X := []) (f := f_) hm
  have hk0 : (va_pl L f_)[i0]? = some (a, f_ a) := hk0
  obtain ⟨cA, hfa, hw3, hw4⟩ := h2 a _ ha
  have hw3' : ArrOfT s cA (.object C) := by rw [← htc]; exact hw3
  have hw4' : va_RA s cA (.object C) := by rw [← htc]; exact hw4
  refine va_astqN hx hb (xK1 hK hw3' hw4') h3 h4 hS i0 0 (hk0.trans (by rw [hfa])) rfl hin hd (fun H1 locs1 hP1 hD1 hS1 => ?_)
  exact kk H1 locs1 ls (xH.chg h1 h2 hm hk0 h4 ⟨cA, rfl, hw3, hw4⟩ hP1 hD1) hS1 hl hq
theorem j_new (g : jG X cc own Ts nL rm) {idx ci N : Nat} {C : String} {T : u_T} (fs : List Value) (hd : decode cc pc = .ok (.new idx, 3)) (hin : ∀ w ∈ u_ws C T N, w ∈ Ts) (tyf : Nat → FieldType) (htyf : ∀ k, k < N → parseFieldDescriptor (T k).2.2.1 = some (tyf k)) (hcl : Cond.classLink own idx C ∈ Ts) (hins : Cond.instantiable C N ∈ Ts) (hini : Cond.initialized C ∈ Ts) (hc : vwCl[ci]? = some (C, T, N)) (hfs : ∀ j, j < N → defaultValue (tyf j) = vp_V fs j) (hcells : cells + 1 ≤ rm.cells) (hslots : slots + N ≤ rm.slots) (kk : ∀ q : Nat, M q = none → J X nL (cells + 1) (slots + N) (xu M q (.inr (ci, fs))) vs (.ref q :: st) (pc + 3)) : J X nL cells slots M vs st pc := by
  obtain ⟨p, l, e, R, s, m, args, below, meth, c, D, M0, Q⟩ := X
  obtain ⟨hx, hb, hml, hown, hts, hKK, hlk, hR⟩ := g
  have hK := hKK.1
  intro H locs ls hH hS hl hq
  have hA0 : ∀ q, s.heap.size ≤ q → xA M0 s.heap.size q := fun q h => Or.inr h
  obtain ⟨L, f_, h1, h2, h3, h4⟩ := id hH
  refine va_new hx hb hts hin tyf htyf hown (hts _ hcl) (hts _ hins) (hts _ hini) hK h3 h4 hS hA0 hc hfs (by rw [hR]; exact hcells) (by rw [hR]; exact hslots) hd (fun q H1 hP1 hD1 hS1 => ?_)
  obtain ⟨hn, hH1⟩ := xH.more (e := .inr (ci, fs)) h1 h2 (by exact rfl) hP1 hD1
  exact kk q hn H1 locs ls hH1 hS1 hl hq
theorem j_newaI (g : jG X cc own Ts nL rm) {n : Int32} (N : Nat) (hd : decode cc pc = .ok (.newarray .int, 2)) (hw : Cond.arrayClass .int ∈ Ts) (hn : ¬ n < 0) (hN : n.toNatClampNeg = N) (hby : N ≤ 4096) (hcells : cells + 1 ≤ rm.cells) (hslots : slots + N ≤ rm.slots) (kk : ∀ q : Nat, M q = none → J X nL (cells + 1) (slots + N) (xu M q (.inl (10, N, .inl (fun _ => 0)))) vs (.ref q :: st) (pc + 2)) : J X nL cells slots M vs (.int n :: st) pc := by
  obtain ⟨p, l, e, R, s, m, args, below, meth, c, D, M0, Q⟩ := X
  obtain ⟨hx, hb, hml, hown, hts, hKK, hlk, hR⟩ := g
  have hK := hKK.1
  intro H locs ls hH hS hl hq
  have hA0 : ∀ q, s.heap.size ≤ q → xA M0 s.heap.size q := fun q h => Or.inr h
  obtain ⟨L, f_, h1, h2, h3, h4⟩ := id hH
  refine va_newa (atype := .int) hx hb (hts _ hw) (ty := .int) rfl hK h3 h4 hS hA0 (a0 := (N, .inl (fun _ => 0))) (fun _ => rfl) hn hN (by simp only [componentBytes]; omega) (by rw [hR]; exact hcells) (by rw [hR]; exact hslots) hd (fun q cA H1 hK1 hP1 hD1 hS1 => ?_)
  have hA1 := hK1.2 0 (cA, .int) rfl
  obtain ⟨hn, hH1⟩ := xH.more (e := .inl (10, N, .inl (fun _ => 0))) h1 h2 ⟨cA, rfl, hA1.1, hA1.2⟩ hP1 hD1
  exact kk q hn H1 locs ls hH1 hS1 hl hq
theorem j_newaZ (g : jG X cc own Ts nL rm) {n : Int32} (N : Nat) (hd : decode cc pc = .ok (.newarray .boolean, 2)) (hw : Cond.arrayClass .boolean ∈ Ts) (hn : ¬ n < 0) (hN : n.toNatClampNeg = N) (hby : N ≤ 4096) (hcells : cells + 1 ≤ rm.cells) (hslots : slots + N ≤ rm.slots) (kk : ∀ q : Nat, M q = none → J X nL (cells + 1) (slots + N) (xu M q (.inl (11, N, .inl (fun _ => 0)))) vs (.ref q :: st) (pc + 2)) : J X nL cells slots M vs (.int n :: st) pc := by
  obtain ⟨p, l, e, R, s, m, args, below, meth, c, D, M0, Q⟩ := X
  obtain ⟨hx, hb, hml, hown, hts, hKK, hlk, hR⟩ := g
  have hK := hKK.1
  intro H locs ls hH hS hl hq
  have hA0 : ∀ q, s.heap.size ≤ q → xA M0 s.heap.size q := fun q h => Or.inr h
  obtain ⟨L, f_, h1, h2, h3, h4⟩ := id hH
  refine va_newa (atype := .boolean) hx hb (hts _ hw) (ty := .boolean) rfl hK h3 h4 hS hA0 (a0 := (N, .inl (fun _ => 0))) (fun _ => rfl) hn hN (by simp only [componentBytes]; omega) (by rw [hR]; exact hcells) (by rw [hR]; exact hslots) hd (fun q cA H1 hK1 hP1 hD1 hS1 => ?_)
  have hA1 := hK1.2 0 (cA, .boolean) rfl
  obtain ⟨hn, hH1⟩ := xH.more (e := .inl (11, N, .inl (fun _ => 0))) h1 h2 ⟨cA, rfl, hA1.1, hA1.2⟩ hP1 hD1
  exact kk q hn H1 locs ls hH1 hS1 hl hq
theorem j_newaJ (g : jG X cc own Ts nL rm) {n : Int32} (N : Nat) (hd : decode cc pc = .ok (.newarray .long, 2)) (hw : Cond.arrayClass .long ∈ Ts) (hn : ¬ n < 0) (hN : n.toNatClampNeg = N) (hby : N ≤ 4096) (hcells : cells + 1 ≤ rm.cells) (hslots : slots + N ≤ rm.slots) (kk : ∀ q : Nat, M q = none → J X nL (cells + 1) (slots + N) (xu M q (.inl (12, N, .inr (.inl (fun _ => 0))))) vs (.ref q :: st) (pc + 2)) : J X nL cells slots M vs (.int n :: st) pc := by
  obtain ⟨p, l, e, R, s, m, args, below, meth, c, D, M0, Q⟩ := X
  obtain ⟨hx, hb, hml, hown, hts, hKK, hlk, hR⟩ := g
  have hK := hKK.1
  intro H locs ls hH hS hl hq
  have hA0 : ∀ q, s.heap.size ≤ q → xA M0 s.heap.size q := fun q h => Or.inr h
  obtain ⟨L, f_, h1, h2, h3, h4⟩ := id hH
  refine va_newa (atype := .long) hx hb (hts _ hw) (ty := .long) rfl hK h3 h4 hS hA0 (a0 := (N, .inr (.inl (fun _ => 0)))) (fun _ => rfl) hn hN (by simp only [componentBytes]; omega) (by rw [hR]; exact hcells) (by rw [hR]; exact hslots) hd (fun q cA H1 hK1 hP1 hD1 hS1 => ?_)
  have hA1 := hK1.2 0 (cA, .long) rfl
  obtain ⟨hn, hH1⟩ := xH.more (e := .inl (12, N, .inr (.inl (fun _ => 0)))) h1 h2 ⟨cA, rfl, hA1.1, hA1.2⟩ hP1 hD1
  exact kk q hn H1 locs ls hH1 hS1 hl hq
theorem j_newaD (g : jG X cc own Ts nL rm) {n : Int32} (N : Nat) (hd : decode cc pc = .ok (.newarray .double, 2)) (hw : Cond.arrayClass .double ∈ Ts) (hn : ¬ n < 0) (hN : n.toNatClampNeg = N) (hby : N ≤ 4096) (hcells : cells + 1 ≤ rm.cells) (hslots : slots + N ≤ rm.slots) (kk : ∀ q : Nat, M q = none → J X nL (cells + 1) (slots + N) (xu M q (.inl (13, N, .inr (.inr (.inr (.inl (fun _ => 0))))))) vs (.ref q :: st) (pc + 2)) : J X nL cells slots M vs (.int n :: st) pc := by
  obtain ⟨p, l, e, R, s, m, args, below, meth, c, D, M0, Q⟩ := X
  obtain ⟨hx, hb, hml, hown, hts, hKK, hlk, hR⟩ := g
  have hK := hKK.1
  intro H locs ls hH hS hl hq
  have hA0 : ∀ q, s.heap.size ≤ q → xA M0 s.heap.size q := fun q h => Or.inr h
  obtain ⟨L, f_, h1, h2, h3, h4⟩ := id hH
  refine va_newa (atype := .double) hx hb (hts _ hw) (ty := .double) rfl hK h3 h4 hS hA0 (a0 := (N, .inr (.inr (.inr (.inl (fun _ => 0)))))) (fun _ => rfl) hn hN (by simp only [componentBytes]; omega) (by rw [hR]; exact hcells) (by rw [hR]; exact hslots) hd (fun q cA H1 hK1 hP1 hD1 hS1 => ?_)
  have hA1 := hK1.2 0 (cA, .double) rfl
  obtain ⟨hn, hH1⟩ := xH.more (e := .inl (13, N, .inr (.inr (.inr (.inl (fun _ => 0)))))) h1 h2 ⟨cA, rfl, hA1.1, hA1.2⟩ hP1 hD1
  exact kk q hn H1 locs ls hH1 hS1 hl hq
theorem j_newq (g : jG X cc own Ts nL rm) {n : Int32} {idx tc : Nat} {C : String} (N : Nat) (hd : decode cc pc = .ok (.anewarray idx, 3)) (hcl : Cond.classLink own idx C ∈ Ts) (htc8 : tc < 8) (htc : xTy tc = .object C) (hn : ¬ n < 0) (hN : n.toNatClampNeg = N) (hby : N ≤ 4096) (hcells : cells + 1 ≤ rm.cells) (hslots : slots + N ≤ rm.slots) (kk : ∀ q : Nat, M q = none → J X nL (cells + 1) (slots + N) (xu M q (.inl (tc, N, .inr (.inr (.inr (.inr (fun _ => none))))))) vs (.ref q :: st) (pc + 3)) : J X nL cells slots M vs (.int n :: st) pc := by
  obtain ⟨p, l, e, R, s, m, args, below, meth, c, D, M0, Q⟩ := X
  obtain ⟨hx, hb, hml, hown, hts, hKK, hlk, hR⟩ := g
  have hK := hKK.1
  intro H locs ls hH hS hl hq
  have hA0 : ∀ q, s.heap.size ≤ q → xA M0 s.heap.size q := fun q h => Or.inr h
  obtain ⟨L, f_, h1, h2, h3, h4⟩ := id hH
  refine va_newq hx hb hown (hts _ hcl) (hKK.2 tc C htc8 htc) hK h3 h4 hS hA0 hn hN (by omega) (by rw [hR]; exact hcells) (by rw [hR]; exact hslots) hd (fun q cA H1 hK1 hP1 hD1 hS1 => ?_)
  have hA1 := hK1.2 0 (cA, .object C) rfl
  rw [← htc] at hA1
  obtain ⟨hn, hH1⟩ := xH.more (e := .inl (tc, N, .inr (.inr (.inr (.inr (fun _ => none)))))) h1 h2 ⟨cA, rfl, hA1.1, hA1.2⟩ hP1 hD1
  exact kk q hn H1 locs ls hH1 hS1 hl hq
theorem j_objInit (g : jG X cc own Ts nL rm) {idx a : Nat} (hd : decode cc pc = .ok (.invokespecial idx, 3)) (h1 : Cond.methodLink own idx Lib.objectInit ∈ Ts) (h2 : Cond.instanceMethod Lib.objectInit ∈ Ts) (h3 : Cond.code Lib.objectInit ⟨#[0xb1]⟩ 1 none ∈ Ts) (hfr : 1 ≤ rm.frames) (hlo : (st.map fun v => v.category).sum + 12 ≤ rm.locals) (k : J X nL cells slots M vs st (pc + 3)) : J X nL cells slots M vs (.ref a :: st) pc := by
  obtain ⟨p, l, e, R, s, m, args, below, meth, c, D, M0, Q⟩ := X
  obtain ⟨hx, hb, hml, hown, hts, hKK, hlk, hR⟩ := g
  have hK := hKK.1
  intro H locs ls hH hS hl hq
  refine W.objInit hx hb hown (hts _ h1) (hts _ h2) (hts _ h3) rfl (by rw [hml]; exact hl.1) rfl hd (by rw [hR]; exact hfr) (by rw [hR]; show 2 * 0 + _ + 12 ≤ _; omega) ?_
  exact k H locs ls hH hS hl hq
theorem j_mabs (g : jG X cc own Ts nL rm) {x : Int32} {idx : Nat} (hd : decode cc pc = .ok (.invokestatic idx, 3)) (h1 : Cond.methodLink own idx Lib.Math.abs.name ∈ Ts) (h2 : Cond.static Lib.Math.abs.name ∈ Ts) (h3 : Cond.initialized "java/lang/Math" ∈ Ts) (h4 : Cond.code Lib.Math.abs.name Lib.Math.abs.code 1 (some .int) ∈ Ts) (hfr : 1 ≤ rm.frames) (hlo : (st.map fun v => v.category).sum + 13 ≤ rm.locals) (hcells : cells ≤ rm.cells) (hslots : slots ≤ rm.slots) (k : J X nL cells slots M vs (.int (if 0 ≤ x then x else 0 - x) :: st) (pc + 3)) : J X nL cells slots M vs (.int x :: st) pc := by
  obtain ⟨p, l, e, R, s, m, args, below, meth, c, D, M0, Q⟩ := X
  obtain ⟨hx, hb, hml, hown, hts, hKK, hlk, hR⟩ := g
  have hK := hKK.1
  intro H locs ls hH hS hl hq
  exact va_mabs hx hb (by rw [hml]; exact hl.1.symm) hown (hts _ h1) (hts _ h2) (hts _ h3) (hts _ h4) (by rw [hR]; exact hfr) (by rw [hR]; exact hlo) (by rw [hR]; exact hcells) (by rw [hR]; exact hslots) hd (k H locs ls hH hS hl hq)
theorem j_iret (g : jG X cc own Ts nL rm) {ret : Option FieldType} {Post : Option Value → MH → Prop} {mc ms : Nat} (r : jR X ret Post mc ms) {v : Int32} {ty : FieldType} (hret : ret = some ty) (hn : narrow ty (.int v) = .int v) (hp : Post (some (.int v)) M) (hd : decode cc pc = .ok (.ireturn, 1)) (hc : cells ≤ mc) (hs : slots ≤ ms)  : J X nL cells slots M vs [.int v] pc := by
  obtain ⟨p, l, e, R, s, m, args, below, meth, c, D, M0, Q⟩ := X
  obtain ⟨hx, hb, hml, hown, hts, hKK, hlk, hR⟩ := g
  have hK := hKK.1
  intro H locs ls hH hS hl hq
  refine r.2 _ _ _ _ _ (W.widen hc hs ?_)
  exact W.zret hx hb (r.1.trans hret) hn (fun t ht hW => ⟨⟨_, M, rfl, hp, by rw [ht]; exact hH.moved hW.alike, hKK.moved hW.alike⟩, hS.F ht⟩) hS.2.2 hd hlk
theorem j_fret (g : jG X cc own Ts nL rm) {ret : Option FieldType} {Post : Option Value → MH → Prop} {mc ms : Nat} (r : jR X ret Post mc ms) {v : UInt32} (hret : ret = some .float) (hp : Post (some (.float v)) M) (hd : decode cc pc = .ok (.freturn, 1)) (hc : cells ≤ mc) (hs : slots ≤ ms)  : J X nL cells slots M vs [.float v] pc := by
  obtain ⟨p, l, e, R, s, m, args, below, meth, c, D, M0, Q⟩ := X
  obtain ⟨hx, hb, hml, hown, hts, hKK, hlk, hR⟩ := g
  have hK := hKK.1
  intro H locs ls hH hS hl hq
  refine r.2 _ _ _ _ _ (W.widen hc hs ?_)
  exact W.fret hx hb (r.1.trans hret) (fun t ht hW => ⟨⟨_, M, rfl, hp, by rw [ht]; exact hH.moved hW.alike, hKK.moved hW.alike⟩, hS.F ht⟩) hS.2.2 hd hlk
theorem j_vret (g : jG X cc own Ts nL rm) {ret : Option FieldType} {Post : Option Value → MH → Prop} {mc ms : Nat} (r : jR X ret Post mc ms) (hret : ret = none) (hp : Post none M) (hd : decode cc pc = .ok (.return_, 1)) (hc : cells ≤ mc) (hs : slots ≤ ms)  : J X nL cells slots M vs [] pc := by
  obtain ⟨p, l, e, R, s, m, args, below, meth, c, D, M0, Q⟩ := X
  obtain ⟨hx, hb, hml, hown, hts, hKK, hlk, hR⟩ := g
  have hK := hKK.1
  intro H locs ls hH hS hl hq
  refine r.2 _ _ _ _ _ (W.widen hc hs ?_)
  exact W.vret hx hb (r.1.trans hret) (fun t ht hW => ⟨⟨_, M, rfl, hp, by rw [ht]; exact hH.moved hW.alike, hKK.moved hW.alike⟩, hS.F ht⟩) hS.2.2 hd hlk
theorem j_aret (g : jG X cc own Ts nL rm) {ret : Option FieldType} {Post : Option Value → MH → Prop} {mc ms : Nat} (r : jR X ret Post mc ms) {v : Nat} {n : String} (hret : ret = some (.object n)) (hp : Post (some (.ref v)) M) (hd : decode cc pc = .ok (.areturn, 1)) (hc : cells ≤ mc) (hs : slots ≤ ms)  : J X nL cells slots M vs [.ref v] pc := by
  obtain ⟨p, l, e, R, s, m, args, below, meth, c, D, M0, Q⟩ := X
  obtain ⟨hx, hb, hml, hown, hts, hKK, hlk, hR⟩ := g
  have hK := hKK.1
  intro H locs ls hH hS hl hq
  refine r.2 _ _ _ _ _ (W.widen hc hs ?_)
  exact W.aret hx hb (r.1.trans hret) (Or.inl ⟨_, rfl⟩) (Or.inr ⟨_, rfl⟩) (fun t ht hW => ⟨⟨_, M, rfl, hp, by rw [ht]; exact hH.moved hW.alike, hKK.moved hW.alike⟩, hS.F ht⟩) hS.2.2 hd hlk
theorem j_aretN (g : jG X cc own Ts nL rm) {ret : Option FieldType} {Post : Option Value → MH → Prop} {mc ms : Nat} (r : jR X ret Post mc ms) {n : String} (hret : ret = some (.object n)) (hp : Post (some .null) M) (hd : decode cc pc = .ok (.areturn, 1)) (hc : cells ≤ mc) (hs : slots ≤ ms)  : J X nL cells slots M vs [.null] pc := by
  obtain ⟨p, l, e, R, s, m, args, below, meth, c, D, M0, Q⟩ := X
  obtain ⟨hx, hb, hml, hown, hts, hKK, hlk, hR⟩ := g
  have hK := hKK.1
  intro H locs ls hH hS hl hq
  refine r.2 _ _ _ _ _ (W.widen hc hs ?_)
  exact W.aret hx hb (r.1.trans hret) (Or.inl ⟨_, rfl⟩) (Or.inl rfl) (fun t ht hW => ⟨⟨_, M, rfl, hp, by rw [ht]; exact hH.moved hW.alike, hKK.moved hW.alike⟩, hS.F ht⟩) hS.2.2 hd hlk
theorem xP_blind {D : va_G} {As : List Value} {Mc : MH} {h0 : Nat} : FrameBlind (xP D As Mc h0) := by
  intro a U fr mk q
  obtain ⟨q0, q1, q2, q3⟩ := q
  exact ⟨q0, q1, xH.moved (u := U) (U := U.calling fr mk a) (Vm.Alike.refl U.vm) q2, xK.moved (u := U) (U := U.calling fr mk a) (Vm.Alike.refl U.vm) q3⟩
theorem xP_at {D : va_G} {As : List Value} {M Mc : MH} {A : Nat → Prop} {s U : State} {H : Heap} (hH : xH D A M s H) (hK : xK D s) (hc : ∀ a e, Mc a = some e → M a = some e) (hU : U.heap = H) (hW : s.WarmedH U.vm) : xP D As Mc H.size As.toArray U := by
  refine ⟨rfl, by rw [hU], ?_, hK.moved hW.alike⟩
  obtain ⟨L, f, h1, h2, h3, h4⟩ := hH
  refine ⟨L.filter (fun q => (Mc q).isSome), f, fun a => ?_, fun a e he => (h2 a e (hc a e he)).moved hW.alike, fun k q hk => ?_, ⟨pl_inj (List.Nodup.sublist List.filter_sublist (nd_pl h4)), fun _ _ _ => trivial⟩⟩
  · rw [List.mem_filter, h1 a]
    constructor
    · intro h hn
      rw [hn] at h
      exact absurd h.2 (by simp)
    · intro h
      cases hm : Mc a with
      | none => exact absurd hm h
      | some e => exact ⟨by rw [hc a e hm]; simp, by simp⟩
  · have hx2 : q ∈ va_pl (L.filter (fun q => (Mc q).isSome)) f := List.mem_of_getElem? hk
    obtain ⟨a, ha, rfl⟩ := List.mem_map.mp hx2
    obtain ⟨k2, hk2⟩ := va_pl_get (X := []) (f := f) (List.mem_filter.mp ha).1
    rw [hU]
    exact h3 k2 _ hk2
theorem x_back {p : Program} {l : Launch} {e : Env} {R : Room} {s : State} {m : MethodId} {args : Array Value} {below : List Frame} {meth : Method} {c : Code} {D : va_G} {A : Nat → Prop} {Mc M : MH} {Q : State → Prop} {H : Heap} {locs : List Loc} {mc ms : Nat} {ls : Array Slot} {st0 rest : List Value} {a : Array Value} {Post : Option Value → MH → Prop} (hr : va_Run p l e R s m args below meth c H locs cells slots mc ms (F0 m pc ls st0) rest (xQ D Mc H.size Post a) (xA Mc H.size)) (hH : xH D A M s H) (hc : ∀ a e, Mc a = some e → M a = some e) (hA : ∀ q, s.heap.size ≤ q → A q) (hS : va_S A s.heap H locs)
    (kk : ∀ (v : Option Value) (M1 : MH) (H1 : Heap) (locs1 : List Loc), Post v M1 → xH D (xA Mc H.size) M1 s H1 → (∀ q : Nat, q < H.size → ¬ xA Mc H.size q → H1[q]? = H[q]?) → (∀ q, xA Mc H.size q → A q) → va_S A s.heap H1 locs1 → W p l e R s m args below meth c H1 locs1 (cells + mc) (slots + ms) Q (F0 m (pc + 3) ls (v.toList ++ rest))) : W p l e R s m args below meth c H locs cells slots Q (F0 m pc ls st0) := by
  intro T hT X
  obtain ⟨v, st₀, t, T', L, h0, X', hL, e1, e2, ⟨⟨v2, M1, hv, hp, hb, hkk⟩, hz, hk⟩, st⟩ := hr T hT X
  have hv2 : v = v2 := by injection hv
  subst hv2
  rw [h0] at hz hk
  have hvm : s.vm.Alike t.vm := by rw [← e2]; exact X'.warmed.alike
  have hf : ∀ q, xA Mc H.size q → A q := by
    intro q z
    rcases z with z | z
    · cases hm : Mc q with
      | none => exact absurd hm z
      | some e9 => exact hH.inA (by rw [hc q e9 hm]; simp)
    · exact hA q (Nat.le_trans hS.1 z)
  have hb1 : xH D (xA Mc H.size) M1 s T'.heap := by
    rw [e1]
    exact hb.moved hvm.symm
  obtain ⟨t2, a1, b1⟩ := kk v M1 T'.heap (locs ++ L) hp hb1 (fun q h1 h2 => by rw [e1]; exact hk q h1 h2) hf
    ⟨Nat.le_trans hS.1 (by rw [e1]; exact hz), fun q h1 h2 => by rw [e1, hk q (Nat.lt_of_lt_of_le h1 hS.1) (fun z => h2 (hf q z))]; exact hS.2.1 q h1 h2, fun q hq => by
      rcases List.mem_append.mp hq with h | h
      · exact hS.2.2 q h
      · exact hf _ (hL q h)⟩ T' rfl X'
  exact ⟨t2, st t2 a1, b1⟩
theorem j_callV (g : jG X cc own Ts nL rm) {y : MethodName} {ws ws' : List Cond} {bytes : ByteArray} {maxL : Nat} {ret : Option FieldType} {rm1 : Room} {mc ms idx n : Nat} {As : List Value} {Post : Option Value → MH → Prop} {rest : List Value} {b ci N : Nat} {C : String} {T : u_T} {fs : List Value} (hbk : M b = some (.inr (ci, fs))) (hcl : vwCl[ci]? = some (C, T, N)) (hc : xC (jl X) (jD X) y ws rm1 mc ms (.ref b :: As) M Post) (hd : decode cc pc = .ok (.invokevirtual idx, 3)) (hG : GoodIn Ts (wsV own idx C y ws)) (hw : ws = Cond.code y bytes maxL ret :: ws') (hn : As.length = n) (hrc : rm1.cells = mc) (hrs : rm1.slots = ms) (hdd : y.cls = C ∧ y.cls ≠ "java/lang/invoke/MethodHandle" ∧ y.cls ≠ "java/lang/invoke/VarHandle" ∧ (parseMethodDescriptor y.desc).map (fun d => d.parameters.length) = some n) (hR1 : rm1.frames + 1 ≤ rm.frames ∧ 8 + (maxL + 11) + rm1.locals ≤ rm.locals) (hroom : cells + mc ≤ rm.cells ∧ slots + ms ≤ rm.slots) (hst : st = As.reverse ++ .ref b :: rest) (hcat : (rest.map fun v => v.category).sum ≤ 8) (kk : ∀ (v : Option Value) (M1 : MH), Post v M1 → J X nL (cells + mc) (slots + ms) M1 vs (v.toList ++ rest) (pc + 3)) : J X nL cells slots M vs st pc := by
  obtain ⟨p, l, e, R, s, m, args, below, meth, c, D, M0, Q⟩ := X
  obtain ⟨hx, hb, hml, hown, hts, hKK, hlk, hR⟩ := g
  have hK := hKK.1
  intro H locs ls hH hS hl hq
  subst hst
  have hA0 : ∀ q, s.heap.size ≤ q → xA M0 s.heap.size q := fun q h => Or.inr h
  refine x_back (va_runV (As := As) (rest := rest) ⟨hx, hb, hml, hown, hts⟩ (hc H.size) (cwV n hts hG hw hrc hrs hdd (by rw [hR]; exact hR1)) ⟨xP_blind, (by obtain ⟨w, hw9, hP9, -⟩ := hH.at hbk; have hw8 : w = .inr (ci, fs) := hw9; subst hw8; exact va_recv hK hP9 (q := (C, T, N)) hcl (q0 := 0) rfl), fun U hU hW => xP_at hH hKK (fun _ _ h => h) hU hW⟩ rfl hn hl.1 rfl (lv_room hcat) hd (by rw [hR]; exact hroom)) hH (fun _ _ h => h) hA0 hS (fun v M1 H1 locs1 hp hH1 hk hf hS1 => ?_)
  exact kk v M1 hp H1 locs1 ls (hH1.weaken hf) hS1 hl hq
theorem j_callS (g : jG X cc own Ts nL rm) {y : MethodName} {ws ws' : List Cond} {bytes : ByteArray} {maxL : Nat} {ret : Option FieldType} {rm1 : Room} {mc ms idx n : Nat} {As : List Value} {Post : Option Value → MH → Prop} {rest : List Value}  (hc : xC (jl X) (jD X) y ws rm1 mc ms As M Post) (hd : decode cc pc = .ok (.invokestatic idx, 3)) (hG : GoodIn Ts (va_wsS own idx y ws)) (hw : ws = Cond.code y bytes maxL ret :: ws') (hn : As.length = n) (hrc : rm1.cells = mc) (hrs : rm1.slots = ms) (hdd : y.cls ≠ "java/lang/invoke/MethodHandle" ∧ y.cls ≠ "java/lang/invoke/VarHandle" ∧ (parseMethodDescriptor y.desc).map (fun d => d.parameters.length) = some n) (hR1 : rm1.frames + 1 ≤ rm.frames ∧ 8 + (maxL + 11) + rm1.locals ≤ rm.locals) (hroom : cells + mc ≤ rm.cells ∧ slots + ms ≤ rm.slots) (hst : st = As.reverse ++ rest) (hcat : (rest.map fun v => v.category).sum ≤ 8) (kk : ∀ (v : Option Value) (M1 : MH), Post v M1 → J X nL (cells + mc) (slots + ms) M1 vs (v.toList ++ rest) (pc + 3)) : J X nL cells slots M vs st pc := by
  obtain ⟨p, l, e, R, s, m, args, below, meth, c, D, M0, Q⟩ := X
  obtain ⟨hx, hb, hml, hown, hts, hKK, hlk, hR⟩ := g
  have hK := hKK.1
  intro H locs ls hH hS hl hq
  subst hst
  have hA0 : ∀ q, s.heap.size ≤ q → xA M0 s.heap.size q := fun q h => Or.inr h
  refine x_back (va_runS (As := As) (rest := rest) ⟨hx, hb, hml, hown, hts⟩ (hc H.size) (va_cwS n hts hG hw hrc hrs hdd (by rw [hR]; exact hR1)) ⟨xP_blind, fun U hU hW => xP_at hH hKK (fun _ _ h => h) hU hW⟩ rfl hn hl.1 rfl (lv_room hcat) hd (by rw [hR]; exact hroom)) hH (fun _ _ h => h) hA0 hS (fun v M1 H1 locs1 hp hH1 hk hf hS1 => ?_)
  exact kk v M1 hp H1 locs1 ls (hH1.weaken hf) hS1 hl hq
theorem j_callI (g : jG X cc own Ts nL rm) {y : MethodName} {ws ws' : List Cond} {bytes : ByteArray} {maxL : Nat} {ret : Option FieldType} {rm1 : Room} {mc ms idx n : Nat} {As : List Value} {Post : Option Value → MH → Prop} {rest : List Value} {b : Nat} (hini : Cond.initialized y.cls ∈ Ts) (hmlk : Cond.methodLink own idx y ∈ Ts) (hinm : Cond.instanceMethod y ∈ Ts) (hy1 : y.name = "<init>") (hc : xC (jl X) (jD X) y ws rm1 mc ms (.ref b :: As) M Post) (hd : decode cc pc = .ok (.invokespecial idx, 3)) (hG : GoodIn Ts ws) (hw : ws = Cond.code y bytes maxL none :: ws') (hn : As.length = n) (hrc : rm1.cells = mc) (hrs : rm1.slots = ms) (hdd : y.cls ≠ "java/lang/invoke/MethodHandle" ∧ y.cls ≠ "java/lang/invoke/VarHandle" ∧ (parseMethodDescriptor y.desc).map (fun d => d.parameters.length) = some n) (hR1 : rm1.frames + 1 ≤ rm.frames ∧ 8 + (maxL + 11) + rm1.locals ≤ rm.locals) (hroom : cells + mc ≤ rm.cells ∧ slots + ms ≤ rm.slots) (hst : st = As.reverse ++ .ref b :: rest) (hcat : (rest.map fun v => v.category).sum ≤ 8) (kk : ∀ (v : Option Value) (M1 : MH), Post v M1 → J X nL (cells + mc) (slots + ms) M1 vs (v.toList ++ rest) (pc + 3)) : J X nL cells slots M vs st pc := by
  obtain ⟨p, l, e, R, s, m, args, below, meth, c, D, M0, Q⟩ := X
  obtain ⟨hx, hb, hml, hown, hts, hKK, hlk, hR⟩ := g
  have hK := hKK.1
  intro H locs ls hH hS hl hq
  subst hst
  have hA0 : ∀ q, s.heap.size ≤ q → xA M0 s.heap.size q := fun q h => Or.inr h
  refine x_back (va_runI (As := As) (rest := rest) ⟨hx, hb, hml, hown, hts⟩ (hc H.size) (cwI n hts hG hw hrc hrs (hts _ hini) (hts _ hmlk) (hts _ hinm) hy1 hdd (by rw [hR]; exact hR1)) ⟨xP_blind, fun U hU hW => xP_at hH hKK (fun _ _ h => h) hU hW⟩ rfl hn hl.1 rfl (lv_room hcat) hd (by rw [hR]; exact hroom)) hH (fun _ _ h => h) hA0 hS (fun v M1 H1 locs1 hp hH1 hk hf hS1 => ?_)
  exact kk v M1 hp H1 locs1 ls (hH1.weaken hf) hS1 hl hq
theorem j_callVF (g : jG X cc own Ts nL rm) {y : MethodName} {ws ws' : List Cond} {bytes : ByteArray} {maxL : Nat} {ret : Option FieldType} {rm1 : Room} {mc ms idx n : Nat} {As : List Value} {Post : Option Value → MH → Prop} {rest : List Value} {b ci N : Nat} {C : String} {T : u_T} {fs : List Value} (hbk : M b = some (.inr (ci, fs))) (hcl : vwCl[ci]? = some (C, T, N)) {Mc : MH} (hsub : ∀ a e, Mc a = some e → M a = some e) (hc : xC (jl X) (jD X) y ws rm1 mc ms (.ref b :: As) Mc Post) (hd : decode cc pc = .ok (.invokevirtual idx, 3)) (hG : GoodIn Ts (wsV own idx C y ws)) (hw : ws = Cond.code y bytes maxL ret :: ws') (hn : As.length = n) (hrc : rm1.cells = mc) (hrs : rm1.slots = ms) (hdd : y.cls = C ∧ y.cls ≠ "java/lang/invoke/MethodHandle" ∧ y.cls ≠ "java/lang/invoke/VarHandle" ∧ (parseMethodDescriptor y.desc).map (fun d => d.parameters.length) = some n) (hR1 : rm1.frames + 1 ≤ rm.frames ∧ 8 + (maxL + 11) + rm1.locals ≤ rm.locals) (hroom : cells + mc ≤ rm.cells ∧ slots + ms ≤ rm.slots) (hst : st = As.reverse ++ .ref b :: rest) (hcat : (rest.map fun v => v.category).sum ≤ 8) (kk : ∀ (v : Option Value) (M1 : MH), Post v M1 → J X nL (cells + mc) (slots + ms) (jn M Mc M1) vs (v.toList ++ rest) (pc + 3)) : J X nL cells slots M vs st pc := by
  obtain ⟨p, l, e, R, s, m, args, below, meth, c, D, M0, Q⟩ := X
  obtain ⟨hx, hb, hml, hown, hts, hKK, hlk, hR⟩ := g
  have hK := hKK.1
  intro H locs ls hH hS hl hq
  subst hst
  have hA0 : ∀ q, s.heap.size ≤ q → xA M0 s.heap.size q := fun q h => Or.inr h
  refine x_back (va_runV (As := As) (rest := rest) ⟨hx, hb, hml, hown, hts⟩ (hc H.size) (cwV n hts hG hw hrc hrs hdd (by rw [hR]; exact hR1)) ⟨xP_blind, (by obtain ⟨w, hw9, hP9, -⟩ := hH.at hbk; have hw8 : w = .inr (ci, fs) := hw9; subst hw8; exact va_recv hK hP9 (q := (C, T, N)) hcl (q0 := 0) rfl), fun U hU hW => xP_at hH hKK hsub hU hW⟩ rfl hn hl.1 rfl (lv_room hcat) hd (by rw [hR]; exact hroom)) hH hsub hA0 hS (fun v M1 H1 locs1 hp hH1 hk hf hS1 => ?_)
  exact kk v M1 hp H1 locs1 ls (hH.join hsub (fun q h => hA0 q (Nat.le_trans hS.1 h)) hk hH1) hS1 hl hq
theorem j_callSF (g : jG X cc own Ts nL rm) {y : MethodName} {ws ws' : List Cond} {bytes : ByteArray} {maxL : Nat} {ret : Option FieldType} {rm1 : Room} {mc ms idx n : Nat} {As : List Value} {Post : Option Value → MH → Prop} {rest : List Value}  {Mc : MH} (hsub : ∀ a e, Mc a = some e → M a = some e) (hc : xC (jl X) (jD X) y ws rm1 mc ms As Mc Post) (hd : decode cc pc = .ok (.invokestatic idx, 3)) (hG : GoodIn Ts (va_wsS own idx y ws)) (hw : ws = Cond.code y bytes maxL ret :: ws') (hn : As.length = n) (hrc : rm1.cells = mc) (hrs : rm1.slots = ms) (hdd : y.cls ≠ "java/lang/invoke/MethodHandle" ∧ y.cls ≠ "java/lang/invoke/VarHandle" ∧ (parseMethodDescriptor y.desc).map (fun d => d.parameters.length) = some n) (hR1 : rm1.frames + 1 ≤ rm.frames ∧ 8 + (maxL + 11) + rm1.locals ≤ rm.locals) (hroom : cells + mc ≤ rm.cells ∧ slots + ms ≤ rm.slots) (hst : st = As.reverse ++ rest) (hcat : (rest.map fun v => v.category).sum ≤ 8) (kk : ∀ (v : Option Value) (M1 : MH), Post v M1 → J X nL (cells + mc) (slots + ms) (jn M Mc M1) vs (v.toList ++ rest) (pc + 3)) : J X nL cells slots M vs st pc := by
  obtain ⟨p, l, e, R, s, m, args, below, meth, c, D, M0, Q⟩ := X
  obtain ⟨hx, hb, hml, hown, hts, hKK, hlk, hR⟩ := g
  have hK := hKK.1
  intro H locs ls hH hS hl hq
  subst hst
  have hA0 : ∀ q, s.heap.size ≤ q → xA M0 s.heap.size q := fun q h => Or.inr h
  refine x_back (va_runS (As := As) (rest := rest) ⟨hx, hb, hml, hown, hts⟩ (hc H.size) (va_cwS n hts hG hw hrc hrs hdd (by rw [hR]; exact hR1)) ⟨xP_blind, fun U hU hW => xP_at hH hKK hsub hU hW⟩ rfl hn hl.1 rfl (lv_room hcat) hd (by rw [hR]; exact hroom)) hH hsub hA0 hS (fun v M1 H1 locs1 hp hH1 hk hf hS1 => ?_)
  exact kk v M1 hp H1 locs1 ls (hH.join hsub (fun q h => hA0 q (Nat.le_trans hS.1 h)) hk hH1) hS1 hl hq
theorem j_callIF (g : jG X cc own Ts nL rm) {y : MethodName} {ws ws' : List Cond} {bytes : ByteArray} {maxL : Nat} {ret : Option FieldType} {rm1 : Room} {mc ms idx n : Nat} {As : List Value} {Post : Option Value → MH → Prop} {rest : List Value} {b : Nat} (hini : Cond.initialized y.cls ∈ Ts) (hmlk : Cond.methodLink own idx y ∈ Ts) (hinm : Cond.instanceMethod y ∈ Ts) (hy1 : y.name = "<init>") {Mc : MH} (hsub : ∀ a e, Mc a = some e → M a = some e) (hc : xC (jl X) (jD X) y ws rm1 mc ms (.ref b :: As) Mc Post) (hd : decode cc pc = .ok (.invokespecial idx, 3)) (hG : GoodIn Ts ws) (hw : ws = Cond.code y bytes maxL none :: ws') (hn : As.length = n) (hrc : rm1.cells = mc) (hrs : rm1.slots = ms) (hdd : y.cls ≠ "java/lang/invoke/MethodHandle" ∧ y.cls ≠ "java/lang/invoke/VarHandle" ∧ (parseMethodDescriptor y.desc).map (fun d => d.parameters.length) = some n) (hR1 : rm1.frames + 1 ≤ rm.frames ∧ 8 + (maxL + 11) + rm1.locals ≤ rm.locals) (hroom : cells + mc ≤ rm.cells ∧ slots + ms ≤ rm.slots) (hst : st = As.reverse ++ .ref b :: rest) (hcat : (rest.map fun v => v.category).sum ≤ 8) (kk : ∀ (v : Option Value) (M1 : MH), Post v M1 → J X nL (cells + mc) (slots + ms) (jn M Mc M1) vs (v.toList ++ rest) (pc + 3)) : J X nL cells slots M vs st pc := by
  obtain ⟨p, l, e, R, s, m, args, below, meth, c, D, M0, Q⟩ := X
  obtain ⟨hx, hb, hml, hown, hts, hKK, hlk, hR⟩ := g
  have hK := hKK.1
  intro H locs ls hH hS hl hq
  subst hst
  have hA0 : ∀ q, s.heap.size ≤ q → xA M0 s.heap.size q := fun q h => Or.inr h
  refine x_back (va_runI (As := As) (rest := rest) ⟨hx, hb, hml, hown, hts⟩ (hc H.size) (cwI n hts hG hw hrc hrs (hts _ hini) (hts _ hmlk) (hts _ hinm) hy1 hdd (by rw [hR]; exact hR1)) ⟨xP_blind, fun U hU hW => xP_at hH hKK hsub hU hW⟩ rfl hn hl.1 rfl (lv_room hcat) hd (by rw [hR]; exact hroom)) hH hsub hA0 hS (fun v M1 H1 locs1 hp hH1 hk hf hS1 => ?_)
  exact kk v M1 hp H1 locs1 ls (hH.join hsub (fun q h => hA0 q (Nat.le_trans hS.1 h)) hk hH1) hS1 hl hq
end JRows
end
section
/-! ===== the reference's state as one function: field number, place ===== -/
abbrev ST : Type := Nat → Nat → Int32
def su (S : ST) (k j : Nat) (v : Int32) : ST := fun k2 => if k2 = k then upd (S k) j v else S k2
theorem su_o {S : ST} {k j k2 : Nat} {v : Int32} (h : k2 ≠ k) : su S k j v k2 = S k2 := by simp [su, h]
theorem su_a {S : ST} {k j : Nat} {v : Int32} : su S k j v k = upd (S k) j v := by simp [su]
theorem su_s {S : ST} {k j : Nat} {v : Int32} : su S k j v k j = v := by simp [su, upd]
theorem su_n {S : ST} {k j i : Nat} {v : Int32} (h : i ≠ j) : su S k j v k i = S k i := by simp [su, upd, h]
def b01 (P : Prop) [Decidable P] : Int32 := if P then 1 else 0
theorem b01_t {P : Prop} [Decidable P] (h : P) : b01 P = 1 := by simp [b01, h]
theorem b01_f {P : Prop} [Decidable P] (h : ¬ P) : b01 P = 0 := by simp [b01, h]
theorem b01_0 {P : Prop} [Decidable P] : b01 P = 0 ↔ ¬ P := by by_cases h : P <;> simp [b01, h]
theorem b01_1 {P : Prop} [Decidable P] : b01 P = 1 ↔ P := by by_cases h : P <;> simp [b01, h]
theorem b01_c {P Q : Prop} [Decidable P] [Decidable Q] (h : P ↔ Q) : b01 P = b01 Q := by by_cases hp : P <;> simp [b01, hp, ← h]
theorem b01_nar {P : Prop} [Decidable P] : narrow .boolean (.int (b01 P)) = .int (b01 P) := by by_cases h : P <;> simp [b01, h] <;> rfl
theorem lit_nI (n : Nat) : (OfNat.ofNat n : Int32) = nI n := rfl
theorem nI_sub {a b : Nat} (h : b ≤ a) : nI a - nI b = nI (a - b) := pk_sub h
/-- an answer that is one value, over one map -/
def xq (v : Option Value) (M1 : MH) : Option Value → MH → Prop := fun w M' => w = v ∧ M' = M1
def mLen : Nat → Nat := fun k => match k with
  | 2 => 32 | 4 => 6 | 5 => 144 | 6 => 3 | 7 => 3 | 8 => 3 | 10 => 12 | 11 => 16 | 13 => 12 | 14 => 12 | 15 => 12 | 16 => 12 | 17 => 12 | 18 => 12 | 19 => 12 | 20 => 12 | 21 => 12 | 22 => 12 | 23 => 120 | 24 => 120 | 25 => 120 | 26 => 120 | 27 => 3840 | _ => 0
def mCode : Nat → Nat := fun k => match k with
  | 25 => 11 | 26 => 11 | _ => 10
def mFs (ad : Nat → Nat) (S : ST) : List Value := [.int (S 0 0), .int (S 1 0), .ref (ad 2), .int (S 3 0), .ref (ad 4), .ref (ad 5), .ref (ad 6), .ref (ad 7), .ref (ad 8), .int (S 9 0), .ref (ad 10), .ref (ad 11), .int (S 12 0), .ref (ad 13), .ref (ad 14), .ref (ad 15), .ref (ad 16), .ref (ad 17), .ref (ad 18), .ref (ad 19), .ref (ad 20), .ref (ad 21), .ref (ad 22), .ref (ad 23), .ref (ad 24), .ref (ad 25), .ref (ad 26), .ref (ad 27), .int (S 28 0)]
def mArr : List Nat := [2, 4, 5, 6, 7, 8, 10, 11, 13, 14, 15, 16, 17, 18, 19, 20, 21, 22, 23, 24, 25, 26, 27]
def mFind (ad : Nat → Nat) (S : ST) (q : Nat) : List Nat → Option va_E
  | [] => none
  | k :: r => if q = ad k then some (.inl (mCode k, mLen k, .inl (S k))) else mFind ad S q r
def mM (m : Nat) (ad : Nat → Nat) (S : ST) : MH := fun q => if q = m then some (.inr (9, mFs ad S)) else mFind ad S q mArr
/-- the reference's cells are apart -/
def mI (m : Nat) (ad : Nat → Nat) : Prop := (∀ k, k ∈ mArr → ad k ≠ m) ∧ ∀ k, k ∈ mArr → ∀ j, j ∈ mArr → ad k = ad j → k = j
theorem mM_m (m : Nat) (ad : Nat → Nat) (S : ST) : mM m ad S m = some (.inr (9, mFs ad S)) := by simp [mM]
theorem mFind_at {ad : Nat → Nat} (S : ST) {k : Nat} : ∀ l : List Nat, (∀ j, j ∈ l → ad k = ad j → k = j) → k ∈ l → mFind ad S (ad k) l = some (.inl (mCode k, mLen k, .inl (S k)))
  | [], _, h => by cases h
  | j :: r, hi, h => by
    by_cases hj : ad k = ad j
    · have := hi j List.mem_cons_self hj
      subst this
      simp [mFind]
    · rw [mFind, if_neg hj]
      exact mFind_at S r (fun i hi2 => hi i (List.mem_cons_of_mem _ hi2)) ((List.mem_cons.mp h).elim (fun z => absurd (by rw [z]) hj) id)
theorem mM_a {m : Nat} {ad : Nat → Nat} (hI : mI m ad) (S : ST) {k : Nat} (hk : k ∈ mArr) : mM m ad S (ad k) = some (.inl (mCode k, mLen k, .inl (S k))) := by
  rw [mM, if_neg (hI.1 k hk)]
  exact mFind_at S mArr (hI.2 k hk) hk
theorem mFind_c {ad : Nat → Nat} {S S' : ST} {q : Nat} : ∀ l : List Nat, (∀ k, k ∈ l → q = ad k → S k = S' k) → mFind ad S q l = mFind ad S' q l
  | [], _ => rfl
  | k :: r, h => by
    rw [mFind, mFind]
    by_cases hk : q = ad k
    · rw [if_pos hk, if_pos hk, h k List.mem_cons_self hk]
    · rw [if_neg hk, if_neg hk]
      exact mFind_c r fun k hk => h k (List.mem_cons_of_mem _ hk)
theorem mM_ps {m : Nat} {ad : Nat → Nat} (S : ST) (k : Nat) (v : Int32) (hk : k ∉ mArr) (hf : (mFs ad S).set k (.int v) = mFs ad (su S k 0 v)) : xu (mM m ad S) m (.inr (9, (mFs ad S).set k (.int v))) = mM m ad (su S k 0 v) := by
  funext q
  by_cases hq : q = m
  · subst hq
    rw [xu_s, mM_m, hf]
  · rw [xu_n hq, mM, if_neg hq, mM, if_neg hq]
    exact mFind_c _ fun j hj _ => (su_o (S := S) (k2 := j) (fun z => hk (by rw [← z]; exact hj))).symm
theorem mM_as {m : Nat} {ad : Nat → Nat} (hI : mI m ad) (S : ST) {k : Nat} (j : Nat) (v : Int32) (hk : k ∈ mArr) : xu (mM m ad S) (ad k) (.inl (mCode k, mLen k, .inl (upd (S k) j v))) = mM m ad (su S k j v) := by
  funext q
  by_cases hq : q = ad k
  · subst hq
    rw [xu_s, mM_a hI _ hk, su_a]
  · rw [xu_n hq]
    by_cases hm : q = m
    · subst hm
      rw [mM_m, mM_m]
      have h : ∀ i, i ∉ mArr → su S k j v i = S i := fun i hi => su_o (fun z => hi (z ▸ hk))
      simp only [mFs, h 0 (by decide), h 1 (by decide), h 3 (by decide), h 9 (by decide), h 12 (by decide), h 28 (by decide)]
    · rw [mM, if_neg hm, mM, if_neg hm]
      exact mFind_c _ fun i _ hi => (su_o (fun z => hq (by rw [hi, z]))).symm
theorem inX9_of {a : Cond} {b : List Cond} : ∀ w ∈ wsX90, w ∈ a :: (b ++ wsX90) := fun _ h => List.mem_cons_of_mem _ (List.mem_append_right _ h)
section JModel
variable {X : JC} {cc : ByteArray} {Ts : List Cond} {nL cells slots pc : Nat} {rm : Room} {M : MH} {vs : List (Option Value)} {st : List Value} {m : Nat} {ad : Nat → Nat} {S : ST} {own : String}
theorem jm_put (g : jG X cc own Ts nL rm) {idx : Nat} {v : Int32} (hd : decode cc pc = .ok (.putfield idx, 3)) (hin : ∀ w ∈ wsX90, w ∈ Ts) (k : Nat) (hk : k < 29) (hlink : Cond.fieldLink own idx RX9 (TX9 k).2.1 (TX9 k).2.2.1 ∈ Ts) (hka : k ∉ mArr) (hkc : (TX9 k).1 = RX9 ∧ (TX9 k).2.2.2 = false ∧ tyX9 k = .int) (hf : (mFs ad S).set k (.int v) = mFs ad (su S k 0 v)) (kk : J X nL cells slots (mM m ad (su S k 0 v)) vs st (pc + 3)) : J X nL cells slots (mM m ad S) vs (.int v :: .ref m :: st) pc := by
  refine j_put g hd (mM_m m ad S) rfl hin tyX9 tyX9_ok nmX9 k hk hlink hkc.1 hkc.2.1 hkc.2.2 rfl rfl hk ?_
  rw [mM_ps S k v hka hf]
  exact kk
theorem jm_ald (g : jG X cc own Ts nL rm) (hI : mI m ad) {i : Int32} (k : Nat) (hd : decode cc pc = .ok (.iaload, 1)) (hk : k ∈ mArr) (hc : mCode k = 10) (j : Nat) (hi : i = nI j) (hj : j < mLen k) (kk : J X nL cells slots (mM m ad S) vs (.int (S k j) :: st) (pc + 1)) : J X nL cells slots (mM m ad S) vs (.int i :: .ref (ad k) :: st) pc := by
  have hlen : mLen k < 2 ^ 31 := by
    have : ∀ k, k ∈ mArr → mLen k < 2 ^ 31 := by decide
    exact this k hk
  have ha := mM_a hI S hk
  rw [hc] at ha
  subst hi
  refine j_iald g hd ha (vp_in_nI hj hlen) ?_
  rw [nI_clamp (Nat.lt_trans hj hlen)]
  exact kk
theorem jm_zld (g : jG X cc own Ts nL rm) (hI : mI m ad) {i : Int32} (k : Nat) (hd : decode cc pc = .ok (.baload, 1)) (hk : k ∈ mArr) (hc : mCode k = 11) (j : Nat) (hi : i = nI j) (hj : j < mLen k) (kk : J X nL cells slots (mM m ad S) vs (.int (S k j) :: st) (pc + 1)) : J X nL cells slots (mM m ad S) vs (.int i :: .ref (ad k) :: st) pc := by
  have hlen : mLen k < 2 ^ 31 := by
    have : ∀ k, k ∈ mArr → mLen k < 2 ^ 31 := by decide
    exact this k hk
  have ha := mM_a hI S hk
  rw [hc] at ha
  subst hi
  refine j_zald g hd ha (vp_in_nI hj hlen) ?_
  rw [nI_clamp (Nat.lt_trans hj hlen)]
  exact kk
theorem jm_ast (g : jG X cc own Ts nL rm) (hI : mI m ad) {i v : Int32} (k : Nat) (hd : decode cc pc = .ok (.iastore, 1)) (hk : k ∈ mArr) (hc : mCode k = 10) (j : Nat) (hi : i = nI j) (hj : j < mLen k) (kk : J X nL cells slots (mM m ad (su S k j v)) vs st (pc + 1)) : J X nL cells slots (mM m ad S) vs (.int v :: .int i :: .ref (ad k) :: st) pc := by
  have hlen : mLen k < 2 ^ 31 := by
    have : ∀ k, k ∈ mArr → mLen k < 2 ^ 31 := by decide
    exact this k hk
  have ha := mM_a hI S hk
  have hb := mM_as hI S j v hk
  rw [hc] at ha hb
  subst hi
  refine j_iast g hd ha (vp_in_nI hj hlen) ?_
  rw [nI_clamp (Nat.lt_trans hj hlen), hb]
  exact kk
theorem jm_zst (g : jG X cc own Ts nL rm) (hI : mI m ad) {i v : Int32} (k : Nat) (hd : decode cc pc = .ok (.bastore, 1)) (hk : k ∈ mArr) (hc : mCode k = 11) (hv : vp_nar .boolean v = v) (j : Nat) (hi : i = nI j) (hj : j < mLen k) (kk : J X nL cells slots (mM m ad (su S k j v)) vs st (pc + 1)) : J X nL cells slots (mM m ad S) vs (.int v :: .int i :: .ref (ad k) :: st) pc := by
  have hlen : mLen k < 2 ^ 31 := by
    have : ∀ k, k ∈ mArr → mLen k < 2 ^ 31 := by decide
    exact this k hk
  have ha := mM_a hI S hk
  have hb := mM_as hI S j v hk
  rw [hc] at ha hb
  subst hi
  refine j_zast g hd ha (vp_in_nI hj hlen) ?_
  rw [nI_clamp (Nat.lt_trans hj hlen), hv, hb]
  exact kk
/-! calls that make nothing, with one answer -/
theorem j_cVi (g : jG X cc own Ts nL rm) {y : MethodName} {ws ws' : List Cond} {bytes : ByteArray} {maxL : Nat} {ret : Option FieldType} {rm1 : Room} {idx n : Nat} {As : List Value} {rest : List Value} {r : Int32} {M2 : MH} {b ci N : Nat} {C : String} {T : u_T} {fs : List Value} (hc : xC (jl X) (jD X) y ws rm1 0 0 (.ref b :: As) M (xq (some (.int r)) M2)) (hd : decode cc pc = .ok (.invokevirtual idx, 3)) (hbk : M b = some (.inr (ci, fs))) (hcl : vwCl[ci]? = some (C, T, N)) (hG : GoodIn Ts (wsV own idx C y ws)) (hw : ws = Cond.code y bytes maxL ret :: ws') (hn : As.length = n) (hrc : rm1.cells = 0) (hrs : rm1.slots = 0) (hdd : y.cls = C ∧ y.cls ≠ "java/lang/invoke/MethodHandle" ∧ y.cls ≠ "java/lang/invoke/VarHandle" ∧ (parseMethodDescriptor y.desc).map (fun d => d.parameters.length) = some n) (hR1 : rm1.frames + 1 ≤ rm.frames ∧ 8 + (maxL + 11) + rm1.locals ≤ rm.locals) (hroom : cells ≤ rm.cells ∧ slots ≤ rm.slots) (hst : st = As.reverse ++ .ref b :: rest) (hcat : (rest.map fun v => v.category).sum ≤ 8) (kk : J X nL cells slots M2 vs (.int r :: rest) (pc + 3)) : J X nL cells slots M vs st pc :=
  j_callV g hbk hcl hc hd hG hw hn hrc hrs hdd hR1 hroom hst hcat (fun v M1 hp => by obtain ⟨rfl, rfl⟩ := hp; exact kk)
theorem j_cVf (g : jG X cc own Ts nL rm) {y : MethodName} {ws ws' : List Cond} {bytes : ByteArray} {maxL : Nat} {ret : Option FieldType} {rm1 : Room} {idx n : Nat} {As : List Value} {rest : List Value} {r : UInt32} {M2 : MH} {b ci N : Nat} {C : String} {T : u_T} {fs : List Value} (hc : xC (jl X) (jD X) y ws rm1 0 0 (.ref b :: As) M (xq (some (.float r)) M2)) (hd : decode cc pc = .ok (.invokevirtual idx, 3)) (hbk : M b = some (.inr (ci, fs))) (hcl : vwCl[ci]? = some (C, T, N)) (hG : GoodIn Ts (wsV own idx C y ws)) (hw : ws = Cond.code y bytes maxL ret :: ws') (hn : As.length = n) (hrc : rm1.cells = 0) (hrs : rm1.slots = 0) (hdd : y.cls = C ∧ y.cls ≠ "java/lang/invoke/MethodHandle" ∧ y.cls ≠ "java/lang/invoke/VarHandle" ∧ (parseMethodDescriptor y.desc).map (fun d => d.parameters.length) = some n) (hR1 : rm1.frames + 1 ≤ rm.frames ∧ 8 + (maxL + 11) + rm1.locals ≤ rm.locals) (hroom : cells ≤ rm.cells ∧ slots ≤ rm.slots) (hst : st = As.reverse ++ .ref b :: rest) (hcat : (rest.map fun v => v.category).sum ≤ 8) (kk : J X nL cells slots M2 vs (.float r :: rest) (pc + 3)) : J X nL cells slots M vs st pc :=
  j_callV g hbk hcl hc hd hG hw hn hrc hrs hdd hR1 hroom hst hcat (fun v M1 hp => by obtain ⟨rfl, rfl⟩ := hp; exact kk)
theorem j_cVr (g : jG X cc own Ts nL rm) {y : MethodName} {ws ws' : List Cond} {bytes : ByteArray} {maxL : Nat} {ret : Option FieldType} {rm1 : Room} {idx n : Nat} {As : List Value} {rest : List Value} {r : Value} {M2 : MH} {b ci N : Nat} {C : String} {T : u_T} {fs : List Value} (hc : xC (jl X) (jD X) y ws rm1 0 0 (.ref b :: As) M (xq (some r) M2)) (hd : decode cc pc = .ok (.invokevirtual idx, 3)) (hbk : M b = some (.inr (ci, fs))) (hcl : vwCl[ci]? = some (C, T, N)) (hG : GoodIn Ts (wsV own idx C y ws)) (hw : ws = Cond.code y bytes maxL ret :: ws') (hn : As.length = n) (hrc : rm1.cells = 0) (hrs : rm1.slots = 0) (hdd : y.cls = C ∧ y.cls ≠ "java/lang/invoke/MethodHandle" ∧ y.cls ≠ "java/lang/invoke/VarHandle" ∧ (parseMethodDescriptor y.desc).map (fun d => d.parameters.length) = some n) (hR1 : rm1.frames + 1 ≤ rm.frames ∧ 8 + (maxL + 11) + rm1.locals ≤ rm.locals) (hroom : cells ≤ rm.cells ∧ slots ≤ rm.slots) (hst : st = As.reverse ++ .ref b :: rest) (hcat : (rest.map fun v => v.category).sum ≤ 8) (kk : J X nL cells slots M2 vs (r :: rest) (pc + 3)) : J X nL cells slots M vs st pc :=
  j_callV g hbk hcl hc hd hG hw hn hrc hrs hdd hR1 hroom hst hcat (fun v M1 hp => by obtain ⟨rfl, rfl⟩ := hp; exact kk)
theorem j_cVv (g : jG X cc own Ts nL rm) {y : MethodName} {ws ws' : List Cond} {bytes : ByteArray} {maxL : Nat} {ret : Option FieldType} {rm1 : Room} {idx n : Nat} {As : List Value} {rest : List Value} {M2 : MH} {b ci N : Nat} {C : String} {T : u_T} {fs : List Value} (hc : xC (jl X) (jD X) y ws rm1 0 0 (.ref b :: As) M (xq none M2)) (hd : decode cc pc = .ok (.invokevirtual idx, 3)) (hbk : M b = some (.inr (ci, fs))) (hcl : vwCl[ci]? = some (C, T, N)) (hG : GoodIn Ts (wsV own idx C y ws)) (hw : ws = Cond.code y bytes maxL ret :: ws') (hn : As.length = n) (hrc : rm1.cells = 0) (hrs : rm1.slots = 0) (hdd : y.cls = C ∧ y.cls ≠ "java/lang/invoke/MethodHandle" ∧ y.cls ≠ "java/lang/invoke/VarHandle" ∧ (parseMethodDescriptor y.desc).map (fun d => d.parameters.length) = some n) (hR1 : rm1.frames + 1 ≤ rm.frames ∧ 8 + (maxL + 11) + rm1.locals ≤ rm.locals) (hroom : cells ≤ rm.cells ∧ slots ≤ rm.slots) (hst : st = As.reverse ++ .ref b :: rest) (hcat : (rest.map fun v => v.category).sum ≤ 8) (kk : J X nL cells slots M2 vs rest (pc + 3)) : J X nL cells slots M vs st pc :=
  j_callV g hbk hcl hc hd hG hw hn hrc hrs hdd hR1 hroom hst hcat (fun v M1 hp => by obtain ⟨rfl, rfl⟩ := hp; exact kk)
theorem j_cSi (g : jG X cc own Ts nL rm) {y : MethodName} {ws ws' : List Cond} {bytes : ByteArray} {maxL : Nat} {ret : Option FieldType} {rm1 : Room} {idx n : Nat} {As : List Value} {rest : List Value} {r : Int32} {M2 : MH} (hc : xC (jl X) (jD X) y ws rm1 0 0 As M (xq (some (.int r)) M2)) (hd : decode cc pc = .ok (.invokestatic idx, 3)) (hG : GoodIn Ts (va_wsS own idx y ws)) (hw : ws = Cond.code y bytes maxL ret :: ws') (hn : As.length = n) (hrc : rm1.cells = 0) (hrs : rm1.slots = 0) (hdd : y.cls ≠ "java/lang/invoke/MethodHandle" ∧ y.cls ≠ "java/lang/invoke/VarHandle" ∧ (parseMethodDescriptor y.desc).map (fun d => d.parameters.length) = some n) (hR1 : rm1.frames + 1 ≤ rm.frames ∧ 8 + (maxL + 11) + rm1.locals ≤ rm.locals) (hroom : cells ≤ rm.cells ∧ slots ≤ rm.slots) (hst : st = As.reverse ++ rest) (hcat : (rest.map fun v => v.category).sum ≤ 8) (kk : J X nL cells slots M2 vs (.int r :: rest) (pc + 3)) : J X nL cells slots M vs st pc :=
  j_callS g hc hd hG hw hn hrc hrs hdd hR1 hroom hst hcat (fun v M1 hp => by obtain ⟨rfl, rfl⟩ := hp; exact kk)
theorem j_cSf (g : jG X cc own Ts nL rm) {y : MethodName} {ws ws' : List Cond} {bytes : ByteArray} {maxL : Nat} {ret : Option FieldType} {rm1 : Room} {idx n : Nat} {As : List Value} {rest : List Value} {r : UInt32} {M2 : MH} (hc : xC (jl X) (jD X) y ws rm1 0 0 As M (xq (some (.float r)) M2)) (hd : decode cc pc = .ok (.invokestatic idx, 3)) (hG : GoodIn Ts (va_wsS own idx y ws)) (hw : ws = Cond.code y bytes maxL ret :: ws') (hn : As.length = n) (hrc : rm1.cells = 0) (hrs : rm1.slots = 0) (hdd : y.cls ≠ "java/lang/invoke/MethodHandle" ∧ y.cls ≠ "java/lang/invoke/VarHandle" ∧ (parseMethodDescriptor y.desc).map (fun d => d.parameters.length) = some n) (hR1 : rm1.frames + 1 ≤ rm.frames ∧ 8 + (maxL + 11) + rm1.locals ≤ rm.locals) (hroom : cells ≤ rm.cells ∧ slots ≤ rm.slots) (hst : st = As.reverse ++ rest) (hcat : (rest.map fun v => v.category).sum ≤ 8) (kk : J X nL cells slots M2 vs (.float r :: rest) (pc + 3)) : J X nL cells slots M vs st pc :=
  j_callS g hc hd hG hw hn hrc hrs hdd hR1 hroom hst hcat (fun v M1 hp => by obtain ⟨rfl, rfl⟩ := hp; exact kk)
theorem j_cSr (g : jG X cc own Ts nL rm) {y : MethodName} {ws ws' : List Cond} {bytes : ByteArray} {maxL : Nat} {ret : Option FieldType} {rm1 : Room} {idx n : Nat} {As : List Value} {rest : List Value} {r : Value} {M2 : MH} (hc : xC (jl X) (jD X) y ws rm1 0 0 As M (xq (some r) M2)) (hd : decode cc pc = .ok (.invokestatic idx, 3)) (hG : GoodIn Ts (va_wsS own idx y ws)) (hw : ws = Cond.code y bytes maxL ret :: ws') (hn : As.length = n) (hrc : rm1.cells = 0) (hrs : rm1.slots = 0) (hdd : y.cls ≠ "java/lang/invoke/MethodHandle" ∧ y.cls ≠ "java/lang/invoke/VarHandle" ∧ (parseMethodDescriptor y.desc).map (fun d => d.parameters.length) = some n) (hR1 : rm1.frames + 1 ≤ rm.frames ∧ 8 + (maxL + 11) + rm1.locals ≤ rm.locals) (hroom : cells ≤ rm.cells ∧ slots ≤ rm.slots) (hst : st = As.reverse ++ rest) (hcat : (rest.map fun v => v.category).sum ≤ 8) (kk : J X nL cells slots M2 vs (r :: rest) (pc + 3)) : J X nL cells slots M vs st pc :=
  j_callS g hc hd hG hw hn hrc hrs hdd hR1 hroom hst hcat (fun v M1 hp => by obtain ⟨rfl, rfl⟩ := hp; exact kk)
end JModel
end
section
theorem istore_6_5 {X : JC} {cc : ByteArray} {own : String} {Ts : List Cond} {cells slots pc : Nat} {rm : Room} {M : MH} {st : List Value} {a0 a1 a2 a3 a4 a5 : Option Value} (g : jG X cc own Ts 6 rm) {x : Int32} (hd : decode cc pc = .ok (.istore 5, 2)) (k : J X 6 cells slots M [a0, a1, a2, a3, a4, some (.int x)] st (pc + 2)) : J X 6 cells slots M [a0, a1, a2, a3, a4, a5] (.int x :: st) pc := j_istore g hd (Nat.le_of_ble_eq_true rfl) k
set_option maxRecDepth 20000 in
theorem inwX9_X9_goes : ∀ w ∈ wsX90, w ∈ wsX9_goes := by decide +kernel
set_option maxRecDepth 20000 in
theorem inwX9_X9_isDuel : ∀ w ∈ wsX90, w ∈ wsX9_isDuel := by decide +kernel
set_option maxRecDepth 20000 in
theorem inwX9_X9_isSign : ∀ w ∈ wsX90, w ∈ wsX9_isSign := by decide +kernel
set_option maxRecDepth 20000 in
theorem inwX9_X9_stroke : ∀ w ∈ wsX90, w ∈ wsX9_stroke := by decide +kernel
end
section
/-! ===== what the reference's methods answer ===== -/
theorem xq_i {r r' : Int32} {M M' : MH} (h : r = r') (hM : M = M') : xq (some (.int r')) M' (some (.int r)) M := by rw [h, hM]; exact ⟨rfl, rfl⟩
theorem xq_f {r r' : UInt32} {M M' : MH} (h : r = r') (hM : M = M') : xq (some (.float r')) M' (some (.float r)) M := by rw [h, hM]; exact ⟨rfl, rfl⟩
theorem xq_v {M M' : MH} (hM : M = M') : xq none M' none M := by rw [hM]; exact ⟨rfl, rfl⟩
theorem j_topi {X : JC} {nL cells slots pc : Nat} {M : MH} {vs : List (Option Value)} {st : List Value} {x : Int32} (y : Int32) (h : x = y) (k : J X nL cells slots M vs (.int y :: st) pc) : J X nL cells slots M vs (.int x :: st) pc := by rw [h]; exact k
theorem j_topf {X : JC} {nL cells slots pc : Nat} {M : MH} {vs : List (Option Value)} {st : List Value} {x : UInt32} (y : UInt32) (h : x = y) (k : J X nL cells slots M vs (.float y :: st) pc) : J X nL cells slots M vs (.float x :: st) pc := by rw [h]; exact k
theorem j_map {X : JC} {nL cells slots pc : Nat} {M : MH} (M' : MH) {vs : List (Option Value)} {st : List Value} (h : M = M') (k : J X nL cells slots M' vs st pc) : J X nL cells slots M vs st pc := by rw [h]; exact k
def gT (x y z : Int32) : Int32 := if x = 0 then 1 else if y = 0 then 2 else if z = 0 then 3 else 0
abbrev iN (v lo hi : Int32) : Prop := lo ≤ v ∧ v ≤ hi
abbrev okStroke (x y ex ey : Int32) : Prop := iN x 0 99 ∧ iN y 0 99 ∧ iN ex 0 99 ∧ iN ey 0 99 ∧ (x ≠ ex ∨ y ≠ ey)
def tStroke (S : ST) (x y ex ey : Int32) : Int32 := if ¬ okStroke x y ex ey then 1 else if ¬ S 1 0 < 8 then 2 else 0
def nStroke (S : ST) (d : Nat) (x y ex ey : Int32) : ST := su (su (su (su (su S 2 (4 * d) x) 2 (4 * d + 1) y) 2 (4 * d + 2) ex) 2 (4 * d + 3) ey) 1 0 (nI (d + 1))
def mAns (t v : Int32) : Int32 := if t = 0 then v else 0
def mSt (S : ST) (t : Int32) (f : ST → ST) : ST := if t = 0 then f (su S 28 0 0) else su S 28 0 t
def nClear (S : ST) : ST := su S 1 0 0
/-- n places of row src, from 0 on, stand in row dst, from off on -/
def cpS (S : ST) (dst src off n : Nat) : ST := fun k j => if k = dst ∧ off ≤ j ∧ j < off + n then S src (j - off) else S k j
theorem cpS_0 (S : ST) (dst src off : Nat) : cpS S dst src off 0 = S := by
  funext k j
  unfold cpS
  rw [if_neg]
  omega
theorem cpS_1 {S : ST} {dst src off n : Nat} (h : src ≠ dst) : su (cpS S dst src off n) dst (off + n) (cpS S dst src off n src n) = cpS S dst src off (n + 1) := by
  funext k j
  by_cases hk : k = dst
  · subst hk
    by_cases hj : j = off + n
    · subst hj
      rw [su_s]
      unfold cpS
      rw [if_neg (by omega), if_pos (by omega)]
      congr 1
      omega
    · rw [su_n hj]
      unfold cpS
      by_cases h2 : off ≤ j ∧ j < off + n
      · rw [if_pos ⟨rfl, h2⟩, if_pos (by omega)]
      · rw [if_neg (by omega), if_neg (by omega)]
  · rw [su_o hk]
    unfold cpS
    rw [if_neg (by omega), if_neg (by omega)]
def tSign (S : ST) : Int32 := if ¬ (iN (S 1 0) 1 6 ∧ S 3 0 < 6) then 1 else 0
def nSign (S : ST) (d ns : Nat) : ST := su (su (su (cpS S 5 2 (24 * ns) (4 * d)) 4 ns (nI d)) 1 0 0) 3 0 (nI (ns + 1))
set_option maxHeartbeats 4000000 in
set_option maxRecDepth 100000 in
theorem m_in (l : Launch) (D : va_G) (M : MH) (v lo hi : Int32) : xC l D yX9_in wsX9_in ({ frames := 0, cells := 0, slots := 0, locals := 0 }) 0 0 [.int v, .int lo, .int hi] (M) (xq (some (.int (b01 (iN v lo hi)))) M) := by
  refine xC_of (cc := cX9_in) (maxL := 3) (ret := (some .boolean)) (own := RX9) [some (.int v), some (.int lo), some (.int hi)] (by decide) rfl rfl (Nat.le_of_ble_eq_true rfl) rfl rfl rfl ?_
  intro X hXl hXD g r
  subst hXl
  subst hXD
  refine j_iload_n (pc := 0) g 0 dX9_in_0 rfl rfl ?_
  refine j_iload_n (pc := 1) g 1 dX9_in_1 rfl rfl ?_
  refine j_icmp_lt (pc := 2) g 14 dX9_in_2 (by decide) (fun c2 => ?_) (fun c2 => ?_)
  · refine j_iconst (pc := 14) g (0) dX9_in_14 (by decide) ?_
    exact j_iret (pc := 15) g r rfl rfl (xq_i (by grind [b01]) rfl) dX9_in_15 (Nat.le_of_ble_eq_true rfl) (Nat.le_of_ble_eq_true rfl)
  · refine j_iload_n (pc := 5) g 0 dX9_in_5 rfl rfl ?_
    refine j_iload_n (pc := 6) g 2 dX9_in_6 rfl rfl ?_
    refine j_icmp_gt (pc := 7) g 14 dX9_in_7 (by decide) (fun c7 => ?_) (fun c7 => ?_)
    · refine j_iconst (pc := 14) g (0) dX9_in_14 (by decide) ?_
      exact j_iret (pc := 15) g r rfl rfl (xq_i (by grind [b01]) rfl) dX9_in_15 (Nat.le_of_ble_eq_true rfl) (Nat.le_of_ble_eq_true rfl)
    · refine j_iconst (pc := 10) g (1) dX9_in_10 (by decide) ?_
      refine j_goto (pc := 11) g 15 dX9_in_11 (by decide) ?_
      exact j_iret (pc := 15) g r rfl rfl (xq_i (by grind [b01]) rfl) dX9_in_15 (Nat.le_of_ble_eq_true rfl) (Nat.le_of_ble_eq_true rfl)

set_option maxHeartbeats 4000000 in
set_option maxRecDepth 100000 in
theorem m_goes (l : Launch) (D : va_G) (m : Nat) (ad : Nat → Nat) (S : ST) (x y z : Int32) : xC l D yX9_goes wsX9_goes ({ frames := 0, cells := 0, slots := 0, locals := 0 }) 0 0 [.ref m, .int x, .int y, .int z] (mM m ad S) (xq (some (.int (b01 (gT x y z = 0)))) (mM m ad (su S 28 0 (gT x y z)))) := by
  refine xC_of (cc := cX9_goes) (maxL := 4) (ret := (some .boolean)) (own := RX9) [some (.ref m), some (.int x), some (.int y), some (.int z)] (by decide) rfl rfl (Nat.le_of_ble_eq_true rfl) rfl rfl rfl ?_
  intro X hXl hXD g r
  subst hXl
  subst hXD
  have inX9 : ∀ w ∈ wsX90, w ∈ wsX9_goes := inwX9_X9_goes
  have K26 : ∀ (t : Int32) (ht : t = gT x y z), J X 4 0 0 (mM m ad S) [some (.ref m), some (.int x), some (.int y), some (.int z)] [.int t, .ref m] 26 := by
    intro t ht
    refine jm_put (pc := 26) g dX9_goes_26 inX9 28 (by decide) (by decide +kernel) (by decide) ⟨rfl, rfl, rfl⟩ rfl ?_
    refine j_aload_n (pc := 29) g 0 dX9_goes_29 rfl rfl ?_
    refine j_get (pc := 30) g dX9_goes_30 (mM_m _ _ _) rfl inX9 28 (by decide) (by decide +kernel) rfl rfl ?_
    refine j_if_ne (pc := 33) g 40 dX9_goes_33 (by decide) (fun c33 => ?_) (fun c33 => ?_)
    · refine j_iconst (pc := 40) g (0) dX9_goes_40 (by decide) ?_
      exact j_iret (pc := 41) g r rfl rfl (by subst ht; rw [su_s] at c33; exact xq_i (by grind [b01]) rfl) dX9_goes_41 (Nat.le_of_ble_eq_true rfl) (Nat.le_of_ble_eq_true rfl)
    · refine j_iconst (pc := 36) g (1) dX9_goes_36 (by decide) ?_
      refine j_goto (pc := 37) g 41 dX9_goes_37 (by decide) ?_
      exact j_iret (pc := 41) g r rfl rfl (by subst ht; rw [su_s] at c33; exact xq_i (by grind [b01]) rfl) dX9_goes_41 (Nat.le_of_ble_eq_true rfl) (Nat.le_of_ble_eq_true rfl)
  refine j_aload_n (pc := 0) g 0 dX9_goes_0 rfl rfl ?_
  refine j_iload_n (pc := 1) g 1 dX9_goes_1 rfl rfl ?_
  refine j_if_ne (pc := 2) g 9 dX9_goes_2 (by decide) (fun c2 => ?_) (fun c2 => ?_)
  · refine j_iload_n (pc := 9) g 2 dX9_goes_9 rfl rfl ?_
    refine j_if_ne (pc := 10) g 17 dX9_goes_10 (by decide) (fun c10 => ?_) (fun c10 => ?_)
    · refine j_iload_n (pc := 17) g 3 dX9_goes_17 rfl rfl ?_
      refine j_if_ne (pc := 18) g 25 dX9_goes_18 (by decide) (fun c18 => ?_) (fun c18 => ?_)
      · refine j_iconst (pc := 25) g (0) dX9_goes_25 (by decide) ?_
        exact K26 _ (by grind [gT])
      · refine j_iconst (pc := 21) g (3) dX9_goes_21 (by decide) ?_
        refine j_goto (pc := 22) g 26 dX9_goes_22 (by decide) ?_
        exact K26 _ (by grind [gT])
    · refine j_iconst (pc := 13) g (2) dX9_goes_13 (by decide) ?_
      refine j_goto (pc := 14) g 26 dX9_goes_14 (by decide) ?_
      exact K26 _ (by grind [gT])
  · refine j_iconst (pc := 5) g (1) dX9_goes_5 (by decide) ?_
    refine j_goto (pc := 6) g 26 dX9_goes_6 (by decide) ?_
    exact K26 _ (by grind [gT])

set_option maxHeartbeats 4000000 in
set_option maxRecDepth 100000 in
theorem m_isDuel (l : Launch) (D : va_G) (m : Nat) (ad : Nat → Nat) (S : ST) (k : Int32) : xC l D yX9_isDuel wsX9_isDuel ({ frames := 1, cells := 0, slots := 0, locals := 22 }) 0 0 [.ref m, .int k] (mM m ad S) (xq (some (.int (b01 (iN k 0 (S 12 0 - 1))))) (mM m ad S)) := by
  refine xC_of (cc := cX9_isDuel) (maxL := 2) (ret := (some .boolean)) (own := RX9) [some (.ref m), some (.int k)] (by decide) rfl rfl (Nat.le_of_ble_eq_true rfl) rfl rfl rfl ?_
  intro X hXl hXD g r
  subst hXl
  subst hXD
  have inX9 : ∀ w ∈ wsX90, w ∈ wsX9_isDuel := inwX9_X9_isDuel
  refine j_iload_n (pc := 0) g 1 dX9_isDuel_0 rfl rfl ?_
  refine j_iconst (pc := 1) g (0) dX9_isDuel_1 (by decide) ?_
  refine j_aload_n (pc := 2) g 0 dX9_isDuel_2 rfl rfl ?_
  refine j_get (pc := 3) g dX9_isDuel_3 (mM_m _ _ _) rfl inX9 12 (by decide) (by decide +kernel) rfl rfl ?_
  refine j_iconst (pc := 6) g (1) dX9_isDuel_6 (by decide) ?_
  refine j_isub (pc := 7) g dX9_isDuel_7 ?_
  refine j_cSi (pc := 8) (n := 3) g (m_in (jl X) (jD X) _ _ _ _) dX9_isDuel_8 gX9_isDuel_X9_in rfl rfl rfl rfl ⟨by decide, by decide, by decide +kernel⟩ ⟨Nat.le_of_ble_eq_true rfl, Nat.le_of_ble_eq_true rfl⟩ ⟨Nat.le_of_ble_eq_true rfl, Nat.le_of_ble_eq_true rfl⟩ rfl (Nat.le_of_ble_eq_true rfl) ?_
  exact j_iret (pc := 11) g r rfl b01_nar (⟨rfl, rfl⟩) dX9_isDuel_11 (Nat.le_of_ble_eq_true rfl) (Nat.le_of_ble_eq_true rfl)

set_option maxHeartbeats 4000000 in
set_option maxRecDepth 100000 in
theorem m_isSign (l : Launch) (D : va_G) (m : Nat) (ad : Nat → Nat) (S : ST) (k : Int32) : xC l D yX9_isSign wsX9_isSign ({ frames := 1, cells := 0, slots := 0, locals := 22 }) 0 0 [.ref m, .int k] (mM m ad S) (xq (some (.int (b01 (iN k 0 (S 3 0 - 1))))) (mM m ad S)) := by
  refine xC_of (cc := cX9_isSign) (maxL := 2) (ret := (some .boolean)) (own := RX9) [some (.ref m), some (.int k)] (by decide) rfl rfl (Nat.le_of_ble_eq_true rfl) rfl rfl rfl ?_
  intro X hXl hXD g r
  subst hXl
  subst hXD
  have inX9 : ∀ w ∈ wsX90, w ∈ wsX9_isSign := inwX9_X9_isSign
  refine j_iload_n (pc := 0) g 1 dX9_isSign_0 rfl rfl ?_
  refine j_iconst (pc := 1) g (0) dX9_isSign_1 (by decide) ?_
  refine j_aload_n (pc := 2) g 0 dX9_isSign_2 rfl rfl ?_
  refine j_get (pc := 3) g dX9_isSign_3 (mM_m _ _ _) rfl inX9 3 (by decide) (by decide +kernel) rfl rfl ?_
  refine j_iconst (pc := 6) g (1) dX9_isSign_6 (by decide) ?_
  refine j_isub (pc := 7) g dX9_isSign_7 ?_
  refine j_cSi (pc := 8) (n := 3) g (m_in (jl X) (jD X) _ _ _ _) dX9_isSign_8 gX9_isSign_X9_in rfl rfl rfl rfl ⟨by decide, by decide, by decide +kernel⟩ ⟨Nat.le_of_ble_eq_true rfl, Nat.le_of_ble_eq_true rfl⟩ ⟨Nat.le_of_ble_eq_true rfl, Nat.le_of_ble_eq_true rfl⟩ rfl (Nat.le_of_ble_eq_true rfl) ?_
  exact j_iret (pc := 11) g r rfl b01_nar (⟨rfl, rfl⟩) dX9_isSign_11 (Nat.le_of_ble_eq_true rfl) (Nat.le_of_ble_eq_true rfl)

set_option maxHeartbeats 4000000 in
set_option maxRecDepth 100000 in
theorem m_isPaper (l : Launch) (D : va_G) (M : MH) (k : Int32) : xC l D yX9_isPaper wsX9_isPaper ({ frames := 1, cells := 0, slots := 0, locals := 22 }) 0 0 [.int k] (M) (xq (some (.int (b01 (iN k 0 2)))) M) := by
  refine xC_of (cc := cX9_isPaper) (maxL := 1) (ret := (some .boolean)) (own := RX9) [some (.int k)] (by decide) rfl rfl (Nat.le_of_ble_eq_true rfl) rfl rfl rfl ?_
  intro X hXl hXD g r
  subst hXl
  subst hXD
  refine j_iload_n (pc := 0) g 0 dX9_isPaper_0 rfl rfl ?_
  refine j_iconst (pc := 1) g (0) dX9_isPaper_1 (by decide) ?_
  refine j_iconst (pc := 2) g (2) dX9_isPaper_2 (by decide) ?_
  refine j_cSi (pc := 3) (n := 3) g (m_in (jl X) (jD X) _ _ _ _) dX9_isPaper_3 gX9_isPaper_X9_in rfl rfl rfl rfl ⟨by decide, by decide, by decide +kernel⟩ ⟨Nat.le_of_ble_eq_true rfl, Nat.le_of_ble_eq_true rfl⟩ ⟨Nat.le_of_ble_eq_true rfl, Nat.le_of_ble_eq_true rfl⟩ rfl (Nat.le_of_ble_eq_true rfl) ?_
  exact j_iret (pc := 6) g r rfl b01_nar (⟨rfl, rfl⟩) dX9_isPaper_6 (Nat.le_of_ble_eq_true rfl) (Nat.le_of_ble_eq_true rfl)

set_option maxHeartbeats 4000000 in
set_option maxRecDepth 100000 in
theorem m_stroke (l : Launch) (D : va_G) (m : Nat) (ad : Nat → Nat) (hI : mI m ad) (S : ST) (d : Nat) (hd : S 1 0 = nI d) (hd8 : d ≤ 8) (x y ex ey : Int32) : xC l D yX9_stroke wsX9_stroke ({ frames := 1, cells := 0, slots := 0, locals := 23 }) 0 0 [.ref m, .int x, .int y, .int ex, .int ey] (mM m ad S) (xq (some (.int (mAns (tStroke S x y ex ey) (nI (d + 1))))) (mM m ad (mSt S (tStroke S x y ex ey) (fun S => nStroke S d x y ex ey)))) := by
  refine xC_of (cc := cX9_stroke) (maxL := 6) (ret := (some .int)) (own := RX9) [some (.ref m), some (.int x), some (.int y), some (.int ex), some (.int ey), none] (by decide) rfl rfl (Nat.le_of_ble_eq_true rfl) rfl rfl rfl ?_
  intro X hXl hXD g r
  subst hXl
  subst hXD
  have inX9 : ∀ w ∈ wsX90, w ∈ wsX9_stroke := inwX9_X9_stroke
  have K57 : ∀ (b : Int32) (hb : b = b01 (okStroke x y ex ey)), J X 6 0 0 (mM m ad S) [some (.ref m), some (.int x), some (.int y), some (.int ex), some (.int ey), none] [.int b] 57 := by
    intro b hb
    refine istore_6_5 (pc := 57) g dX9_stroke_57 ?_
    have K76 : ∀ (b2 : Int32) (hb2 : b2 = b01 (S 1 0 < 8)), J X 6 0 0 (mM m ad S) [some (.ref m), some (.int x), some (.int y), some (.int ex), some (.int ey), some (.int b)] [.int b2, .int b, .ref m] 76 := by
      intro b2 hb2
      refine j_iconst (pc := 76) g (1) dX9_stroke_76 (by decide) ?_
      refine j_cVi (pc := 77) (n := 3) g (m_goes (jl X) (jD X) m ad S _ _ _) dX9_stroke_77 (mM_m _ _ _) rfl gX9_stroke_X9_goes rfl rfl rfl rfl ⟨rfl, by decide, by decide, by decide +kernel⟩ ⟨Nat.le_of_ble_eq_true rfl, Nat.le_of_ble_eq_true rfl⟩ ⟨Nat.le_of_ble_eq_true rfl, Nat.le_of_ble_eq_true rfl⟩ rfl (Nat.le_of_ble_eq_true rfl) ?_
      have ht : gT b b2 1 = tStroke S x y ex ey := by grind [gT, b01, tStroke]
      rw [ht]
      refine j_if_ne (pc := 80) g 85 dX9_stroke_80 (by decide) (fun c80 => ?_) (fun c80 => ?_)
      · have h0 : tStroke S x y ex ey = 0 := by grind [b01]
        rw [h0]
        have hd7 : d < 8 := by
          have h1 : S 1 0 < 8 := by grind [tStroke]
          rw [hd] at h1
          exact (nI_ltI (b := 8) (by omega) (by omega)).mp h1
        refine j_aload_n (pc := 85) g 0 dX9_stroke_85 rfl rfl ?_
        refine j_get (pc := 86) g dX9_stroke_86 (mM_m _ _ _) rfl inX9 2 (by decide) (by decide +kernel) rfl rfl ?_
        refine j_iconst (pc := 89) g (4) dX9_stroke_89 (by decide) ?_
        refine j_aload_n (pc := 90) g 0 dX9_stroke_90 rfl rfl ?_
        refine j_get (pc := 91) g dX9_stroke_91 (mM_m _ _ _) rfl inX9 1 (by decide) (by decide +kernel) rfl rfl ?_
        refine j_imul (pc := 94) g dX9_stroke_94 ?_
        refine j_iload_n (pc := 95) g 1 dX9_stroke_95 rfl rfl ?_
        refine jm_ast (pc := 96) g hI 2 dX9_stroke_96 (by decide) rfl (4 * d) (by simp only [su, hd, lit_nI, pk_mul, nI_add]; simp [upd, hd, lit_nI, pk_mul, nI_add]) (by have : mLen 2 = 32 := rfl; omega) ?_
        refine j_aload_n (pc := 97) g 0 dX9_stroke_97 rfl rfl ?_
        refine j_get (pc := 98) g dX9_stroke_98 (mM_m _ _ _) rfl inX9 2 (by decide) (by decide +kernel) rfl rfl ?_
        refine j_iconst (pc := 101) g (4) dX9_stroke_101 (by decide) ?_
        refine j_aload_n (pc := 102) g 0 dX9_stroke_102 rfl rfl ?_
        refine j_get (pc := 103) g dX9_stroke_103 (mM_m _ _ _) rfl inX9 1 (by decide) (by decide +kernel) rfl rfl ?_
        refine j_imul (pc := 106) g dX9_stroke_106 ?_
        refine j_iconst (pc := 107) g (1) dX9_stroke_107 (by decide) ?_
        refine j_iadd (pc := 108) g dX9_stroke_108 ?_
        refine j_iload_n (pc := 109) g 2 dX9_stroke_109 rfl rfl ?_
        refine jm_ast (pc := 110) g hI 2 dX9_stroke_110 (by decide) rfl (4 * d + 1) (by simp only [su, hd, lit_nI, pk_mul, nI_add]; simp [upd, hd, lit_nI, pk_mul, nI_add]) (by have : mLen 2 = 32 := rfl; omega) ?_
        refine j_aload_n (pc := 111) g 0 dX9_stroke_111 rfl rfl ?_
        refine j_get (pc := 112) g dX9_stroke_112 (mM_m _ _ _) rfl inX9 2 (by decide) (by decide +kernel) rfl rfl ?_
        refine j_iconst (pc := 115) g (4) dX9_stroke_115 (by decide) ?_
        refine j_aload_n (pc := 116) g 0 dX9_stroke_116 rfl rfl ?_
        refine j_get (pc := 117) g dX9_stroke_117 (mM_m _ _ _) rfl inX9 1 (by decide) (by decide +kernel) rfl rfl ?_
        refine j_imul (pc := 120) g dX9_stroke_120 ?_
        refine j_iconst (pc := 121) g (2) dX9_stroke_121 (by decide) ?_
        refine j_iadd (pc := 122) g dX9_stroke_122 ?_
        refine j_iload_n (pc := 123) g 3 dX9_stroke_123 rfl rfl ?_
        refine jm_ast (pc := 124) g hI 2 dX9_stroke_124 (by decide) rfl (4 * d + 2) (by simp only [su, hd, lit_nI, pk_mul, nI_add]; simp [upd, hd, lit_nI, pk_mul, nI_add]) (by have : mLen 2 = 32 := rfl; omega) ?_
        refine j_aload_n (pc := 125) g 0 dX9_stroke_125 rfl rfl ?_
        refine j_get (pc := 126) g dX9_stroke_126 (mM_m _ _ _) rfl inX9 2 (by decide) (by decide +kernel) rfl rfl ?_
        refine j_iconst (pc := 129) g (4) dX9_stroke_129 (by decide) ?_
        refine j_aload_n (pc := 130) g 0 dX9_stroke_130 rfl rfl ?_
        refine j_get (pc := 131) g dX9_stroke_131 (mM_m _ _ _) rfl inX9 1 (by decide) (by decide +kernel) rfl rfl ?_
        refine j_imul (pc := 134) g dX9_stroke_134 ?_
        refine j_iconst (pc := 135) g (3) dX9_stroke_135 (by decide) ?_
        refine j_iadd (pc := 136) g dX9_stroke_136 ?_
        refine j_iload (pc := 137) g dX9_stroke_137 rfl ?_
        refine jm_ast (pc := 139) g hI 2 dX9_stroke_139 (by decide) rfl (4 * d + 3) (by simp only [su, hd, lit_nI, pk_mul, nI_add]; simp [upd, hd, lit_nI, pk_mul, nI_add]) (by have : mLen 2 = 32 := rfl; omega) ?_
        refine j_aload_n (pc := 140) g 0 dX9_stroke_140 rfl rfl ?_
        refine j_dup (pc := 141) g dX9_stroke_141 rfl ?_
        refine j_get (pc := 142) g dX9_stroke_142 (mM_m _ _ _) rfl inX9 1 (by decide) (by decide +kernel) rfl rfl ?_
        refine j_iconst (pc := 145) g (1) dX9_stroke_145 (by decide) ?_
        refine j_iadd (pc := 146) g dX9_stroke_146 ?_
        refine j_topi (nI (d + 1)) (by simp only [su]; simp [upd, hd, lit_nI, nI_add]) ?_
        refine jm_put (pc := 147) g dX9_stroke_147 inX9 1 (by decide) (by decide +kernel) (by decide) ⟨rfl, rfl, rfl⟩ rfl ?_
        refine j_aload_n (pc := 150) g 0 dX9_stroke_150 rfl rfl ?_
        refine j_get (pc := 151) g dX9_stroke_151 (mM_m _ _ _) rfl inX9 1 (by decide) (by decide +kernel) rfl rfl ?_
        exact j_iret (pc := 154) g r rfl rfl (by first | exact xq_i (by rw [mAns, if_neg (b01_0.mp c80)]) (by rw [mSt, if_neg (b01_0.mp c80)]) | exact xq_i (by rw [mAns, if_pos h0]; rfl) (by rw [mSt, if_pos h0]; rfl)) dX9_stroke_154 (Nat.le_of_ble_eq_true rfl) (Nat.le_of_ble_eq_true rfl)
      · refine j_iconst (pc := 83) g (0) dX9_stroke_83 (by decide) ?_
        exact j_iret (pc := 84) g r rfl rfl (by first | exact xq_i (by rw [mAns, if_neg (b01_0.mp c80)]) (by rw [mSt, if_neg (b01_0.mp c80)]) | exact xq_i (by rw [mAns, if_pos h0]; rfl) (by rw [mSt, if_pos h0]; rfl)) dX9_stroke_84 (Nat.le_of_ble_eq_true rfl) (Nat.le_of_ble_eq_true rfl)
    refine j_aload_n (pc := 59) g 0 dX9_stroke_59 rfl rfl ?_
    refine j_iload (pc := 60) g dX9_stroke_60 rfl ?_
    refine j_aload_n (pc := 62) g 0 dX9_stroke_62 rfl rfl ?_
    refine j_get (pc := 63) g dX9_stroke_63 (mM_m _ _ _) rfl inX9 1 (by decide) (by decide +kernel) rfl rfl ?_
    refine j_bipush (pc := 66) g (8) dX9_stroke_66 (by decide) ?_
    refine j_icmp_ge (pc := 68) g 75 dX9_stroke_68 (by decide) (fun c68 => ?_) (fun c68 => ?_)
    · refine j_iconst (pc := 75) g (0) dX9_stroke_75 (by decide) ?_
      exact K76 _ (by grind [b01])
    · refine j_iconst (pc := 71) g (1) dX9_stroke_71 (by decide) ?_
      refine j_goto (pc := 72) g 76 dX9_stroke_72 (by decide) ?_
      exact K76 _ (by grind [b01])
  refine j_iload_n (pc := 0) g 1 dX9_stroke_0 rfl rfl ?_
  refine j_iconst (pc := 1) g (0) dX9_stroke_1 (by decide) ?_
  refine j_bipush (pc := 2) g (99) dX9_stroke_2 (by decide) ?_
  refine j_cSi (pc := 4) (n := 3) g (m_in (jl X) (jD X) _ _ _ _) dX9_stroke_4 gX9_stroke_X9_in rfl rfl rfl rfl ⟨by decide, by decide, by decide +kernel⟩ ⟨Nat.le_of_ble_eq_true rfl, Nat.le_of_ble_eq_true rfl⟩ ⟨Nat.le_of_ble_eq_true rfl, Nat.le_of_ble_eq_true rfl⟩ rfl (Nat.le_of_ble_eq_true rfl) ?_
  refine j_if_eq (pc := 7) g 56 dX9_stroke_7 (by decide) (fun c7 => ?_) (fun c7 => ?_)
  · refine j_iconst (pc := 56) g (0) dX9_stroke_56 (by decide) ?_
    exact K57 _ (by grind [b01])
  · refine j_iload_n (pc := 10) g 2 dX9_stroke_10 rfl rfl ?_
    refine j_iconst (pc := 11) g (0) dX9_stroke_11 (by decide) ?_
    refine j_bipush (pc := 12) g (99) dX9_stroke_12 (by decide) ?_
    refine j_cSi (pc := 14) (n := 3) g (m_in (jl X) (jD X) _ _ _ _) dX9_stroke_14 gX9_stroke_X9_in rfl rfl rfl rfl ⟨by decide, by decide, by decide +kernel⟩ ⟨Nat.le_of_ble_eq_true rfl, Nat.le_of_ble_eq_true rfl⟩ ⟨Nat.le_of_ble_eq_true rfl, Nat.le_of_ble_eq_true rfl⟩ rfl (Nat.le_of_ble_eq_true rfl) ?_
    refine j_if_eq (pc := 17) g 56 dX9_stroke_17 (by decide) (fun c17 => ?_) (fun c17 => ?_)
    · refine j_iconst (pc := 56) g (0) dX9_stroke_56 (by decide) ?_
      exact K57 _ (by grind [b01])
    · refine j_iload_n (pc := 20) g 3 dX9_stroke_20 rfl rfl ?_
      refine j_iconst (pc := 21) g (0) dX9_stroke_21 (by decide) ?_
      refine j_bipush (pc := 22) g (99) dX9_stroke_22 (by decide) ?_
      refine j_cSi (pc := 24) (n := 3) g (m_in (jl X) (jD X) _ _ _ _) dX9_stroke_24 gX9_stroke_X9_in rfl rfl rfl rfl ⟨by decide, by decide, by decide +kernel⟩ ⟨Nat.le_of_ble_eq_true rfl, Nat.le_of_ble_eq_true rfl⟩ ⟨Nat.le_of_ble_eq_true rfl, Nat.le_of_ble_eq_true rfl⟩ rfl (Nat.le_of_ble_eq_true rfl) ?_
      refine j_if_eq (pc := 27) g 56 dX9_stroke_27 (by decide) (fun c27 => ?_) (fun c27 => ?_)
      · refine j_iconst (pc := 56) g (0) dX9_stroke_56 (by decide) ?_
        exact K57 _ (by grind [b01])
      · refine j_iload (pc := 30) g dX9_stroke_30 rfl ?_
        refine j_iconst (pc := 32) g (0) dX9_stroke_32 (by decide) ?_
        refine j_bipush (pc := 33) g (99) dX9_stroke_33 (by decide) ?_
        refine j_cSi (pc := 35) (n := 3) g (m_in (jl X) (jD X) _ _ _ _) dX9_stroke_35 gX9_stroke_X9_in rfl rfl rfl rfl ⟨by decide, by decide, by decide +kernel⟩ ⟨Nat.le_of_ble_eq_true rfl, Nat.le_of_ble_eq_true rfl⟩ ⟨Nat.le_of_ble_eq_true rfl, Nat.le_of_ble_eq_true rfl⟩ rfl (Nat.le_of_ble_eq_true rfl) ?_
        refine j_if_eq (pc := 38) g 56 dX9_stroke_38 (by decide) (fun c38 => ?_) (fun c38 => ?_)
        · refine j_iconst (pc := 56) g (0) dX9_stroke_56 (by decide) ?_
          exact K57 _ (by grind [b01])
        · refine j_iload_n (pc := 41) g 1 dX9_stroke_41 rfl rfl ?_
          refine j_iload_n (pc := 42) g 3 dX9_stroke_42 rfl rfl ?_
          refine j_icmp_ne (pc := 43) g 52 dX9_stroke_43 (by decide) (fun c43 => ?_) (fun c43 => ?_)
          · refine j_iconst (pc := 52) g (1) dX9_stroke_52 (by decide) ?_
            refine j_goto (pc := 53) g 57 dX9_stroke_53 (by decide) ?_
            exact K57 _ (by grind [b01])
          · refine j_iload_n (pc := 46) g 2 dX9_stroke_46 rfl rfl ?_
            refine j_iload (pc := 47) g dX9_stroke_47 rfl ?_
            refine j_icmp_eq (pc := 49) g 56 dX9_stroke_49 (by decide) (fun c49 => ?_) (fun c49 => ?_)
            · refine j_iconst (pc := 56) g (0) dX9_stroke_56 (by decide) ?_
              exact K57 _ (by grind [b01])
            · refine j_iconst (pc := 52) g (1) dX9_stroke_52 (by decide) ?_
              refine j_goto (pc := 53) g 57 dX9_stroke_53 (by decide) ?_
              exact K57 _ (by grind [b01])
end
